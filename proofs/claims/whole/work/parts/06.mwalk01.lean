section MW1
variable {l : Launch} {D : va_G} {t : Nat → ClassId} {a : Nat → Nat} {n : Nat} {x_s : Nat → Int32} {x_kept : Nat → Int32} {x_laid : Nat → Int32} {x_isKept : Int32} {x_pile : Nat → Int32} {x_tape : Nat → Int32} {x_taped : Int32} {x_letters : Nat → Int32} {x_at : Int32} {x_begun : Int32} {x_token : Int32} {x_value : Int32} {x_opened : Int32} {x_steps : Int32} {x_code0 : Nat → Int32} {x_read : Nat → Int32} {x_saved : Nat → Int32} {x_plan : Nat → Int32} {x_bestPlan : Nat → Int32} {x_most : Int32} {x_many : Int32} {x_few : Int32} {x_everRight : Int32} {x_lagThen : Nat → Int32} {x_shadedThen : Nat → Int32} {x_firstFit : Int32} {x_rows : Nat → Int32} {x_rowMany : Int32} {x_sorts : Nat → Int32} {x_sizes : Nat → Int32} {x_number : Nat → Int32} {x_holds : Nat → Int32} {x_heldOne : Nat → Int32} {x_trace : Nat → Int32} {x_traced : Int32} {x_own : Int32} {x_isParted : Int32} {v0 v1 v2 v3 v4 v5 : Int32}
theorem dX12_in1_0 : decode cX12_in1 0 = .ok (.iload_n 0, 1) := by decide +kernel
theorem dX12_in1_1 : decode cX12_in1 1 = .ok (.iload_n 1, 1) := by decide +kernel
theorem dX12_in1_2 : decode cX12_in1 2 = .ok (.if_icmp .lt 12, 3) := by decide +kernel
theorem dX12_in1_5 : decode cX12_in1 5 = .ok (.iload_n 0, 1) := by decide +kernel
theorem dX12_in1_6 : decode cX12_in1 6 = .ok (.iload_n 2, 1) := by decide +kernel
theorem dX12_in1_7 : decode cX12_in1 7 = .ok (.if_icmp .gt 7, 3) := by decide +kernel
theorem dX12_in1_10 : decode cX12_in1 10 = .ok (.iconst 1, 1) := by decide +kernel
theorem dX12_in1_11 : decode cX12_in1 11 = .ok (.goto 4, 3) := by decide +kernel
theorem dX12_in1_14 : decode cX12_in1 14 = .ok (.iconst 0, 1) := by decide +kernel
theorem dX12_in1_15 : decode cX12_in1 15 = .ok (.ireturn, 1) := by decide +kernel
theorem k_X12_in1 : MS yX12_in1 cX12_in1 3 (some .boolean) 3 := ⟨q_1215, q_14, q_1216, ⟨by decide, by decide, by decide +kernel⟩⟩
theorem c_X12_in1 {res : Int32} (hf : X12_in1 v0 v1 v2 = res) : MC l E0 D t yX12_in1 cX12_in1 3 (some .boolean) 1 0 0 [.int v0, .int v1, .int v2] (mW a t x_s x_kept x_laid x_isKept x_pile x_tape x_taped x_letters x_at x_begun x_token x_value x_opened x_steps x_code0 x_read x_saved x_plan x_bestPlan x_most x_many x_few x_everRight x_lagThen x_shadedThen x_firstFit x_rows x_rowMany x_sorts x_sizes x_number x_holds x_heldOne x_trace x_traced x_own x_isParted) (Qi res (mW a t x_s x_kept x_laid x_isKept x_pile x_tape x_taped x_letters x_at x_begun x_token x_value x_opened x_steps x_code0 x_read x_saved x_plan x_bestPlan x_most x_many x_few x_everRight x_lagThen x_shadedThen x_firstFit x_rows x_rowMany x_sorts x_sizes x_number x_holds x_heldOne x_trace x_traced x_own x_isParted)) := by
  unfold X12_in1 at hf
  refine MC.ofI pn_X12 (Nat.le_of_ble_eq_true rfl) ?_
  intro p e s m args below meth c A Q ls cx hR hw hl
  have hx := cx.1
  have hb := cx.2.1
  have hl : lv_has ls 3 [(0, .int v0), (1, .int v1), (2, .int v2)] := hl
  refine lv_iload_n hx hb dX12_in1_0 rfl (lv_at hl 0 rfl) ?_
  refine lv_iload_n hx hb dX12_in1_1 rfl (lv_at hl 1 rfl) ?_
  refine lv_icmp_lt (tgt := 14) hx hb dX12_in1_2 (by decide) (fun hc => ?_) (fun hc => ?_)
  · have hf := ifT hf hc
    refine lv_iconst (v := 0) hx hb dX12_in1_14 (by decide) ?_
    subst hf
    exact hR _ _ _ _ _ _ hw rfl ⟨rfl, rfl⟩ dX12_in1_15
  · have hf := ifF hf hc
    refine lv_iload_n hx hb dX12_in1_5 rfl (lv_at hl 0 rfl) ?_
    refine lv_iload_n hx hb dX12_in1_6 rfl (lv_at hl 2 rfl) ?_
    refine lv_icmp_gt (tgt := 14) hx hb dX12_in1_7 (by decide) (fun hc => ?_) (fun hc => ?_)
    · have hf := ifT hf hc
      refine lv_iconst (v := 0) hx hb dX12_in1_14 (by decide) ?_
      subst hf
      exact hR _ _ _ _ _ _ hw rfl ⟨rfl, rfl⟩ dX12_in1_15
    · have hf := ifF hf hc
      refine lv_iconst (v := 1) hx hb dX12_in1_10 (by decide) ?_
      refine lv_goto (tgt := 15) hx hb dX12_in1_11 (by decide) ?_
      subst hf
      exact hR _ _ _ _ _ _ hw rfl ⟨rfl, rfl⟩ dX12_in1_15
theorem b_X12_in1 (v0 : Int32) (v1 : Int32) (v2 : Int32) : X12_in1 v0 v1 v2 = 0 ∨ X12_in1 v0 v1 v2 = 1 := by unfold X12_in1; repeat (first | exact Or.inl rfl | exact Or.inr rfl | split)
theorem dX12_held_0 : decode cX12_held 0 = .ok (.iload_n 0, 1) := by decide +kernel
theorem dX12_held_1 : decode cX12_held 1 = .ok (.ifCond .ge 7, 3) := by decide +kernel
theorem dX12_held_4 : decode cX12_held 4 = .ok (.iconst 0, 1) := by decide +kernel
theorem dX12_held_5 : decode cX12_held 5 = .ok (.goto 13, 3) := by decide +kernel
theorem dX12_held_8 : decode cX12_held 8 = .ok (.iload_n 0, 1) := by decide +kernel
theorem dX12_held_9 : decode cX12_held 9 = .ok (.iload_n 1, 1) := by decide +kernel
theorem dX12_held_10 : decode cX12_held 10 = .ok (.if_icmp .le 7, 3) := by decide +kernel
theorem dX12_held_13 : decode cX12_held 13 = .ok (.iload_n 1, 1) := by decide +kernel
theorem dX12_held_14 : decode cX12_held 14 = .ok (.goto 4, 3) := by decide +kernel
theorem dX12_held_17 : decode cX12_held 17 = .ok (.iload_n 0, 1) := by decide +kernel
theorem dX12_held_18 : decode cX12_held 18 = .ok (.ireturn, 1) := by decide +kernel
theorem k_X12_held : MS yX12_held cX12_held 2 (some .int) 2 := ⟨q_1439, q_14, q_1440, ⟨by decide, by decide, by decide +kernel⟩⟩
theorem c_X12_held {res : Int32} (hf : X12_held v0 v1 = res) : MC l E0 D t yX12_held cX12_held 2 (some .int) 1 0 0 [.int v0, .int v1] (mW a t x_s x_kept x_laid x_isKept x_pile x_tape x_taped x_letters x_at x_begun x_token x_value x_opened x_steps x_code0 x_read x_saved x_plan x_bestPlan x_most x_many x_few x_everRight x_lagThen x_shadedThen x_firstFit x_rows x_rowMany x_sorts x_sizes x_number x_holds x_heldOne x_trace x_traced x_own x_isParted) (Qi res (mW a t x_s x_kept x_laid x_isKept x_pile x_tape x_taped x_letters x_at x_begun x_token x_value x_opened x_steps x_code0 x_read x_saved x_plan x_bestPlan x_most x_many x_few x_everRight x_lagThen x_shadedThen x_firstFit x_rows x_rowMany x_sorts x_sizes x_number x_holds x_heldOne x_trace x_traced x_own x_isParted)) := by
  unfold X12_held at hf
  refine MC.ofI pn_X12 (Nat.le_of_ble_eq_true rfl) ?_
  intro p e s m args below meth c A Q ls cx hR hw hl
  have hx := cx.1
  have hb := cx.2.1
  have hl : lv_has ls 2 [(0, .int v0), (1, .int v1)] := hl
  refine lv_iload_n hx hb dX12_held_0 rfl (lv_at hl 0 rfl) ?_
  refine lv_if_ge (tgt := 8) hx hb dX12_held_1 (by decide) (fun hc => ?_) (fun hc => ?_)
  · have hf := ifT hf hc
    refine lv_iload_n hx hb dX12_held_8 rfl (lv_at hl 0 rfl) ?_
    refine lv_iload_n hx hb dX12_held_9 rfl (lv_at hl 1 rfl) ?_
    refine lv_icmp_le (tgt := 17) hx hb dX12_held_10 (by decide) (fun hc => ?_) (fun hc => ?_)
    · have hf := ifT hf hc
      refine lv_iload_n hx hb dX12_held_17 rfl (lv_at hl 0 rfl) ?_
      subst hf
      exact hR _ _ _ _ _ _ hw rfl ⟨rfl, rfl⟩ dX12_held_18
    · have hf := ifF hf hc
      refine lv_iload_n hx hb dX12_held_13 rfl (lv_at hl 1 rfl) ?_
      refine lv_goto (tgt := 18) hx hb dX12_held_14 (by decide) ?_
      subst hf
      exact hR _ _ _ _ _ _ hw rfl ⟨rfl, rfl⟩ dX12_held_18
  · have hf := ifF hf hc
    refine lv_iconst (v := 0) hx hb dX12_held_4 (by decide) ?_
    refine lv_goto (tgt := 18) hx hb dX12_held_5 (by decide) ?_
    subst hf
    exact hR _ _ _ _ _ _ hw rfl ⟨rfl, rfl⟩ dX12_held_18
theorem dX12_layDown_0 : decode cX12_layDown 0 = .ok (.iconst 0, 1) := by decide +kernel
theorem dX12_layDown_1 : decode cX12_layDown 1 = .ok (.istore_n 1, 1) := by decide +kernel
theorem dX12_layDown_2 : decode cX12_layDown 2 = .ok (.iload_n 1, 1) := by decide +kernel
theorem dX12_layDown_3 : decode cX12_layDown 3 = .ok (.bipush 65, 2) := by decide +kernel
theorem dX12_layDown_5 : decode cX12_layDown 5 = .ok (.if_icmp .ge 21, 3) := by decide +kernel
theorem dX12_layDown_8 : decode cX12_layDown 8 = .ok (.aload_n 0, 1) := by decide +kernel
theorem dX12_layDown_9 : decode cX12_layDown 9 = .ok (.getfield 16, 3) := by decide +kernel
theorem dX12_layDown_12 : decode cX12_layDown 12 = .ok (.iload_n 1, 1) := by decide +kernel
theorem dX12_layDown_13 : decode cX12_layDown 13 = .ok (.aload_n 0, 1) := by decide +kernel
theorem dX12_layDown_14 : decode cX12_layDown 14 = .ok (.getfield 9, 3) := by decide +kernel
theorem dX12_layDown_17 : decode cX12_layDown 17 = .ok (.iload_n 1, 1) := by decide +kernel
theorem dX12_layDown_18 : decode cX12_layDown 18 = .ok (.iaload, 1) := by decide +kernel
theorem dX12_layDown_19 : decode cX12_layDown 19 = .ok (.iastore, 1) := by decide +kernel
theorem dX12_layDown_20 : decode cX12_layDown 20 = .ok (.iinc 1 1, 3) := by decide +kernel
theorem dX12_layDown_23 : decode cX12_layDown 23 = .ok (.goto (-21), 3) := by decide +kernel
theorem dX12_layDown_26 : decode cX12_layDown 26 = .ok (.return_, 1) := by decide +kernel
theorem k_X12_layDown : MV yX12_layDown cX12_layDown 2 none 0 := ⟨q_1447, qs_67, q_14, q_1448, ⟨by decide, by decide, by decide +kernel⟩⟩
theorem c_X12_layDown {res : (Nat → Int32)} (hf : X12_layDown n x_s x_laid = some res) : MC l E0 D t yX12_layDown cX12_layDown 2 none 1 0 0 [.ref (a 0)] (mW a t x_s x_kept x_laid x_isKept x_pile x_tape x_taped x_letters x_at x_begun x_token x_value x_opened x_steps x_code0 x_read x_saved x_plan x_bestPlan x_most x_many x_few x_everRight x_lagThen x_shadedThen x_firstFit x_rows x_rowMany x_sorts x_sizes x_number x_holds x_heldOne x_trace x_traced x_own x_isParted) (Qn (mW a t x_s x_kept res x_isKept x_pile x_tape x_taped x_letters x_at x_begun x_token x_value x_opened x_steps x_code0 x_read x_saved x_plan x_bestPlan x_most x_many x_few x_everRight x_lagThen x_shadedThen x_firstFit x_rows x_rowMany x_sorts x_sizes x_number x_holds x_heldOne x_trace x_traced x_own x_isParted)) := by
  unfold X12_layDown at hf
  refine MC.ofV pn_X12 (Nat.le_of_ble_eq_true rfl) ?_
  intro p e s m args below meth c A Q ls cx hR hw hl
  have hx := cx.1
  have hb := cx.2.1
  have hl : lv_has ls 2 [(0, .ref (a 0))] := hl
  refine lv_iconst (v := 0) hx hb dX12_layDown_0 (by decide) ?_
  refine lv_istore_n (lv' := [(1, .int (0 : Int32)), (0, .ref (a 0))]) hx hb dX12_layDown_1 rfl hl (by decide) rfl (fun ls hl => ?_)
  obtain ⟨o3, ho3, hf⟩ := bnS hf
  have wL1 : ∀ (k : Nat) {v1 : Int32} {x_laid : Nat → Int32} {H : Heap} {locs : List Loc} {ls : Array Slot} {o : Int32 × (Nat → Int32)}, X12_layDown_L1 n x_s k v1 x_laid = some o → Wd D A s (mW a t x_s x_kept x_laid x_isKept x_pile x_tape x_taped x_letters x_at x_begun x_token x_value x_opened x_steps x_code0 x_read x_saved x_plan x_bestPlan x_most x_many x_few x_everRight x_lagThen x_shadedThen x_firstFit x_rows x_rowMany x_sorts x_sizes x_number x_holds x_heldOne x_trace x_traced x_own x_isParted) H locs → lv_has ls 2 [(0, .ref (a 0)), (1, .int v1)] → (∀ (H : Heap) (locs : List Loc) (ls : Array Slot), Wd D A s (mW a t x_s x_kept o.2 x_isKept x_pile x_tape x_taped x_letters x_at x_begun x_token x_value x_opened x_steps x_code0 x_read x_saved x_plan x_bestPlan x_most x_many x_few x_everRight x_lagThen x_shadedThen x_firstFit x_rows x_rowMany x_sorts x_sizes x_number x_holds x_heldOne x_trace x_traced x_own x_isParted) H locs → lv_has ls 2 [(0, .ref (a 0)), (1, .int o.1)] → W p l e (rmz 1 0 0) s m args below meth c H locs 0 0 Q (F0 m 26 ls [])) → W p l e (rmz 1 0 0) s m args below meth c H locs 0 0 Q (F0 m 2 ls []) := by
    clear hf ho3 hw hl
    intro k
    induction k with
    | zero => intro v1 x_laid H locs ls o hf hw hl kx; simp [X12_layDown_L1] at hf
    | succ k ih =>
      intro v1 x_laid H locs ls o hf hw hl kx
      rw [X12_layDown_L1] at hf
      refine lv_iload_n hx hb dX12_layDown_2 rfl (lv_at hl 1 rfl) ?_
      refine lv_bipush (v := 65) hx hb dX12_layDown_3 (by decide) ?_
      refine lv_icmp_ge (tgt := 26) hx hb dX12_layDown_5 (by decide) (fun hc => ?_) (fun hc => ?_)
      · have hf := ifT hf hc
        have hf := Option.some.inj hf
        subst hf
        exact kx _ _ _ hw (lv_sub hl [0, 1] rfl)
      · have hf := ifF hf hc
        refine lv_aload_n hx hb dX12_layDown_8 rfl (lv_at hl 0 rfl) ?_
        refine mg_laid cx hw dX12_layDown_9 ?_
        refine lv_iload_n hx hb dX12_layDown_12 rfl (lv_at hl 1 rfl) ?_
        refine lv_aload_n hx hb dX12_layDown_13 rfl (lv_at hl 0 rfl) ?_
        refine mg_s cx hw dX12_layDown_14 ?_
        refine lv_iload_n hx hb dX12_layDown_17 rfl (lv_at hl 1 rfl) ?_
        obtain ⟨h1, hf⟩ := ckS hf
        refine ml_s (j := v1.toNatClampNeg) cx hw (ib_in h1) rfl dX12_layDown_18 ?_
        obtain ⟨h2, hf⟩ := ckS hf
        refine ms_laid (j := v1.toNatClampNeg) cx hw (ib_in h2) rfl dX12_layDown_19 (fun H locs hw => ?_)
        refine lv_iinc (v := (v1 + (1 : Int32))) (lv' := [(1, .int (v1 + (1 : Int32))), (0, .ref (a 0))]) hx hb dX12_layDown_20 hl (k := 1) rfl rfl (by decide) rfl (fun ls hl => ?_)
        refine lv_goto (tgt := 2) hx hb dX12_layDown_23 (by decide) ?_
        exact ih hf hw (lv_sub hl [1, 0] rfl) kx
  refine wL1 n ho3 hw (lv_sub hl [1, 0] rfl) (fun H locs ls hw hl => ?_)
  clear wL1 ho3
  have hf := Option.some.inj hf
  subst hf
  exact hR _ _ _ _ _ hw ⟨rfl, rfl⟩ dX12_layDown_26
theorem dX12_layBack_0 : decode cX12_layBack 0 = .ok (.iconst 0, 1) := by decide +kernel
theorem dX12_layBack_1 : decode cX12_layBack 1 = .ok (.istore_n 1, 1) := by decide +kernel
theorem dX12_layBack_2 : decode cX12_layBack 2 = .ok (.iload_n 1, 1) := by decide +kernel
theorem dX12_layBack_3 : decode cX12_layBack 3 = .ok (.bipush 65, 2) := by decide +kernel
theorem dX12_layBack_5 : decode cX12_layBack 5 = .ok (.if_icmp .ge 21, 3) := by decide +kernel
theorem dX12_layBack_8 : decode cX12_layBack 8 = .ok (.aload_n 0, 1) := by decide +kernel
theorem dX12_layBack_9 : decode cX12_layBack 9 = .ok (.getfield 9, 3) := by decide +kernel
theorem dX12_layBack_12 : decode cX12_layBack 12 = .ok (.iload_n 1, 1) := by decide +kernel
theorem dX12_layBack_13 : decode cX12_layBack 13 = .ok (.aload_n 0, 1) := by decide +kernel
theorem dX12_layBack_14 : decode cX12_layBack 14 = .ok (.getfield 16, 3) := by decide +kernel
theorem dX12_layBack_17 : decode cX12_layBack 17 = .ok (.iload_n 1, 1) := by decide +kernel
theorem dX12_layBack_18 : decode cX12_layBack 18 = .ok (.iaload, 1) := by decide +kernel
theorem dX12_layBack_19 : decode cX12_layBack 19 = .ok (.iastore, 1) := by decide +kernel
theorem dX12_layBack_20 : decode cX12_layBack 20 = .ok (.iinc 1 1, 3) := by decide +kernel
theorem dX12_layBack_23 : decode cX12_layBack 23 = .ok (.goto (-21), 3) := by decide +kernel
theorem dX12_layBack_26 : decode cX12_layBack 26 = .ok (.return_, 1) := by decide +kernel
theorem k_X12_layBack : MV yX12_layBack cX12_layBack 2 none 0 := ⟨q_1455, qs_69, q_14, q_1456, ⟨by decide, by decide, by decide +kernel⟩⟩
theorem c_X12_layBack {res : (Nat → Int32)} (hf : X12_layBack n x_s x_laid = some res) : MC l E0 D t yX12_layBack cX12_layBack 2 none 1 0 0 [.ref (a 0)] (mW a t x_s x_kept x_laid x_isKept x_pile x_tape x_taped x_letters x_at x_begun x_token x_value x_opened x_steps x_code0 x_read x_saved x_plan x_bestPlan x_most x_many x_few x_everRight x_lagThen x_shadedThen x_firstFit x_rows x_rowMany x_sorts x_sizes x_number x_holds x_heldOne x_trace x_traced x_own x_isParted) (Qn (mW a t res x_kept x_laid x_isKept x_pile x_tape x_taped x_letters x_at x_begun x_token x_value x_opened x_steps x_code0 x_read x_saved x_plan x_bestPlan x_most x_many x_few x_everRight x_lagThen x_shadedThen x_firstFit x_rows x_rowMany x_sorts x_sizes x_number x_holds x_heldOne x_trace x_traced x_own x_isParted)) := by
  unfold X12_layBack at hf
  refine MC.ofV pn_X12 (Nat.le_of_ble_eq_true rfl) ?_
  intro p e s m args below meth c A Q ls cx hR hw hl
  have hx := cx.1
  have hb := cx.2.1
  have hl : lv_has ls 2 [(0, .ref (a 0))] := hl
  refine lv_iconst (v := 0) hx hb dX12_layBack_0 (by decide) ?_
  refine lv_istore_n (lv' := [(1, .int (0 : Int32)), (0, .ref (a 0))]) hx hb dX12_layBack_1 rfl hl (by decide) rfl (fun ls hl => ?_)
  obtain ⟨o3, ho3, hf⟩ := bnS hf
  have wL1 : ∀ (k : Nat) {v1 : Int32} {x_s : Nat → Int32} {H : Heap} {locs : List Loc} {ls : Array Slot} {o : Int32 × (Nat → Int32)}, X12_layBack_L1 n x_laid k v1 x_s = some o → Wd D A s (mW a t x_s x_kept x_laid x_isKept x_pile x_tape x_taped x_letters x_at x_begun x_token x_value x_opened x_steps x_code0 x_read x_saved x_plan x_bestPlan x_most x_many x_few x_everRight x_lagThen x_shadedThen x_firstFit x_rows x_rowMany x_sorts x_sizes x_number x_holds x_heldOne x_trace x_traced x_own x_isParted) H locs → lv_has ls 2 [(0, .ref (a 0)), (1, .int v1)] → (∀ (H : Heap) (locs : List Loc) (ls : Array Slot), Wd D A s (mW a t o.2 x_kept x_laid x_isKept x_pile x_tape x_taped x_letters x_at x_begun x_token x_value x_opened x_steps x_code0 x_read x_saved x_plan x_bestPlan x_most x_many x_few x_everRight x_lagThen x_shadedThen x_firstFit x_rows x_rowMany x_sorts x_sizes x_number x_holds x_heldOne x_trace x_traced x_own x_isParted) H locs → lv_has ls 2 [(0, .ref (a 0)), (1, .int o.1)] → W p l e (rmz 1 0 0) s m args below meth c H locs 0 0 Q (F0 m 26 ls [])) → W p l e (rmz 1 0 0) s m args below meth c H locs 0 0 Q (F0 m 2 ls []) := by
    clear hf ho3 hw hl
    intro k
    induction k with
    | zero => intro v1 x_s H locs ls o hf hw hl kx; simp [X12_layBack_L1] at hf
    | succ k ih =>
      intro v1 x_s H locs ls o hf hw hl kx
      rw [X12_layBack_L1] at hf
      refine lv_iload_n hx hb dX12_layBack_2 rfl (lv_at hl 1 rfl) ?_
      refine lv_bipush (v := 65) hx hb dX12_layBack_3 (by decide) ?_
      refine lv_icmp_ge (tgt := 26) hx hb dX12_layBack_5 (by decide) (fun hc => ?_) (fun hc => ?_)
      · have hf := ifT hf hc
        have hf := Option.some.inj hf
        subst hf
        exact kx _ _ _ hw (lv_sub hl [0, 1] rfl)
      · have hf := ifF hf hc
        refine lv_aload_n hx hb dX12_layBack_8 rfl (lv_at hl 0 rfl) ?_
        refine mg_s cx hw dX12_layBack_9 ?_
        refine lv_iload_n hx hb dX12_layBack_12 rfl (lv_at hl 1 rfl) ?_
        refine lv_aload_n hx hb dX12_layBack_13 rfl (lv_at hl 0 rfl) ?_
        refine mg_laid cx hw dX12_layBack_14 ?_
        refine lv_iload_n hx hb dX12_layBack_17 rfl (lv_at hl 1 rfl) ?_
        obtain ⟨h1, hf⟩ := ckS hf
        refine ml_laid (j := v1.toNatClampNeg) cx hw (ib_in h1) rfl dX12_layBack_18 ?_
        obtain ⟨h2, hf⟩ := ckS hf
        refine ms_s (j := v1.toNatClampNeg) cx hw (ib_in h2) rfl dX12_layBack_19 (fun H locs hw => ?_)
        refine lv_iinc (v := (v1 + (1 : Int32))) (lv' := [(1, .int (v1 + (1 : Int32))), (0, .ref (a 0))]) hx hb dX12_layBack_20 hl (k := 1) rfl rfl (by decide) rfl (fun ls hl => ?_)
        refine lv_goto (tgt := 2) hx hb dX12_layBack_23 (by decide) ?_
        exact ih hf hw (lv_sub hl [1, 0] rfl) kx
  refine wL1 n ho3 hw (lv_sub hl [1, 0] rfl) (fun H locs ls hw hl => ?_)
  clear wL1 ho3
  have hf := Option.some.inj hf
  subst hf
  exact hR _ _ _ _ _ hw ⟨rfl, rfl⟩ dX12_layBack_26
theorem dX12_get_0 : decode cX12_get 0 = .ok (.aload_n 0, 1) := by decide +kernel
theorem dX12_get_1 : decode cX12_get 1 = .ok (.getfield 9, 3) := by decide +kernel
theorem dX12_get_4 : decode cX12_get 4 = .ok (.bipush 35, 2) := by decide +kernel
theorem dX12_get_6 : decode cX12_get 6 = .ok (.iconst 5, 1) := by decide +kernel
theorem dX12_get_7 : decode cX12_get 7 = .ok (.iload_n 1, 1) := by decide +kernel
theorem dX12_get_8 : decode cX12_get 8 = .ok (.imul, 1) := by decide +kernel
theorem dX12_get_9 : decode cX12_get 9 = .ok (.iadd, 1) := by decide +kernel
theorem dX12_get_10 : decode cX12_get 10 = .ok (.iload_n 2, 1) := by decide +kernel
theorem dX12_get_11 : decode cX12_get 11 = .ok (.iadd, 1) := by decide +kernel
theorem dX12_get_12 : decode cX12_get 12 = .ok (.iaload, 1) := by decide +kernel
theorem dX12_get_13 : decode cX12_get 13 = .ok (.ireturn, 1) := by decide +kernel
theorem k_X12_get : MV yX12_get cX12_get 3 (some .int) 2 := ⟨q_1306, qs_47, q_14, q_1307, ⟨by decide, by decide, by decide +kernel⟩⟩
theorem c_X12_get {res : Int32} (hf : X12_get x_s v1 v2 = some res) : MC l E0 D t yX12_get cX12_get 3 (some .int) 1 0 0 [.ref (a 0), .int v1, .int v2] (mW a t x_s x_kept x_laid x_isKept x_pile x_tape x_taped x_letters x_at x_begun x_token x_value x_opened x_steps x_code0 x_read x_saved x_plan x_bestPlan x_most x_many x_few x_everRight x_lagThen x_shadedThen x_firstFit x_rows x_rowMany x_sorts x_sizes x_number x_holds x_heldOne x_trace x_traced x_own x_isParted) (Qi res (mW a t x_s x_kept x_laid x_isKept x_pile x_tape x_taped x_letters x_at x_begun x_token x_value x_opened x_steps x_code0 x_read x_saved x_plan x_bestPlan x_most x_many x_few x_everRight x_lagThen x_shadedThen x_firstFit x_rows x_rowMany x_sorts x_sizes x_number x_holds x_heldOne x_trace x_traced x_own x_isParted)) := by
  unfold X12_get at hf
  refine MC.ofI pn_X12 (Nat.le_of_ble_eq_true rfl) ?_
  intro p e s m args below meth c A Q ls cx hR hw hl
  have hx := cx.1
  have hb := cx.2.1
  have hl : lv_has ls 3 [(0, .ref (a 0)), (1, .int v1), (2, .int v2)] := hl
  refine lv_aload_n hx hb dX12_get_0 rfl (lv_at hl 0 rfl) ?_
  refine mg_s cx hw dX12_get_1 ?_
  refine lv_bipush (v := 35) hx hb dX12_get_4 (by decide) ?_
  refine lv_iconst (v := 5) hx hb dX12_get_6 (by decide) ?_
  refine lv_iload_n hx hb dX12_get_7 rfl (lv_at hl 1 rfl) ?_
  refine lv_imul hx hb dX12_get_8 ?_
  refine lv_iadd hx hb dX12_get_9 ?_
  refine lv_iload_n hx hb dX12_get_10 rfl (lv_at hl 2 rfl) ?_
  refine lv_iadd hx hb dX12_get_11 ?_
  obtain ⟨h1, hf⟩ := ckS hf
  refine ml_s (j := (((35 : Int32) + ((5 : Int32) * v1)) + v2).toNatClampNeg) cx hw (ib_in h1) rfl dX12_get_12 ?_
  have hf := Option.some.inj hf
  subst hf
  exact hR _ _ _ _ _ _ hw rfl ⟨rfl, rfl⟩ dX12_get_13
theorem dX12_puts_0 : decode cX12_puts 0 = .ok (.aload_n 0, 1) := by decide +kernel
theorem dX12_puts_1 : decode cX12_puts 1 = .ok (.getfield 9, 3) := by decide +kernel
theorem dX12_puts_4 : decode cX12_puts 4 = .ok (.bipush 35, 2) := by decide +kernel
theorem dX12_puts_6 : decode cX12_puts 6 = .ok (.iconst 5, 1) := by decide +kernel
theorem dX12_puts_7 : decode cX12_puts 7 = .ok (.iload_n 1, 1) := by decide +kernel
theorem dX12_puts_8 : decode cX12_puts 8 = .ok (.imul, 1) := by decide +kernel
theorem dX12_puts_9 : decode cX12_puts 9 = .ok (.iadd, 1) := by decide +kernel
theorem dX12_puts_10 : decode cX12_puts 10 = .ok (.iload_n 2, 1) := by decide +kernel
theorem dX12_puts_11 : decode cX12_puts 11 = .ok (.iadd, 1) := by decide +kernel
theorem dX12_puts_12 : decode cX12_puts 12 = .ok (.iload_n 3, 1) := by decide +kernel
theorem dX12_puts_13 : decode cX12_puts 13 = .ok (.iastore, 1) := by decide +kernel
theorem dX12_puts_14 : decode cX12_puts 14 = .ok (.return_, 1) := by decide +kernel
theorem k_X12_puts : MV yX12_puts cX12_puts 4 none 3 := ⟨q_1290, qs_44, q_14, q_1291, ⟨by decide, by decide, by decide +kernel⟩⟩
theorem c_X12_puts {res : (Nat → Int32)} (hf : X12_puts x_s v1 v2 v3 = some res) : MC l E0 D t yX12_puts cX12_puts 4 none 1 0 0 [.ref (a 0), .int v1, .int v2, .int v3] (mW a t x_s x_kept x_laid x_isKept x_pile x_tape x_taped x_letters x_at x_begun x_token x_value x_opened x_steps x_code0 x_read x_saved x_plan x_bestPlan x_most x_many x_few x_everRight x_lagThen x_shadedThen x_firstFit x_rows x_rowMany x_sorts x_sizes x_number x_holds x_heldOne x_trace x_traced x_own x_isParted) (Qn (mW a t res x_kept x_laid x_isKept x_pile x_tape x_taped x_letters x_at x_begun x_token x_value x_opened x_steps x_code0 x_read x_saved x_plan x_bestPlan x_most x_many x_few x_everRight x_lagThen x_shadedThen x_firstFit x_rows x_rowMany x_sorts x_sizes x_number x_holds x_heldOne x_trace x_traced x_own x_isParted)) := by
  unfold X12_puts at hf
  refine MC.ofV pn_X12 (Nat.le_of_ble_eq_true rfl) ?_
  intro p e s m args below meth c A Q ls cx hR hw hl
  have hx := cx.1
  have hb := cx.2.1
  have hl : lv_has ls 4 [(0, .ref (a 0)), (1, .int v1), (2, .int v2), (3, .int v3)] := hl
  refine lv_aload_n hx hb dX12_puts_0 rfl (lv_at hl 0 rfl) ?_
  refine mg_s cx hw dX12_puts_1 ?_
  refine lv_bipush (v := 35) hx hb dX12_puts_4 (by decide) ?_
  refine lv_iconst (v := 5) hx hb dX12_puts_6 (by decide) ?_
  refine lv_iload_n hx hb dX12_puts_7 rfl (lv_at hl 1 rfl) ?_
  refine lv_imul hx hb dX12_puts_8 ?_
  refine lv_iadd hx hb dX12_puts_9 ?_
  refine lv_iload_n hx hb dX12_puts_10 rfl (lv_at hl 2 rfl) ?_
  refine lv_iadd hx hb dX12_puts_11 ?_
  refine lv_iload_n hx hb dX12_puts_12 rfl (lv_at hl 3 rfl) ?_
  obtain ⟨h1, hf⟩ := ckS hf
  refine ms_s (j := (((35 : Int32) + ((5 : Int32) * v1)) + v2).toNatClampNeg) cx hw (ib_in h1) rfl dX12_puts_13 (fun H locs hw => ?_)
  have hf := Option.some.inj hf
  subst hf
  exact hR _ _ _ _ _ hw ⟨rfl, rfl⟩ dX12_puts_14
theorem dX12_isDial_0 : decode cX12_isDial 0 = .ok (.iload_n 1, 1) := by decide +kernel
theorem dX12_isDial_1 : decode cX12_isDial 1 = .ok (.iconst 0, 1) := by decide +kernel
theorem dX12_isDial_2 : decode cX12_isDial 2 = .ok (.aload_n 0, 1) := by decide +kernel
theorem dX12_isDial_3 : decode cX12_isDial 3 = .ok (.getfield 9, 3) := by decide +kernel
theorem dX12_isDial_6 : decode cX12_isDial 6 = .ok (.iconst 4, 1) := by decide +kernel
theorem dX12_isDial_7 : decode cX12_isDial 7 = .ok (.iaload, 1) := by decide +kernel
theorem dX12_isDial_8 : decode cX12_isDial 8 = .ok (.iconst 1, 1) := by decide +kernel
theorem dX12_isDial_9 : decode cX12_isDial 9 = .ok (.isub, 1) := by decide +kernel
theorem dX12_isDial_10 : decode cX12_isDial 10 = .ok (.invokestatic 71, 3) := by decide +kernel
theorem dX12_isDial_13 : decode cX12_isDial 13 = .ok (.ireturn, 1) := by decide +kernel
theorem k_X12_isDial : MV yX12_isDial cX12_isDial 2 (some .boolean) 1 := ⟨q_1298, qs_45, q_14, q_1299, ⟨by decide, by decide, by decide +kernel⟩⟩
theorem c_X12_isDial {res : Int32} (hf : X12_isDial x_s v1 = res) : MC l E0 D t yX12_isDial cX12_isDial 2 (some .boolean) 2 0 0 [.ref (a 0), .int v1] (mW a t x_s x_kept x_laid x_isKept x_pile x_tape x_taped x_letters x_at x_begun x_token x_value x_opened x_steps x_code0 x_read x_saved x_plan x_bestPlan x_most x_many x_few x_everRight x_lagThen x_shadedThen x_firstFit x_rows x_rowMany x_sorts x_sizes x_number x_holds x_heldOne x_trace x_traced x_own x_isParted) (Qi res (mW a t x_s x_kept x_laid x_isKept x_pile x_tape x_taped x_letters x_at x_begun x_token x_value x_opened x_steps x_code0 x_read x_saved x_plan x_bestPlan x_most x_many x_few x_everRight x_lagThen x_shadedThen x_firstFit x_rows x_rowMany x_sorts x_sizes x_number x_holds x_heldOne x_trace x_traced x_own x_isParted)) := by
  unfold X12_isDial at hf
  refine MC.ofI pn_X12 (Nat.le_of_ble_eq_true rfl) ?_
  intro p e s m args below meth c A Q ls cx hR hw hl
  have hx := cx.1
  have hb := cx.2.1
  have hl : lv_has ls 2 [(0, .ref (a 0)), (1, .int v1)] := hl
  refine lv_iload_n hx hb dX12_isDial_0 rfl (lv_at hl 1 rfl) ?_
  refine lv_iconst (v := 0) hx hb dX12_isDial_1 (by decide) ?_
  refine lv_aload_n hx hb dX12_isDial_2 rfl (lv_at hl 0 rfl) ?_
  refine mg_s cx hw dX12_isDial_3 ?_
  refine lv_iconst (v := 4) hx hb dX12_isDial_6 (by decide) ?_
  refine ml_s (j := 4) cx hw (ib_in (by decide)) (by decide) dX12_isDial_7 ?_
  refine lv_iconst (v := 1) hx hb dX12_isDial_8 (by decide) ?_
  refine lv_isub hx hb dX12_isDial_9 ?_
  refine calSi cx hw hl.1 (c_X12_in1 rfl) q_1214 k_X12_in1 rfl dX12_isDial_10 rfl (Nat.le_of_ble_eq_true rfl) ⟨Nat.le_of_ble_eq_true rfl, Nat.le_of_ble_eq_true rfl⟩ ⟨Nat.le_refl _, Nat.le_refl _⟩ (fun H locs hw => ?_)
  subst hf
  exact hR _ _ _ _ _ _ hw (nb (b_X12_in1 _ _ _)) ⟨rfl, rfl⟩ dX12_isDial_13
theorem b_X12_isDial (x_s : Nat → Int32) (v1 : Int32) : X12_isDial x_s v1 = 0 ∨ X12_isDial x_s v1 = 1 := by unfold X12_isDial; repeat (first | exact Or.inl rfl | exact Or.inr rfl | apply b_X12_in1 | split)
theorem dX12_isAct_0 : decode cX12_isAct 0 = .ok (.iload_n 1, 1) := by decide +kernel
theorem dX12_isAct_1 : decode cX12_isAct 1 = .ok (.iconst 0, 1) := by decide +kernel
theorem dX12_isAct_2 : decode cX12_isAct 2 = .ok (.aload_n 0, 1) := by decide +kernel
theorem dX12_isAct_3 : decode cX12_isAct 3 = .ok (.getfield 9, 3) := by decide +kernel
theorem dX12_isAct_6 : decode cX12_isAct 6 = .ok (.iconst 4, 1) := by decide +kernel
theorem dX12_isAct_7 : decode cX12_isAct 7 = .ok (.iaload, 1) := by decide +kernel
theorem dX12_isAct_8 : decode cX12_isAct 8 = .ok (.invokestatic 71, 3) := by decide +kernel
theorem dX12_isAct_11 : decode cX12_isAct 11 = .ok (.ireturn, 1) := by decide +kernel
theorem k_X12_isAct : MV yX12_isAct cX12_isAct 2 (some .boolean) 1 := ⟨q_1627, qs_86, q_14, q_1628, ⟨by decide, by decide, by decide +kernel⟩⟩
theorem c_X12_isAct {res : Int32} (hf : X12_isAct x_s v1 = res) : MC l E0 D t yX12_isAct cX12_isAct 2 (some .boolean) 2 0 0 [.ref (a 0), .int v1] (mW a t x_s x_kept x_laid x_isKept x_pile x_tape x_taped x_letters x_at x_begun x_token x_value x_opened x_steps x_code0 x_read x_saved x_plan x_bestPlan x_most x_many x_few x_everRight x_lagThen x_shadedThen x_firstFit x_rows x_rowMany x_sorts x_sizes x_number x_holds x_heldOne x_trace x_traced x_own x_isParted) (Qi res (mW a t x_s x_kept x_laid x_isKept x_pile x_tape x_taped x_letters x_at x_begun x_token x_value x_opened x_steps x_code0 x_read x_saved x_plan x_bestPlan x_most x_many x_few x_everRight x_lagThen x_shadedThen x_firstFit x_rows x_rowMany x_sorts x_sizes x_number x_holds x_heldOne x_trace x_traced x_own x_isParted)) := by
  unfold X12_isAct at hf
  refine MC.ofI pn_X12 (Nat.le_of_ble_eq_true rfl) ?_
  intro p e s m args below meth c A Q ls cx hR hw hl
  have hx := cx.1
  have hb := cx.2.1
  have hl : lv_has ls 2 [(0, .ref (a 0)), (1, .int v1)] := hl
  refine lv_iload_n hx hb dX12_isAct_0 rfl (lv_at hl 1 rfl) ?_
  refine lv_iconst (v := 0) hx hb dX12_isAct_1 (by decide) ?_
  refine lv_aload_n hx hb dX12_isAct_2 rfl (lv_at hl 0 rfl) ?_
  refine mg_s cx hw dX12_isAct_3 ?_
  refine lv_iconst (v := 4) hx hb dX12_isAct_6 (by decide) ?_
  refine ml_s (j := 4) cx hw (ib_in (by decide)) (by decide) dX12_isAct_7 ?_
  refine calSi cx hw hl.1 (c_X12_in1 rfl) q_1214 k_X12_in1 rfl dX12_isAct_8 rfl (Nat.le_of_ble_eq_true rfl) ⟨Nat.le_of_ble_eq_true rfl, Nat.le_of_ble_eq_true rfl⟩ ⟨Nat.le_refl _, Nat.le_refl _⟩ (fun H locs hw => ?_)
  subst hf
  exact hR _ _ _ _ _ _ hw (nb (b_X12_in1 _ _ _)) ⟨rfl, rfl⟩ dX12_isAct_11
theorem b_X12_isAct (x_s : Nat → Int32) (v1 : Int32) : X12_isAct x_s v1 = 0 ∨ X12_isAct x_s v1 = 1 := by unfold X12_isAct; repeat (first | exact Or.inl rfl | exact Or.inr rfl | apply b_X12_in1 | split)
theorem dX12_isOver_0 : decode cX12_isOver 0 = .ok (.aload_n 0, 1) := by decide +kernel
theorem dX12_isOver_1 : decode cX12_isOver 1 = .ok (.getfield 9, 3) := by decide +kernel
theorem dX12_isOver_4 : decode cX12_isOver 4 = .ok (.iconst 0, 1) := by decide +kernel
theorem dX12_isOver_5 : decode cX12_isOver 5 = .ok (.iaload, 1) := by decide +kernel
theorem dX12_isOver_6 : decode cX12_isOver 6 = .ok (.aload_n 0, 1) := by decide +kernel
theorem dX12_isOver_7 : decode cX12_isOver 7 = .ok (.getfield 9, 3) := by decide +kernel
theorem dX12_isOver_10 : decode cX12_isOver 10 = .ok (.iconst 1, 1) := by decide +kernel
theorem dX12_isOver_11 : decode cX12_isOver 11 = .ok (.iaload, 1) := by decide +kernel
theorem dX12_isOver_12 : decode cX12_isOver 12 = .ok (.if_icmp .lt 7, 3) := by decide +kernel
theorem dX12_isOver_15 : decode cX12_isOver 15 = .ok (.iconst 1, 1) := by decide +kernel
theorem dX12_isOver_16 : decode cX12_isOver 16 = .ok (.goto 4, 3) := by decide +kernel
theorem dX12_isOver_19 : decode cX12_isOver 19 = .ok (.iconst 0, 1) := by decide +kernel
theorem dX12_isOver_20 : decode cX12_isOver 20 = .ok (.ireturn, 1) := by decide +kernel
theorem k_X12_isOver : MV yX12_isOver cX12_isOver 1 (some .boolean) 0 := ⟨q_1397, qs_58, q_14, q_1398, ⟨by decide, by decide, by decide +kernel⟩⟩
theorem c_X12_isOver {res : Int32} (hf : X12_isOver x_s = res) : MC l E0 D t yX12_isOver cX12_isOver 1 (some .boolean) 1 0 0 [.ref (a 0)] (mW a t x_s x_kept x_laid x_isKept x_pile x_tape x_taped x_letters x_at x_begun x_token x_value x_opened x_steps x_code0 x_read x_saved x_plan x_bestPlan x_most x_many x_few x_everRight x_lagThen x_shadedThen x_firstFit x_rows x_rowMany x_sorts x_sizes x_number x_holds x_heldOne x_trace x_traced x_own x_isParted) (Qi res (mW a t x_s x_kept x_laid x_isKept x_pile x_tape x_taped x_letters x_at x_begun x_token x_value x_opened x_steps x_code0 x_read x_saved x_plan x_bestPlan x_most x_many x_few x_everRight x_lagThen x_shadedThen x_firstFit x_rows x_rowMany x_sorts x_sizes x_number x_holds x_heldOne x_trace x_traced x_own x_isParted)) := by
  unfold X12_isOver at hf
  refine MC.ofI pn_X12 (Nat.le_of_ble_eq_true rfl) ?_
  intro p e s m args below meth c A Q ls cx hR hw hl
  have hx := cx.1
  have hb := cx.2.1
  have hl : lv_has ls 1 [(0, .ref (a 0))] := hl
  refine lv_aload_n hx hb dX12_isOver_0 rfl (lv_at hl 0 rfl) ?_
  refine mg_s cx hw dX12_isOver_1 ?_
  refine lv_iconst (v := 0) hx hb dX12_isOver_4 (by decide) ?_
  refine ml_s (j := 0) cx hw (ib_in (by decide)) (by decide) dX12_isOver_5 ?_
  refine lv_aload_n hx hb dX12_isOver_6 rfl (lv_at hl 0 rfl) ?_
  refine mg_s cx hw dX12_isOver_7 ?_
  refine lv_iconst (v := 1) hx hb dX12_isOver_10 (by decide) ?_
  refine ml_s (j := 1) cx hw (ib_in (by decide)) (by decide) dX12_isOver_11 ?_
  refine lv_icmp_lt (tgt := 19) hx hb dX12_isOver_12 (by decide) (fun hc => ?_) (fun hc => ?_)
  · have hf := ifT hf hc
    refine lv_iconst (v := 0) hx hb dX12_isOver_19 (by decide) ?_
    subst hf
    exact hR _ _ _ _ _ _ hw rfl ⟨rfl, rfl⟩ dX12_isOver_20
  · have hf := ifF hf hc
    refine lv_iconst (v := 1) hx hb dX12_isOver_15 (by decide) ?_
    refine lv_goto (tgt := 20) hx hb dX12_isOver_16 (by decide) ?_
    subst hf
    exact hR _ _ _ _ _ _ hw rfl ⟨rfl, rfl⟩ dX12_isOver_20
theorem b_X12_isOver (x_s : Nat → Int32) : X12_isOver x_s = 0 ∨ X12_isOver x_s = 1 := by unfold X12_isOver; repeat (first | exact Or.inl rfl | exact Or.inr rfl | split)
theorem dX12_becomes_0 : decode cX12_becomes 0 = .ok (.aload_n 0, 1) := by decide +kernel
theorem dX12_becomes_1 : decode cX12_becomes 1 = .ok (.getfield 9, 3) := by decide +kernel
theorem dX12_becomes_4 : decode cX12_becomes 4 = .ok (.iload_n 1, 1) := by decide +kernel
theorem dX12_becomes_5 : decode cX12_becomes 5 = .ok (.iaload, 1) := by decide +kernel
theorem dX12_becomes_6 : decode cX12_becomes 6 = .ok (.istore_n 3, 1) := by decide +kernel
theorem dX12_becomes_7 : decode cX12_becomes 7 = .ok (.aload_n 0, 1) := by decide +kernel
theorem dX12_becomes_8 : decode cX12_becomes 8 = .ok (.getfield 9, 3) := by decide +kernel
theorem dX12_becomes_11 : decode cX12_becomes 11 = .ok (.iload_n 1, 1) := by decide +kernel
theorem dX12_becomes_12 : decode cX12_becomes 12 = .ok (.iload_n 2, 1) := by decide +kernel
theorem dX12_becomes_13 : decode cX12_becomes 13 = .ok (.iastore, 1) := by decide +kernel
theorem dX12_becomes_14 : decode cX12_becomes 14 = .ok (.iload_n 3, 1) := by decide +kernel
theorem dX12_becomes_15 : decode cX12_becomes 15 = .ok (.ireturn, 1) := by decide +kernel
theorem k_X12_becomes : MV yX12_becomes cX12_becomes 4 (some .int) 2 := ⟨q_1365, qs_57, q_14, q_1366, ⟨by decide, by decide, by decide +kernel⟩⟩
theorem c_X12_becomes {res : Int32 × (Nat → Int32)} (hf : X12_becomes x_s v1 v2 = some res) : MC l E0 D t yX12_becomes cX12_becomes 4 (some .int) 1 0 0 [.ref (a 0), .int v1, .int v2] (mW a t x_s x_kept x_laid x_isKept x_pile x_tape x_taped x_letters x_at x_begun x_token x_value x_opened x_steps x_code0 x_read x_saved x_plan x_bestPlan x_most x_many x_few x_everRight x_lagThen x_shadedThen x_firstFit x_rows x_rowMany x_sorts x_sizes x_number x_holds x_heldOne x_trace x_traced x_own x_isParted) (Qi res.1 (mW a t res.2 x_kept x_laid x_isKept x_pile x_tape x_taped x_letters x_at x_begun x_token x_value x_opened x_steps x_code0 x_read x_saved x_plan x_bestPlan x_most x_many x_few x_everRight x_lagThen x_shadedThen x_firstFit x_rows x_rowMany x_sorts x_sizes x_number x_holds x_heldOne x_trace x_traced x_own x_isParted)) := by
  unfold X12_becomes at hf
  refine MC.ofI pn_X12 (Nat.le_of_ble_eq_true rfl) ?_
  intro p e s m args below meth c A Q ls cx hR hw hl
  have hx := cx.1
  have hb := cx.2.1
  have hl : lv_has ls 4 [(0, .ref (a 0)), (1, .int v1), (2, .int v2)] := hl
  refine lv_aload_n hx hb dX12_becomes_0 rfl (lv_at hl 0 rfl) ?_
  refine mg_s cx hw dX12_becomes_1 ?_
  refine lv_iload_n hx hb dX12_becomes_4 rfl (lv_at hl 1 rfl) ?_
  obtain ⟨h1, hf⟩ := ckS hf
  refine ml_s (j := v1.toNatClampNeg) cx hw (ib_in h1) rfl dX12_becomes_5 ?_
  refine lv_istore_n (lv' := [(3, .int (x_s v1.toNatClampNeg)), (0, .ref (a 0)), (1, .int v1), (2, .int v2)]) hx hb dX12_becomes_6 rfl hl (by decide) rfl (fun ls hl => ?_)
  refine lv_aload_n hx hb dX12_becomes_7 rfl (lv_at hl 1 rfl) ?_
  refine mg_s cx hw dX12_becomes_8 ?_
  refine lv_iload_n hx hb dX12_becomes_11 rfl (lv_at hl 2 rfl) ?_
  refine lv_iload_n hx hb dX12_becomes_12 rfl (lv_at hl 3 rfl) ?_
  obtain ⟨h2, hf⟩ := ckS hf
  refine ms_s (j := v1.toNatClampNeg) cx hw (ib_in h2) rfl dX12_becomes_13 (fun H locs hw => ?_)
  refine lv_iload_n hx hb dX12_becomes_14 rfl (lv_at hl 0 rfl) ?_
  have hf := Option.some.inj hf
  subst hf
  exact hR _ _ _ _ _ _ hw rfl ⟨rfl, rfl⟩ dX12_becomes_15
theorem dX12_above_0 : decode cX12_above 0 = .ok (.iload_n 0, 1) := by decide +kernel
theorem dX12_above_1 : decode cX12_above 1 = .ok (.iconst 3, 1) := by decide +kernel
theorem dX12_above_2 : decode cX12_above 2 = .ok (.if_icmp .ne 7, 3) := by decide +kernel
theorem dX12_above_5 : decode cX12_above 5 = .ok (.iconst 2, 1) := by decide +kernel
theorem dX12_above_6 : decode cX12_above 6 = .ok (.goto 13, 3) := by decide +kernel
theorem dX12_above_9 : decode cX12_above 9 = .ok (.iload_n 0, 1) := by decide +kernel
theorem dX12_above_10 : decode cX12_above 10 = .ok (.iconst 5, 1) := by decide +kernel
theorem dX12_above_11 : decode cX12_above 11 = .ok (.if_icmp .ne 7, 3) := by decide +kernel
theorem dX12_above_14 : decode cX12_above 14 = .ok (.iconst 4, 1) := by decide +kernel
theorem dX12_above_15 : decode cX12_above 15 = .ok (.goto 4, 3) := by decide +kernel
theorem dX12_above_18 : decode cX12_above 18 = .ok (.iconst 0, 1) := by decide +kernel
theorem dX12_above_19 : decode cX12_above 19 = .ok (.ireturn, 1) := by decide +kernel
theorem k_X12_above : MS yX12_above cX12_above 1 (some .int) 1 := ⟨q_1346, q_14, q_1347, ⟨by decide, by decide, by decide +kernel⟩⟩
theorem c_X12_above {res : Int32} (hf : X12_above v0 = res) : MC l E0 D t yX12_above cX12_above 1 (some .int) 1 0 0 [.int v0] (mW a t x_s x_kept x_laid x_isKept x_pile x_tape x_taped x_letters x_at x_begun x_token x_value x_opened x_steps x_code0 x_read x_saved x_plan x_bestPlan x_most x_many x_few x_everRight x_lagThen x_shadedThen x_firstFit x_rows x_rowMany x_sorts x_sizes x_number x_holds x_heldOne x_trace x_traced x_own x_isParted) (Qi res (mW a t x_s x_kept x_laid x_isKept x_pile x_tape x_taped x_letters x_at x_begun x_token x_value x_opened x_steps x_code0 x_read x_saved x_plan x_bestPlan x_most x_many x_few x_everRight x_lagThen x_shadedThen x_firstFit x_rows x_rowMany x_sorts x_sizes x_number x_holds x_heldOne x_trace x_traced x_own x_isParted)) := by
  unfold X12_above at hf
  refine MC.ofI pn_X12 (Nat.le_of_ble_eq_true rfl) ?_
  intro p e s m args below meth c A Q ls cx hR hw hl
  have hx := cx.1
  have hb := cx.2.1
  have hl : lv_has ls 1 [(0, .int v0)] := hl
  refine lv_iload_n hx hb dX12_above_0 rfl (lv_at hl 0 rfl) ?_
  refine lv_iconst (v := 3) hx hb dX12_above_1 (by decide) ?_
  refine lv_icmp_ne (tgt := 9) hx hb dX12_above_2 (by decide) (fun hc => ?_) (fun hc => ?_)
  · have hf := ifF hf hc
    refine lv_iload_n hx hb dX12_above_9 rfl (lv_at hl 0 rfl) ?_
    refine lv_iconst (v := 5) hx hb dX12_above_10 (by decide) ?_
    refine lv_icmp_ne (tgt := 18) hx hb dX12_above_11 (by decide) (fun hc => ?_) (fun hc => ?_)
    · have hf := ifF hf hc
      refine lv_iconst (v := 0) hx hb dX12_above_18 (by decide) ?_
      subst hf
      exact hR _ _ _ _ _ _ hw rfl ⟨rfl, rfl⟩ dX12_above_19
    · have hf := ifT hf hc
      refine lv_iconst (v := 4) hx hb dX12_above_14 (by decide) ?_
      refine lv_goto (tgt := 19) hx hb dX12_above_15 (by decide) ?_
      subst hf
      exact hR _ _ _ _ _ _ hw rfl ⟨rfl, rfl⟩ dX12_above_19
  · have hf := ifT hf hc
    refine lv_iconst (v := 2) hx hb dX12_above_5 (by decide) ?_
    refine lv_goto (tgt := 19) hx hb dX12_above_6 (by decide) ?_
    subst hf
    exact hR _ _ _ _ _ _ hw rfl ⟨rfl, rfl⟩ dX12_above_19
theorem dX12_isUnder_0 : decode cX12_isUnder 0 = .ok (.iload_n 0, 1) := by decide +kernel
theorem dX12_isUnder_1 : decode cX12_isUnder 1 = .ok (.istore_n 2, 1) := by decide +kernel
theorem dX12_isUnder_2 : decode cX12_isUnder 2 = .ok (.iload_n 2, 1) := by decide +kernel
theorem dX12_isUnder_3 : decode cX12_isUnder 3 = .ok (.iload_n 1, 1) := by decide +kernel
theorem dX12_isUnder_4 : decode cX12_isUnder 4 = .ok (.if_icmp .eq 15, 3) := by decide +kernel
theorem dX12_isUnder_7 : decode cX12_isUnder 7 = .ok (.iload_n 2, 1) := by decide +kernel
theorem dX12_isUnder_8 : decode cX12_isUnder 8 = .ok (.ifCond .eq 11, 3) := by decide +kernel
theorem dX12_isUnder_11 : decode cX12_isUnder 11 = .ok (.iload_n 2, 1) := by decide +kernel
theorem dX12_isUnder_12 : decode cX12_isUnder 12 = .ok (.invokestatic 75, 3) := by decide +kernel
theorem dX12_isUnder_15 : decode cX12_isUnder 15 = .ok (.istore_n 2, 1) := by decide +kernel
theorem dX12_isUnder_16 : decode cX12_isUnder 16 = .ok (.goto (-14), 3) := by decide +kernel
theorem dX12_isUnder_19 : decode cX12_isUnder 19 = .ok (.iload_n 2, 1) := by decide +kernel
theorem dX12_isUnder_20 : decode cX12_isUnder 20 = .ok (.iload_n 1, 1) := by decide +kernel
theorem dX12_isUnder_21 : decode cX12_isUnder 21 = .ok (.if_icmp .ne 7, 3) := by decide +kernel
theorem dX12_isUnder_24 : decode cX12_isUnder 24 = .ok (.iconst 1, 1) := by decide +kernel
theorem dX12_isUnder_25 : decode cX12_isUnder 25 = .ok (.goto 4, 3) := by decide +kernel
theorem dX12_isUnder_28 : decode cX12_isUnder 28 = .ok (.iconst 0, 1) := by decide +kernel
theorem dX12_isUnder_29 : decode cX12_isUnder 29 = .ok (.ireturn, 1) := by decide +kernel
theorem k_X12_isUnder : MS yX12_isUnder cX12_isUnder 3 (some .boolean) 2 := ⟨q_1343, q_14, q_1344, ⟨by decide, by decide, by decide +kernel⟩⟩
theorem c_X12_isUnder {res : Int32} (hf : X12_isUnder n v0 v1 = some res) : MC l E0 D t yX12_isUnder cX12_isUnder 3 (some .boolean) 2 0 0 [.int v0, .int v1] (mW a t x_s x_kept x_laid x_isKept x_pile x_tape x_taped x_letters x_at x_begun x_token x_value x_opened x_steps x_code0 x_read x_saved x_plan x_bestPlan x_most x_many x_few x_everRight x_lagThen x_shadedThen x_firstFit x_rows x_rowMany x_sorts x_sizes x_number x_holds x_heldOne x_trace x_traced x_own x_isParted) (Qi res (mW a t x_s x_kept x_laid x_isKept x_pile x_tape x_taped x_letters x_at x_begun x_token x_value x_opened x_steps x_code0 x_read x_saved x_plan x_bestPlan x_most x_many x_few x_everRight x_lagThen x_shadedThen x_firstFit x_rows x_rowMany x_sorts x_sizes x_number x_holds x_heldOne x_trace x_traced x_own x_isParted)) := by
  unfold X12_isUnder at hf
  refine MC.ofI pn_X12 (Nat.le_of_ble_eq_true rfl) ?_
  intro p e s m args below meth c A Q ls cx hR hw hl
  have hx := cx.1
  have hb := cx.2.1
  have hl : lv_has ls 3 [(0, .int v0), (1, .int v1)] := hl
  refine lv_iload_n hx hb dX12_isUnder_0 rfl (lv_at hl 0 rfl) ?_
  refine lv_istore_n (lv' := [(2, .int v0), (0, .int v0), (1, .int v1)]) hx hb dX12_isUnder_1 rfl hl (by decide) rfl (fun ls hl => ?_)
  obtain ⟨o1, ho1, hf⟩ := bnS hf
  have wL1 : ∀ (k : Nat) {v0 : Int32} {v1 : Int32} {v2 : Int32} {H : Heap} {locs : List Loc} {ls : Array Slot} {o : Int32}, X12_isUnder_L1 n v1 k v2 = some o → Wd D A s (mW a t x_s x_kept x_laid x_isKept x_pile x_tape x_taped x_letters x_at x_begun x_token x_value x_opened x_steps x_code0 x_read x_saved x_plan x_bestPlan x_most x_many x_few x_everRight x_lagThen x_shadedThen x_firstFit x_rows x_rowMany x_sorts x_sizes x_number x_holds x_heldOne x_trace x_traced x_own x_isParted) H locs → lv_has ls 3 [(0, .int v0), (1, .int v1), (2, .int v2)] → (∀ (H : Heap) (locs : List Loc) (ls : Array Slot), Wd D A s (mW a t x_s x_kept x_laid x_isKept x_pile x_tape x_taped x_letters x_at x_begun x_token x_value x_opened x_steps x_code0 x_read x_saved x_plan x_bestPlan x_most x_many x_few x_everRight x_lagThen x_shadedThen x_firstFit x_rows x_rowMany x_sorts x_sizes x_number x_holds x_heldOne x_trace x_traced x_own x_isParted) H locs → lv_has ls 3 [(0, .int v0), (1, .int v1), (2, .int o)] → W p l e (rmz 2 0 0) s m args below meth c H locs 0 0 Q (F0 m 19 ls [])) → W p l e (rmz 2 0 0) s m args below meth c H locs 0 0 Q (F0 m 2 ls []) := by
    clear hf ho1 hw hl
    intro k
    induction k with
    | zero => intro v0 v1 v2 H locs ls o hf hw hl kx; simp [X12_isUnder_L1] at hf
    | succ k ih =>
      intro v0 v1 v2 H locs ls o hf hw hl kx
      rw [X12_isUnder_L1] at hf
      refine lv_iload_n hx hb dX12_isUnder_2 rfl (lv_at hl 2 rfl) ?_
      refine lv_iload_n hx hb dX12_isUnder_3 rfl (lv_at hl 1 rfl) ?_
      refine lv_icmp_eq (tgt := 19) hx hb dX12_isUnder_4 (by decide) (fun hc => ?_) (fun hc => ?_)
      · have hf := ifT hf hc
        have hf := Option.some.inj hf
        subst hf
        exact kx _ _ _ hw (lv_sub hl [0, 1, 2] rfl)
      · have hf := ifF hf hc
        refine lv_iload_n hx hb dX12_isUnder_7 rfl (lv_at hl 2 rfl) ?_
        refine lv_if_eq (tgt := 19) hx hb dX12_isUnder_8 (by decide) (fun hc => ?_) (fun hc => ?_)
        · have hf := ifT hf hc
          have hf := Option.some.inj hf
          subst hf
          exact kx _ _ _ hw (lv_sub hl [0, 1, 2] rfl)
        · have hf := ifF hf hc
          refine lv_iload_n hx hb dX12_isUnder_11 rfl (lv_at hl 2 rfl) ?_
          refine calSi cx hw hl.1 (c_X12_above rfl) q_1345 k_X12_above rfl dX12_isUnder_12 rfl (Nat.le_of_ble_eq_true rfl) ⟨Nat.le_of_ble_eq_true rfl, Nat.le_of_ble_eq_true rfl⟩ ⟨Nat.le_refl _, Nat.le_refl _⟩ (fun H locs hw => ?_)
          refine lv_istore_n (lv' := [(2, .int (X12_above v2)), (0, .int v0), (1, .int v1)]) hx hb dX12_isUnder_15 rfl hl (by decide) rfl (fun ls hl => ?_)
          refine lv_goto (tgt := 2) hx hb dX12_isUnder_16 (by decide) ?_
          exact ih hf hw (lv_sub hl [1, 2, 0] rfl) kx
  refine wL1 n ho1 hw (lv_sub hl [1, 2, 0] rfl) (fun H locs ls hw hl => ?_)
  clear wL1 ho1
  refine lv_iload_n hx hb dX12_isUnder_19 rfl (lv_at hl 2 rfl) ?_
  refine lv_iload_n hx hb dX12_isUnder_20 rfl (lv_at hl 1 rfl) ?_
  refine lv_icmp_ne (tgt := 28) hx hb dX12_isUnder_21 (by decide) (fun hc => ?_) (fun hc => ?_)
  · have hf := ifF hf hc
    refine lv_iconst (v := 0) hx hb dX12_isUnder_28 (by decide) ?_
    have hf := Option.some.inj hf
    subst hf
    exact hR _ _ _ _ _ _ hw rfl ⟨rfl, rfl⟩ dX12_isUnder_29
  · have hf := ifT hf hc
    refine lv_iconst (v := 1) hx hb dX12_isUnder_24 (by decide) ?_
    refine lv_goto (tgt := 29) hx hb dX12_isUnder_25 (by decide) ?_
    have hf := Option.some.inj hf
    subst hf
    exact hR _ _ _ _ _ _ hw rfl ⟨rfl, rfl⟩ dX12_isUnder_29
theorem dX12_shadesBy_0 : decode cX12_shadesBy 0 = .ok (.iload_n 0, 1) := by decide +kernel
theorem dX12_shadesBy_1 : decode cX12_shadesBy 1 = .ok (.tableswitch 67 1 5 #[35, 37, 43, 53, 55], 35) := by decide +kernel
theorem dX12_shadesBy_36 : decode cX12_shadesBy 36 = .ok (.iconst 2, 1) := by decide +kernel
theorem dX12_shadesBy_37 : decode cX12_shadesBy 37 = .ok (.ireturn, 1) := by decide +kernel
theorem dX12_shadesBy_38 : decode cX12_shadesBy 38 = .ok (.iconst 2, 1) := by decide +kernel
theorem dX12_shadesBy_39 : decode cX12_shadesBy 39 = .ok (.iconst 4, 1) := by decide +kernel
theorem dX12_shadesBy_40 : decode cX12_shadesBy 40 = .ok (.iload_n 1, 1) := by decide +kernel
theorem dX12_shadesBy_41 : decode cX12_shadesBy 41 = .ok (.isub, 1) := by decide +kernel
theorem dX12_shadesBy_42 : decode cX12_shadesBy 42 = .ok (.imul, 1) := by decide +kernel
theorem dX12_shadesBy_43 : decode cX12_shadesBy 43 = .ok (.ireturn, 1) := by decide +kernel
theorem dX12_shadesBy_44 : decode cX12_shadesBy 44 = .ok (.iconst 2, 1) := by decide +kernel
theorem dX12_shadesBy_45 : decode cX12_shadesBy 45 = .ok (.iconst 4, 1) := by decide +kernel
theorem dX12_shadesBy_46 : decode cX12_shadesBy 46 = .ok (.iload_n 1, 1) := by decide +kernel
theorem dX12_shadesBy_47 : decode cX12_shadesBy 47 = .ok (.isub, 1) := by decide +kernel
theorem dX12_shadesBy_48 : decode cX12_shadesBy 48 = .ok (.imul, 1) := by decide +kernel
theorem dX12_shadesBy_49 : decode cX12_shadesBy 49 = .ok (.iload_n 2, 1) := by decide +kernel
theorem dX12_shadesBy_50 : decode cX12_shadesBy 50 = .ok (.iconst 5, 1) := by decide +kernel
theorem dX12_shadesBy_51 : decode cX12_shadesBy 51 = .ok (.idiv, 1) := by decide +kernel
theorem dX12_shadesBy_52 : decode cX12_shadesBy 52 = .ok (.iadd, 1) := by decide +kernel
theorem dX12_shadesBy_53 : decode cX12_shadesBy 53 = .ok (.ireturn, 1) := by decide +kernel
theorem dX12_shadesBy_54 : decode cX12_shadesBy 54 = .ok (.iconst 1, 1) := by decide +kernel
theorem dX12_shadesBy_55 : decode cX12_shadesBy 55 = .ok (.ireturn, 1) := by decide +kernel
theorem dX12_shadesBy_56 : decode cX12_shadesBy 56 = .ok (.iload_n 2, 1) := by decide +kernel
theorem dX12_shadesBy_57 : decode cX12_shadesBy 57 = .ok (.iconst 3, 1) := by decide +kernel
theorem dX12_shadesBy_58 : decode cX12_shadesBy 58 = .ok (.irem, 1) := by decide +kernel
theorem dX12_shadesBy_59 : decode cX12_shadesBy 59 = .ok (.ifCond .ne 7, 3) := by decide +kernel
theorem dX12_shadesBy_62 : decode cX12_shadesBy 62 = .ok (.iconst 0, 1) := by decide +kernel
theorem dX12_shadesBy_63 : decode cX12_shadesBy 63 = .ok (.goto 4, 3) := by decide +kernel
theorem dX12_shadesBy_66 : decode cX12_shadesBy 66 = .ok (.iconst 1, 1) := by decide +kernel
theorem dX12_shadesBy_67 : decode cX12_shadesBy 67 = .ok (.ireturn, 1) := by decide +kernel
theorem dX12_shadesBy_68 : decode cX12_shadesBy 68 = .ok (.iconst 4, 1) := by decide +kernel
theorem dX12_shadesBy_69 : decode cX12_shadesBy 69 = .ok (.iload_n 1, 1) := by decide +kernel
theorem dX12_shadesBy_70 : decode cX12_shadesBy 70 = .ok (.isub, 1) := by decide +kernel
theorem dX12_shadesBy_71 : decode cX12_shadesBy 71 = .ok (.ireturn, 1) := by decide +kernel
theorem k_X12_shadesBy : MS yX12_shadesBy cX12_shadesBy 3 (some .int) 3 := ⟨q_1313, q_14, q_1314, ⟨by decide, by decide, by decide +kernel⟩⟩
theorem c_X12_shadesBy {res : Int32} (hf : X12_shadesBy v0 v1 v2 = res) : MC l E0 D t yX12_shadesBy cX12_shadesBy 3 (some .int) 1 0 0 [.int v0, .int v1, .int v2] (mW a t x_s x_kept x_laid x_isKept x_pile x_tape x_taped x_letters x_at x_begun x_token x_value x_opened x_steps x_code0 x_read x_saved x_plan x_bestPlan x_most x_many x_few x_everRight x_lagThen x_shadedThen x_firstFit x_rows x_rowMany x_sorts x_sizes x_number x_holds x_heldOne x_trace x_traced x_own x_isParted) (Qi res (mW a t x_s x_kept x_laid x_isKept x_pile x_tape x_taped x_letters x_at x_begun x_token x_value x_opened x_steps x_code0 x_read x_saved x_plan x_bestPlan x_most x_many x_few x_everRight x_lagThen x_shadedThen x_firstFit x_rows x_rowMany x_sorts x_sizes x_number x_holds x_heldOne x_trace x_traced x_own x_isParted)) := by
  unfold X12_shadesBy at hf
  refine MC.ofI pn_X12 (Nat.le_of_ble_eq_true rfl) ?_
  intro p e s m args below meth c A Q ls cx hR hw hl
  have hx := cx.1
  have hb := cx.2.1
  have hl : lv_has ls 3 [(0, .int v0), (1, .int v1), (2, .int v2)] := hl
  refine lv_iload_n hx hb dX12_shadesBy_0 rfl (lv_at hl 0 rfl) ?_
  by_cases hc1 : v0 = (1 : Int32)
  · have hf := ifT hf hc1
    refine lv_tableIn (tgt := 36) hx hb dX12_shadesBy_1 (by rw [hc1]; decide) (by rw [hc1]; decide) (by rw [hc1]; rfl) (by decide) ?_
    refine lv_iconst (v := 2) hx hb dX12_shadesBy_36 (by decide) ?_
    subst hf
    exact hR _ _ _ _ _ _ hw rfl ⟨rfl, rfl⟩ dX12_shadesBy_37
  · have hf := ifF hf hc1
    by_cases hc2 : v0 = (2 : Int32)
    · have hf := ifT hf hc2
      refine lv_tableIn (tgt := 38) hx hb dX12_shadesBy_1 (by rw [hc2]; decide) (by rw [hc2]; decide) (by rw [hc2]; rfl) (by decide) ?_
      refine lv_iconst (v := 2) hx hb dX12_shadesBy_38 (by decide) ?_
      refine lv_iconst (v := 4) hx hb dX12_shadesBy_39 (by decide) ?_
      refine lv_iload_n hx hb dX12_shadesBy_40 rfl (lv_at hl 1 rfl) ?_
      refine lv_isub hx hb dX12_shadesBy_41 ?_
      refine lv_imul hx hb dX12_shadesBy_42 ?_
      subst hf
      exact hR _ _ _ _ _ _ hw rfl ⟨rfl, rfl⟩ dX12_shadesBy_43
    · have hf := ifF hf hc2
      by_cases hc3 : v0 = (3 : Int32)
      · have hf := ifT hf hc3
        refine lv_tableIn (tgt := 44) hx hb dX12_shadesBy_1 (by rw [hc3]; decide) (by rw [hc3]; decide) (by rw [hc3]; rfl) (by decide) ?_
        refine lv_iconst (v := 2) hx hb dX12_shadesBy_44 (by decide) ?_
        refine lv_iconst (v := 4) hx hb dX12_shadesBy_45 (by decide) ?_
        refine lv_iload_n hx hb dX12_shadesBy_46 rfl (lv_at hl 1 rfl) ?_
        refine lv_isub hx hb dX12_shadesBy_47 ?_
        refine lv_imul hx hb dX12_shadesBy_48 ?_
        refine lv_iload_n hx hb dX12_shadesBy_49 rfl (lv_at hl 2 rfl) ?_
        refine lv_iconst (v := 5) hx hb dX12_shadesBy_50 (by decide) ?_
        refine lv_idiv hx hb dX12_shadesBy_51 (by decide) ?_
        refine lv_iadd hx hb dX12_shadesBy_52 ?_
        subst hf
        exact hR _ _ _ _ _ _ hw rfl ⟨rfl, rfl⟩ dX12_shadesBy_53
      · have hf := ifF hf hc3
        by_cases hc4 : v0 = (4 : Int32)
        · have hf := ifT hf hc4
          refine lv_tableIn (tgt := 54) hx hb dX12_shadesBy_1 (by rw [hc4]; decide) (by rw [hc4]; decide) (by rw [hc4]; rfl) (by decide) ?_
          refine lv_iconst (v := 1) hx hb dX12_shadesBy_54 (by decide) ?_
          subst hf
          exact hR _ _ _ _ _ _ hw rfl ⟨rfl, rfl⟩ dX12_shadesBy_55
        · have hf := ifF hf hc4
          by_cases hc5 : v0 = (5 : Int32)
          · have hf := ifT hf hc5
            refine lv_tableIn (tgt := 56) hx hb dX12_shadesBy_1 (by rw [hc5]; decide) (by rw [hc5]; decide) (by rw [hc5]; rfl) (by decide) ?_
            refine lv_iload_n hx hb dX12_shadesBy_56 rfl (lv_at hl 2 rfl) ?_
            refine lv_iconst (v := 3) hx hb dX12_shadesBy_57 (by decide) ?_
            refine lv_irem hx hb dX12_shadesBy_58 (by decide) ?_
            refine lv_if_ne (tgt := 66) hx hb dX12_shadesBy_59 (by decide) (fun hc => ?_) (fun hc => ?_)
            · have hf := ifF hf hc
              refine lv_iconst (v := 1) hx hb dX12_shadesBy_66 (by decide) ?_
              subst hf
              exact hR _ _ _ _ _ _ hw rfl ⟨rfl, rfl⟩ dX12_shadesBy_67
            · have hf := ifT hf hc
              refine lv_iconst (v := 0) hx hb dX12_shadesBy_62 (by decide) ?_
              refine lv_goto (tgt := 67) hx hb dX12_shadesBy_63 (by decide) ?_
              subst hf
              exact hR _ _ _ _ _ _ hw rfl ⟨rfl, rfl⟩ dX12_shadesBy_67
          · have hf := ifF hf hc5
            refine lv_tableOut (tgt := 68) hx hb dX12_shadesBy_1 (by have h1 := lv_neT hc1 (a := 1) (by decide); have h2 := lv_neT hc2 (a := 2) (by decide); have h3 := lv_neT hc3 (a := 3) (by decide); have h4 := lv_neT hc4 (a := 4) (by decide); have h5 := lv_neT hc5 (a := 5) (by decide); omega) (by decide) ?_
            refine lv_iconst (v := 4) hx hb dX12_shadesBy_68 (by decide) ?_
            refine lv_iload_n hx hb dX12_shadesBy_69 rfl (lv_at hl 1 rfl) ?_
            refine lv_isub hx hb dX12_shadesBy_70 ?_
            subst hf
            exact hR _ _ _ _ _ _ hw rfl ⟨rfl, rfl⟩ dX12_shadesBy_71
theorem dX12_slipsBy_0 : decode cX12_slipsBy 0 = .ok (.iload_n 1, 1) := by decide +kernel
theorem dX12_slipsBy_1 : decode cX12_slipsBy 1 = .ok (.iconst 1, 1) := by decide +kernel
theorem dX12_slipsBy_2 : decode cX12_slipsBy 2 = .ok (.iadd, 1) := by decide +kernel
theorem dX12_slipsBy_3 : decode cX12_slipsBy 3 = .ok (.iload_n 2, 1) := by decide +kernel
theorem dX12_slipsBy_4 : decode cX12_slipsBy 4 = .ok (.if_icmp .le 11, 3) := by decide +kernel
theorem dX12_slipsBy_7 : decode cX12_slipsBy 7 = .ok (.iload_n 1, 1) := by decide +kernel
theorem dX12_slipsBy_8 : decode cX12_slipsBy 8 = .ok (.iconst 1, 1) := by decide +kernel
theorem dX12_slipsBy_9 : decode cX12_slipsBy 9 = .ok (.iadd, 1) := by decide +kernel
theorem dX12_slipsBy_10 : decode cX12_slipsBy 10 = .ok (.iload_n 2, 1) := by decide +kernel
theorem dX12_slipsBy_11 : decode cX12_slipsBy 11 = .ok (.isub, 1) := by decide +kernel
theorem dX12_slipsBy_12 : decode cX12_slipsBy 12 = .ok (.goto 4, 3) := by decide +kernel
theorem dX12_slipsBy_15 : decode cX12_slipsBy 15 = .ok (.iconst 0, 1) := by decide +kernel
theorem dX12_slipsBy_16 : decode cX12_slipsBy 16 = .ok (.istore_n 3, 1) := by decide +kernel
theorem dX12_slipsBy_17 : decode cX12_slipsBy 17 = .ok (.iload_n 3, 1) := by decide +kernel
theorem dX12_slipsBy_18 : decode cX12_slipsBy 18 = .ok (.iconst 2, 1) := by decide +kernel
theorem dX12_slipsBy_19 : decode cX12_slipsBy 19 = .ok (.idiv, 1) := by decide +kernel
theorem dX12_slipsBy_20 : decode cX12_slipsBy 20 = .ok (.istore 4, 2) := by decide +kernel
theorem dX12_slipsBy_22 : decode cX12_slipsBy 22 = .ok (.iload_n 3, 1) := by decide +kernel
theorem dX12_slipsBy_23 : decode cX12_slipsBy 23 = .ok (.iload_n 1, 1) := by decide +kernel
theorem dX12_slipsBy_24 : decode cX12_slipsBy 24 = .ok (.iadd, 1) := by decide +kernel
theorem dX12_slipsBy_25 : decode cX12_slipsBy 25 = .ok (.istore 5, 2) := by decide +kernel
theorem dX12_slipsBy_27 : decode cX12_slipsBy 27 = .ok (.iload_n 0, 1) := by decide +kernel
theorem dX12_slipsBy_28 : decode cX12_slipsBy 28 = .ok (.tableswitch 73 1 5 #[36, 38, 41, 55, 58], 36) := by decide +kernel
theorem dX12_slipsBy_64 : decode cX12_slipsBy 64 = .ok (.iconst 0, 1) := by decide +kernel
theorem dX12_slipsBy_65 : decode cX12_slipsBy 65 = .ok (.ireturn, 1) := by decide +kernel
theorem dX12_slipsBy_66 : decode cX12_slipsBy 66 = .ok (.iload 4, 2) := by decide +kernel
theorem dX12_slipsBy_68 : decode cX12_slipsBy 68 = .ok (.ireturn, 1) := by decide +kernel
theorem dX12_slipsBy_69 : decode cX12_slipsBy 69 = .ok (.iload 4, 2) := by decide +kernel
theorem dX12_slipsBy_71 : decode cX12_slipsBy 71 = .ok (.ifCond .le 10, 3) := by decide +kernel
theorem dX12_slipsBy_74 : decode cX12_slipsBy 74 = .ok (.iload 4, 2) := by decide +kernel
theorem dX12_slipsBy_76 : decode cX12_slipsBy 76 = .ok (.iconst 1, 1) := by decide +kernel
theorem dX12_slipsBy_77 : decode cX12_slipsBy 77 = .ok (.isub, 1) := by decide +kernel
theorem dX12_slipsBy_78 : decode cX12_slipsBy 78 = .ok (.goto 4, 3) := by decide +kernel
theorem dX12_slipsBy_81 : decode cX12_slipsBy 81 = .ok (.iconst 0, 1) := by decide +kernel
theorem dX12_slipsBy_82 : decode cX12_slipsBy 82 = .ok (.ireturn, 1) := by decide +kernel
theorem dX12_slipsBy_83 : decode cX12_slipsBy 83 = .ok (.iload 5, 2) := by decide +kernel
theorem dX12_slipsBy_85 : decode cX12_slipsBy 85 = .ok (.ireturn, 1) := by decide +kernel
theorem dX12_slipsBy_86 : decode cX12_slipsBy 86 = .ok (.iload 5, 2) := by decide +kernel
theorem dX12_slipsBy_88 : decode cX12_slipsBy 88 = .ok (.bipush 9, 2) := by decide +kernel
theorem dX12_slipsBy_90 : decode cX12_slipsBy 90 = .ok (.if_icmp .le 8, 3) := by decide +kernel
theorem dX12_slipsBy_93 : decode cX12_slipsBy 93 = .ok (.bipush 9, 2) := by decide +kernel
theorem dX12_slipsBy_95 : decode cX12_slipsBy 95 = .ok (.goto 5, 3) := by decide +kernel
theorem dX12_slipsBy_98 : decode cX12_slipsBy 98 = .ok (.iload 5, 2) := by decide +kernel
theorem dX12_slipsBy_100 : decode cX12_slipsBy 100 = .ok (.ireturn, 1) := by decide +kernel
theorem dX12_slipsBy_101 : decode cX12_slipsBy 101 = .ok (.iload_n 3, 1) := by decide +kernel
theorem dX12_slipsBy_102 : decode cX12_slipsBy 102 = .ok (.ireturn, 1) := by decide +kernel
theorem k_X12_slipsBy : MS yX12_slipsBy cX12_slipsBy 6 (some .int) 3 := ⟨q_1324, q_14, q_1325, ⟨by decide, by decide, by decide +kernel⟩⟩
theorem c_X12_slipsBy {res : Int32} (hf : X12_slipsBy v0 v1 v2 = res) : MC l E0 D t yX12_slipsBy cX12_slipsBy 6 (some .int) 1 0 0 [.int v0, .int v1, .int v2] (mW a t x_s x_kept x_laid x_isKept x_pile x_tape x_taped x_letters x_at x_begun x_token x_value x_opened x_steps x_code0 x_read x_saved x_plan x_bestPlan x_most x_many x_few x_everRight x_lagThen x_shadedThen x_firstFit x_rows x_rowMany x_sorts x_sizes x_number x_holds x_heldOne x_trace x_traced x_own x_isParted) (Qi res (mW a t x_s x_kept x_laid x_isKept x_pile x_tape x_taped x_letters x_at x_begun x_token x_value x_opened x_steps x_code0 x_read x_saved x_plan x_bestPlan x_most x_many x_few x_everRight x_lagThen x_shadedThen x_firstFit x_rows x_rowMany x_sorts x_sizes x_number x_holds x_heldOne x_trace x_traced x_own x_isParted)) := by
  unfold X12_slipsBy at hf
  refine MC.ofI pn_X12 (Nat.le_of_ble_eq_true rfl) ?_
  intro p e s m args below meth c A Q ls cx hR hw hl
  have hx := cx.1
  have hb := cx.2.1
  have hl : lv_has ls 6 [(0, .int v0), (1, .int v1), (2, .int v2)] := hl
  refine lv_iload_n hx hb dX12_slipsBy_0 rfl (lv_at hl 1 rfl) ?_
  refine lv_iconst (v := 1) hx hb dX12_slipsBy_1 (by decide) ?_
  refine lv_iadd hx hb dX12_slipsBy_2 ?_
  refine lv_iload_n hx hb dX12_slipsBy_3 rfl (lv_at hl 2 rfl) ?_
  obtain ⟨j1, hj1, hf⟩ := pbS hf
  have wj1 : ∀ (H : Heap) (locs : List Loc) (ls : Array Slot), Wd D A s (mW a t x_s x_kept x_laid x_isKept x_pile x_tape x_taped x_letters x_at x_begun x_token x_value x_opened x_steps x_code0 x_read x_saved x_plan x_bestPlan x_most x_many x_few x_everRight x_lagThen x_shadedThen x_firstFit x_rows x_rowMany x_sorts x_sizes x_number x_holds x_heldOne x_trace x_traced x_own x_isParted) H locs → lv_has ls 6 [(0, .int v0), (1, .int v1), (2, .int v2)] → W p l e (rmz 1 0 0) s m args below meth c H locs 0 0 Q (F0 m 16 ls [.int j1]) := by
    intro H locs ls hw hl
    refine lv_istore_n (lv' := [(3, .int j1), (0, .int v0), (1, .int v1), (2, .int v2)]) hx hb dX12_slipsBy_16 rfl hl (by decide) rfl (fun ls hl => ?_)
    refine lv_iload_n hx hb dX12_slipsBy_17 rfl (lv_at hl 0 rfl) ?_
    refine lv_iconst (v := 2) hx hb dX12_slipsBy_18 (by decide) ?_
    refine lv_idiv hx hb dX12_slipsBy_19 (by decide) ?_
    refine lv_istore (lv' := [(4, .int (j1 / (2 : Int32))), (3, .int j1), (0, .int v0), (1, .int v1), (2, .int v2)]) hx hb dX12_slipsBy_20 hl (by decide) rfl (fun ls hl => ?_)
    refine lv_iload_n hx hb dX12_slipsBy_22 rfl (lv_at hl 1 rfl) ?_
    refine lv_iload_n hx hb dX12_slipsBy_23 rfl (lv_at hl 3 rfl) ?_
    refine lv_iadd hx hb dX12_slipsBy_24 ?_
    refine lv_istore (lv' := [(5, .int (j1 + v1)), (4, .int (j1 / (2 : Int32))), (3, .int j1), (0, .int v0), (1, .int v1), (2, .int v2)]) hx hb dX12_slipsBy_25 hl (by decide) rfl (fun ls hl => ?_)
    refine lv_iload_n hx hb dX12_slipsBy_27 rfl (lv_at hl 3 rfl) ?_
    by_cases hc1 : v0 = (1 : Int32)
    · have hf := ifT hf hc1
      refine lv_tableIn (tgt := 64) hx hb dX12_slipsBy_28 (by rw [hc1]; decide) (by rw [hc1]; decide) (by rw [hc1]; rfl) (by decide) ?_
      refine lv_iconst (v := 0) hx hb dX12_slipsBy_64 (by decide) ?_
      subst hf
      exact hR _ _ _ _ _ _ hw rfl ⟨rfl, rfl⟩ dX12_slipsBy_65
    · have hf := ifF hf hc1
      by_cases hc2 : v0 = (2 : Int32)
      · have hf := ifT hf hc2
        refine lv_tableIn (tgt := 66) hx hb dX12_slipsBy_28 (by rw [hc2]; decide) (by rw [hc2]; decide) (by rw [hc2]; rfl) (by decide) ?_
        refine lv_iload hx hb dX12_slipsBy_66 (lv_at hl 1 rfl) ?_
        subst hf
        exact hR _ _ _ _ _ _ hw rfl ⟨rfl, rfl⟩ dX12_slipsBy_68
      · have hf := ifF hf hc2
        by_cases hc3 : v0 = (3 : Int32)
        · have hf := ifT hf hc3
          refine lv_tableIn (tgt := 69) hx hb dX12_slipsBy_28 (by rw [hc3]; decide) (by rw [hc3]; decide) (by rw [hc3]; rfl) (by decide) ?_
          refine lv_iload hx hb dX12_slipsBy_69 (lv_at hl 1 rfl) ?_
          refine lv_if_le (tgt := 81) hx hb dX12_slipsBy_71 (by decide) (fun hc => ?_) (fun hc => ?_)
          · have hf := ifT hf hc
            refine lv_iconst (v := 0) hx hb dX12_slipsBy_81 (by decide) ?_
            subst hf
            exact hR _ _ _ _ _ _ hw rfl ⟨rfl, rfl⟩ dX12_slipsBy_82
          · have hf := ifF hf hc
            refine lv_iload hx hb dX12_slipsBy_74 (lv_at hl 1 rfl) ?_
            refine lv_iconst (v := 1) hx hb dX12_slipsBy_76 (by decide) ?_
            refine lv_isub hx hb dX12_slipsBy_77 ?_
            refine lv_goto (tgt := 82) hx hb dX12_slipsBy_78 (by decide) ?_
            subst hf
            exact hR _ _ _ _ _ _ hw rfl ⟨rfl, rfl⟩ dX12_slipsBy_82
        · have hf := ifF hf hc3
          by_cases hc4 : v0 = (4 : Int32)
          · have hf := ifT hf hc4
            refine lv_tableIn (tgt := 83) hx hb dX12_slipsBy_28 (by rw [hc4]; decide) (by rw [hc4]; decide) (by rw [hc4]; rfl) (by decide) ?_
            refine lv_iload hx hb dX12_slipsBy_83 (lv_at hl 0 rfl) ?_
            subst hf
            exact hR _ _ _ _ _ _ hw rfl ⟨rfl, rfl⟩ dX12_slipsBy_85
          · have hf := ifF hf hc4
            by_cases hc5 : v0 = (5 : Int32)
            · have hf := ifT hf hc5
              refine lv_tableIn (tgt := 86) hx hb dX12_slipsBy_28 (by rw [hc5]; decide) (by rw [hc5]; decide) (by rw [hc5]; rfl) (by decide) ?_
              refine lv_iload hx hb dX12_slipsBy_86 (lv_at hl 0 rfl) ?_
              refine lv_bipush (v := 9) hx hb dX12_slipsBy_88 (by decide) ?_
              refine lv_icmp_le (tgt := 98) hx hb dX12_slipsBy_90 (by decide) (fun hc => ?_) (fun hc => ?_)
              · have hf := ifT hf hc
                refine lv_iload hx hb dX12_slipsBy_98 (lv_at hl 0 rfl) ?_
                subst hf
                exact hR _ _ _ _ _ _ hw rfl ⟨rfl, rfl⟩ dX12_slipsBy_100
              · have hf := ifF hf hc
                refine lv_bipush (v := 9) hx hb dX12_slipsBy_93 (by decide) ?_
                refine lv_goto (tgt := 100) hx hb dX12_slipsBy_95 (by decide) ?_
                subst hf
                exact hR _ _ _ _ _ _ hw rfl ⟨rfl, rfl⟩ dX12_slipsBy_100
            · have hf := ifF hf hc5
              refine lv_tableOut (tgt := 101) hx hb dX12_slipsBy_28 (by have h1 := lv_neT hc1 (a := 1) (by decide); have h2 := lv_neT hc2 (a := 2) (by decide); have h3 := lv_neT hc3 (a := 3) (by decide); have h4 := lv_neT hc4 (a := 4) (by decide); have h5 := lv_neT hc5 (a := 5) (by decide); omega) (by decide) ?_
              refine lv_iload_n hx hb dX12_slipsBy_101 rfl (lv_at hl 2 rfl) ?_
              subst hf
              exact hR _ _ _ _ _ _ hw rfl ⟨rfl, rfl⟩ dX12_slipsBy_102
  clear hf
  have hf := hj1
  clear hj1
  refine lv_icmp_le (tgt := 15) hx hb dX12_slipsBy_4 (by decide) (fun hc => ?_) (fun hc => ?_)
  · have hf := ifT hf hc
    refine lv_iconst (v := 0) hx hb dX12_slipsBy_15 (by decide) ?_
    subst hf
    exact wj1 _ _ _ hw (lv_sub hl [0, 1, 2] rfl)
  · have hf := ifF hf hc
    refine lv_iload_n hx hb dX12_slipsBy_7 rfl (lv_at hl 1 rfl) ?_
    refine lv_iconst (v := 1) hx hb dX12_slipsBy_8 (by decide) ?_
    refine lv_iadd hx hb dX12_slipsBy_9 ?_
    refine lv_iload_n hx hb dX12_slipsBy_10 rfl (lv_at hl 2 rfl) ?_
    refine lv_isub hx hb dX12_slipsBy_11 ?_
    refine lv_goto (tgt := 16) hx hb dX12_slipsBy_12 (by decide) ?_
    subst hf
    exact wj1 _ _ _ hw (lv_sub hl [0, 1, 2] rfl)
theorem dX12_skyNow_0 : decode cX12_skyNow 0 = .ok (.aload_n 0, 1) := by decide +kernel
theorem dX12_skyNow_1 : decode cX12_skyNow 1 = .ok (.getfield 9, 3) := by decide +kernel
theorem dX12_skyNow_4 : decode cX12_skyNow 4 = .ok (.iconst 0, 1) := by decide +kernel
theorem dX12_skyNow_5 : decode cX12_skyNow 5 = .ok (.iaload, 1) := by decide +kernel
theorem dX12_skyNow_6 : decode cX12_skyNow 6 = .ok (.bipush 16, 2) := by decide +kernel
theorem dX12_skyNow_8 : decode cX12_skyNow 8 = .ok (.if_icmp .ge 20, 3) := by decide +kernel
theorem dX12_skyNow_11 : decode cX12_skyNow 11 = .ok (.aload_n 0, 1) := by decide +kernel
theorem dX12_skyNow_12 : decode cX12_skyNow 12 = .ok (.getfield 9, 3) := by decide +kernel
theorem dX12_skyNow_15 : decode cX12_skyNow 15 = .ok (.bipush 7, 2) := by decide +kernel
theorem dX12_skyNow_17 : decode cX12_skyNow 17 = .ok (.aload_n 0, 1) := by decide +kernel
theorem dX12_skyNow_18 : decode cX12_skyNow 18 = .ok (.getfield 9, 3) := by decide +kernel
theorem dX12_skyNow_21 : decode cX12_skyNow 21 = .ok (.iconst 0, 1) := by decide +kernel
theorem dX12_skyNow_22 : decode cX12_skyNow 22 = .ok (.iaload, 1) := by decide +kernel
theorem dX12_skyNow_23 : decode cX12_skyNow 23 = .ok (.iadd, 1) := by decide +kernel
theorem dX12_skyNow_24 : decode cX12_skyNow 24 = .ok (.iaload, 1) := by decide +kernel
theorem dX12_skyNow_25 : decode cX12_skyNow 25 = .ok (.goto 4, 3) := by decide +kernel
theorem dX12_skyNow_28 : decode cX12_skyNow 28 = .ok (.iconst 0, 1) := by decide +kernel
theorem dX12_skyNow_29 : decode cX12_skyNow 29 = .ok (.ireturn, 1) := by decide +kernel
theorem k_X12_skyNow : MV yX12_skyNow cX12_skyNow 1 (some .int) 0 := ⟨q_1310, qs_48, q_14, q_1311, ⟨by decide, by decide, by decide +kernel⟩⟩
theorem c_X12_skyNow {res : Int32} (hf : X12_skyNow x_s = some res) : MC l E0 D t yX12_skyNow cX12_skyNow 1 (some .int) 1 0 0 [.ref (a 0)] (mW a t x_s x_kept x_laid x_isKept x_pile x_tape x_taped x_letters x_at x_begun x_token x_value x_opened x_steps x_code0 x_read x_saved x_plan x_bestPlan x_most x_many x_few x_everRight x_lagThen x_shadedThen x_firstFit x_rows x_rowMany x_sorts x_sizes x_number x_holds x_heldOne x_trace x_traced x_own x_isParted) (Qi res (mW a t x_s x_kept x_laid x_isKept x_pile x_tape x_taped x_letters x_at x_begun x_token x_value x_opened x_steps x_code0 x_read x_saved x_plan x_bestPlan x_most x_many x_few x_everRight x_lagThen x_shadedThen x_firstFit x_rows x_rowMany x_sorts x_sizes x_number x_holds x_heldOne x_trace x_traced x_own x_isParted)) := by
  unfold X12_skyNow at hf
  refine MC.ofI pn_X12 (Nat.le_of_ble_eq_true rfl) ?_
  intro p e s m args below meth c A Q ls cx hR hw hl
  have hx := cx.1
  have hb := cx.2.1
  have hl : lv_has ls 1 [(0, .ref (a 0))] := hl
  refine lv_aload_n hx hb dX12_skyNow_0 rfl (lv_at hl 0 rfl) ?_
  refine mg_s cx hw dX12_skyNow_1 ?_
  refine lv_iconst (v := 0) hx hb dX12_skyNow_4 (by decide) ?_
  refine ml_s (j := 0) cx hw (ib_in (by decide)) (by decide) dX12_skyNow_5 ?_
  refine lv_bipush (v := 16) hx hb dX12_skyNow_6 (by decide) ?_
  refine lv_icmp_ge (tgt := 28) hx hb dX12_skyNow_8 (by decide) (fun hc => ?_) (fun hc => ?_)
  · have hf := ifT hf hc
    refine lv_iconst (v := 0) hx hb dX12_skyNow_28 (by decide) ?_
    have hf := Option.some.inj hf
    subst hf
    exact hR _ _ _ _ _ _ hw rfl ⟨rfl, rfl⟩ dX12_skyNow_29
  · have hf := ifF hf hc
    refine lv_aload_n hx hb dX12_skyNow_11 rfl (lv_at hl 0 rfl) ?_
    refine mg_s cx hw dX12_skyNow_12 ?_
    refine lv_bipush (v := 7) hx hb dX12_skyNow_15 (by decide) ?_
    refine lv_aload_n hx hb dX12_skyNow_17 rfl (lv_at hl 0 rfl) ?_
    refine mg_s cx hw dX12_skyNow_18 ?_
    refine lv_iconst (v := 0) hx hb dX12_skyNow_21 (by decide) ?_
    refine ml_s (j := 0) cx hw (ib_in (by decide)) (by decide) dX12_skyNow_22 ?_
    refine lv_iadd hx hb dX12_skyNow_23 ?_
    obtain ⟨h1, hf⟩ := ckS hf
    refine ml_s (j := ((7 : Int32) + (x_s 0)).toNatClampNeg) cx hw (ib_in h1) rfl dX12_skyNow_24 ?_
    refine lv_goto (tgt := 29) hx hb dX12_skyNow_25 (by decide) ?_
    have hf := Option.some.inj hf
    subst hf
    exact hR _ _ _ _ _ _ hw rfl ⟨rfl, rfl⟩ dX12_skyNow_29
theorem dX12_shadesOf_0 : decode cX12_shadesOf 0 = .ok (.aload_n 0, 1) := by decide +kernel
theorem dX12_shadesOf_1 : decode cX12_shadesOf 1 = .ok (.iload_n 1, 1) := by decide +kernel
theorem dX12_shadesOf_2 : decode cX12_shadesOf 2 = .ok (.iconst 0, 1) := by decide +kernel
theorem dX12_shadesOf_3 : decode cX12_shadesOf 3 = .ok (.invokevirtual 79, 3) := by decide +kernel
theorem dX12_shadesOf_6 : decode cX12_shadesOf 6 = .ok (.aload_n 0, 1) := by decide +kernel
theorem dX12_shadesOf_7 : decode cX12_shadesOf 7 = .ok (.invokevirtual 83, 3) := by decide +kernel
theorem dX12_shadesOf_10 : decode cX12_shadesOf 10 = .ok (.iconst 4, 1) := by decide +kernel
theorem dX12_shadesOf_11 : decode cX12_shadesOf 11 = .ok (.idiv, 1) := by decide +kernel
theorem dX12_shadesOf_12 : decode cX12_shadesOf 12 = .ok (.aload_n 0, 1) := by decide +kernel
theorem dX12_shadesOf_13 : decode cX12_shadesOf 13 = .ok (.getfield 9, 3) := by decide +kernel
theorem dX12_shadesOf_16 : decode cX12_shadesOf 16 = .ok (.iconst 0, 1) := by decide +kernel
theorem dX12_shadesOf_17 : decode cX12_shadesOf 17 = .ok (.iaload, 1) := by decide +kernel
theorem dX12_shadesOf_18 : decode cX12_shadesOf 18 = .ok (.invokestatic 87, 3) := by decide +kernel
theorem dX12_shadesOf_21 : decode cX12_shadesOf 21 = .ok (.ireturn, 1) := by decide +kernel
theorem k_X12_shadesOf : MV yX12_shadesOf cX12_shadesOf 2 (some .int) 1 := ⟨q_1302, qs_46, q_14, q_1303, ⟨by decide, by decide, by decide +kernel⟩⟩
theorem c_X12_shadesOf {res : Int32} (hf : X12_shadesOf x_s v1 = some res) : MC l E0 D t yX12_shadesOf cX12_shadesOf 2 (some .int) 2 0 0 [.ref (a 0), .int v1] (mW a t x_s x_kept x_laid x_isKept x_pile x_tape x_taped x_letters x_at x_begun x_token x_value x_opened x_steps x_code0 x_read x_saved x_plan x_bestPlan x_most x_many x_few x_everRight x_lagThen x_shadedThen x_firstFit x_rows x_rowMany x_sorts x_sizes x_number x_holds x_heldOne x_trace x_traced x_own x_isParted) (Qi res (mW a t x_s x_kept x_laid x_isKept x_pile x_tape x_taped x_letters x_at x_begun x_token x_value x_opened x_steps x_code0 x_read x_saved x_plan x_bestPlan x_most x_many x_few x_everRight x_lagThen x_shadedThen x_firstFit x_rows x_rowMany x_sorts x_sizes x_number x_holds x_heldOne x_trace x_traced x_own x_isParted)) := by
  unfold X12_shadesOf at hf
  refine MC.ofI pn_X12 (Nat.le_of_ble_eq_true rfl) ?_
  intro p e s m args below meth c A Q ls cx hR hw hl
  have hx := cx.1
  have hb := cx.2.1
  have hl : lv_has ls 2 [(0, .ref (a 0)), (1, .int v1)] := hl
  refine lv_aload_n hx hb dX12_shadesOf_0 rfl (lv_at hl 0 rfl) ?_
  refine lv_iload_n hx hb dX12_shadesOf_1 rfl (lv_at hl 1 rfl) ?_
  refine lv_iconst (v := 0) hx hb dX12_shadesOf_2 (by decide) ?_
  obtain ⟨r1, h2, hf⟩ := bnS hf
  refine calVi (k := 0) cx hw hl.1 (c_X12_get h2) q_1304 k_X12_get rfl rfl rfl dX12_shadesOf_3 rfl (Nat.le_of_ble_eq_true rfl) ⟨Nat.le_of_ble_eq_true rfl, Nat.le_of_ble_eq_true rfl⟩ ⟨Nat.le_refl _, Nat.le_refl _⟩ (fun H locs hw => ?_)
  refine lv_aload_n hx hb dX12_shadesOf_6 rfl (lv_at hl 0 rfl) ?_
  obtain ⟨r3, h4, hf⟩ := bnS hf
  refine calVi (k := 0) cx hw hl.1 (c_X12_skyNow h4) q_1308 k_X12_skyNow rfl rfl rfl dX12_shadesOf_7 rfl (Nat.le_of_ble_eq_true rfl) ⟨Nat.le_of_ble_eq_true rfl, Nat.le_of_ble_eq_true rfl⟩ ⟨Nat.le_refl _, Nat.le_refl _⟩ (fun H locs hw => ?_)
  refine lv_iconst (v := 4) hx hb dX12_shadesOf_10 (by decide) ?_
  refine lv_idiv hx hb dX12_shadesOf_11 (by decide) ?_
  refine lv_aload_n hx hb dX12_shadesOf_12 rfl (lv_at hl 0 rfl) ?_
  refine mg_s cx hw dX12_shadesOf_13 ?_
  refine lv_iconst (v := 0) hx hb dX12_shadesOf_16 (by decide) ?_
  refine ml_s (j := 0) cx hw (ib_in (by decide)) (by decide) dX12_shadesOf_17 ?_
  refine calSi cx hw hl.1 (c_X12_shadesBy rfl) q_1312 k_X12_shadesBy rfl dX12_shadesOf_18 rfl (Nat.le_of_ble_eq_true rfl) ⟨Nat.le_of_ble_eq_true rfl, Nat.le_of_ble_eq_true rfl⟩ ⟨Nat.le_refl _, Nat.le_refl _⟩ (fun H locs hw => ?_)
  have hf := Option.some.inj hf
  subst hf
  exact hR _ _ _ _ _ _ hw rfl ⟨rfl, rfl⟩ dX12_shadesOf_21
theorem dX12_shadeAt_0 : decode cX12_shadeAt 0 = .ok (.aload_n 0, 1) := by decide +kernel
theorem dX12_shadeAt_1 : decode cX12_shadeAt 1 = .ok (.getfield 9, 3) := by decide +kernel
theorem dX12_shadeAt_4 : decode cX12_shadeAt 4 = .ok (.bipush 23, 2) := by decide +kernel
theorem dX12_shadeAt_6 : decode cX12_shadeAt 6 = .ok (.iload_n 1, 1) := by decide +kernel
theorem dX12_shadeAt_7 : decode cX12_shadeAt 7 = .ok (.iadd, 1) := by decide +kernel
theorem dX12_shadeAt_8 : decode cX12_shadeAt 8 = .ok (.iaload, 1) := by decide +kernel
theorem dX12_shadeAt_9 : decode cX12_shadeAt 9 = .ok (.istore_n 2, 1) := by decide +kernel
theorem dX12_shadeAt_10 : decode cX12_shadeAt 10 = .ok (.iconst 0, 1) := by decide +kernel
theorem dX12_shadeAt_11 : decode cX12_shadeAt 11 = .ok (.istore_n 3, 1) := by decide +kernel
theorem dX12_shadeAt_12 : decode cX12_shadeAt 12 = .ok (.iload_n 3, 1) := by decide +kernel
theorem dX12_shadeAt_13 : decode cX12_shadeAt 13 = .ok (.aload_n 0, 1) := by decide +kernel
theorem dX12_shadeAt_14 : decode cX12_shadeAt 14 = .ok (.getfield 9, 3) := by decide +kernel
theorem dX12_shadeAt_17 : decode cX12_shadeAt 17 = .ok (.iconst 4, 1) := by decide +kernel
theorem dX12_shadeAt_18 : decode cX12_shadeAt 18 = .ok (.iaload, 1) := by decide +kernel
theorem dX12_shadeAt_19 : decode cX12_shadeAt 19 = .ok (.if_icmp .ge 33, 3) := by decide +kernel
theorem dX12_shadeAt_22 : decode cX12_shadeAt 22 = .ok (.iload_n 2, 1) := by decide +kernel
theorem dX12_shadeAt_23 : decode cX12_shadeAt 23 = .ok (.aload_n 0, 1) := by decide +kernel
theorem dX12_shadeAt_24 : decode cX12_shadeAt 24 = .ok (.iload_n 3, 1) := by decide +kernel
theorem dX12_shadeAt_25 : decode cX12_shadeAt 25 = .ok (.iconst 3, 1) := by decide +kernel
theorem dX12_shadeAt_26 : decode cX12_shadeAt 26 = .ok (.invokevirtual 79, 3) := by decide +kernel
theorem dX12_shadeAt_29 : decode cX12_shadeAt 29 = .ok (.iload_n 1, 1) := by decide +kernel
theorem dX12_shadeAt_30 : decode cX12_shadeAt 30 = .ok (.iconst 1, 1) := by decide +kernel
theorem dX12_shadeAt_31 : decode cX12_shadeAt 31 = .ok (.isub, 1) := by decide +kernel
theorem dX12_shadeAt_32 : decode cX12_shadeAt 32 = .ok (.if_icmp .ne 11, 3) := by decide +kernel
theorem dX12_shadeAt_35 : decode cX12_shadeAt 35 = .ok (.aload_n 0, 1) := by decide +kernel
theorem dX12_shadeAt_36 : decode cX12_shadeAt 36 = .ok (.iload_n 3, 1) := by decide +kernel
theorem dX12_shadeAt_37 : decode cX12_shadeAt 37 = .ok (.invokevirtual 91, 3) := by decide +kernel
theorem dX12_shadeAt_40 : decode cX12_shadeAt 40 = .ok (.goto 4, 3) := by decide +kernel
theorem dX12_shadeAt_43 : decode cX12_shadeAt 43 = .ok (.iconst 0, 1) := by decide +kernel
theorem dX12_shadeAt_44 : decode cX12_shadeAt 44 = .ok (.iadd, 1) := by decide +kernel
theorem dX12_shadeAt_45 : decode cX12_shadeAt 45 = .ok (.istore_n 2, 1) := by decide +kernel
theorem dX12_shadeAt_46 : decode cX12_shadeAt 46 = .ok (.iinc 3 1, 3) := by decide +kernel
theorem dX12_shadeAt_49 : decode cX12_shadeAt 49 = .ok (.goto (-37), 3) := by decide +kernel
theorem dX12_shadeAt_52 : decode cX12_shadeAt 52 = .ok (.iload_n 2, 1) := by decide +kernel
theorem dX12_shadeAt_53 : decode cX12_shadeAt 53 = .ok (.ireturn, 1) := by decide +kernel
theorem k_X12_shadeAt : MV yX12_shadeAt cX12_shadeAt 4 (some .int) 1 := ⟨q_1321, qs_50, q_14, q_1322, ⟨by decide, by decide, by decide +kernel⟩⟩
theorem c_X12_shadeAt {res : Int32} (hf : X12_shadeAt n x_s v1 = some res) : MC l E0 D t yX12_shadeAt cX12_shadeAt 4 (some .int) 3 0 0 [.ref (a 0), .int v1] (mW a t x_s x_kept x_laid x_isKept x_pile x_tape x_taped x_letters x_at x_begun x_token x_value x_opened x_steps x_code0 x_read x_saved x_plan x_bestPlan x_most x_many x_few x_everRight x_lagThen x_shadedThen x_firstFit x_rows x_rowMany x_sorts x_sizes x_number x_holds x_heldOne x_trace x_traced x_own x_isParted) (Qi res (mW a t x_s x_kept x_laid x_isKept x_pile x_tape x_taped x_letters x_at x_begun x_token x_value x_opened x_steps x_code0 x_read x_saved x_plan x_bestPlan x_most x_many x_few x_everRight x_lagThen x_shadedThen x_firstFit x_rows x_rowMany x_sorts x_sizes x_number x_holds x_heldOne x_trace x_traced x_own x_isParted)) := by
  unfold X12_shadeAt at hf
  refine MC.ofI pn_X12 (Nat.le_of_ble_eq_true rfl) ?_
  intro p e s m args below meth c A Q ls cx hR hw hl
  have hx := cx.1
  have hb := cx.2.1
  have hl : lv_has ls 4 [(0, .ref (a 0)), (1, .int v1)] := hl
  refine lv_aload_n hx hb dX12_shadeAt_0 rfl (lv_at hl 0 rfl) ?_
  refine mg_s cx hw dX12_shadeAt_1 ?_
  refine lv_bipush (v := 23) hx hb dX12_shadeAt_4 (by decide) ?_
  refine lv_iload_n hx hb dX12_shadeAt_6 rfl (lv_at hl 1 rfl) ?_
  refine lv_iadd hx hb dX12_shadeAt_7 ?_
  obtain ⟨h1, hf⟩ := ckS hf
  refine ml_s (j := ((23 : Int32) + v1).toNatClampNeg) cx hw (ib_in h1) rfl dX12_shadeAt_8 ?_
  refine lv_istore_n (lv' := [(2, .int (x_s (((23 : Int32) + v1).toNatClampNeg))), (0, .ref (a 0)), (1, .int v1)]) hx hb dX12_shadeAt_9 rfl hl (by decide) rfl (fun ls hl => ?_)
  refine lv_iconst (v := 0) hx hb dX12_shadeAt_10 (by decide) ?_
  refine lv_istore_n (lv' := [(3, .int (0 : Int32)), (2, .int (x_s (((23 : Int32) + v1).toNatClampNeg))), (0, .ref (a 0)), (1, .int v1)]) hx hb dX12_shadeAt_11 rfl hl (by decide) rfl (fun ls hl => ?_)
  obtain ⟨o7, ho7, hf⟩ := bnS hf
  have wL1 : ∀ (k : Nat) {v1 : Int32} {v2 : Int32} {v3 : Int32} {H : Heap} {locs : List Loc} {ls : Array Slot} {o : Int32 × Int32}, X12_shadeAt_L1 n x_s v1 k v2 v3 = some o → Wd D A s (mW a t x_s x_kept x_laid x_isKept x_pile x_tape x_taped x_letters x_at x_begun x_token x_value x_opened x_steps x_code0 x_read x_saved x_plan x_bestPlan x_most x_many x_few x_everRight x_lagThen x_shadedThen x_firstFit x_rows x_rowMany x_sorts x_sizes x_number x_holds x_heldOne x_trace x_traced x_own x_isParted) H locs → lv_has ls 4 [(0, .ref (a 0)), (1, .int v1), (2, .int v2), (3, .int v3)] → (∀ (H : Heap) (locs : List Loc) (ls : Array Slot), Wd D A s (mW a t x_s x_kept x_laid x_isKept x_pile x_tape x_taped x_letters x_at x_begun x_token x_value x_opened x_steps x_code0 x_read x_saved x_plan x_bestPlan x_most x_many x_few x_everRight x_lagThen x_shadedThen x_firstFit x_rows x_rowMany x_sorts x_sizes x_number x_holds x_heldOne x_trace x_traced x_own x_isParted) H locs → lv_has ls 4 [(0, .ref (a 0)), (1, .int v1), (2, .int o.1), (3, .int o.2)] → W p l e (rmz 3 0 0) s m args below meth c H locs 0 0 Q (F0 m 52 ls [])) → W p l e (rmz 3 0 0) s m args below meth c H locs 0 0 Q (F0 m 12 ls []) := by
    clear hf ho7 hw hl
    intro k
    induction k with
    | zero => intro v1 v2 v3 H locs ls o hf hw hl kx; simp [X12_shadeAt_L1] at hf
    | succ k ih =>
      intro v1 v2 v3 H locs ls o hf hw hl kx
      rw [X12_shadeAt_L1] at hf
      refine lv_iload_n hx hb dX12_shadeAt_12 rfl (lv_at hl 3 rfl) ?_
      refine lv_aload_n hx hb dX12_shadeAt_13 rfl (lv_at hl 0 rfl) ?_
      refine mg_s cx hw dX12_shadeAt_14 ?_
      refine lv_iconst (v := 4) hx hb dX12_shadeAt_17 (by decide) ?_
      refine ml_s (j := 4) cx hw (ib_in (by decide)) (by decide) dX12_shadeAt_18 ?_
      refine lv_icmp_ge (tgt := 52) hx hb dX12_shadeAt_19 (by decide) (fun hc => ?_) (fun hc => ?_)
      · have hf := ifT hf hc
        have hf := Option.some.inj hf
        subst hf
        exact kx _ _ _ hw (lv_sub hl [0, 1, 2, 3] rfl)
      · have hf := ifF hf hc
        refine lv_iload_n hx hb dX12_shadeAt_22 rfl (lv_at hl 2 rfl) ?_
        refine lv_aload_n hx hb dX12_shadeAt_23 rfl (lv_at hl 0 rfl) ?_
        refine lv_iload_n hx hb dX12_shadeAt_24 rfl (lv_at hl 3 rfl) ?_
        refine lv_iconst (v := 3) hx hb dX12_shadeAt_25 (by decide) ?_
        obtain ⟨r2, h3, hf⟩ := bnS hf
        refine calVi (k := 0) cx hw hl.1 (c_X12_get h3) q_1304 k_X12_get rfl rfl rfl dX12_shadeAt_26 rfl (Nat.le_of_ble_eq_true rfl) ⟨Nat.le_of_ble_eq_true rfl, Nat.le_of_ble_eq_true rfl⟩ ⟨Nat.le_refl _, Nat.le_refl _⟩ (fun H locs hw => ?_)
        refine lv_iload_n hx hb dX12_shadeAt_29 rfl (lv_at hl 1 rfl) ?_
        refine lv_iconst (v := 1) hx hb dX12_shadeAt_30 (by decide) ?_
        refine lv_isub hx hb dX12_shadeAt_31 ?_
        obtain ⟨j6, hj6, hf⟩ := bnS hf
        have wj6 : ∀ (H : Heap) (locs : List Loc) (ls : Array Slot), Wd D A s (mW a t x_s x_kept x_laid x_isKept x_pile x_tape x_taped x_letters x_at x_begun x_token x_value x_opened x_steps x_code0 x_read x_saved x_plan x_bestPlan x_most x_many x_few x_everRight x_lagThen x_shadedThen x_firstFit x_rows x_rowMany x_sorts x_sizes x_number x_holds x_heldOne x_trace x_traced x_own x_isParted) H locs → lv_has ls 4 [(0, .ref (a 0)), (1, .int v1), (2, .int v2), (3, .int v3)] → W p l e (rmz 3 0 0) s m args below meth c H locs 0 0 Q (F0 m 44 ls [.int j6, .int v2]) := by
          intro H locs ls hw hl
          refine lv_iadd hx hb dX12_shadeAt_44 ?_
          refine lv_istore_n (lv' := [(2, .int (v2 + j6)), (0, .ref (a 0)), (1, .int v1), (3, .int v3)]) hx hb dX12_shadeAt_45 rfl hl (by decide) rfl (fun ls hl => ?_)
          refine lv_iinc (v := (v3 + (1 : Int32))) (lv' := [(3, .int (v3 + (1 : Int32))), (2, .int (v2 + j6)), (0, .ref (a 0)), (1, .int v1)]) hx hb dX12_shadeAt_46 hl (k := 3) rfl rfl (by decide) rfl (fun ls hl => ?_)
          refine lv_goto (tgt := 12) hx hb dX12_shadeAt_49 (by decide) ?_
          exact ih hf hw (lv_sub hl [2, 3, 1, 0] rfl) kx
        clear hf
        have hf := hj6
        clear hj6
        refine lv_icmp_ne (tgt := 43) hx hb dX12_shadeAt_32 (by decide) (fun hc => ?_) (fun hc => ?_)
        · have hf := ifF hf hc
          refine lv_iconst (v := 0) hx hb dX12_shadeAt_43 (by decide) ?_
          have hf := Option.some.inj hf
          subst hf
          exact wj6 _ _ _ hw (lv_sub hl [0, 1, 2, 3] rfl)
        · have hf := ifT hf hc
          refine lv_aload_n hx hb dX12_shadeAt_35 rfl (lv_at hl 0 rfl) ?_
          refine lv_iload_n hx hb dX12_shadeAt_36 rfl (lv_at hl 3 rfl) ?_
          obtain ⟨r4, h5, hf⟩ := bnS hf
          refine calVi (k := 0) cx hw hl.1 (c_X12_shadesOf h5) q_1300 k_X12_shadesOf rfl rfl rfl dX12_shadeAt_37 rfl (Nat.le_of_ble_eq_true rfl) ⟨Nat.le_of_ble_eq_true rfl, Nat.le_of_ble_eq_true rfl⟩ ⟨Nat.le_refl _, Nat.le_refl _⟩ (fun H locs hw => ?_)
          refine lv_goto (tgt := 44) hx hb dX12_shadeAt_40 (by decide) ?_
          have hf := Option.some.inj hf
          subst hf
          exact wj6 _ _ _ hw (lv_sub hl [0, 1, 2, 3] rfl)
  refine wL1 n ho7 hw (lv_sub hl [2, 3, 1, 0] rfl) (fun H locs ls hw hl => ?_)
  clear wL1 ho7
  refine lv_iload_n hx hb dX12_shadeAt_52 rfl (lv_at hl 2 rfl) ?_
  have hf := Option.some.inj hf
  subst hf
  exact hR _ _ _ _ _ _ hw rfl ⟨rfl, rfl⟩ dX12_shadeAt_53
theorem dX12_slipsOf_0 : decode cX12_slipsOf 0 = .ok (.aload_n 0, 1) := by decide +kernel
theorem dX12_slipsOf_1 : decode cX12_slipsOf 1 = .ok (.iload_n 1, 1) := by decide +kernel
theorem dX12_slipsOf_2 : decode cX12_slipsOf 2 = .ok (.iconst 0, 1) := by decide +kernel
theorem dX12_slipsOf_3 : decode cX12_slipsOf 3 = .ok (.invokevirtual 79, 3) := by decide +kernel
theorem dX12_slipsOf_6 : decode cX12_slipsOf 6 = .ok (.aload_n 0, 1) := by decide +kernel
theorem dX12_slipsOf_7 : decode cX12_slipsOf 7 = .ok (.aload_n 0, 1) := by decide +kernel
theorem dX12_slipsOf_8 : decode cX12_slipsOf 8 = .ok (.iload_n 1, 1) := by decide +kernel
theorem dX12_slipsOf_9 : decode cX12_slipsOf 9 = .ok (.iconst 3, 1) := by decide +kernel
theorem dX12_slipsOf_10 : decode cX12_slipsOf 10 = .ok (.invokevirtual 79, 3) := by decide +kernel
theorem dX12_slipsOf_13 : decode cX12_slipsOf 13 = .ok (.invokevirtual 94, 3) := by decide +kernel
theorem dX12_slipsOf_16 : decode cX12_slipsOf 16 = .ok (.aload_n 0, 1) := by decide +kernel
theorem dX12_slipsOf_17 : decode cX12_slipsOf 17 = .ok (.invokevirtual 83, 3) := by decide +kernel
theorem dX12_slipsOf_20 : decode cX12_slipsOf 20 = .ok (.iconst 4, 1) := by decide +kernel
theorem dX12_slipsOf_21 : decode cX12_slipsOf 21 = .ok (.irem, 1) := by decide +kernel
theorem dX12_slipsOf_22 : decode cX12_slipsOf 22 = .ok (.invokestatic 97, 3) := by decide +kernel
theorem dX12_slipsOf_25 : decode cX12_slipsOf 25 = .ok (.ireturn, 1) := by decide +kernel
theorem k_X12_slipsOf : MV yX12_slipsOf cX12_slipsOf 2 (some .int) 1 := ⟨q_1317, qs_49, q_14, q_1318, ⟨by decide, by decide, by decide +kernel⟩⟩
theorem c_X12_slipsOf {res : Int32} (hf : X12_slipsOf n x_s v1 = some res) : MC l E0 D t yX12_slipsOf cX12_slipsOf 2 (some .int) 4 0 0 [.ref (a 0), .int v1] (mW a t x_s x_kept x_laid x_isKept x_pile x_tape x_taped x_letters x_at x_begun x_token x_value x_opened x_steps x_code0 x_read x_saved x_plan x_bestPlan x_most x_many x_few x_everRight x_lagThen x_shadedThen x_firstFit x_rows x_rowMany x_sorts x_sizes x_number x_holds x_heldOne x_trace x_traced x_own x_isParted) (Qi res (mW a t x_s x_kept x_laid x_isKept x_pile x_tape x_taped x_letters x_at x_begun x_token x_value x_opened x_steps x_code0 x_read x_saved x_plan x_bestPlan x_most x_many x_few x_everRight x_lagThen x_shadedThen x_firstFit x_rows x_rowMany x_sorts x_sizes x_number x_holds x_heldOne x_trace x_traced x_own x_isParted)) := by
  unfold X12_slipsOf at hf
  refine MC.ofI pn_X12 (Nat.le_of_ble_eq_true rfl) ?_
  intro p e s m args below meth c A Q ls cx hR hw hl
  have hx := cx.1
  have hb := cx.2.1
  have hl : lv_has ls 2 [(0, .ref (a 0)), (1, .int v1)] := hl
  refine lv_aload_n hx hb dX12_slipsOf_0 rfl (lv_at hl 0 rfl) ?_
  refine lv_iload_n hx hb dX12_slipsOf_1 rfl (lv_at hl 1 rfl) ?_
  refine lv_iconst (v := 0) hx hb dX12_slipsOf_2 (by decide) ?_
  obtain ⟨r1, h2, hf⟩ := bnS hf
  refine calVi (k := 0) cx hw hl.1 (c_X12_get h2) q_1304 k_X12_get rfl rfl rfl dX12_slipsOf_3 rfl (Nat.le_of_ble_eq_true rfl) ⟨Nat.le_of_ble_eq_true rfl, Nat.le_of_ble_eq_true rfl⟩ ⟨Nat.le_refl _, Nat.le_refl _⟩ (fun H locs hw => ?_)
  refine lv_aload_n hx hb dX12_slipsOf_6 rfl (lv_at hl 0 rfl) ?_
  refine lv_aload_n hx hb dX12_slipsOf_7 rfl (lv_at hl 0 rfl) ?_
  refine lv_iload_n hx hb dX12_slipsOf_8 rfl (lv_at hl 1 rfl) ?_
  refine lv_iconst (v := 3) hx hb dX12_slipsOf_9 (by decide) ?_
  obtain ⟨r3, h4, hf⟩ := bnS hf
  refine calVi (k := 0) cx hw hl.1 (c_X12_get h4) q_1304 k_X12_get rfl rfl rfl dX12_slipsOf_10 rfl (Nat.le_of_ble_eq_true rfl) ⟨Nat.le_of_ble_eq_true rfl, Nat.le_of_ble_eq_true rfl⟩ ⟨Nat.le_refl _, Nat.le_refl _⟩ (fun H locs hw => ?_)
  obtain ⟨r5, h6, hf⟩ := bnS hf
  refine calVi (k := 0) cx hw hl.1 (c_X12_shadeAt h6) q_1319 k_X12_shadeAt rfl rfl rfl dX12_slipsOf_13 rfl (Nat.le_of_ble_eq_true rfl) ⟨Nat.le_of_ble_eq_true rfl, Nat.le_of_ble_eq_true rfl⟩ ⟨Nat.le_refl _, Nat.le_refl _⟩ (fun H locs hw => ?_)
  refine lv_aload_n hx hb dX12_slipsOf_16 rfl (lv_at hl 0 rfl) ?_
  obtain ⟨r7, h8, hf⟩ := bnS hf
  refine calVi (k := 0) cx hw hl.1 (c_X12_skyNow h8) q_1308 k_X12_skyNow rfl rfl rfl dX12_slipsOf_17 rfl (Nat.le_of_ble_eq_true rfl) ⟨Nat.le_of_ble_eq_true rfl, Nat.le_of_ble_eq_true rfl⟩ ⟨Nat.le_refl _, Nat.le_refl _⟩ (fun H locs hw => ?_)
  refine lv_iconst (v := 4) hx hb dX12_slipsOf_20 (by decide) ?_
  refine lv_irem hx hb dX12_slipsOf_21 (by decide) ?_
  refine calSi cx hw hl.1 (c_X12_slipsBy rfl) q_1323 k_X12_slipsBy rfl dX12_slipsOf_22 rfl (Nat.le_of_ble_eq_true rfl) ⟨Nat.le_of_ble_eq_true rfl, Nat.le_of_ble_eq_true rfl⟩ ⟨Nat.le_refl _, Nat.le_refl _⟩ (fun H locs hw => ?_)
  have hf := Option.some.inj hf
  subst hf
  exact hR _ _ _ _ _ _ hw rfl ⟨rfl, rfl⟩ dX12_slipsOf_25
theorem dX12_paysOf_0 : decode cX12_paysOf 0 = .ok (.bipush 9, 2) := by decide +kernel
theorem dX12_paysOf_2 : decode cX12_paysOf 2 = .ok (.aload_n 0, 1) := by decide +kernel
theorem dX12_paysOf_3 : decode cX12_paysOf 3 = .ok (.iload_n 1, 1) := by decide +kernel
theorem dX12_paysOf_4 : decode cX12_paysOf 4 = .ok (.iconst 2, 1) := by decide +kernel
theorem dX12_paysOf_5 : decode cX12_paysOf 5 = .ok (.invokevirtual 79, 3) := by decide +kernel
theorem dX12_paysOf_8 : decode cX12_paysOf 8 = .ok (.iadd, 1) := by decide +kernel
theorem dX12_paysOf_9 : decode cX12_paysOf 9 = .ok (.aload_n 0, 1) := by decide +kernel
theorem dX12_paysOf_10 : decode cX12_paysOf 10 = .ok (.iload_n 1, 1) := by decide +kernel
theorem dX12_paysOf_11 : decode cX12_paysOf 11 = .ok (.iconst 1, 1) := by decide +kernel
theorem dX12_paysOf_12 : decode cX12_paysOf 12 = .ok (.invokevirtual 79, 3) := by decide +kernel
theorem dX12_paysOf_15 : decode cX12_paysOf 15 = .ok (.bipush 6, 2) := by decide +kernel
theorem dX12_paysOf_17 : decode cX12_paysOf 17 = .ok (.idiv, 1) := by decide +kernel
theorem dX12_paysOf_18 : decode cX12_paysOf 18 = .ok (.isub, 1) := by decide +kernel
theorem dX12_paysOf_19 : decode cX12_paysOf 19 = .ok (.istore_n 2, 1) := by decide +kernel
theorem dX12_paysOf_20 : decode cX12_paysOf 20 = .ok (.aload_n 0, 1) := by decide +kernel
theorem dX12_paysOf_21 : decode cX12_paysOf 21 = .ok (.iload_n 1, 1) := by decide +kernel
theorem dX12_paysOf_22 : decode cX12_paysOf 22 = .ok (.iconst 4, 1) := by decide +kernel
theorem dX12_paysOf_23 : decode cX12_paysOf 23 = .ok (.invokevirtual 79, 3) := by decide +kernel
theorem dX12_paysOf_26 : decode cX12_paysOf 26 = .ok (.iconst 1, 1) := by decide +kernel
theorem dX12_paysOf_27 : decode cX12_paysOf 27 = .ok (.if_icmp .eq 7, 3) := by decide +kernel
theorem dX12_paysOf_30 : decode cX12_paysOf 30 = .ok (.iload_n 2, 1) := by decide +kernel
theorem dX12_paysOf_31 : decode cX12_paysOf 31 = .ok (.ifCond .ge 7, 3) := by decide +kernel
theorem dX12_paysOf_34 : decode cX12_paysOf 34 = .ok (.iconst 0, 1) := by decide +kernel
theorem dX12_paysOf_35 : decode cX12_paysOf 35 = .ok (.goto 4, 3) := by decide +kernel
theorem dX12_paysOf_38 : decode cX12_paysOf 38 = .ok (.iload_n 2, 1) := by decide +kernel
theorem dX12_paysOf_39 : decode cX12_paysOf 39 = .ok (.ireturn, 1) := by decide +kernel
theorem k_X12_paysOf : MV yX12_paysOf cX12_paysOf 3 (some .int) 1 := ⟨q_1328, qs_51, q_14, q_1329, ⟨by decide, by decide, by decide +kernel⟩⟩
theorem c_X12_paysOf {res : Int32} (hf : X12_paysOf x_s v1 = some res) : MC l E0 D t yX12_paysOf cX12_paysOf 3 (some .int) 2 0 0 [.ref (a 0), .int v1] (mW a t x_s x_kept x_laid x_isKept x_pile x_tape x_taped x_letters x_at x_begun x_token x_value x_opened x_steps x_code0 x_read x_saved x_plan x_bestPlan x_most x_many x_few x_everRight x_lagThen x_shadedThen x_firstFit x_rows x_rowMany x_sorts x_sizes x_number x_holds x_heldOne x_trace x_traced x_own x_isParted) (Qi res (mW a t x_s x_kept x_laid x_isKept x_pile x_tape x_taped x_letters x_at x_begun x_token x_value x_opened x_steps x_code0 x_read x_saved x_plan x_bestPlan x_most x_many x_few x_everRight x_lagThen x_shadedThen x_firstFit x_rows x_rowMany x_sorts x_sizes x_number x_holds x_heldOne x_trace x_traced x_own x_isParted)) := by
  unfold X12_paysOf at hf
  refine MC.ofI pn_X12 (Nat.le_of_ble_eq_true rfl) ?_
  intro p e s m args below meth c A Q ls cx hR hw hl
  have hx := cx.1
  have hb := cx.2.1
  have hl : lv_has ls 3 [(0, .ref (a 0)), (1, .int v1)] := hl
  refine lv_bipush (v := 9) hx hb dX12_paysOf_0 (by decide) ?_
  refine lv_aload_n hx hb dX12_paysOf_2 rfl (lv_at hl 0 rfl) ?_
  refine lv_iload_n hx hb dX12_paysOf_3 rfl (lv_at hl 1 rfl) ?_
  refine lv_iconst (v := 2) hx hb dX12_paysOf_4 (by decide) ?_
  obtain ⟨r1, h2, hf⟩ := bnS hf
  refine calVi (k := 0) cx hw hl.1 (c_X12_get h2) q_1304 k_X12_get rfl rfl rfl dX12_paysOf_5 rfl (Nat.le_of_ble_eq_true rfl) ⟨Nat.le_of_ble_eq_true rfl, Nat.le_of_ble_eq_true rfl⟩ ⟨Nat.le_refl _, Nat.le_refl _⟩ (fun H locs hw => ?_)
  refine lv_iadd hx hb dX12_paysOf_8 ?_
  refine lv_aload_n hx hb dX12_paysOf_9 rfl (lv_at hl 0 rfl) ?_
  refine lv_iload_n hx hb dX12_paysOf_10 rfl (lv_at hl 1 rfl) ?_
  refine lv_iconst (v := 1) hx hb dX12_paysOf_11 (by decide) ?_
  obtain ⟨r3, h4, hf⟩ := bnS hf
  refine calVi (k := 0) cx hw hl.1 (c_X12_get h4) q_1304 k_X12_get rfl rfl rfl dX12_paysOf_12 rfl (Nat.le_of_ble_eq_true rfl) ⟨Nat.le_of_ble_eq_true rfl, Nat.le_of_ble_eq_true rfl⟩ ⟨Nat.le_refl _, Nat.le_refl _⟩ (fun H locs hw => ?_)
  refine lv_bipush (v := 6) hx hb dX12_paysOf_15 (by decide) ?_
  refine lv_idiv hx hb dX12_paysOf_17 (by decide) ?_
  refine lv_isub hx hb dX12_paysOf_18 ?_
  refine lv_istore_n (lv' := [(2, .int (((9 : Int32) + r1) - (r3 / (6 : Int32)))), (0, .ref (a 0)), (1, .int v1)]) hx hb dX12_paysOf_19 rfl hl (by decide) rfl (fun ls hl => ?_)
  refine lv_aload_n hx hb dX12_paysOf_20 rfl (lv_at hl 1 rfl) ?_
  refine lv_iload_n hx hb dX12_paysOf_21 rfl (lv_at hl 2 rfl) ?_
  refine lv_iconst (v := 4) hx hb dX12_paysOf_22 (by decide) ?_
  obtain ⟨r5, h6, hf⟩ := bnS hf
  refine calVi (k := 0) cx hw hl.1 (c_X12_get h6) q_1304 k_X12_get rfl rfl rfl dX12_paysOf_23 rfl (Nat.le_of_ble_eq_true rfl) ⟨Nat.le_of_ble_eq_true rfl, Nat.le_of_ble_eq_true rfl⟩ ⟨Nat.le_refl _, Nat.le_refl _⟩ (fun H locs hw => ?_)
  refine lv_iconst (v := 1) hx hb dX12_paysOf_26 (by decide) ?_
  obtain ⟨J7, hJ7, hf⟩ := jnS hf
  have wj7 : ∀ (j7 : Unit) (H : Heap) (locs : List Loc) (ls : Array Slot), J7 j7 = some res → Wd D A s (mW a t x_s x_kept x_laid x_isKept x_pile x_tape x_taped x_letters x_at x_begun x_token x_value x_opened x_steps x_code0 x_read x_saved x_plan x_bestPlan x_most x_many x_few x_everRight x_lagThen x_shadedThen x_firstFit x_rows x_rowMany x_sorts x_sizes x_number x_holds x_heldOne x_trace x_traced x_own x_isParted) H locs → lv_has ls 3 [(0, .ref (a 0)), (1, .int v1), (2, .int (((9 : Int32) + r1) - (r3 / (6 : Int32))))] → W p l e (rmz 2 0 0) s m args below meth c H locs 0 0 Q (F0 m 34 ls []) := by
    intro j7 H locs ls hf hw hl
    have hf := hJ7 _ hf
    refine lv_iconst (v := 0) hx hb dX12_paysOf_34 (by decide) ?_
    refine lv_goto (tgt := 39) hx hb dX12_paysOf_35 (by decide) ?_
    have hf := Option.some.inj hf
    subst hf
    exact hR _ _ _ _ _ _ hw rfl ⟨rfl, rfl⟩ dX12_paysOf_39
  clear hJ7
  refine lv_icmp_eq (tgt := 34) hx hb dX12_paysOf_27 (by decide) (fun hc => ?_) (fun hc => ?_)
  · have hf := ifT hf hc
    exact wj7 _ _ _ _ hf hw (lv_sub hl [1, 2, 0] rfl)
  · have hf := ifF hf hc
    refine lv_iload_n hx hb dX12_paysOf_30 rfl (lv_at hl 0 rfl) ?_
    refine lv_if_ge (tgt := 38) hx hb dX12_paysOf_31 (by decide) (fun hc => ?_) (fun hc => ?_)
    · have hf := ifT hf hc
      refine lv_iload_n hx hb dX12_paysOf_38 rfl (lv_at hl 0 rfl) ?_
      have hf := Option.some.inj hf
      subst hf
      exact hR _ _ _ _ _ _ hw rfl ⟨rfl, rfl⟩ dX12_paysOf_39
    · have hf := ifF hf hc
      exact wj7 _ _ _ _ hf hw (lv_sub hl [1, 2, 0] rfl)
theorem dX12_ruleOf_0 : decode cX12_ruleOf 0 = .ok (.aload_n 0, 1) := by decide +kernel
theorem dX12_ruleOf_1 : decode cX12_ruleOf 1 = .ok (.getfield 9, 3) := by decide +kernel
theorem dX12_ruleOf_4 : decode cX12_ruleOf 4 = .ok (.bipush 89, 2) := by decide +kernel
theorem dX12_ruleOf_6 : decode cX12_ruleOf 6 = .ok (.iconst 3, 1) := by decide +kernel
theorem dX12_ruleOf_7 : decode cX12_ruleOf 7 = .ok (.iload_n 1, 1) := by decide +kernel
theorem dX12_ruleOf_8 : decode cX12_ruleOf 8 = .ok (.imul, 1) := by decide +kernel
theorem dX12_ruleOf_9 : decode cX12_ruleOf 9 = .ok (.iadd, 1) := by decide +kernel
theorem dX12_ruleOf_10 : decode cX12_ruleOf 10 = .ok (.iload_n 2, 1) := by decide +kernel
theorem dX12_ruleOf_11 : decode cX12_ruleOf 11 = .ok (.iadd, 1) := by decide +kernel
theorem dX12_ruleOf_12 : decode cX12_ruleOf 12 = .ok (.iaload, 1) := by decide +kernel
theorem dX12_ruleOf_13 : decode cX12_ruleOf 13 = .ok (.ireturn, 1) := by decide +kernel
theorem k_X12_ruleOf : MV yX12_ruleOf cX12_ruleOf 3 (some .int) 2 := ⟨q_1340, qs_54, q_14, q_1341, ⟨by decide, by decide, by decide +kernel⟩⟩
theorem c_X12_ruleOf {res : Int32} (hf : X12_ruleOf x_s v1 v2 = some res) : MC l E0 D t yX12_ruleOf cX12_ruleOf 3 (some .int) 1 0 0 [.ref (a 0), .int v1, .int v2] (mW a t x_s x_kept x_laid x_isKept x_pile x_tape x_taped x_letters x_at x_begun x_token x_value x_opened x_steps x_code0 x_read x_saved x_plan x_bestPlan x_most x_many x_few x_everRight x_lagThen x_shadedThen x_firstFit x_rows x_rowMany x_sorts x_sizes x_number x_holds x_heldOne x_trace x_traced x_own x_isParted) (Qi res (mW a t x_s x_kept x_laid x_isKept x_pile x_tape x_taped x_letters x_at x_begun x_token x_value x_opened x_steps x_code0 x_read x_saved x_plan x_bestPlan x_most x_many x_few x_everRight x_lagThen x_shadedThen x_firstFit x_rows x_rowMany x_sorts x_sizes x_number x_holds x_heldOne x_trace x_traced x_own x_isParted)) := by
  unfold X12_ruleOf at hf
  refine MC.ofI pn_X12 (Nat.le_of_ble_eq_true rfl) ?_
  intro p e s m args below meth c A Q ls cx hR hw hl
  have hx := cx.1
  have hb := cx.2.1
  have hl : lv_has ls 3 [(0, .ref (a 0)), (1, .int v1), (2, .int v2)] := hl
  refine lv_aload_n hx hb dX12_ruleOf_0 rfl (lv_at hl 0 rfl) ?_
  refine mg_s cx hw dX12_ruleOf_1 ?_
  refine lv_bipush (v := 89) hx hb dX12_ruleOf_4 (by decide) ?_
  refine lv_iconst (v := 3) hx hb dX12_ruleOf_6 (by decide) ?_
  refine lv_iload_n hx hb dX12_ruleOf_7 rfl (lv_at hl 1 rfl) ?_
  refine lv_imul hx hb dX12_ruleOf_8 ?_
  refine lv_iadd hx hb dX12_ruleOf_9 ?_
  refine lv_iload_n hx hb dX12_ruleOf_10 rfl (lv_at hl 2 rfl) ?_
  refine lv_iadd hx hb dX12_ruleOf_11 ?_
  obtain ⟨h1, hf⟩ := ckS hf
  refine ml_s (j := (((89 : Int32) + ((3 : Int32) * v1)) + v2).toNatClampNeg) cx hw (ib_in h1) rfl dX12_ruleOf_12 ?_
  have hf := Option.some.inj hf
  subst hf
  exact hR _ _ _ _ _ _ hw rfl ⟨rfl, rfl⟩ dX12_ruleOf_13
theorem dX12_knownOf_0 : decode cX12_knownOf 0 = .ok (.iload_n 1, 1) := by decide +kernel
theorem dX12_knownOf_1 : decode cX12_knownOf 1 = .ok (.ifCond .ne 12, 3) := by decide +kernel
theorem dX12_knownOf_4 : decode cX12_knownOf 4 = .ok (.aload_n 0, 1) := by decide +kernel
theorem dX12_knownOf_5 : decode cX12_knownOf 5 = .ok (.getfield 9, 3) := by decide +kernel
theorem dX12_knownOf_8 : decode cX12_knownOf 8 = .ok (.iconst 0, 1) := by decide +kernel
theorem dX12_knownOf_9 : decode cX12_knownOf 9 = .ok (.iaload, 1) := by decide +kernel
theorem dX12_knownOf_10 : decode cX12_knownOf 10 = .ok (.goto 46, 3) := by decide +kernel
theorem dX12_knownOf_13 : decode cX12_knownOf 13 = .ok (.iload_n 1, 1) := by decide +kernel
theorem dX12_knownOf_14 : decode cX12_knownOf 14 = .ok (.iconst 1, 1) := by decide +kernel
theorem dX12_knownOf_15 : decode cX12_knownOf 15 = .ok (.if_icmp .ne 12, 3) := by decide +kernel
theorem dX12_knownOf_18 : decode cX12_knownOf 18 = .ok (.aload_n 0, 1) := by decide +kernel
theorem dX12_knownOf_19 : decode cX12_knownOf 19 = .ok (.iload_n 2, 1) := by decide +kernel
theorem dX12_knownOf_20 : decode cX12_knownOf 20 = .ok (.iconst 1, 1) := by decide +kernel
theorem dX12_knownOf_21 : decode cX12_knownOf 21 = .ok (.invokevirtual 79, 3) := by decide +kernel
theorem dX12_knownOf_24 : decode cX12_knownOf 24 = .ok (.goto 32, 3) := by decide +kernel
theorem dX12_knownOf_27 : decode cX12_knownOf 27 = .ok (.iload_n 1, 1) := by decide +kernel
theorem dX12_knownOf_28 : decode cX12_knownOf 28 = .ok (.iconst 2, 1) := by decide +kernel
theorem dX12_knownOf_29 : decode cX12_knownOf 29 = .ok (.if_icmp .ne 12, 3) := by decide +kernel
theorem dX12_knownOf_32 : decode cX12_knownOf 32 = .ok (.aload_n 0, 1) := by decide +kernel
theorem dX12_knownOf_33 : decode cX12_knownOf 33 = .ok (.iload_n 2, 1) := by decide +kernel
theorem dX12_knownOf_34 : decode cX12_knownOf 34 = .ok (.iconst 2, 1) := by decide +kernel
theorem dX12_knownOf_35 : decode cX12_knownOf 35 = .ok (.invokevirtual 79, 3) := by decide +kernel
theorem dX12_knownOf_38 : decode cX12_knownOf 38 = .ok (.goto 18, 3) := by decide +kernel
theorem dX12_knownOf_41 : decode cX12_knownOf 41 = .ok (.iload_n 1, 1) := by decide +kernel
theorem dX12_knownOf_42 : decode cX12_knownOf 42 = .ok (.iconst 3, 1) := by decide +kernel
theorem dX12_knownOf_43 : decode cX12_knownOf 43 = .ok (.if_icmp .ne 12, 3) := by decide +kernel
theorem dX12_knownOf_46 : decode cX12_knownOf 46 = .ok (.aload_n 0, 1) := by decide +kernel
theorem dX12_knownOf_47 : decode cX12_knownOf 47 = .ok (.invokevirtual 83, 3) := by decide +kernel
theorem dX12_knownOf_50 : decode cX12_knownOf 50 = .ok (.iconst 4, 1) := by decide +kernel
theorem dX12_knownOf_51 : decode cX12_knownOf 51 = .ok (.idiv, 1) := by decide +kernel
theorem dX12_knownOf_52 : decode cX12_knownOf 52 = .ok (.goto 4, 3) := by decide +kernel
theorem dX12_knownOf_55 : decode cX12_knownOf 55 = .ok (.iload_n 2, 1) := by decide +kernel
theorem dX12_knownOf_56 : decode cX12_knownOf 56 = .ok (.ireturn, 1) := by decide +kernel
theorem k_X12_knownOf : MV yX12_knownOf cX12_knownOf 3 (some .int) 2 := ⟨q_1354, qs_56, q_14, q_1355, ⟨by decide, by decide, by decide +kernel⟩⟩
theorem c_X12_knownOf {res : Int32} (hf : X12_knownOf x_s v1 v2 = some res) : MC l E0 D t yX12_knownOf cX12_knownOf 3 (some .int) 2 0 0 [.ref (a 0), .int v1, .int v2] (mW a t x_s x_kept x_laid x_isKept x_pile x_tape x_taped x_letters x_at x_begun x_token x_value x_opened x_steps x_code0 x_read x_saved x_plan x_bestPlan x_most x_many x_few x_everRight x_lagThen x_shadedThen x_firstFit x_rows x_rowMany x_sorts x_sizes x_number x_holds x_heldOne x_trace x_traced x_own x_isParted) (Qi res (mW a t x_s x_kept x_laid x_isKept x_pile x_tape x_taped x_letters x_at x_begun x_token x_value x_opened x_steps x_code0 x_read x_saved x_plan x_bestPlan x_most x_many x_few x_everRight x_lagThen x_shadedThen x_firstFit x_rows x_rowMany x_sorts x_sizes x_number x_holds x_heldOne x_trace x_traced x_own x_isParted)) := by
  unfold X12_knownOf at hf
  refine MC.ofI pn_X12 (Nat.le_of_ble_eq_true rfl) ?_
  intro p e s m args below meth c A Q ls cx hR hw hl
  have hx := cx.1
  have hb := cx.2.1
  have hl : lv_has ls 3 [(0, .ref (a 0)), (1, .int v1), (2, .int v2)] := hl
  refine lv_iload_n hx hb dX12_knownOf_0 rfl (lv_at hl 1 rfl) ?_
  refine lv_if_ne (tgt := 13) hx hb dX12_knownOf_1 (by decide) (fun hc => ?_) (fun hc => ?_)
  · have hf := ifF hf hc
    refine lv_iload_n hx hb dX12_knownOf_13 rfl (lv_at hl 1 rfl) ?_
    refine lv_iconst (v := 1) hx hb dX12_knownOf_14 (by decide) ?_
    refine lv_icmp_ne (tgt := 27) hx hb dX12_knownOf_15 (by decide) (fun hc => ?_) (fun hc => ?_)
    · have hf := ifF hf hc
      refine lv_iload_n hx hb dX12_knownOf_27 rfl (lv_at hl 1 rfl) ?_
      refine lv_iconst (v := 2) hx hb dX12_knownOf_28 (by decide) ?_
      refine lv_icmp_ne (tgt := 41) hx hb dX12_knownOf_29 (by decide) (fun hc => ?_) (fun hc => ?_)
      · have hf := ifF hf hc
        refine lv_iload_n hx hb dX12_knownOf_41 rfl (lv_at hl 1 rfl) ?_
        refine lv_iconst (v := 3) hx hb dX12_knownOf_42 (by decide) ?_
        refine lv_icmp_ne (tgt := 55) hx hb dX12_knownOf_43 (by decide) (fun hc => ?_) (fun hc => ?_)
        · have hf := ifF hf hc
          refine lv_iload_n hx hb dX12_knownOf_55 rfl (lv_at hl 2 rfl) ?_
          have hf := Option.some.inj hf
          subst hf
          exact hR _ _ _ _ _ _ hw rfl ⟨rfl, rfl⟩ dX12_knownOf_56
        · have hf := ifT hf hc
          refine lv_aload_n hx hb dX12_knownOf_46 rfl (lv_at hl 0 rfl) ?_
          obtain ⟨r5, h6, hf⟩ := bnS hf
          refine calVi (k := 0) cx hw hl.1 (c_X12_skyNow h6) q_1308 k_X12_skyNow rfl rfl rfl dX12_knownOf_47 rfl (Nat.le_of_ble_eq_true rfl) ⟨Nat.le_of_ble_eq_true rfl, Nat.le_of_ble_eq_true rfl⟩ ⟨Nat.le_refl _, Nat.le_refl _⟩ (fun H locs hw => ?_)
          refine lv_iconst (v := 4) hx hb dX12_knownOf_50 (by decide) ?_
          refine lv_idiv hx hb dX12_knownOf_51 (by decide) ?_
          refine lv_goto (tgt := 56) hx hb dX12_knownOf_52 (by decide) ?_
          have hf := Option.some.inj hf
          subst hf
          exact hR _ _ _ _ _ _ hw rfl ⟨rfl, rfl⟩ dX12_knownOf_56
      · have hf := ifT hf hc
        refine lv_aload_n hx hb dX12_knownOf_32 rfl (lv_at hl 0 rfl) ?_
        refine lv_iload_n hx hb dX12_knownOf_33 rfl (lv_at hl 2 rfl) ?_
        refine lv_iconst (v := 2) hx hb dX12_knownOf_34 (by decide) ?_
        obtain ⟨r3, h4, hf⟩ := bnS hf
        refine calVi (k := 0) cx hw hl.1 (c_X12_get h4) q_1304 k_X12_get rfl rfl rfl dX12_knownOf_35 rfl (Nat.le_of_ble_eq_true rfl) ⟨Nat.le_of_ble_eq_true rfl, Nat.le_of_ble_eq_true rfl⟩ ⟨Nat.le_refl _, Nat.le_refl _⟩ (fun H locs hw => ?_)
        refine lv_goto (tgt := 56) hx hb dX12_knownOf_38 (by decide) ?_
        have hf := Option.some.inj hf
        subst hf
        exact hR _ _ _ _ _ _ hw rfl ⟨rfl, rfl⟩ dX12_knownOf_56
    · have hf := ifT hf hc
      refine lv_aload_n hx hb dX12_knownOf_18 rfl (lv_at hl 0 rfl) ?_
      refine lv_iload_n hx hb dX12_knownOf_19 rfl (lv_at hl 2 rfl) ?_
      refine lv_iconst (v := 1) hx hb dX12_knownOf_20 (by decide) ?_
      obtain ⟨r1, h2, hf⟩ := bnS hf
      refine calVi (k := 0) cx hw hl.1 (c_X12_get h2) q_1304 k_X12_get rfl rfl rfl dX12_knownOf_21 rfl (Nat.le_of_ble_eq_true rfl) ⟨Nat.le_of_ble_eq_true rfl, Nat.le_of_ble_eq_true rfl⟩ ⟨Nat.le_refl _, Nat.le_refl _⟩ (fun H locs hw => ?_)
      refine lv_goto (tgt := 56) hx hb dX12_knownOf_24 (by decide) ?_
      have hf := Option.some.inj hf
      subst hf
      exact hR _ _ _ _ _ _ hw rfl ⟨rfl, rfl⟩ dX12_knownOf_56
  · have hf := ifT hf hc
    refine lv_aload_n hx hb dX12_knownOf_4 rfl (lv_at hl 0 rfl) ?_
    refine mg_s cx hw dX12_knownOf_5 ?_
    refine lv_iconst (v := 0) hx hb dX12_knownOf_8 (by decide) ?_
    refine ml_s (j := 0) cx hw (ib_in (by decide)) (by decide) dX12_knownOf_9 ?_
    refine lv_goto (tgt := 56) hx hb dX12_knownOf_10 (by decide) ?_
    have hf := Option.some.inj hf
    subst hf
    exact hR _ _ _ _ _ _ hw rfl ⟨rfl, rfl⟩ dX12_knownOf_56
theorem dX12_joined_0 : decode cX12_joined 0 = .ok (.iload_n 0, 1) := by decide +kernel
theorem dX12_joined_1 : decode cX12_joined 1 = .ok (.tableswitch 78 10010 10013 #[31, 42, 53, 64], 31) := by decide +kernel
theorem dX12_joined_32 : decode cX12_joined 32 = .ok (.iload_n 1, 1) := by decide +kernel
theorem dX12_joined_33 : decode cX12_joined 33 = .ok (.iload_n 2, 1) := by decide +kernel
theorem dX12_joined_34 : decode cX12_joined 34 = .ok (.if_icmp .ge 7, 3) := by decide +kernel
theorem dX12_joined_37 : decode cX12_joined 37 = .ok (.iconst 1, 1) := by decide +kernel
theorem dX12_joined_38 : decode cX12_joined 38 = .ok (.goto 4, 3) := by decide +kernel
theorem dX12_joined_41 : decode cX12_joined 41 = .ok (.iconst 0, 1) := by decide +kernel
theorem dX12_joined_42 : decode cX12_joined 42 = .ok (.ireturn, 1) := by decide +kernel
theorem dX12_joined_43 : decode cX12_joined 43 = .ok (.iload_n 1, 1) := by decide +kernel
theorem dX12_joined_44 : decode cX12_joined 44 = .ok (.iload_n 2, 1) := by decide +kernel
theorem dX12_joined_45 : decode cX12_joined 45 = .ok (.if_icmp .ne 7, 3) := by decide +kernel
theorem dX12_joined_48 : decode cX12_joined 48 = .ok (.iconst 1, 1) := by decide +kernel
theorem dX12_joined_49 : decode cX12_joined 49 = .ok (.goto 4, 3) := by decide +kernel
theorem dX12_joined_52 : decode cX12_joined 52 = .ok (.iconst 0, 1) := by decide +kernel
theorem dX12_joined_53 : decode cX12_joined 53 = .ok (.ireturn, 1) := by decide +kernel
theorem dX12_joined_54 : decode cX12_joined 54 = .ok (.iload_n 1, 1) := by decide +kernel
theorem dX12_joined_55 : decode cX12_joined 55 = .ok (.iload_n 2, 1) := by decide +kernel
theorem dX12_joined_56 : decode cX12_joined 56 = .ok (.if_icmp .le 7, 3) := by decide +kernel
theorem dX12_joined_59 : decode cX12_joined 59 = .ok (.iconst 1, 1) := by decide +kernel
theorem dX12_joined_60 : decode cX12_joined 60 = .ok (.goto 4, 3) := by decide +kernel
theorem dX12_joined_63 : decode cX12_joined 63 = .ok (.iconst 0, 1) := by decide +kernel
theorem dX12_joined_64 : decode cX12_joined 64 = .ok (.ireturn, 1) := by decide +kernel
theorem dX12_joined_65 : decode cX12_joined 65 = .ok (.iload_n 1, 1) := by decide +kernel
theorem dX12_joined_66 : decode cX12_joined 66 = .ok (.ifCond .eq 11, 3) := by decide +kernel
theorem dX12_joined_69 : decode cX12_joined 69 = .ok (.iload_n 2, 1) := by decide +kernel
theorem dX12_joined_70 : decode cX12_joined 70 = .ok (.ifCond .eq 7, 3) := by decide +kernel
theorem dX12_joined_73 : decode cX12_joined 73 = .ok (.iconst 1, 1) := by decide +kernel
theorem dX12_joined_74 : decode cX12_joined 74 = .ok (.goto 4, 3) := by decide +kernel
theorem dX12_joined_77 : decode cX12_joined 77 = .ok (.iconst 0, 1) := by decide +kernel
theorem dX12_joined_78 : decode cX12_joined 78 = .ok (.ireturn, 1) := by decide +kernel
theorem dX12_joined_79 : decode cX12_joined 79 = .ok (.iload_n 1, 1) := by decide +kernel
theorem dX12_joined_80 : decode cX12_joined 80 = .ok (.ifCond .ne 7, 3) := by decide +kernel
theorem dX12_joined_83 : decode cX12_joined 83 = .ok (.iload_n 2, 1) := by decide +kernel
theorem dX12_joined_84 : decode cX12_joined 84 = .ok (.ifCond .eq 7, 3) := by decide +kernel
theorem dX12_joined_87 : decode cX12_joined 87 = .ok (.iconst 1, 1) := by decide +kernel
theorem dX12_joined_88 : decode cX12_joined 88 = .ok (.goto 4, 3) := by decide +kernel
theorem dX12_joined_91 : decode cX12_joined 91 = .ok (.iconst 0, 1) := by decide +kernel
theorem dX12_joined_92 : decode cX12_joined 92 = .ok (.ireturn, 1) := by decide +kernel
theorem k_X12_joined : MS yX12_joined cX12_joined 3 (some .int) 3 := ⟨q_1357, q_14, q_1358, ⟨by decide, by decide, by decide +kernel⟩⟩
theorem c_X12_joined {res : Int32} (hf : X12_joined v0 v1 v2 = some res) : MC l E0 D t yX12_joined cX12_joined 3 (some .int) 1 0 0 [.int v0, .int v1, .int v2] (mW a t x_s x_kept x_laid x_isKept x_pile x_tape x_taped x_letters x_at x_begun x_token x_value x_opened x_steps x_code0 x_read x_saved x_plan x_bestPlan x_most x_many x_few x_everRight x_lagThen x_shadedThen x_firstFit x_rows x_rowMany x_sorts x_sizes x_number x_holds x_heldOne x_trace x_traced x_own x_isParted) (Qi res (mW a t x_s x_kept x_laid x_isKept x_pile x_tape x_taped x_letters x_at x_begun x_token x_value x_opened x_steps x_code0 x_read x_saved x_plan x_bestPlan x_most x_many x_few x_everRight x_lagThen x_shadedThen x_firstFit x_rows x_rowMany x_sorts x_sizes x_number x_holds x_heldOne x_trace x_traced x_own x_isParted)) := by
  unfold X12_joined at hf
  refine MC.ofI pn_X12 (Nat.le_of_ble_eq_true rfl) ?_
  intro p e s m args below meth c A Q ls cx hR hw hl
  have hx := cx.1
  have hb := cx.2.1
  have hl : lv_has ls 3 [(0, .int v0), (1, .int v1), (2, .int v2)] := hl
  refine lv_iload_n hx hb dX12_joined_0 rfl (lv_at hl 0 rfl) ?_
  by_cases hc10010 : v0 = (10010 : Int32)
  · have hf := ifT hf hc10010
    refine lv_tableIn (tgt := 32) hx hb dX12_joined_1 (by rw [hc10010]; decide) (by rw [hc10010]; decide) (by rw [hc10010]; rfl) (by decide) ?_
    refine lv_iload_n hx hb dX12_joined_32 rfl (lv_at hl 1 rfl) ?_
    refine lv_iload_n hx hb dX12_joined_33 rfl (lv_at hl 2 rfl) ?_
    refine lv_icmp_ge (tgt := 41) hx hb dX12_joined_34 (by decide) (fun hc => ?_) (fun hc => ?_)
    · have hf := ifT hf hc
      refine lv_iconst (v := 0) hx hb dX12_joined_41 (by decide) ?_
      have hf := Option.some.inj hf
      subst hf
      exact hR _ _ _ _ _ _ hw rfl ⟨rfl, rfl⟩ dX12_joined_42
    · have hf := ifF hf hc
      refine lv_iconst (v := 1) hx hb dX12_joined_37 (by decide) ?_
      refine lv_goto (tgt := 42) hx hb dX12_joined_38 (by decide) ?_
      have hf := Option.some.inj hf
      subst hf
      exact hR _ _ _ _ _ _ hw rfl ⟨rfl, rfl⟩ dX12_joined_42
  · have hf := ifF hf hc10010
    by_cases hc10011 : v0 = (10011 : Int32)
    · have hf := ifT hf hc10011
      refine lv_tableIn (tgt := 43) hx hb dX12_joined_1 (by rw [hc10011]; decide) (by rw [hc10011]; decide) (by rw [hc10011]; rfl) (by decide) ?_
      refine lv_iload_n hx hb dX12_joined_43 rfl (lv_at hl 1 rfl) ?_
      refine lv_iload_n hx hb dX12_joined_44 rfl (lv_at hl 2 rfl) ?_
      refine lv_icmp_ne (tgt := 52) hx hb dX12_joined_45 (by decide) (fun hc => ?_) (fun hc => ?_)
      · have hf := ifF hf hc
        refine lv_iconst (v := 0) hx hb dX12_joined_52 (by decide) ?_
        have hf := Option.some.inj hf
        subst hf
        exact hR _ _ _ _ _ _ hw rfl ⟨rfl, rfl⟩ dX12_joined_53
      · have hf := ifT hf hc
        refine lv_iconst (v := 1) hx hb dX12_joined_48 (by decide) ?_
        refine lv_goto (tgt := 53) hx hb dX12_joined_49 (by decide) ?_
        have hf := Option.some.inj hf
        subst hf
        exact hR _ _ _ _ _ _ hw rfl ⟨rfl, rfl⟩ dX12_joined_53
    · have hf := ifF hf hc10011
      by_cases hc10012 : v0 = (10012 : Int32)
      · have hf := ifT hf hc10012
        refine lv_tableIn (tgt := 54) hx hb dX12_joined_1 (by rw [hc10012]; decide) (by rw [hc10012]; decide) (by rw [hc10012]; rfl) (by decide) ?_
        refine lv_iload_n hx hb dX12_joined_54 rfl (lv_at hl 1 rfl) ?_
        refine lv_iload_n hx hb dX12_joined_55 rfl (lv_at hl 2 rfl) ?_
        refine lv_icmp_le (tgt := 63) hx hb dX12_joined_56 (by decide) (fun hc => ?_) (fun hc => ?_)
        · have hf := ifT hf hc
          refine lv_iconst (v := 0) hx hb dX12_joined_63 (by decide) ?_
          have hf := Option.some.inj hf
          subst hf
          exact hR _ _ _ _ _ _ hw rfl ⟨rfl, rfl⟩ dX12_joined_64
        · have hf := ifF hf hc
          refine lv_iconst (v := 1) hx hb dX12_joined_59 (by decide) ?_
          refine lv_goto (tgt := 64) hx hb dX12_joined_60 (by decide) ?_
          have hf := Option.some.inj hf
          subst hf
          exact hR _ _ _ _ _ _ hw rfl ⟨rfl, rfl⟩ dX12_joined_64
      · have hf := ifF hf hc10012
        by_cases hc10013 : v0 = (10013 : Int32)
        · have hf := ifT hf hc10013
          refine lv_tableIn (tgt := 65) hx hb dX12_joined_1 (by rw [hc10013]; decide) (by rw [hc10013]; decide) (by rw [hc10013]; rfl) (by decide) ?_
          refine lv_iload_n hx hb dX12_joined_65 rfl (lv_at hl 1 rfl) ?_
          refine lv_if_eq (tgt := 77) hx hb dX12_joined_66 (by decide) (fun hc => ?_) (fun hc => ?_)
          · have hf := ifT hf hc
            refine lv_iconst (v := 0) hx hb dX12_joined_77 (by decide) ?_
            have hf := Option.some.inj hf
            subst hf
            exact hR _ _ _ _ _ _ hw rfl ⟨rfl, rfl⟩ dX12_joined_78
          · have hf := ifF hf hc
            refine lv_iload_n hx hb dX12_joined_69 rfl (lv_at hl 2 rfl) ?_
            refine lv_if_eq (tgt := 77) hx hb dX12_joined_70 (by decide) (fun hc => ?_) (fun hc => ?_)
            · have hf := ifT hf hc
              refine lv_iconst (v := 0) hx hb dX12_joined_77 (by decide) ?_
              have hf := Option.some.inj hf
              subst hf
              exact hR _ _ _ _ _ _ hw rfl ⟨rfl, rfl⟩ dX12_joined_78
            · have hf := ifF hf hc
              refine lv_iconst (v := 1) hx hb dX12_joined_73 (by decide) ?_
              refine lv_goto (tgt := 78) hx hb dX12_joined_74 (by decide) ?_
              have hf := Option.some.inj hf
              subst hf
              exact hR _ _ _ _ _ _ hw rfl ⟨rfl, rfl⟩ dX12_joined_78
        · have hf := ifF hf hc10013
          refine lv_tableOut (tgt := 79) hx hb dX12_joined_1 (by have h10010 := lv_neT hc10010 (a := 10010) (by decide); have h10011 := lv_neT hc10011 (a := 10011) (by decide); have h10012 := lv_neT hc10012 (a := 10012) (by decide); have h10013 := lv_neT hc10013 (a := 10013) (by decide); omega) (by decide) ?_
          refine lv_iload_n hx hb dX12_joined_79 rfl (lv_at hl 1 rfl) ?_
          obtain ⟨J1, hJ1, hf⟩ := jnS hf
          have wj1 : ∀ (j1 : Unit) (H : Heap) (locs : List Loc) (ls : Array Slot), J1 j1 = some res → Wd D A s (mW a t x_s x_kept x_laid x_isKept x_pile x_tape x_taped x_letters x_at x_begun x_token x_value x_opened x_steps x_code0 x_read x_saved x_plan x_bestPlan x_most x_many x_few x_everRight x_lagThen x_shadedThen x_firstFit x_rows x_rowMany x_sorts x_sizes x_number x_holds x_heldOne x_trace x_traced x_own x_isParted) H locs → lv_has ls 3 [(0, .int v0), (1, .int v1), (2, .int v2)] → W p l e (rmz 1 0 0) s m args below meth c H locs 0 0 Q (F0 m 87 ls []) := by
            intro j1 H locs ls hf hw hl
            have hf := hJ1 _ hf
            refine lv_iconst (v := 1) hx hb dX12_joined_87 (by decide) ?_
            refine lv_goto (tgt := 92) hx hb dX12_joined_88 (by decide) ?_
            have hf := Option.some.inj hf
            subst hf
            exact hR _ _ _ _ _ _ hw rfl ⟨rfl, rfl⟩ dX12_joined_92
          clear hJ1
          refine lv_if_ne (tgt := 87) hx hb dX12_joined_80 (by decide) (fun hc => ?_) (fun hc => ?_)
          · have hf := ifF hf hc
            exact wj1 _ _ _ _ hf hw (lv_sub hl [0, 1, 2] rfl)
          · have hf := ifT hf hc
            refine lv_iload_n hx hb dX12_joined_83 rfl (lv_at hl 2 rfl) ?_
            refine lv_if_eq (tgt := 91) hx hb dX12_joined_84 (by decide) (fun hc => ?_) (fun hc => ?_)
            · have hf := ifT hf hc
              refine lv_iconst (v := 0) hx hb dX12_joined_91 (by decide) ?_
              have hf := Option.some.inj hf
              subst hf
              exact hR _ _ _ _ _ _ hw rfl ⟨rfl, rfl⟩ dX12_joined_92
            · have hf := ifF hf hc
              exact wj1 _ _ _ _ hf hw (lv_sub hl [0, 1, 2] rfl)
theorem dX12_holdsFor_0 : decode cX12_holdsFor 0 = .ok (.iconst 0, 1) := by decide +kernel
theorem dX12_holdsFor_1 : decode cX12_holdsFor 1 = .ok (.istore_n 3, 1) := by decide +kernel
theorem dX12_holdsFor_2 : decode cX12_holdsFor 2 = .ok (.iload_n 1, 1) := by decide +kernel
theorem dX12_holdsFor_3 : decode cX12_holdsFor 3 = .ok (.ifCond .ne 7, 3) := by decide +kernel
theorem dX12_holdsFor_6 : decode cX12_holdsFor 6 = .ok (.iconst 0, 1) := by decide +kernel
theorem dX12_holdsFor_7 : decode cX12_holdsFor 7 = .ok (.goto 11, 3) := by decide +kernel
theorem dX12_holdsFor_10 : decode cX12_holdsFor 10 = .ok (.aload_n 0, 1) := by decide +kernel
theorem dX12_holdsFor_11 : decode cX12_holdsFor 11 = .ok (.iload_n 1, 1) := by decide +kernel
theorem dX12_holdsFor_12 : decode cX12_holdsFor 12 = .ok (.iconst 1, 1) := by decide +kernel
theorem dX12_holdsFor_13 : decode cX12_holdsFor 13 = .ok (.isub, 1) := by decide +kernel
theorem dX12_holdsFor_14 : decode cX12_holdsFor 14 = .ok (.iconst 2, 1) := by decide +kernel
theorem dX12_holdsFor_15 : decode cX12_holdsFor 15 = .ok (.invokevirtual 113, 3) := by decide +kernel
theorem dX12_holdsFor_18 : decode cX12_holdsFor 18 = .ok (.istore 4, 2) := by decide +kernel
theorem dX12_holdsFor_20 : decode cX12_holdsFor 20 = .ok (.iload 4, 2) := by decide +kernel
theorem dX12_holdsFor_22 : decode cX12_holdsFor 22 = .ok (.aload_n 0, 1) := by decide +kernel
theorem dX12_holdsFor_23 : decode cX12_holdsFor 23 = .ok (.iload_n 1, 1) := by decide +kernel
theorem dX12_holdsFor_24 : decode cX12_holdsFor 24 = .ok (.iconst 2, 1) := by decide +kernel
theorem dX12_holdsFor_25 : decode cX12_holdsFor 25 = .ok (.invokevirtual 113, 3) := by decide +kernel
theorem dX12_holdsFor_28 : decode cX12_holdsFor 28 = .ok (.if_icmp .ge 124, 3) := by decide +kernel
theorem dX12_holdsFor_31 : decode cX12_holdsFor 31 = .ok (.aload_n 0, 1) := by decide +kernel
theorem dX12_holdsFor_32 : decode cX12_holdsFor 32 = .ok (.getfield 9, 3) := by decide +kernel
theorem dX12_holdsFor_35 : decode cX12_holdsFor 35 = .ok (.bipush 113, 2) := by decide +kernel
theorem dX12_holdsFor_37 : decode cX12_holdsFor 37 = .ok (.iload 4, 2) := by decide +kernel
theorem dX12_holdsFor_39 : decode cX12_holdsFor 39 = .ok (.iadd, 1) := by decide +kernel
theorem dX12_holdsFor_40 : decode cX12_holdsFor 40 = .ok (.iaload, 1) := by decide +kernel
theorem dX12_holdsFor_41 : decode cX12_holdsFor 41 = .ok (.istore 5, 2) := by decide +kernel
theorem dX12_holdsFor_43 : decode cX12_holdsFor 43 = .ok (.iload 5, 2) := by decide +kernel
theorem dX12_holdsFor_45 : decode cX12_holdsFor 45 = .ok (.sipush 10010, 3) := by decide +kernel
theorem dX12_holdsFor_48 : decode cX12_holdsFor 48 = .ok (.if_icmp .ge 39, 3) := by decide +kernel
theorem dX12_holdsFor_51 : decode cX12_holdsFor 51 = .ok (.aload_n 0, 1) := by decide +kernel
theorem dX12_holdsFor_52 : decode cX12_holdsFor 52 = .ok (.getfield 19, 3) := by decide +kernel
theorem dX12_holdsFor_55 : decode cX12_holdsFor 55 = .ok (.iload_n 3, 1) := by decide +kernel
theorem dX12_holdsFor_56 : decode cX12_holdsFor 56 = .ok (.iload 5, 2) := by decide +kernel
theorem dX12_holdsFor_58 : decode cX12_holdsFor 58 = .ok (.sipush 10000, 3) := by decide +kernel
theorem dX12_holdsFor_61 : decode cX12_holdsFor 61 = .ok (.if_icmp .ge 8, 3) := by decide +kernel
theorem dX12_holdsFor_64 : decode cX12_holdsFor 64 = .ok (.iload 5, 2) := by decide +kernel
theorem dX12_holdsFor_66 : decode cX12_holdsFor 66 = .ok (.goto 14, 3) := by decide +kernel
theorem dX12_holdsFor_69 : decode cX12_holdsFor 69 = .ok (.aload_n 0, 1) := by decide +kernel
theorem dX12_holdsFor_70 : decode cX12_holdsFor 70 = .ok (.iload 5, 2) := by decide +kernel
theorem dX12_holdsFor_72 : decode cX12_holdsFor 72 = .ok (.sipush 10000, 3) := by decide +kernel
theorem dX12_holdsFor_75 : decode cX12_holdsFor 75 = .ok (.isub, 1) := by decide +kernel
theorem dX12_holdsFor_76 : decode cX12_holdsFor 76 = .ok (.iload_n 2, 1) := by decide +kernel
theorem dX12_holdsFor_77 : decode cX12_holdsFor 77 = .ok (.invokevirtual 116, 3) := by decide +kernel
theorem dX12_holdsFor_80 : decode cX12_holdsFor 80 = .ok (.iastore, 1) := by decide +kernel
theorem dX12_holdsFor_81 : decode cX12_holdsFor 81 = .ok (.iinc 3 1, 3) := by decide +kernel
theorem dX12_holdsFor_84 : decode cX12_holdsFor 84 = .ok (.goto 62, 3) := by decide +kernel
theorem dX12_holdsFor_87 : decode cX12_holdsFor 87 = .ok (.iload 5, 2) := by decide +kernel
theorem dX12_holdsFor_89 : decode cX12_holdsFor 89 = .ok (.sipush 10015, 3) := by decide +kernel
theorem dX12_holdsFor_92 : decode cX12_holdsFor 92 = .ok (.if_icmp .ne 24, 3) := by decide +kernel
theorem dX12_holdsFor_95 : decode cX12_holdsFor 95 = .ok (.aload_n 0, 1) := by decide +kernel
theorem dX12_holdsFor_96 : decode cX12_holdsFor 96 = .ok (.getfield 19, 3) := by decide +kernel
theorem dX12_holdsFor_99 : decode cX12_holdsFor 99 = .ok (.iload_n 3, 1) := by decide +kernel
theorem dX12_holdsFor_100 : decode cX12_holdsFor 100 = .ok (.iconst 1, 1) := by decide +kernel
theorem dX12_holdsFor_101 : decode cX12_holdsFor 101 = .ok (.isub, 1) := by decide +kernel
theorem dX12_holdsFor_102 : decode cX12_holdsFor 102 = .ok (.iconst 1, 1) := by decide +kernel
theorem dX12_holdsFor_103 : decode cX12_holdsFor 103 = .ok (.aload_n 0, 1) := by decide +kernel
theorem dX12_holdsFor_104 : decode cX12_holdsFor 104 = .ok (.getfield 19, 3) := by decide +kernel
theorem dX12_holdsFor_107 : decode cX12_holdsFor 107 = .ok (.iload_n 3, 1) := by decide +kernel
theorem dX12_holdsFor_108 : decode cX12_holdsFor 108 = .ok (.iconst 1, 1) := by decide +kernel
theorem dX12_holdsFor_109 : decode cX12_holdsFor 109 = .ok (.isub, 1) := by decide +kernel
theorem dX12_holdsFor_110 : decode cX12_holdsFor 110 = .ok (.iaload, 1) := by decide +kernel
theorem dX12_holdsFor_111 : decode cX12_holdsFor 111 = .ok (.isub, 1) := by decide +kernel
theorem dX12_holdsFor_112 : decode cX12_holdsFor 112 = .ok (.iastore, 1) := by decide +kernel
theorem dX12_holdsFor_113 : decode cX12_holdsFor 113 = .ok (.goto 33, 3) := by decide +kernel
theorem dX12_holdsFor_116 : decode cX12_holdsFor 116 = .ok (.iinc 3 (-1), 3) := by decide +kernel
theorem dX12_holdsFor_119 : decode cX12_holdsFor 119 = .ok (.aload_n 0, 1) := by decide +kernel
theorem dX12_holdsFor_120 : decode cX12_holdsFor 120 = .ok (.getfield 19, 3) := by decide +kernel
theorem dX12_holdsFor_123 : decode cX12_holdsFor 123 = .ok (.iload_n 3, 1) := by decide +kernel
theorem dX12_holdsFor_124 : decode cX12_holdsFor 124 = .ok (.iconst 1, 1) := by decide +kernel
theorem dX12_holdsFor_125 : decode cX12_holdsFor 125 = .ok (.isub, 1) := by decide +kernel
theorem dX12_holdsFor_126 : decode cX12_holdsFor 126 = .ok (.iload 5, 2) := by decide +kernel
theorem dX12_holdsFor_128 : decode cX12_holdsFor 128 = .ok (.aload_n 0, 1) := by decide +kernel
theorem dX12_holdsFor_129 : decode cX12_holdsFor 129 = .ok (.getfield 19, 3) := by decide +kernel
theorem dX12_holdsFor_132 : decode cX12_holdsFor 132 = .ok (.iload_n 3, 1) := by decide +kernel
theorem dX12_holdsFor_133 : decode cX12_holdsFor 133 = .ok (.iconst 1, 1) := by decide +kernel
theorem dX12_holdsFor_134 : decode cX12_holdsFor 134 = .ok (.isub, 1) := by decide +kernel
theorem dX12_holdsFor_135 : decode cX12_holdsFor 135 = .ok (.iaload, 1) := by decide +kernel
theorem dX12_holdsFor_136 : decode cX12_holdsFor 136 = .ok (.aload_n 0, 1) := by decide +kernel
theorem dX12_holdsFor_137 : decode cX12_holdsFor 137 = .ok (.getfield 19, 3) := by decide +kernel
theorem dX12_holdsFor_140 : decode cX12_holdsFor 140 = .ok (.iload_n 3, 1) := by decide +kernel
theorem dX12_holdsFor_141 : decode cX12_holdsFor 141 = .ok (.iaload, 1) := by decide +kernel
theorem dX12_holdsFor_142 : decode cX12_holdsFor 142 = .ok (.invokestatic 119, 3) := by decide +kernel
theorem dX12_holdsFor_145 : decode cX12_holdsFor 145 = .ok (.iastore, 1) := by decide +kernel
theorem dX12_holdsFor_146 : decode cX12_holdsFor 146 = .ok (.iinc 4 1, 3) := by decide +kernel
theorem dX12_holdsFor_149 : decode cX12_holdsFor 149 = .ok (.goto (-129), 3) := by decide +kernel
theorem dX12_holdsFor_152 : decode cX12_holdsFor 152 = .ok (.iload_n 3, 1) := by decide +kernel
theorem dX12_holdsFor_153 : decode cX12_holdsFor 153 = .ok (.ifCond .eq 12, 3) := by decide +kernel
theorem dX12_holdsFor_156 : decode cX12_holdsFor 156 = .ok (.aload_n 0, 1) := by decide +kernel
theorem dX12_holdsFor_157 : decode cX12_holdsFor 157 = .ok (.getfield 19, 3) := by decide +kernel
theorem dX12_holdsFor_160 : decode cX12_holdsFor 160 = .ok (.iconst 0, 1) := by decide +kernel
theorem dX12_holdsFor_161 : decode cX12_holdsFor 161 = .ok (.iaload, 1) := by decide +kernel
theorem dX12_holdsFor_162 : decode cX12_holdsFor 162 = .ok (.ifCond .eq 7, 3) := by decide +kernel
theorem dX12_holdsFor_165 : decode cX12_holdsFor 165 = .ok (.iconst 1, 1) := by decide +kernel
theorem dX12_holdsFor_166 : decode cX12_holdsFor 166 = .ok (.goto 4, 3) := by decide +kernel
theorem dX12_holdsFor_169 : decode cX12_holdsFor 169 = .ok (.iconst 0, 1) := by decide +kernel
theorem dX12_holdsFor_170 : decode cX12_holdsFor 170 = .ok (.ireturn, 1) := by decide +kernel
theorem k_X12_holdsFor : MV yX12_holdsFor cX12_holdsFor 6 (some .boolean) 2 := ⟨q_1350, qs_55, q_14, q_1351, ⟨by decide, by decide, by decide +kernel⟩⟩
theorem c_X12_holdsFor {res : Int32 × (Nat → Int32)} (hf : X12_holdsFor n x_s x_pile v1 v2 = some res) : MC l E0 D t yX12_holdsFor cX12_holdsFor 6 (some .boolean) 3 0 0 [.ref (a 0), .int v1, .int v2] (mW a t x_s x_kept x_laid x_isKept x_pile x_tape x_taped x_letters x_at x_begun x_token x_value x_opened x_steps x_code0 x_read x_saved x_plan x_bestPlan x_most x_many x_few x_everRight x_lagThen x_shadedThen x_firstFit x_rows x_rowMany x_sorts x_sizes x_number x_holds x_heldOne x_trace x_traced x_own x_isParted) (Qi res.1 (mW a t x_s x_kept x_laid x_isKept res.2 x_tape x_taped x_letters x_at x_begun x_token x_value x_opened x_steps x_code0 x_read x_saved x_plan x_bestPlan x_most x_many x_few x_everRight x_lagThen x_shadedThen x_firstFit x_rows x_rowMany x_sorts x_sizes x_number x_holds x_heldOne x_trace x_traced x_own x_isParted)) := by
  unfold X12_holdsFor at hf
  refine MC.ofI pn_X12 (Nat.le_of_ble_eq_true rfl) ?_
  intro p e s m args below meth c A Q ls cx hR hw hl
  have hx := cx.1
  have hb := cx.2.1
  have hl : lv_has ls 6 [(0, .ref (a 0)), (1, .int v1), (2, .int v2)] := hl
  refine lv_iconst (v := 0) hx hb dX12_holdsFor_0 (by decide) ?_
  refine lv_istore_n (lv' := [(3, .int (0 : Int32)), (0, .ref (a 0)), (1, .int v1), (2, .int v2)]) hx hb dX12_holdsFor_1 rfl hl (by decide) rfl (fun ls hl => ?_)
  refine lv_iload_n hx hb dX12_holdsFor_2 rfl (lv_at hl 2 rfl) ?_
  obtain ⟨j3, hj3, hf⟩ := bnS hf
  have wj3 : ∀ (H : Heap) (locs : List Loc) (ls : Array Slot), Wd D A s (mW a t x_s x_kept x_laid x_isKept x_pile x_tape x_taped x_letters x_at x_begun x_token x_value x_opened x_steps x_code0 x_read x_saved x_plan x_bestPlan x_most x_many x_few x_everRight x_lagThen x_shadedThen x_firstFit x_rows x_rowMany x_sorts x_sizes x_number x_holds x_heldOne x_trace x_traced x_own x_isParted) H locs → lv_has ls 6 [(0, .ref (a 0)), (1, .int v1), (2, .int v2), (3, .int (0 : Int32))] → W p l e (rmz 3 0 0) s m args below meth c H locs 0 0 Q (F0 m 18 ls [.int j3]) := by
    intro H locs ls hw hl
    refine lv_istore (lv' := [(4, .int j3), (0, .ref (a 0)), (1, .int v1), (2, .int v2), (3, .int (0 : Int32))]) hx hb dX12_holdsFor_18 hl (by decide) rfl (fun ls hl => ?_)
    obtain ⟨o19, ho19, hf⟩ := bnS hf
    have wL1 : ∀ (k : Nat) {v1 : Int32} {v2 : Int32} {v3 : Int32} {v4 : Int32} {x_pile : Nat → Int32} {H : Heap} {locs : List Loc} {ls : Array Slot} {o : Int32 × Int32 × (Nat → Int32)}, X12_holdsFor_L1 n x_s v1 v2 k v3 v4 x_pile = some o → Wd D A s (mW a t x_s x_kept x_laid x_isKept x_pile x_tape x_taped x_letters x_at x_begun x_token x_value x_opened x_steps x_code0 x_read x_saved x_plan x_bestPlan x_most x_many x_few x_everRight x_lagThen x_shadedThen x_firstFit x_rows x_rowMany x_sorts x_sizes x_number x_holds x_heldOne x_trace x_traced x_own x_isParted) H locs → lv_has ls 6 [(0, .ref (a 0)), (1, .int v1), (2, .int v2), (3, .int v3), (4, .int v4)] → (∀ (H : Heap) (locs : List Loc) (ls : Array Slot), Wd D A s (mW a t x_s x_kept x_laid x_isKept o.2.2 x_tape x_taped x_letters x_at x_begun x_token x_value x_opened x_steps x_code0 x_read x_saved x_plan x_bestPlan x_most x_many x_few x_everRight x_lagThen x_shadedThen x_firstFit x_rows x_rowMany x_sorts x_sizes x_number x_holds x_heldOne x_trace x_traced x_own x_isParted) H locs → lv_has ls 6 [(0, .ref (a 0)), (1, .int v1), (2, .int v2), (3, .int o.1), (4, .int o.2.1)] → W p l e (rmz 3 0 0) s m args below meth c H locs 0 0 Q (F0 m 152 ls [])) → W p l e (rmz 3 0 0) s m args below meth c H locs 0 0 Q (F0 m 20 ls []) := by
      clear hf ho19 hw hl
      intro k
      induction k with
      | zero => intro v1 v2 v3 v4 x_pile H locs ls o hf hw hl kx; simp [X12_holdsFor_L1] at hf
      | succ k ih =>
        intro v1 v2 v3 v4 x_pile H locs ls o hf hw hl kx
        rw [X12_holdsFor_L1] at hf
        refine lv_iload hx hb dX12_holdsFor_20 (lv_at hl 4 rfl) ?_
        refine lv_aload_n hx hb dX12_holdsFor_22 rfl (lv_at hl 0 rfl) ?_
        refine lv_iload_n hx hb dX12_holdsFor_23 rfl (lv_at hl 1 rfl) ?_
        refine lv_iconst (v := 2) hx hb dX12_holdsFor_24 (by decide) ?_
        obtain ⟨r4, h5, hf⟩ := bnS hf
        refine calVi (k := 0) cx hw hl.1 (c_X12_ruleOf h5) q_1338 k_X12_ruleOf rfl rfl rfl dX12_holdsFor_25 rfl (Nat.le_of_ble_eq_true rfl) ⟨Nat.le_of_ble_eq_true rfl, Nat.le_of_ble_eq_true rfl⟩ ⟨Nat.le_refl _, Nat.le_refl _⟩ (fun H locs hw => ?_)
        refine lv_icmp_ge (tgt := 152) hx hb dX12_holdsFor_28 (by decide) (fun hc => ?_) (fun hc => ?_)
        · have hf := ifT hf hc
          have hf := Option.some.inj hf
          subst hf
          exact kx _ _ _ hw (lv_sub hl [0, 1, 2, 3, 4] rfl)
        · have hf := ifF hf hc
          refine lv_aload_n hx hb dX12_holdsFor_31 rfl (lv_at hl 0 rfl) ?_
          refine mg_s cx hw dX12_holdsFor_32 ?_
          refine lv_bipush (v := 113) hx hb dX12_holdsFor_35 (by decide) ?_
          refine lv_iload hx hb dX12_holdsFor_37 (lv_at hl 4 rfl) ?_
          refine lv_iadd hx hb dX12_holdsFor_39 ?_
          obtain ⟨h6, hf⟩ := ckS hf
          refine ml_s (j := ((113 : Int32) + v4).toNatClampNeg) cx hw (ib_in h6) rfl dX12_holdsFor_40 ?_
          refine lv_istore (lv' := [(5, .int (x_s (((113 : Int32) + v4).toNatClampNeg))), (0, .ref (a 0)), (1, .int v1), (2, .int v2), (3, .int v3), (4, .int v4)]) hx hb dX12_holdsFor_41 hl (by decide) rfl (fun ls hl => ?_)
          refine lv_iload hx hb dX12_holdsFor_43 (lv_at hl 0 rfl) ?_
          refine lv_sipush (v := 10010) hx hb dX12_holdsFor_45 (by decide) ?_
          obtain ⟨j18, hj18, hf⟩ := bnS hf
          have wj18 : ∀ (H : Heap) (locs : List Loc) (ls : Array Slot), Wd D A s (mW a t x_s x_kept x_laid x_isKept j18.2 x_tape x_taped x_letters x_at x_begun x_token x_value x_opened x_steps x_code0 x_read x_saved x_plan x_bestPlan x_most x_many x_few x_everRight x_lagThen x_shadedThen x_firstFit x_rows x_rowMany x_sorts x_sizes x_number x_holds x_heldOne x_trace x_traced x_own x_isParted) H locs → lv_has ls 6 [(0, .ref (a 0)), (1, .int v1), (2, .int v2), (3, .int j18.1), (4, .int v4), (5, .int (x_s (((113 : Int32) + v4).toNatClampNeg)))] → W p l e (rmz 3 0 0) s m args below meth c H locs 0 0 Q (F0 m 146 ls []) := by
            intro H locs ls hw hl
            refine lv_iinc (v := (v4 + (1 : Int32))) (lv' := [(4, .int (v4 + (1 : Int32))), (0, .ref (a 0)), (1, .int v1), (2, .int v2), (3, .int j18.1), (5, .int (x_s (((113 : Int32) + v4).toNatClampNeg)))]) hx hb dX12_holdsFor_146 hl (k := 4) rfl rfl (by decide) rfl (fun ls hl => ?_)
            refine lv_goto (tgt := 20) hx hb dX12_holdsFor_149 (by decide) ?_
            exact ih hf hw (lv_sub hl [1, 2, 3, 4, 0] rfl) kx
          clear hf
          have hf := hj18
          clear hj18
          refine lv_icmp_ge (tgt := 87) hx hb dX12_holdsFor_48 (by decide) (fun hc => ?_) (fun hc => ?_)
          · have hf := ifT hf hc
            refine lv_iload hx hb dX12_holdsFor_87 (lv_at hl 0 rfl) ?_
            refine lv_sipush (v := 10015) hx hb dX12_holdsFor_89 (by decide) ?_
            refine lv_icmp_ne (tgt := 116) hx hb dX12_holdsFor_92 (by decide) (fun hc => ?_) (fun hc => ?_)
            · have hf := ifF hf hc
              refine lv_iinc (v := (v3 + (-1 : Int32))) (lv' := [(3, .int (v3 + (-1 : Int32))), (5, .int (x_s (((113 : Int32) + v4).toNatClampNeg))), (0, .ref (a 0)), (1, .int v1), (2, .int v2), (4, .int v4)]) hx hb dX12_holdsFor_116 hl (k := 4) rfl rfl (by decide) rfl (fun ls hl => ?_)
              refine lv_aload_n hx hb dX12_holdsFor_119 rfl (lv_at hl 2 rfl) ?_
              refine mg_pile cx hw dX12_holdsFor_120 ?_
              refine lv_iload_n hx hb dX12_holdsFor_123 rfl (lv_at hl 0 rfl) ?_
              refine lv_iconst (v := 1) hx hb dX12_holdsFor_124 (by decide) ?_
              refine lv_isub hx hb dX12_holdsFor_125 ?_
              refine lv_iload hx hb dX12_holdsFor_126 (lv_at hl 1 rfl) ?_
              refine lv_aload_n hx hb dX12_holdsFor_128 rfl (lv_at hl 2 rfl) ?_
              refine mg_pile cx hw dX12_holdsFor_129 ?_
              refine lv_iload_n hx hb dX12_holdsFor_132 rfl (lv_at hl 0 rfl) ?_
              refine lv_iconst (v := 1) hx hb dX12_holdsFor_133 (by decide) ?_
              refine lv_isub hx hb dX12_holdsFor_134 ?_
              obtain ⟨h9, hf⟩ := ckS hf
              refine ml_pile (j := ((v3 + (-1 : Int32)) - (1 : Int32)).toNatClampNeg) cx hw (ib_in h9) rfl dX12_holdsFor_135 ?_
              refine lv_aload_n hx hb dX12_holdsFor_136 rfl (lv_at hl 2 rfl) ?_
              refine mg_pile cx hw dX12_holdsFor_137 ?_
              refine lv_iload_n hx hb dX12_holdsFor_140 rfl (lv_at hl 0 rfl) ?_
              obtain ⟨h10, hf⟩ := ckS hf
              refine ml_pile (j := (v3 + (-1 : Int32)).toNatClampNeg) cx hw (ib_in h10) rfl dX12_holdsFor_141 ?_
              obtain ⟨r11, h12, hf⟩ := bnS hf
              refine calSi cx hw hl.1 (c_X12_joined h12) q_1356 k_X12_joined rfl dX12_holdsFor_142 rfl (Nat.le_of_ble_eq_true rfl) ⟨Nat.le_of_ble_eq_true rfl, Nat.le_of_ble_eq_true rfl⟩ ⟨Nat.le_refl _, Nat.le_refl _⟩ (fun H locs hw => ?_)
              obtain ⟨h13, hf⟩ := ckS hf
              refine ms_pile (j := ((v3 + (-1 : Int32)) - (1 : Int32)).toNatClampNeg) cx hw (ib_in h13) rfl dX12_holdsFor_145 (fun H locs hw => ?_)
              have hf := Option.some.inj hf
              subst hf
              exact wj18 _ _ _ hw (lv_sub hl [2, 3, 4, 0, 5, 1] rfl)
            · have hf := ifT hf hc
              refine lv_aload_n hx hb dX12_holdsFor_95 rfl (lv_at hl 1 rfl) ?_
              refine mg_pile cx hw dX12_holdsFor_96 ?_
              refine lv_iload_n hx hb dX12_holdsFor_99 rfl (lv_at hl 4 rfl) ?_
              refine lv_iconst (v := 1) hx hb dX12_holdsFor_100 (by decide) ?_
              refine lv_isub hx hb dX12_holdsFor_101 ?_
              refine lv_iconst (v := 1) hx hb dX12_holdsFor_102 (by decide) ?_
              refine lv_aload_n hx hb dX12_holdsFor_103 rfl (lv_at hl 1 rfl) ?_
              refine mg_pile cx hw dX12_holdsFor_104 ?_
              refine lv_iload_n hx hb dX12_holdsFor_107 rfl (lv_at hl 4 rfl) ?_
              refine lv_iconst (v := 1) hx hb dX12_holdsFor_108 (by decide) ?_
              refine lv_isub hx hb dX12_holdsFor_109 ?_
              obtain ⟨h7, hf⟩ := ckS hf
              refine ml_pile (j := (v3 - (1 : Int32)).toNatClampNeg) cx hw (ib_in h7) rfl dX12_holdsFor_110 ?_
              refine lv_isub hx hb dX12_holdsFor_111 ?_
              obtain ⟨h8, hf⟩ := ckS hf
              refine ms_pile (j := (v3 - (1 : Int32)).toNatClampNeg) cx hw (ib_in h8) rfl dX12_holdsFor_112 (fun H locs hw => ?_)
              refine lv_goto (tgt := 146) hx hb dX12_holdsFor_113 (by decide) ?_
              have hf := Option.some.inj hf
              subst hf
              exact wj18 _ _ _ hw (lv_sub hl [1, 2, 3, 4, 5, 0] rfl)
          · have hf := ifF hf hc
            refine lv_aload_n hx hb dX12_holdsFor_51 rfl (lv_at hl 1 rfl) ?_
            refine mg_pile cx hw dX12_holdsFor_52 ?_
            refine lv_iload_n hx hb dX12_holdsFor_55 rfl (lv_at hl 4 rfl) ?_
            refine lv_iload hx hb dX12_holdsFor_56 (lv_at hl 0 rfl) ?_
            refine lv_sipush (v := 10000) hx hb dX12_holdsFor_58 (by decide) ?_
            obtain ⟨j16, hj16, hf⟩ := bnS hf
            have wj16 : ∀ (H : Heap) (locs : List Loc) (ls : Array Slot), Wd D A s (mW a t x_s x_kept x_laid x_isKept x_pile x_tape x_taped x_letters x_at x_begun x_token x_value x_opened x_steps x_code0 x_read x_saved x_plan x_bestPlan x_most x_many x_few x_everRight x_lagThen x_shadedThen x_firstFit x_rows x_rowMany x_sorts x_sizes x_number x_holds x_heldOne x_trace x_traced x_own x_isParted) H locs → lv_has ls 6 [(0, .ref (a 0)), (1, .int v1), (2, .int v2), (3, .int v3), (4, .int v4), (5, .int (x_s (((113 : Int32) + v4).toNatClampNeg)))] → W p l e (rmz 3 0 0) s m args below meth c H locs 0 0 Q (F0 m 80 ls [.int j16, .int v3, .ref (a 4)]) := by
              intro H locs ls hw hl
              obtain ⟨h17, hf⟩ := ckS hf
              refine ms_pile (j := v3.toNatClampNeg) cx hw (ib_in h17) rfl dX12_holdsFor_80 (fun H locs hw => ?_)
              refine lv_iinc (v := (v3 + (1 : Int32))) (lv' := [(3, .int (v3 + (1 : Int32))), (0, .ref (a 0)), (1, .int v1), (2, .int v2), (4, .int v4), (5, .int (x_s (((113 : Int32) + v4).toNatClampNeg)))]) hx hb dX12_holdsFor_81 hl (k := 3) rfl rfl (by decide) rfl (fun ls hl => ?_)
              refine lv_goto (tgt := 146) hx hb dX12_holdsFor_84 (by decide) ?_
              have hf := Option.some.inj hf
              subst hf
              exact wj18 _ _ _ hw (lv_sub hl [1, 2, 3, 0, 4, 5] rfl)
            clear hf
            have hf := hj16
            clear hj16
            refine lv_icmp_ge (tgt := 69) hx hb dX12_holdsFor_61 (by decide) (fun hc => ?_) (fun hc => ?_)
            · have hf := ifT hf hc
              refine lv_aload_n hx hb dX12_holdsFor_69 rfl (lv_at hl 1 rfl) ?_
              refine lv_iload hx hb dX12_holdsFor_70 (lv_at hl 0 rfl) ?_
              refine lv_sipush (v := 10000) hx hb dX12_holdsFor_72 (by decide) ?_
              refine lv_isub hx hb dX12_holdsFor_75 ?_
              refine lv_iload_n hx hb dX12_holdsFor_76 rfl (lv_at hl 3 rfl) ?_
              obtain ⟨r14, h15, hf⟩ := bnS hf
              refine calVi (k := 0) cx hw hl.1 (c_X12_knownOf h15) q_1352 k_X12_knownOf rfl rfl rfl dX12_holdsFor_77 rfl (Nat.le_of_ble_eq_true rfl) ⟨Nat.le_of_ble_eq_true rfl, Nat.le_of_ble_eq_true rfl⟩ ⟨Nat.le_refl _, Nat.le_refl _⟩ (fun H locs hw => ?_)
              have hf := Option.some.inj hf
              subst hf
              exact wj16 _ _ _ hw (lv_sub hl [1, 2, 3, 4, 5, 0] rfl)
            · have hf := ifF hf hc
              refine lv_iload hx hb dX12_holdsFor_64 (lv_at hl 0 rfl) ?_
              refine lv_goto (tgt := 80) hx hb dX12_holdsFor_66 (by decide) ?_
              have hf := Option.some.inj hf
              subst hf
              exact wj16 _ _ _ hw (lv_sub hl [1, 2, 3, 4, 5, 0] rfl)
    refine wL1 n ho19 hw (lv_sub hl [1, 2, 3, 4, 0] rfl) (fun H locs ls hw hl => ?_)
    clear wL1 ho19
    refine lv_iload_n hx hb dX12_holdsFor_152 rfl (lv_at hl 3 rfl) ?_
    obtain ⟨J20, hJ20, hf⟩ := jnS hf
    have wj20 : ∀ (j20 : Unit) (H : Heap) (locs : List Loc) (ls : Array Slot), J20 j20 = some res → Wd D A s (mW a t x_s x_kept x_laid x_isKept o19.2.2 x_tape x_taped x_letters x_at x_begun x_token x_value x_opened x_steps x_code0 x_read x_saved x_plan x_bestPlan x_most x_many x_few x_everRight x_lagThen x_shadedThen x_firstFit x_rows x_rowMany x_sorts x_sizes x_number x_holds x_heldOne x_trace x_traced x_own x_isParted) H locs → lv_has ls 6 [(0, .ref (a 0)), (1, .int v1), (2, .int v2), (3, .int o19.1), (4, .int o19.2.1)] → W p l e (rmz 3 0 0) s m args below meth c H locs 0 0 Q (F0 m 165 ls []) := by
      intro j20 H locs ls hf hw hl
      have hf := hJ20 _ hf
      refine lv_iconst (v := 1) hx hb dX12_holdsFor_165 (by decide) ?_
      refine lv_goto (tgt := 170) hx hb dX12_holdsFor_166 (by decide) ?_
      have hf := Option.some.inj hf
      subst hf
      exact hR _ _ _ _ _ _ hw rfl ⟨rfl, rfl⟩ dX12_holdsFor_170
    clear hJ20
    refine lv_if_eq (tgt := 165) hx hb dX12_holdsFor_153 (by decide) (fun hc => ?_) (fun hc => ?_)
    · have hf := ifT hf hc
      exact wj20 _ _ _ _ hf hw (lv_sub hl [0, 1, 2, 3, 4] rfl)
    · have hf := ifF hf hc
      refine lv_aload_n hx hb dX12_holdsFor_156 rfl (lv_at hl 0 rfl) ?_
      refine mg_pile cx hw dX12_holdsFor_157 ?_
      refine lv_iconst (v := 0) hx hb dX12_holdsFor_160 (by decide) ?_
      refine ml_pile (j := 0) cx hw (ib_in (by decide)) (by decide) dX12_holdsFor_161 ?_
      refine lv_if_eq (tgt := 169) hx hb dX12_holdsFor_162 (by decide) (fun hc => ?_) (fun hc => ?_)
      · have hf := ifT hf hc
        refine lv_iconst (v := 0) hx hb dX12_holdsFor_169 (by decide) ?_
        have hf := Option.some.inj hf
        subst hf
        exact hR _ _ _ _ _ _ hw rfl ⟨rfl, rfl⟩ dX12_holdsFor_170
      · have hf := ifF hf hc
        exact wj20 _ _ _ _ hf hw (lv_sub hl [0, 1, 2, 3, 4] rfl)
  clear hf
  have hf := hj3
  clear hj3
  refine lv_if_ne (tgt := 10) hx hb dX12_holdsFor_3 (by decide) (fun hc => ?_) (fun hc => ?_)
  · have hf := ifF hf hc
    refine lv_aload_n hx hb dX12_holdsFor_10 rfl (lv_at hl 1 rfl) ?_
    refine lv_iload_n hx hb dX12_holdsFor_11 rfl (lv_at hl 2 rfl) ?_
    refine lv_iconst (v := 1) hx hb dX12_holdsFor_12 (by decide) ?_
    refine lv_isub hx hb dX12_holdsFor_13 ?_
    refine lv_iconst (v := 2) hx hb dX12_holdsFor_14 (by decide) ?_
    obtain ⟨r1, h2, hf⟩ := bnS hf
    refine calVi (k := 0) cx hw hl.1 (c_X12_ruleOf h2) q_1338 k_X12_ruleOf rfl rfl rfl dX12_holdsFor_15 rfl (Nat.le_of_ble_eq_true rfl) ⟨Nat.le_of_ble_eq_true rfl, Nat.le_of_ble_eq_true rfl⟩ ⟨Nat.le_refl _, Nat.le_refl _⟩ (fun H locs hw => ?_)
    have hf := Option.some.inj hf
    subst hf
    exact wj3 _ _ _ hw (lv_sub hl [1, 2, 3, 0] rfl)
  · have hf := ifT hf hc
    refine lv_iconst (v := 0) hx hb dX12_holdsFor_6 (by decide) ?_
    refine lv_goto (tgt := 18) hx hb dX12_holdsFor_7 (by decide) ?_
    have hf := Option.some.inj hf
    subst hf
    exact wj3 _ _ _ hw (lv_sub hl [1, 2, 3, 0] rfl)
theorem dX12_willOf_0 : decode cX12_willOf 0 = .ok (.iconst 0, 1) := by decide +kernel
theorem dX12_willOf_1 : decode cX12_willOf 1 = .ok (.istore_n 2, 1) := by decide +kernel
theorem dX12_willOf_2 : decode cX12_willOf 2 = .ok (.iload_n 2, 1) := by decide +kernel
theorem dX12_willOf_3 : decode cX12_willOf 3 = .ok (.aload_n 0, 1) := by decide +kernel
theorem dX12_willOf_4 : decode cX12_willOf 4 = .ok (.getfield 9, 3) := by decide +kernel
theorem dX12_willOf_7 : decode cX12_willOf 7 = .ok (.iconst 5, 1) := by decide +kernel
theorem dX12_willOf_8 : decode cX12_willOf 8 = .ok (.iaload, 1) := by decide +kernel
theorem dX12_willOf_9 : decode cX12_willOf 9 = .ok (.if_icmp .ge 43, 3) := by decide +kernel
theorem dX12_willOf_12 : decode cX12_willOf 12 = .ok (.aload_n 0, 1) := by decide +kernel
theorem dX12_willOf_13 : decode cX12_willOf 13 = .ok (.iload_n 1, 1) := by decide +kernel
theorem dX12_willOf_14 : decode cX12_willOf 14 = .ok (.iconst 0, 1) := by decide +kernel
theorem dX12_willOf_15 : decode cX12_willOf 15 = .ok (.invokevirtual 79, 3) := by decide +kernel
theorem dX12_willOf_18 : decode cX12_willOf 18 = .ok (.aload_n 0, 1) := by decide +kernel
theorem dX12_willOf_19 : decode cX12_willOf 19 = .ok (.iload_n 2, 1) := by decide +kernel
theorem dX12_willOf_20 : decode cX12_willOf 20 = .ok (.iconst 0, 1) := by decide +kernel
theorem dX12_willOf_21 : decode cX12_willOf 21 = .ok (.invokevirtual 113, 3) := by decide +kernel
theorem dX12_willOf_24 : decode cX12_willOf 24 = .ok (.invokestatic 122, 3) := by decide +kernel
theorem dX12_willOf_27 : decode cX12_willOf 27 = .ok (.ifCond .eq 19, 3) := by decide +kernel
theorem dX12_willOf_30 : decode cX12_willOf 30 = .ok (.aload_n 0, 1) := by decide +kernel
theorem dX12_willOf_31 : decode cX12_willOf 31 = .ok (.iload_n 2, 1) := by decide +kernel
theorem dX12_willOf_32 : decode cX12_willOf 32 = .ok (.iload_n 1, 1) := by decide +kernel
theorem dX12_willOf_33 : decode cX12_willOf 33 = .ok (.invokevirtual 125, 3) := by decide +kernel
theorem dX12_willOf_36 : decode cX12_willOf 36 = .ok (.ifCond .eq 10, 3) := by decide +kernel
theorem dX12_willOf_39 : decode cX12_willOf 39 = .ok (.aload_n 0, 1) := by decide +kernel
theorem dX12_willOf_40 : decode cX12_willOf 40 = .ok (.iload_n 2, 1) := by decide +kernel
theorem dX12_willOf_41 : decode cX12_willOf 41 = .ok (.iconst 1, 1) := by decide +kernel
theorem dX12_willOf_42 : decode cX12_willOf 42 = .ok (.invokevirtual 113, 3) := by decide +kernel
theorem dX12_willOf_45 : decode cX12_willOf 45 = .ok (.ireturn, 1) := by decide +kernel
theorem dX12_willOf_46 : decode cX12_willOf 46 = .ok (.iinc 2 1, 3) := by decide +kernel
theorem dX12_willOf_49 : decode cX12_willOf 49 = .ok (.goto (-47), 3) := by decide +kernel
theorem dX12_willOf_52 : decode cX12_willOf 52 = .ok (.iconst 0, 1) := by decide +kernel
theorem dX12_willOf_53 : decode cX12_willOf 53 = .ok (.ireturn, 1) := by decide +kernel
theorem k_X12_willOf : MV yX12_willOf cX12_willOf 3 (some .int) 1 := ⟨q_1336, qs_53, q_14, q_1337, ⟨by decide, by decide, by decide +kernel⟩⟩
theorem c_X12_willOf {res : Int32 × (Nat → Int32)} (hf : X12_willOf n x_s x_pile v1 = some res) : MC l E0 D t yX12_willOf cX12_willOf 3 (some .int) 4 0 0 [.ref (a 0), .int v1] (mW a t x_s x_kept x_laid x_isKept x_pile x_tape x_taped x_letters x_at x_begun x_token x_value x_opened x_steps x_code0 x_read x_saved x_plan x_bestPlan x_most x_many x_few x_everRight x_lagThen x_shadedThen x_firstFit x_rows x_rowMany x_sorts x_sizes x_number x_holds x_heldOne x_trace x_traced x_own x_isParted) (Qi res.1 (mW a t x_s x_kept x_laid x_isKept res.2 x_tape x_taped x_letters x_at x_begun x_token x_value x_opened x_steps x_code0 x_read x_saved x_plan x_bestPlan x_most x_many x_few x_everRight x_lagThen x_shadedThen x_firstFit x_rows x_rowMany x_sorts x_sizes x_number x_holds x_heldOne x_trace x_traced x_own x_isParted)) := by
  unfold X12_willOf at hf
  refine MC.ofI pn_X12 (Nat.le_of_ble_eq_true rfl) ?_
  intro p e s m args below meth c A Q ls cx hR hw hl
  have hx := cx.1
  have hb := cx.2.1
  have hl : lv_has ls 3 [(0, .ref (a 0)), (1, .int v1)] := hl
  refine lv_iconst (v := 0) hx hb dX12_willOf_0 (by decide) ?_
  refine lv_istore_n (lv' := [(2, .int (0 : Int32)), (0, .ref (a 0)), (1, .int v1)]) hx hb dX12_willOf_1 rfl hl (by decide) rfl (fun ls hl => ?_)
  obtain ⟨K1, hK1, hf⟩ := jnS hf
  have kx1 : ∀ (o12 : Int32 × (Nat → Int32)) (H : Heap) (locs : List Loc) (ls : Array Slot), K1 o12 = some res → Wd D A s (mW a t x_s x_kept x_laid x_isKept o12.2 x_tape x_taped x_letters x_at x_begun x_token x_value x_opened x_steps x_code0 x_read x_saved x_plan x_bestPlan x_most x_many x_few x_everRight x_lagThen x_shadedThen x_firstFit x_rows x_rowMany x_sorts x_sizes x_number x_holds x_heldOne x_trace x_traced x_own x_isParted) H locs → lv_has ls 3 [(0, .ref (a 0)), (1, .int v1), (2, .int o12.1)] → W p l e (rmz 4 0 0) s m args below meth c H locs 0 0 Q (F0 m 52 ls []) := by
    intro o12 H locs ls hf hw hl
    have hf := hK1 _ hf
    refine lv_iconst (v := 0) hx hb dX12_willOf_52 (by decide) ?_
    have hf := Option.some.inj hf
    subst hf
    exact hR _ _ _ _ _ _ hw rfl ⟨rfl, rfl⟩ dX12_willOf_53
  have wL1 : ∀ (k : Nat) {v1 : Int32} {v2 : Int32} {x_pile : Nat → Int32} {H : Heap} {locs : List Loc} {ls : Array Slot}, X12_willOf_L1 n x_s v1 K1 k v2 x_pile = some res → Wd D A s (mW a t x_s x_kept x_laid x_isKept x_pile x_tape x_taped x_letters x_at x_begun x_token x_value x_opened x_steps x_code0 x_read x_saved x_plan x_bestPlan x_most x_many x_few x_everRight x_lagThen x_shadedThen x_firstFit x_rows x_rowMany x_sorts x_sizes x_number x_holds x_heldOne x_trace x_traced x_own x_isParted) H locs → lv_has ls 3 [(0, .ref (a 0)), (1, .int v1), (2, .int v2)] → (∀ (o : Int32 × (Nat → Int32)) (H : Heap) (locs : List Loc) (ls : Array Slot), K1 o = some res → Wd D A s (mW a t x_s x_kept x_laid x_isKept o.2 x_tape x_taped x_letters x_at x_begun x_token x_value x_opened x_steps x_code0 x_read x_saved x_plan x_bestPlan x_most x_many x_few x_everRight x_lagThen x_shadedThen x_firstFit x_rows x_rowMany x_sorts x_sizes x_number x_holds x_heldOne x_trace x_traced x_own x_isParted) H locs → lv_has ls 3 [(0, .ref (a 0)), (1, .int v1), (2, .int o.1)] → W p l e (rmz 4 0 0) s m args below meth c H locs 0 0 Q (F0 m 52 ls [])) → W p l e (rmz 4 0 0) s m args below meth c H locs 0 0 Q (F0 m 2 ls []) := by
    clear hf hw hl hK1 kx1
    intro k
    induction k with
    | zero => intro v1 v2 x_pile H locs ls hf hw hl kx; simp [X12_willOf_L1] at hf
    | succ k ih =>
      intro v1 v2 x_pile H locs ls hf hw hl kx
      rw [X12_willOf_L1] at hf
      refine lv_iload_n hx hb dX12_willOf_2 rfl (lv_at hl 2 rfl) ?_
      refine lv_aload_n hx hb dX12_willOf_3 rfl (lv_at hl 0 rfl) ?_
      refine mg_s cx hw dX12_willOf_4 ?_
      refine lv_iconst (v := 5) hx hb dX12_willOf_7 (by decide) ?_
      refine ml_s (j := 5) cx hw (ib_in (by decide)) (by decide) dX12_willOf_8 ?_
      refine lv_icmp_ge (tgt := 52) hx hb dX12_willOf_9 (by decide) (fun hc => ?_) (fun hc => ?_)
      · have hf := ifT hf hc
        exact kx _ _ _ _ hf hw (lv_sub hl [0, 1, 2] rfl)
      · have hf := ifF hf hc
        refine lv_aload_n hx hb dX12_willOf_12 rfl (lv_at hl 0 rfl) ?_
        refine lv_iload_n hx hb dX12_willOf_13 rfl (lv_at hl 1 rfl) ?_
        refine lv_iconst (v := 0) hx hb dX12_willOf_14 (by decide) ?_
        obtain ⟨r1, h2, hf⟩ := bnS hf
        refine calVi (k := 0) cx hw hl.1 (c_X12_get h2) q_1304 k_X12_get rfl rfl rfl dX12_willOf_15 rfl (Nat.le_of_ble_eq_true rfl) ⟨Nat.le_of_ble_eq_true rfl, Nat.le_of_ble_eq_true rfl⟩ ⟨Nat.le_refl _, Nat.le_refl _⟩ (fun H locs hw => ?_)
        refine lv_aload_n hx hb dX12_willOf_18 rfl (lv_at hl 0 rfl) ?_
        refine lv_iload_n hx hb dX12_willOf_19 rfl (lv_at hl 2 rfl) ?_
        refine lv_iconst (v := 0) hx hb dX12_willOf_20 (by decide) ?_
        obtain ⟨r3, h4, hf⟩ := bnS hf
        refine calVi (k := 0) cx hw hl.1 (c_X12_ruleOf h4) q_1338 k_X12_ruleOf rfl rfl rfl dX12_willOf_21 rfl (Nat.le_of_ble_eq_true rfl) ⟨Nat.le_of_ble_eq_true rfl, Nat.le_of_ble_eq_true rfl⟩ ⟨Nat.le_refl _, Nat.le_refl _⟩ (fun H locs hw => ?_)
        obtain ⟨r5, h6, hf⟩ := bnS hf
        refine calSi cx hw hl.1 (c_X12_isUnder h6) q_1342 k_X12_isUnder rfl dX12_willOf_24 rfl (Nat.le_of_ble_eq_true rfl) ⟨Nat.le_of_ble_eq_true rfl, Nat.le_of_ble_eq_true rfl⟩ ⟨Nat.le_refl _, Nat.le_refl _⟩ (fun H locs hw => ?_)
        obtain ⟨J11, hJ11, hf⟩ := jnS hf
        have wj11 : ∀ (j11 : (Nat → Int32)) (H : Heap) (locs : List Loc) (ls : Array Slot), J11 j11 = some res → Wd D A s (mW a t x_s x_kept x_laid x_isKept j11 x_tape x_taped x_letters x_at x_begun x_token x_value x_opened x_steps x_code0 x_read x_saved x_plan x_bestPlan x_most x_many x_few x_everRight x_lagThen x_shadedThen x_firstFit x_rows x_rowMany x_sorts x_sizes x_number x_holds x_heldOne x_trace x_traced x_own x_isParted) H locs → lv_has ls 3 [(0, .ref (a 0)), (1, .int v1), (2, .int v2)] → W p l e (rmz 4 0 0) s m args below meth c H locs 0 0 Q (F0 m 46 ls []) := by
          intro j11 H locs ls hf hw hl
          have hf := hJ11 _ hf
          refine lv_iinc (v := (v2 + (1 : Int32))) (lv' := [(2, .int (v2 + (1 : Int32))), (0, .ref (a 0)), (1, .int v1)]) hx hb dX12_willOf_46 hl (k := 2) rfl rfl (by decide) rfl (fun ls hl => ?_)
          refine lv_goto (tgt := 2) hx hb dX12_willOf_49 (by decide) ?_
          exact ih hf hw (lv_sub hl [1, 2, 0] rfl) kx
        clear hJ11
        refine lv_if_eq (tgt := 46) hx hb dX12_willOf_27 (by decide) (fun hc => ?_) (fun hc => ?_)
        · have hf := ifT hf hc
          exact wj11 _ _ _ _ hf hw (lv_sub hl [0, 1, 2] rfl)
        · have hf := ifF hf hc
          refine lv_aload_n hx hb dX12_willOf_30 rfl (lv_at hl 0 rfl) ?_
          refine lv_iload_n hx hb dX12_willOf_31 rfl (lv_at hl 2 rfl) ?_
          refine lv_iload_n hx hb dX12_willOf_32 rfl (lv_at hl 1 rfl) ?_
          obtain ⟨r7, h8, hf⟩ := bnS hf
          refine calVi (k := 0) cx hw hl.1 (c_X12_holdsFor h8) q_1348 k_X12_holdsFor rfl rfl rfl dX12_willOf_33 rfl (Nat.le_of_ble_eq_true rfl) ⟨Nat.le_of_ble_eq_true rfl, Nat.le_of_ble_eq_true rfl⟩ ⟨Nat.le_refl _, Nat.le_refl _⟩ (fun H locs hw => ?_)
          refine lv_if_eq (tgt := 46) hx hb dX12_willOf_36 (by decide) (fun hc => ?_) (fun hc => ?_)
          · have hf := ifT hf hc
            exact wj11 _ _ _ _ hf hw (lv_sub hl [0, 1, 2] rfl)
          · have hf := ifF hf hc
            refine lv_aload_n hx hb dX12_willOf_39 rfl (lv_at hl 0 rfl) ?_
            refine lv_iload_n hx hb dX12_willOf_40 rfl (lv_at hl 2 rfl) ?_
            refine lv_iconst (v := 1) hx hb dX12_willOf_41 (by decide) ?_
            obtain ⟨r9, h10, hf⟩ := bnS hf
            refine calVi (k := 0) cx hw hl.1 (c_X12_ruleOf h10) q_1338 k_X12_ruleOf rfl rfl rfl dX12_willOf_42 rfl (Nat.le_of_ble_eq_true rfl) ⟨Nat.le_of_ble_eq_true rfl, Nat.le_of_ble_eq_true rfl⟩ ⟨Nat.le_refl _, Nat.le_refl _⟩ (fun H locs hw => ?_)
            have hf := Option.some.inj hf
            subst hf
            exact hR _ _ _ _ _ _ hw rfl ⟨rfl, rfl⟩ dX12_willOf_45
  exact wL1 n hf hw (lv_sub hl [1, 2, 0] rfl) kx1
theorem dX12_maySet_0 : decode cX12_maySet 0 = .ok (.aload_n 0, 1) := by decide +kernel
theorem dX12_maySet_1 : decode cX12_maySet 1 = .ok (.iload_n 1, 1) := by decide +kernel
theorem dX12_maySet_2 : decode cX12_maySet 2 = .ok (.invokevirtual 100, 3) := by decide +kernel
theorem dX12_maySet_5 : decode cX12_maySet 5 = .ok (.ifCond .ne 15, 3) := by decide +kernel
theorem dX12_maySet_8 : decode cX12_maySet 8 = .ok (.aload_n 0, 1) := by decide +kernel
theorem dX12_maySet_9 : decode cX12_maySet 9 = .ok (.iload_n 1, 1) := by decide +kernel
theorem dX12_maySet_10 : decode cX12_maySet 10 = .ok (.invokevirtual 103, 3) := by decide +kernel
theorem dX12_maySet_13 : decode cX12_maySet 13 = .ok (.ifCond .le 7, 3) := by decide +kernel
theorem dX12_maySet_16 : decode cX12_maySet 16 = .ok (.iconst 1, 1) := by decide +kernel
theorem dX12_maySet_17 : decode cX12_maySet 17 = .ok (.goto 4, 3) := by decide +kernel
theorem dX12_maySet_20 : decode cX12_maySet 20 = .ok (.iconst 0, 1) := by decide +kernel
theorem dX12_maySet_21 : decode cX12_maySet 21 = .ok (.ireturn, 1) := by decide +kernel
theorem k_X12_maySet : MV yX12_maySet cX12_maySet 2 (some .boolean) 1 := ⟨q_1332, qs_52, q_14, q_1333, ⟨by decide, by decide, by decide +kernel⟩⟩
theorem c_X12_maySet {res : Int32 × (Nat → Int32)} (hf : X12_maySet n x_s x_pile v1 = some res) : MC l E0 D t yX12_maySet cX12_maySet 2 (some .boolean) 5 0 0 [.ref (a 0), .int v1] (mW a t x_s x_kept x_laid x_isKept x_pile x_tape x_taped x_letters x_at x_begun x_token x_value x_opened x_steps x_code0 x_read x_saved x_plan x_bestPlan x_most x_many x_few x_everRight x_lagThen x_shadedThen x_firstFit x_rows x_rowMany x_sorts x_sizes x_number x_holds x_heldOne x_trace x_traced x_own x_isParted) (Qi res.1 (mW a t x_s x_kept x_laid x_isKept res.2 x_tape x_taped x_letters x_at x_begun x_token x_value x_opened x_steps x_code0 x_read x_saved x_plan x_bestPlan x_most x_many x_few x_everRight x_lagThen x_shadedThen x_firstFit x_rows x_rowMany x_sorts x_sizes x_number x_holds x_heldOne x_trace x_traced x_own x_isParted)) := by
  unfold X12_maySet at hf
  refine MC.ofI pn_X12 (Nat.le_of_ble_eq_true rfl) ?_
  intro p e s m args below meth c A Q ls cx hR hw hl
  have hx := cx.1
  have hb := cx.2.1
  have hl : lv_has ls 2 [(0, .ref (a 0)), (1, .int v1)] := hl
  refine lv_aload_n hx hb dX12_maySet_0 rfl (lv_at hl 0 rfl) ?_
  refine lv_iload_n hx hb dX12_maySet_1 rfl (lv_at hl 1 rfl) ?_
  obtain ⟨r1, h2, hf⟩ := bnS hf
  refine calVi (k := 0) cx hw hl.1 (c_X12_willOf h2) q_1334 k_X12_willOf rfl rfl rfl dX12_maySet_2 rfl (Nat.le_of_ble_eq_true rfl) ⟨Nat.le_of_ble_eq_true rfl, Nat.le_of_ble_eq_true rfl⟩ ⟨Nat.le_refl _, Nat.le_refl _⟩ (fun H locs hw => ?_)
  refine lv_if_ne (tgt := 20) hx hb dX12_maySet_5 (by decide) (fun hc => ?_) (fun hc => ?_)
  · have hf := ifF hf hc
    refine lv_iconst (v := 0) hx hb dX12_maySet_20 (by decide) ?_
    have hf := Option.some.inj hf
    subst hf
    exact hR _ _ _ _ _ _ hw rfl ⟨rfl, rfl⟩ dX12_maySet_21
  · have hf := ifT hf hc
    refine lv_aload_n hx hb dX12_maySet_8 rfl (lv_at hl 0 rfl) ?_
    refine lv_iload_n hx hb dX12_maySet_9 rfl (lv_at hl 1 rfl) ?_
    obtain ⟨r3, h4, hf⟩ := bnS hf
    refine calVi (k := 0) cx hw hl.1 (c_X12_paysOf h4) q_1326 k_X12_paysOf rfl rfl rfl dX12_maySet_10 rfl (Nat.le_of_ble_eq_true rfl) ⟨Nat.le_of_ble_eq_true rfl, Nat.le_of_ble_eq_true rfl⟩ ⟨Nat.le_refl _, Nat.le_refl _⟩ (fun H locs hw => ?_)
    refine lv_if_le (tgt := 20) hx hb dX12_maySet_13 (by decide) (fun hc => ?_) (fun hc => ?_)
    · have hf := ifT hf hc
      refine lv_iconst (v := 0) hx hb dX12_maySet_20 (by decide) ?_
      have hf := Option.some.inj hf
      subst hf
      exact hR _ _ _ _ _ _ hw rfl ⟨rfl, rfl⟩ dX12_maySet_21
    · have hf := ifF hf hc
      refine lv_iconst (v := 1) hx hb dX12_maySet_16 (by decide) ?_
      refine lv_goto (tgt := 21) hx hb dX12_maySet_17 (by decide) ?_
      have hf := Option.some.inj hf
      subst hf
      exact hR _ _ _ _ _ _ hw rfl ⟨rfl, rfl⟩ dX12_maySet_21
theorem dX12_apart_0 : decode cX12_apart 0 = .ok (.iload_n 0, 1) := by decide +kernel
theorem dX12_apart_1 : decode cX12_apart 1 = .ok (.iload_n 1, 1) := by decide +kernel
theorem dX12_apart_2 : decode cX12_apart 2 = .ok (.if_icmp .ge 9, 3) := by decide +kernel
theorem dX12_apart_5 : decode cX12_apart 5 = .ok (.iload_n 1, 1) := by decide +kernel
theorem dX12_apart_6 : decode cX12_apart 6 = .ok (.iload_n 0, 1) := by decide +kernel
theorem dX12_apart_7 : decode cX12_apart 7 = .ok (.isub, 1) := by decide +kernel
theorem dX12_apart_8 : decode cX12_apart 8 = .ok (.goto 6, 3) := by decide +kernel
theorem dX12_apart_11 : decode cX12_apart 11 = .ok (.iload_n 0, 1) := by decide +kernel
theorem dX12_apart_12 : decode cX12_apart 12 = .ok (.iload_n 1, 1) := by decide +kernel
theorem dX12_apart_13 : decode cX12_apart 13 = .ok (.isub, 1) := by decide +kernel
theorem dX12_apart_14 : decode cX12_apart 14 = .ok (.ireturn, 1) := by decide +kernel
theorem k_X12_apart : MS yX12_apart cX12_apart 2 (some .int) 2 := ⟨q_1412, q_14, q_1413, ⟨by decide, by decide, by decide +kernel⟩⟩
theorem c_X12_apart {res : Int32} (hf : X12_apart v0 v1 = res) : MC l E0 D t yX12_apart cX12_apart 2 (some .int) 1 0 0 [.int v0, .int v1] (mW a t x_s x_kept x_laid x_isKept x_pile x_tape x_taped x_letters x_at x_begun x_token x_value x_opened x_steps x_code0 x_read x_saved x_plan x_bestPlan x_most x_many x_few x_everRight x_lagThen x_shadedThen x_firstFit x_rows x_rowMany x_sorts x_sizes x_number x_holds x_heldOne x_trace x_traced x_own x_isParted) (Qi res (mW a t x_s x_kept x_laid x_isKept x_pile x_tape x_taped x_letters x_at x_begun x_token x_value x_opened x_steps x_code0 x_read x_saved x_plan x_bestPlan x_most x_many x_few x_everRight x_lagThen x_shadedThen x_firstFit x_rows x_rowMany x_sorts x_sizes x_number x_holds x_heldOne x_trace x_traced x_own x_isParted)) := by
  unfold X12_apart at hf
  refine MC.ofI pn_X12 (Nat.le_of_ble_eq_true rfl) ?_
  intro p e s m args below meth c A Q ls cx hR hw hl
  have hx := cx.1
  have hb := cx.2.1
  have hl : lv_has ls 2 [(0, .int v0), (1, .int v1)] := hl
  refine lv_iload_n hx hb dX12_apart_0 rfl (lv_at hl 0 rfl) ?_
  refine lv_iload_n hx hb dX12_apart_1 rfl (lv_at hl 1 rfl) ?_
  refine lv_icmp_ge (tgt := 11) hx hb dX12_apart_2 (by decide) (fun hc => ?_) (fun hc => ?_)
  · have hf := ifT hf hc
    refine lv_iload_n hx hb dX12_apart_11 rfl (lv_at hl 0 rfl) ?_
    refine lv_iload_n hx hb dX12_apart_12 rfl (lv_at hl 1 rfl) ?_
    refine lv_isub hx hb dX12_apart_13 ?_
    subst hf
    exact hR _ _ _ _ _ _ hw rfl ⟨rfl, rfl⟩ dX12_apart_14
  · have hf := ifF hf hc
    refine lv_iload_n hx hb dX12_apart_5 rfl (lv_at hl 1 rfl) ?_
    refine lv_iload_n hx hb dX12_apart_6 rfl (lv_at hl 0 rfl) ?_
    refine lv_isub hx hb dX12_apart_7 ?_
    refine lv_goto (tgt := 14) hx hb dX12_apart_8 (by decide) ?_
    subst hf
    exact hR _ _ _ _ _ _ hw rfl ⟨rfl, rfl⟩ dX12_apart_14
theorem dX12_doAgree_0 : decode cX12_doAgree 0 = .ok (.aload_n 0, 1) := by decide +kernel
theorem dX12_doAgree_1 : decode cX12_doAgree 1 = .ok (.iload_n 1, 1) := by decide +kernel
theorem dX12_doAgree_2 : decode cX12_doAgree 2 = .ok (.iconst 1, 1) := by decide +kernel
theorem dX12_doAgree_3 : decode cX12_doAgree 3 = .ok (.invokevirtual 79, 3) := by decide +kernel
theorem dX12_doAgree_6 : decode cX12_doAgree 6 = .ok (.aload_n 0, 1) := by decide +kernel
theorem dX12_doAgree_7 : decode cX12_doAgree 7 = .ok (.iload_n 2, 1) := by decide +kernel
theorem dX12_doAgree_8 : decode cX12_doAgree 8 = .ok (.iconst 1, 1) := by decide +kernel
theorem dX12_doAgree_9 : decode cX12_doAgree 9 = .ok (.invokevirtual 79, 3) := by decide +kernel
theorem dX12_doAgree_12 : decode cX12_doAgree 12 = .ok (.invokestatic 106, 3) := by decide +kernel
theorem dX12_doAgree_15 : decode cX12_doAgree 15 = .ok (.iconst 5, 1) := by decide +kernel
theorem dX12_doAgree_16 : decode cX12_doAgree 16 = .ok (.if_icmp .gt 7, 3) := by decide +kernel
theorem dX12_doAgree_19 : decode cX12_doAgree 19 = .ok (.iconst 1, 1) := by decide +kernel
theorem dX12_doAgree_20 : decode cX12_doAgree 20 = .ok (.goto 4, 3) := by decide +kernel
theorem dX12_doAgree_23 : decode cX12_doAgree 23 = .ok (.iconst 0, 1) := by decide +kernel
theorem dX12_doAgree_24 : decode cX12_doAgree 24 = .ok (.ireturn, 1) := by decide +kernel
theorem k_X12_doAgree : MV yX12_doAgree cX12_doAgree 3 (some .boolean) 2 := ⟨q_1409, qs_61, q_14, q_1410, ⟨by decide, by decide, by decide +kernel⟩⟩
theorem c_X12_doAgree {res : Int32} (hf : X12_doAgree x_s v1 v2 = some res) : MC l E0 D t yX12_doAgree cX12_doAgree 3 (some .boolean) 2 0 0 [.ref (a 0), .int v1, .int v2] (mW a t x_s x_kept x_laid x_isKept x_pile x_tape x_taped x_letters x_at x_begun x_token x_value x_opened x_steps x_code0 x_read x_saved x_plan x_bestPlan x_most x_many x_few x_everRight x_lagThen x_shadedThen x_firstFit x_rows x_rowMany x_sorts x_sizes x_number x_holds x_heldOne x_trace x_traced x_own x_isParted) (Qi res (mW a t x_s x_kept x_laid x_isKept x_pile x_tape x_taped x_letters x_at x_begun x_token x_value x_opened x_steps x_code0 x_read x_saved x_plan x_bestPlan x_most x_many x_few x_everRight x_lagThen x_shadedThen x_firstFit x_rows x_rowMany x_sorts x_sizes x_number x_holds x_heldOne x_trace x_traced x_own x_isParted)) := by
  unfold X12_doAgree at hf
  refine MC.ofI pn_X12 (Nat.le_of_ble_eq_true rfl) ?_
  intro p e s m args below meth c A Q ls cx hR hw hl
  have hx := cx.1
  have hb := cx.2.1
  have hl : lv_has ls 3 [(0, .ref (a 0)), (1, .int v1), (2, .int v2)] := hl
  refine lv_aload_n hx hb dX12_doAgree_0 rfl (lv_at hl 0 rfl) ?_
  refine lv_iload_n hx hb dX12_doAgree_1 rfl (lv_at hl 1 rfl) ?_
  refine lv_iconst (v := 1) hx hb dX12_doAgree_2 (by decide) ?_
  obtain ⟨r1, h2, hf⟩ := bnS hf
  refine calVi (k := 0) cx hw hl.1 (c_X12_get h2) q_1304 k_X12_get rfl rfl rfl dX12_doAgree_3 rfl (Nat.le_of_ble_eq_true rfl) ⟨Nat.le_of_ble_eq_true rfl, Nat.le_of_ble_eq_true rfl⟩ ⟨Nat.le_refl _, Nat.le_refl _⟩ (fun H locs hw => ?_)
  refine lv_aload_n hx hb dX12_doAgree_6 rfl (lv_at hl 0 rfl) ?_
  refine lv_iload_n hx hb dX12_doAgree_7 rfl (lv_at hl 2 rfl) ?_
  refine lv_iconst (v := 1) hx hb dX12_doAgree_8 (by decide) ?_
  obtain ⟨r3, h4, hf⟩ := bnS hf
  refine calVi (k := 0) cx hw hl.1 (c_X12_get h4) q_1304 k_X12_get rfl rfl rfl dX12_doAgree_9 rfl (Nat.le_of_ble_eq_true rfl) ⟨Nat.le_of_ble_eq_true rfl, Nat.le_of_ble_eq_true rfl⟩ ⟨Nat.le_refl _, Nat.le_refl _⟩ (fun H locs hw => ?_)
  refine calSi cx hw hl.1 (c_X12_apart rfl) q_1411 k_X12_apart rfl dX12_doAgree_12 rfl (Nat.le_of_ble_eq_true rfl) ⟨Nat.le_of_ble_eq_true rfl, Nat.le_of_ble_eq_true rfl⟩ ⟨Nat.le_refl _, Nat.le_refl _⟩ (fun H locs hw => ?_)
  refine lv_iconst (v := 5) hx hb dX12_doAgree_15 (by decide) ?_
  refine lv_icmp_gt (tgt := 23) hx hb dX12_doAgree_16 (by decide) (fun hc => ?_) (fun hc => ?_)
  · have hf := ifT hf hc
    refine lv_iconst (v := 0) hx hb dX12_doAgree_23 (by decide) ?_
    have hf := Option.some.inj hf
    subst hf
    exact hR _ _ _ _ _ _ hw rfl ⟨rfl, rfl⟩ dX12_doAgree_24
  · have hf := ifF hf hc
    refine lv_iconst (v := 1) hx hb dX12_doAgree_19 (by decide) ?_
    refine lv_goto (tgt := 24) hx hb dX12_doAgree_20 (by decide) ?_
    have hf := Option.some.inj hf
    subst hf
    exact hR _ _ _ _ _ _ hw rfl ⟨rfl, rfl⟩ dX12_doAgree_24
theorem dX12_pairsNow_0 : decode cX12_pairsNow 0 = .ok (.iconst 0, 1) := by decide +kernel
theorem dX12_pairsNow_1 : decode cX12_pairsNow 1 = .ok (.istore_n 1, 1) := by decide +kernel
theorem dX12_pairsNow_2 : decode cX12_pairsNow 2 = .ok (.iconst 0, 1) := by decide +kernel
theorem dX12_pairsNow_3 : decode cX12_pairsNow 3 = .ok (.istore_n 2, 1) := by decide +kernel
theorem dX12_pairsNow_4 : decode cX12_pairsNow 4 = .ok (.iload_n 2, 1) := by decide +kernel
theorem dX12_pairsNow_5 : decode cX12_pairsNow 5 = .ok (.aload_n 0, 1) := by decide +kernel
theorem dX12_pairsNow_6 : decode cX12_pairsNow 6 = .ok (.getfield 9, 3) := by decide +kernel
theorem dX12_pairsNow_9 : decode cX12_pairsNow 9 = .ok (.iconst 4, 1) := by decide +kernel
theorem dX12_pairsNow_10 : decode cX12_pairsNow 10 = .ok (.iaload, 1) := by decide +kernel
theorem dX12_pairsNow_11 : decode cX12_pairsNow 11 = .ok (.if_icmp .ge 46, 3) := by decide +kernel
theorem dX12_pairsNow_14 : decode cX12_pairsNow 14 = .ok (.iload_n 2, 1) := by decide +kernel
theorem dX12_pairsNow_15 : decode cX12_pairsNow 15 = .ok (.iconst 1, 1) := by decide +kernel
theorem dX12_pairsNow_16 : decode cX12_pairsNow 16 = .ok (.iadd, 1) := by decide +kernel
theorem dX12_pairsNow_17 : decode cX12_pairsNow 17 = .ok (.istore_n 3, 1) := by decide +kernel
theorem dX12_pairsNow_18 : decode cX12_pairsNow 18 = .ok (.iload_n 3, 1) := by decide +kernel
theorem dX12_pairsNow_19 : decode cX12_pairsNow 19 = .ok (.aload_n 0, 1) := by decide +kernel
theorem dX12_pairsNow_20 : decode cX12_pairsNow 20 = .ok (.getfield 9, 3) := by decide +kernel
theorem dX12_pairsNow_23 : decode cX12_pairsNow 23 = .ok (.iconst 4, 1) := by decide +kernel
theorem dX12_pairsNow_24 : decode cX12_pairsNow 24 = .ok (.iaload, 1) := by decide +kernel
theorem dX12_pairsNow_25 : decode cX12_pairsNow 25 = .ok (.if_icmp .ge 26, 3) := by decide +kernel
theorem dX12_pairsNow_28 : decode cX12_pairsNow 28 = .ok (.iload_n 1, 1) := by decide +kernel
theorem dX12_pairsNow_29 : decode cX12_pairsNow 29 = .ok (.aload_n 0, 1) := by decide +kernel
theorem dX12_pairsNow_30 : decode cX12_pairsNow 30 = .ok (.iload_n 2, 1) := by decide +kernel
theorem dX12_pairsNow_31 : decode cX12_pairsNow 31 = .ok (.iload_n 3, 1) := by decide +kernel
theorem dX12_pairsNow_32 : decode cX12_pairsNow 32 = .ok (.invokevirtual 109, 3) := by decide +kernel
theorem dX12_pairsNow_35 : decode cX12_pairsNow 35 = .ok (.ifCond .eq 7, 3) := by decide +kernel
theorem dX12_pairsNow_38 : decode cX12_pairsNow 38 = .ok (.iconst 1, 1) := by decide +kernel
theorem dX12_pairsNow_39 : decode cX12_pairsNow 39 = .ok (.goto 4, 3) := by decide +kernel
theorem dX12_pairsNow_42 : decode cX12_pairsNow 42 = .ok (.iconst 0, 1) := by decide +kernel
theorem dX12_pairsNow_43 : decode cX12_pairsNow 43 = .ok (.iadd, 1) := by decide +kernel
theorem dX12_pairsNow_44 : decode cX12_pairsNow 44 = .ok (.istore_n 1, 1) := by decide +kernel
theorem dX12_pairsNow_45 : decode cX12_pairsNow 45 = .ok (.iinc 3 1, 3) := by decide +kernel
theorem dX12_pairsNow_48 : decode cX12_pairsNow 48 = .ok (.goto (-30), 3) := by decide +kernel
theorem dX12_pairsNow_51 : decode cX12_pairsNow 51 = .ok (.iinc 2 1, 3) := by decide +kernel
theorem dX12_pairsNow_54 : decode cX12_pairsNow 54 = .ok (.goto (-50), 3) := by decide +kernel
theorem dX12_pairsNow_57 : decode cX12_pairsNow 57 = .ok (.iload_n 1, 1) := by decide +kernel
theorem dX12_pairsNow_58 : decode cX12_pairsNow 58 = .ok (.ireturn, 1) := by decide +kernel
theorem k_X12_pairsNow : MV yX12_pairsNow cX12_pairsNow 4 (some .int) 0 := ⟨q_1405, qs_60, q_14, q_1406, ⟨by decide, by decide, by decide +kernel⟩⟩
theorem c_X12_pairsNow {res : Int32} (hf : X12_pairsNow n x_s = some res) : MC l E0 D t yX12_pairsNow cX12_pairsNow 4 (some .int) 3 0 0 [.ref (a 0)] (mW a t x_s x_kept x_laid x_isKept x_pile x_tape x_taped x_letters x_at x_begun x_token x_value x_opened x_steps x_code0 x_read x_saved x_plan x_bestPlan x_most x_many x_few x_everRight x_lagThen x_shadedThen x_firstFit x_rows x_rowMany x_sorts x_sizes x_number x_holds x_heldOne x_trace x_traced x_own x_isParted) (Qi res (mW a t x_s x_kept x_laid x_isKept x_pile x_tape x_taped x_letters x_at x_begun x_token x_value x_opened x_steps x_code0 x_read x_saved x_plan x_bestPlan x_most x_many x_few x_everRight x_lagThen x_shadedThen x_firstFit x_rows x_rowMany x_sorts x_sizes x_number x_holds x_heldOne x_trace x_traced x_own x_isParted)) := by
  unfold X12_pairsNow at hf
  refine MC.ofI pn_X12 (Nat.le_of_ble_eq_true rfl) ?_
  intro p e s m args below meth c A Q ls cx hR hw hl
  have hx := cx.1
  have hb := cx.2.1
  have hl : lv_has ls 4 [(0, .ref (a 0))] := hl
  refine lv_iconst (v := 0) hx hb dX12_pairsNow_0 (by decide) ?_
  refine lv_istore_n (lv' := [(1, .int (0 : Int32)), (0, .ref (a 0))]) hx hb dX12_pairsNow_1 rfl hl (by decide) rfl (fun ls hl => ?_)
  refine lv_iconst (v := 0) hx hb dX12_pairsNow_2 (by decide) ?_
  refine lv_istore_n (lv' := [(2, .int (0 : Int32)), (1, .int (0 : Int32)), (0, .ref (a 0))]) hx hb dX12_pairsNow_3 rfl hl (by decide) rfl (fun ls hl => ?_)
  obtain ⟨o5, ho5, hf⟩ := bnS hf
  have wL1 : ∀ (k : Nat) {v1 : Int32} {v2 : Int32} {H : Heap} {locs : List Loc} {ls : Array Slot} {o : Int32 × Int32}, X12_pairsNow_L1 n x_s k v1 v2 = some o → Wd D A s (mW a t x_s x_kept x_laid x_isKept x_pile x_tape x_taped x_letters x_at x_begun x_token x_value x_opened x_steps x_code0 x_read x_saved x_plan x_bestPlan x_most x_many x_few x_everRight x_lagThen x_shadedThen x_firstFit x_rows x_rowMany x_sorts x_sizes x_number x_holds x_heldOne x_trace x_traced x_own x_isParted) H locs → lv_has ls 4 [(0, .ref (a 0)), (1, .int v1), (2, .int v2)] → (∀ (H : Heap) (locs : List Loc) (ls : Array Slot), Wd D A s (mW a t x_s x_kept x_laid x_isKept x_pile x_tape x_taped x_letters x_at x_begun x_token x_value x_opened x_steps x_code0 x_read x_saved x_plan x_bestPlan x_most x_many x_few x_everRight x_lagThen x_shadedThen x_firstFit x_rows x_rowMany x_sorts x_sizes x_number x_holds x_heldOne x_trace x_traced x_own x_isParted) H locs → lv_has ls 4 [(0, .ref (a 0)), (1, .int o.1), (2, .int o.2)] → W p l e (rmz 3 0 0) s m args below meth c H locs 0 0 Q (F0 m 57 ls [])) → W p l e (rmz 3 0 0) s m args below meth c H locs 0 0 Q (F0 m 4 ls []) := by
    clear hf ho5 hw hl
    intro k
    induction k with
    | zero => intro v1 v2 H locs ls o hf hw hl kx; simp [X12_pairsNow_L1] at hf
    | succ k ih =>
      intro v1 v2 H locs ls o hf hw hl kx
      rw [X12_pairsNow_L1] at hf
      refine lv_iload_n hx hb dX12_pairsNow_4 rfl (lv_at hl 2 rfl) ?_
      refine lv_aload_n hx hb dX12_pairsNow_5 rfl (lv_at hl 0 rfl) ?_
      refine mg_s cx hw dX12_pairsNow_6 ?_
      refine lv_iconst (v := 4) hx hb dX12_pairsNow_9 (by decide) ?_
      refine ml_s (j := 4) cx hw (ib_in (by decide)) (by decide) dX12_pairsNow_10 ?_
      refine lv_icmp_ge (tgt := 57) hx hb dX12_pairsNow_11 (by decide) (fun hc => ?_) (fun hc => ?_)
      · have hf := ifT hf hc
        have hf := Option.some.inj hf
        subst hf
        exact kx _ _ _ hw (lv_sub hl [0, 1, 2] rfl)
      · have hf := ifF hf hc
        refine lv_iload_n hx hb dX12_pairsNow_14 rfl (lv_at hl 2 rfl) ?_
        refine lv_iconst (v := 1) hx hb dX12_pairsNow_15 (by decide) ?_
        refine lv_iadd hx hb dX12_pairsNow_16 ?_
        refine lv_istore_n (lv' := [(3, .int (v2 + (1 : Int32))), (0, .ref (a 0)), (1, .int v1), (2, .int v2)]) hx hb dX12_pairsNow_17 rfl hl (by decide) rfl (fun ls hl => ?_)
        obtain ⟨o4, ho4, hf⟩ := bnS hf
        have wL2 : ∀ (k : Nat) {v1 : Int32} {v2 : Int32} {v3 : Int32} {H : Heap} {locs : List Loc} {ls : Array Slot} {o : Int32 × Int32}, X12_pairsNow_L2 n x_s v2 k v1 v3 = some o → Wd D A s (mW a t x_s x_kept x_laid x_isKept x_pile x_tape x_taped x_letters x_at x_begun x_token x_value x_opened x_steps x_code0 x_read x_saved x_plan x_bestPlan x_most x_many x_few x_everRight x_lagThen x_shadedThen x_firstFit x_rows x_rowMany x_sorts x_sizes x_number x_holds x_heldOne x_trace x_traced x_own x_isParted) H locs → lv_has ls 4 [(0, .ref (a 0)), (1, .int v1), (2, .int v2), (3, .int v3)] → (∀ (H : Heap) (locs : List Loc) (ls : Array Slot), Wd D A s (mW a t x_s x_kept x_laid x_isKept x_pile x_tape x_taped x_letters x_at x_begun x_token x_value x_opened x_steps x_code0 x_read x_saved x_plan x_bestPlan x_most x_many x_few x_everRight x_lagThen x_shadedThen x_firstFit x_rows x_rowMany x_sorts x_sizes x_number x_holds x_heldOne x_trace x_traced x_own x_isParted) H locs → lv_has ls 4 [(0, .ref (a 0)), (1, .int o.1), (2, .int v2), (3, .int o.2)] → W p l e (rmz 3 0 0) s m args below meth c H locs 0 0 Q (F0 m 51 ls [])) → W p l e (rmz 3 0 0) s m args below meth c H locs 0 0 Q (F0 m 18 ls []) := by
          clear hf ho4 hw hl
          intro k
          induction k with
          | zero => intro v1 v2 v3 H locs ls o hf hw hl kx; simp [X12_pairsNow_L2] at hf
          | succ k ih =>
            intro v1 v2 v3 H locs ls o hf hw hl kx
            rw [X12_pairsNow_L2] at hf
            refine lv_iload_n hx hb dX12_pairsNow_18 rfl (lv_at hl 3 rfl) ?_
            refine lv_aload_n hx hb dX12_pairsNow_19 rfl (lv_at hl 0 rfl) ?_
            refine mg_s cx hw dX12_pairsNow_20 ?_
            refine lv_iconst (v := 4) hx hb dX12_pairsNow_23 (by decide) ?_
            refine ml_s (j := 4) cx hw (ib_in (by decide)) (by decide) dX12_pairsNow_24 ?_
            refine lv_icmp_ge (tgt := 51) hx hb dX12_pairsNow_25 (by decide) (fun hc => ?_) (fun hc => ?_)
            · have hf := ifT hf hc
              have hf := Option.some.inj hf
              subst hf
              exact kx _ _ _ hw (lv_sub hl [0, 1, 2, 3] rfl)
            · have hf := ifF hf hc
              refine lv_iload_n hx hb dX12_pairsNow_28 rfl (lv_at hl 1 rfl) ?_
              refine lv_aload_n hx hb dX12_pairsNow_29 rfl (lv_at hl 0 rfl) ?_
              refine lv_iload_n hx hb dX12_pairsNow_30 rfl (lv_at hl 2 rfl) ?_
              refine lv_iload_n hx hb dX12_pairsNow_31 rfl (lv_at hl 3 rfl) ?_
              obtain ⟨r1, h2, hf⟩ := bnS hf
              refine calVi (k := 0) cx hw hl.1 (c_X12_doAgree h2) q_1407 k_X12_doAgree rfl rfl rfl dX12_pairsNow_32 rfl (Nat.le_of_ble_eq_true rfl) ⟨Nat.le_of_ble_eq_true rfl, Nat.le_of_ble_eq_true rfl⟩ ⟨Nat.le_refl _, Nat.le_refl _⟩ (fun H locs hw => ?_)
              obtain ⟨j3, hj3, hf⟩ := pbS hf
              have wj3 : ∀ (H : Heap) (locs : List Loc) (ls : Array Slot), Wd D A s (mW a t x_s x_kept x_laid x_isKept x_pile x_tape x_taped x_letters x_at x_begun x_token x_value x_opened x_steps x_code0 x_read x_saved x_plan x_bestPlan x_most x_many x_few x_everRight x_lagThen x_shadedThen x_firstFit x_rows x_rowMany x_sorts x_sizes x_number x_holds x_heldOne x_trace x_traced x_own x_isParted) H locs → lv_has ls 4 [(0, .ref (a 0)), (1, .int v1), (2, .int v2), (3, .int v3)] → W p l e (rmz 3 0 0) s m args below meth c H locs 0 0 Q (F0 m 43 ls [.int j3, .int v1]) := by
                intro H locs ls hw hl
                refine lv_iadd hx hb dX12_pairsNow_43 ?_
                refine lv_istore_n (lv' := [(1, .int (v1 + j3)), (0, .ref (a 0)), (2, .int v2), (3, .int v3)]) hx hb dX12_pairsNow_44 rfl hl (by decide) rfl (fun ls hl => ?_)
                refine lv_iinc (v := (v3 + (1 : Int32))) (lv' := [(3, .int (v3 + (1 : Int32))), (1, .int (v1 + j3)), (0, .ref (a 0)), (2, .int v2)]) hx hb dX12_pairsNow_45 hl (k := 3) rfl rfl (by decide) rfl (fun ls hl => ?_)
                refine lv_goto (tgt := 18) hx hb dX12_pairsNow_48 (by decide) ?_
                exact ih hf hw (lv_sub hl [2, 1, 3, 0] rfl) kx
              clear hf
              have hf := hj3
              clear hj3
              refine lv_if_eq (tgt := 42) hx hb dX12_pairsNow_35 (by decide) (fun hc => ?_) (fun hc => ?_)
              · have hf := ifT hf hc
                refine lv_iconst (v := 0) hx hb dX12_pairsNow_42 (by decide) ?_
                subst hf
                exact wj3 _ _ _ hw (lv_sub hl [0, 1, 2, 3] rfl)
              · have hf := ifF hf hc
                refine lv_iconst (v := 1) hx hb dX12_pairsNow_38 (by decide) ?_
                refine lv_goto (tgt := 43) hx hb dX12_pairsNow_39 (by decide) ?_
                subst hf
                exact wj3 _ _ _ hw (lv_sub hl [0, 1, 2, 3] rfl)
        refine wL2 n ho4 hw (lv_sub hl [1, 2, 3, 0] rfl) (fun H locs ls hw hl => ?_)
        clear wL2 ho4
        refine lv_iinc (v := (v2 + (1 : Int32))) (lv' := [(2, .int (v2 + (1 : Int32))), (0, .ref (a 0)), (1, .int o4.1), (3, .int o4.2)]) hx hb dX12_pairsNow_51 hl (k := 2) rfl rfl (by decide) rfl (fun ls hl => ?_)
        refine lv_goto (tgt := 4) hx hb dX12_pairsNow_54 (by decide) ?_
        exact ih hf hw (lv_sub hl [1, 2, 0] rfl) kx
  refine wL1 n ho5 hw (lv_sub hl [2, 1, 0] rfl) (fun H locs ls hw hl => ?_)
  clear wL1 ho5
  refine lv_iload_n hx hb dX12_pairsNow_57 rfl (lv_at hl 1 rfl) ?_
  have hf := Option.some.inj hf
  subst hf
  exact hR _ _ _ _ _ _ hw rfl ⟨rfl, rfl⟩ dX12_pairsNow_58
end MW1
