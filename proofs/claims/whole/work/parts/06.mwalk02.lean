section MW2
variable {l : Launch} {D : va_G} {t : Nat → ClassId} {a : Nat → Nat} {n : Nat} {x_s : Nat → Int32} {x_kept : Nat → Int32} {x_laid : Nat → Int32} {x_isKept : Int32} {x_pile : Nat → Int32} {x_tape : Nat → Int32} {x_taped : Int32} {x_letters : Nat → Int32} {x_at : Int32} {x_begun : Int32} {x_token : Int32} {x_value : Int32} {x_opened : Int32} {x_steps : Int32} {x_code0 : Nat → Int32} {x_read : Nat → Int32} {x_saved : Nat → Int32} {x_plan : Nat → Int32} {x_bestPlan : Nat → Int32} {x_most : Int32} {x_many : Int32} {x_few : Int32} {x_everRight : Int32} {x_lagThen : Nat → Int32} {x_shadedThen : Nat → Int32} {x_firstFit : Int32} {x_rows : Nat → Int32} {x_rowMany : Int32} {x_sorts : Nat → Int32} {x_sizes : Nat → Int32} {x_number : Nat → Int32} {x_holds : Nat → Int32} {x_heldOne : Nat → Int32} {x_trace : Nat → Int32} {x_traced : Int32} {x_own : Int32} {x_isParted : Int32} {v0 v1 v2 v3 v4 v5 : Int32}
theorem dX12_byteAt_0 : decode cX12_byteAt 0 = .ok (.iload_n 1, 1) := by decide +kernel
theorem dX12_byteAt_1 : decode cX12_byteAt 1 = .ok (.aload_n 0, 1) := by decide +kernel
theorem dX12_byteAt_2 : decode cX12_byteAt 2 = .ok (.getfield 128, 3) := by decide +kernel
theorem dX12_byteAt_5 : decode cX12_byteAt 5 = .ok (.if_icmp .ge 12, 3) := by decide +kernel
theorem dX12_byteAt_8 : decode cX12_byteAt 8 = .ok (.aload_n 0, 1) := by decide +kernel
theorem dX12_byteAt_9 : decode cX12_byteAt 9 = .ok (.getfield 22, 3) := by decide +kernel
theorem dX12_byteAt_12 : decode cX12_byteAt 12 = .ok (.iload_n 1, 1) := by decide +kernel
theorem dX12_byteAt_13 : decode cX12_byteAt 13 = .ok (.iaload, 1) := by decide +kernel
theorem dX12_byteAt_14 : decode cX12_byteAt 14 = .ok (.goto 4, 3) := by decide +kernel
theorem dX12_byteAt_17 : decode cX12_byteAt 17 = .ok (.iconst (-1), 1) := by decide +kernel
theorem dX12_byteAt_18 : decode cX12_byteAt 18 = .ok (.ireturn, 1) := by decide +kernel
theorem k_X12_byteAt : MV yX12_byteAt cX12_byteAt 2 (some .int) 1 := ⟨q_1228, qs_31, q_14, q_1229, ⟨by decide, by decide, by decide +kernel⟩⟩
theorem c_X12_byteAt {res : Int32} (hf : X12_byteAt x_tape x_taped v1 = some res) : MC l E0 D t yX12_byteAt cX12_byteAt 2 (some .int) 1 0 0 [.ref (a 0), .int v1] (mW a t x_s x_kept x_laid x_isKept x_pile x_tape x_taped x_letters x_at x_begun x_token x_value x_opened x_steps x_code0 x_read x_saved x_plan x_bestPlan x_most x_many x_few x_everRight x_lagThen x_shadedThen x_firstFit x_rows x_rowMany x_sorts x_sizes x_number x_holds x_heldOne x_trace x_traced x_own x_isParted) (Qi res (mW a t x_s x_kept x_laid x_isKept x_pile x_tape x_taped x_letters x_at x_begun x_token x_value x_opened x_steps x_code0 x_read x_saved x_plan x_bestPlan x_most x_many x_few x_everRight x_lagThen x_shadedThen x_firstFit x_rows x_rowMany x_sorts x_sizes x_number x_holds x_heldOne x_trace x_traced x_own x_isParted)) := by
  unfold X12_byteAt at hf
  refine MC.ofI pn_X12 (Nat.le_of_ble_eq_true rfl) ?_
  intro p e s m args below meth c A Q ls cx hR hw hl
  have hx := cx.1
  have hb := cx.2.1
  have hl : lv_has ls 2 [(0, .ref (a 0)), (1, .int v1)] := hl
  refine lv_iload_n hx hb dX12_byteAt_0 rfl (lv_at hl 1 rfl) ?_
  refine lv_aload_n hx hb dX12_byteAt_1 rfl (lv_at hl 0 rfl) ?_
  refine mg_taped cx hw dX12_byteAt_2 ?_
  refine lv_icmp_ge (tgt := 17) hx hb dX12_byteAt_5 (by decide) (fun hc => ?_) (fun hc => ?_)
  · have hf := ifT hf hc
    refine lv_iconst (v := (-1)) hx hb dX12_byteAt_17 (by decide) ?_
    have hf := Option.some.inj hf
    subst hf
    exact hR _ _ _ _ _ _ hw rfl ⟨rfl, rfl⟩ dX12_byteAt_18
  · have hf := ifF hf hc
    refine lv_aload_n hx hb dX12_byteAt_8 rfl (lv_at hl 0 rfl) ?_
    refine mg_tape cx hw dX12_byteAt_9 ?_
    refine lv_iload_n hx hb dX12_byteAt_12 rfl (lv_at hl 1 rfl) ?_
    obtain ⟨h1, hf⟩ := ckS hf
    refine ml_tape (j := v1.toNatClampNeg) cx hw (ib_in h1) rfl dX12_byteAt_13 ?_
    refine lv_goto (tgt := 18) hx hb dX12_byteAt_14 (by decide) ?_
    have hf := Option.some.inj hf
    subst hf
    exact hR _ _ _ _ _ _ hw rfl ⟨rfl, rfl⟩ dX12_byteAt_18
theorem dX12_isNameOf_0 : decode cX12_isNameOf 0 = .ok (.aload_n 0, 1) := by decide +kernel
theorem dX12_isNameOf_1 : decode cX12_isNameOf 1 = .ok (.getfield 132, 3) := by decide +kernel
theorem dX12_isNameOf_4 : decode cX12_isNameOf 4 = .ok (.aload_n 0, 1) := by decide +kernel
theorem dX12_isNameOf_5 : decode cX12_isNameOf 5 = .ok (.getfield 135, 3) := by decide +kernel
theorem dX12_isNameOf_8 : decode cX12_isNameOf 8 = .ok (.isub, 1) := by decide +kernel
theorem dX12_isNameOf_9 : decode cX12_isNameOf 9 = .ok (.bipush 8, 2) := by decide +kernel
theorem dX12_isNameOf_11 : decode cX12_isNameOf 11 = .ok (.if_icmp .gt 7, 3) := by decide +kernel
theorem dX12_isNameOf_14 : decode cX12_isNameOf 14 = .ok (.iconst 1, 1) := by decide +kernel
theorem dX12_isNameOf_15 : decode cX12_isNameOf 15 = .ok (.goto 4, 3) := by decide +kernel
theorem dX12_isNameOf_18 : decode cX12_isNameOf 18 = .ok (.iconst 0, 1) := by decide +kernel
theorem dX12_isNameOf_19 : decode cX12_isNameOf 19 = .ok (.istore_n 2, 1) := by decide +kernel
theorem dX12_isNameOf_20 : decode cX12_isNameOf 20 = .ok (.iconst 0, 1) := by decide +kernel
theorem dX12_isNameOf_21 : decode cX12_isNameOf 21 = .ok (.istore_n 3, 1) := by decide +kernel
theorem dX12_isNameOf_22 : decode cX12_isNameOf 22 = .ok (.iload_n 3, 1) := by decide +kernel
theorem dX12_isNameOf_23 : decode cX12_isNameOf 23 = .ok (.bipush 8, 2) := by decide +kernel
theorem dX12_isNameOf_25 : decode cX12_isNameOf 25 = .ok (.if_icmp .ge 61, 3) := by decide +kernel
theorem dX12_isNameOf_28 : decode cX12_isNameOf 28 = .ok (.iload_n 2, 1) := by decide +kernel
theorem dX12_isNameOf_29 : decode cX12_isNameOf 29 = .ok (.ifCond .eq 57, 3) := by decide +kernel
theorem dX12_isNameOf_32 : decode cX12_isNameOf 32 = .ok (.aload_n 0, 1) := by decide +kernel
theorem dX12_isNameOf_33 : decode cX12_isNameOf 33 = .ok (.getfield 25, 3) := by decide +kernel
theorem dX12_isNameOf_36 : decode cX12_isNameOf 36 = .ok (.bipush 8, 2) := by decide +kernel
theorem dX12_isNameOf_38 : decode cX12_isNameOf 38 = .ok (.iload_n 1, 1) := by decide +kernel
theorem dX12_isNameOf_39 : decode cX12_isNameOf 39 = .ok (.imul, 1) := by decide +kernel
theorem dX12_isNameOf_40 : decode cX12_isNameOf 40 = .ok (.iload_n 3, 1) := by decide +kernel
theorem dX12_isNameOf_41 : decode cX12_isNameOf 41 = .ok (.iadd, 1) := by decide +kernel
theorem dX12_isNameOf_42 : decode cX12_isNameOf 42 = .ok (.caload, 1) := by decide +kernel
theorem dX12_isNameOf_43 : decode cX12_isNameOf 43 = .ok (.aload_n 0, 1) := by decide +kernel
theorem dX12_isNameOf_44 : decode cX12_isNameOf 44 = .ok (.getfield 135, 3) := by decide +kernel
theorem dX12_isNameOf_47 : decode cX12_isNameOf 47 = .ok (.iload_n 3, 1) := by decide +kernel
theorem dX12_isNameOf_48 : decode cX12_isNameOf 48 = .ok (.iadd, 1) := by decide +kernel
theorem dX12_isNameOf_49 : decode cX12_isNameOf 49 = .ok (.aload_n 0, 1) := by decide +kernel
theorem dX12_isNameOf_50 : decode cX12_isNameOf 50 = .ok (.getfield 132, 3) := by decide +kernel
theorem dX12_isNameOf_53 : decode cX12_isNameOf 53 = .ok (.if_icmp .ge 16, 3) := by decide +kernel
theorem dX12_isNameOf_56 : decode cX12_isNameOf 56 = .ok (.aload_n 0, 1) := by decide +kernel
theorem dX12_isNameOf_57 : decode cX12_isNameOf 57 = .ok (.aload_n 0, 1) := by decide +kernel
theorem dX12_isNameOf_58 : decode cX12_isNameOf 58 = .ok (.getfield 135, 3) := by decide +kernel
theorem dX12_isNameOf_61 : decode cX12_isNameOf 61 = .ok (.iload_n 3, 1) := by decide +kernel
theorem dX12_isNameOf_62 : decode cX12_isNameOf 62 = .ok (.iadd, 1) := by decide +kernel
theorem dX12_isNameOf_63 : decode cX12_isNameOf 63 = .ok (.invokevirtual 138, 3) := by decide +kernel
theorem dX12_isNameOf_66 : decode cX12_isNameOf 66 = .ok (.goto 5, 3) := by decide +kernel
theorem dX12_isNameOf_69 : decode cX12_isNameOf 69 = .ok (.bipush 32, 2) := by decide +kernel
theorem dX12_isNameOf_71 : decode cX12_isNameOf 71 = .ok (.if_icmp .ne 7, 3) := by decide +kernel
theorem dX12_isNameOf_74 : decode cX12_isNameOf 74 = .ok (.iconst 1, 1) := by decide +kernel
theorem dX12_isNameOf_75 : decode cX12_isNameOf 75 = .ok (.goto 4, 3) := by decide +kernel
theorem dX12_isNameOf_78 : decode cX12_isNameOf 78 = .ok (.iconst 0, 1) := by decide +kernel
theorem dX12_isNameOf_79 : decode cX12_isNameOf 79 = .ok (.istore_n 2, 1) := by decide +kernel
theorem dX12_isNameOf_80 : decode cX12_isNameOf 80 = .ok (.iinc 3 1, 3) := by decide +kernel
theorem dX12_isNameOf_83 : decode cX12_isNameOf 83 = .ok (.goto (-61), 3) := by decide +kernel
theorem dX12_isNameOf_86 : decode cX12_isNameOf 86 = .ok (.iload_n 2, 1) := by decide +kernel
theorem dX12_isNameOf_87 : decode cX12_isNameOf 87 = .ok (.ireturn, 1) := by decide +kernel
theorem k_X12_isNameOf : MV yX12_isNameOf cX12_isNameOf 4 (some .boolean) 1 := ⟨q_1236, qs_33, q_14, q_1237, ⟨by decide, by decide, by decide +kernel⟩⟩
theorem c_X12_isNameOf {res : Int32} (hf : X12_isNameOf n x_tape x_taped x_letters x_at x_begun v1 = some res) : MC l E0 D t yX12_isNameOf cX12_isNameOf 4 (some .boolean) 2 0 0 [.ref (a 0), .int v1] (mW a t x_s x_kept x_laid x_isKept x_pile x_tape x_taped x_letters x_at x_begun x_token x_value x_opened x_steps x_code0 x_read x_saved x_plan x_bestPlan x_most x_many x_few x_everRight x_lagThen x_shadedThen x_firstFit x_rows x_rowMany x_sorts x_sizes x_number x_holds x_heldOne x_trace x_traced x_own x_isParted) (Qi res (mW a t x_s x_kept x_laid x_isKept x_pile x_tape x_taped x_letters x_at x_begun x_token x_value x_opened x_steps x_code0 x_read x_saved x_plan x_bestPlan x_most x_many x_few x_everRight x_lagThen x_shadedThen x_firstFit x_rows x_rowMany x_sorts x_sizes x_number x_holds x_heldOne x_trace x_traced x_own x_isParted)) := by
  unfold X12_isNameOf at hf
  refine MC.ofI pn_X12 (Nat.le_of_ble_eq_true rfl) ?_
  intro p e s m args below meth c A Q ls cx hR hw hl
  have hx := cx.1
  have hb := cx.2.1
  have hl : lv_has ls 4 [(0, .ref (a 0)), (1, .int v1)] := hl
  refine lv_aload_n hx hb dX12_isNameOf_0 rfl (lv_at hl 0 rfl) ?_
  refine mg_at cx hw dX12_isNameOf_1 ?_
  refine lv_aload_n hx hb dX12_isNameOf_4 rfl (lv_at hl 0 rfl) ?_
  refine mg_begun cx hw dX12_isNameOf_5 ?_
  refine lv_isub hx hb dX12_isNameOf_8 ?_
  refine lv_bipush (v := 8) hx hb dX12_isNameOf_9 (by decide) ?_
  obtain ⟨j1, hj1, hf⟩ := pbS hf
  have wj1 : ∀ (H : Heap) (locs : List Loc) (ls : Array Slot), Wd D A s (mW a t x_s x_kept x_laid x_isKept x_pile x_tape x_taped x_letters x_at x_begun x_token x_value x_opened x_steps x_code0 x_read x_saved x_plan x_bestPlan x_most x_many x_few x_everRight x_lagThen x_shadedThen x_firstFit x_rows x_rowMany x_sorts x_sizes x_number x_holds x_heldOne x_trace x_traced x_own x_isParted) H locs → lv_has ls 4 [(0, .ref (a 0)), (1, .int v1)] → W p l e (rmz 2 0 0) s m args below meth c H locs 0 0 Q (F0 m 19 ls [.int j1]) := by
    intro H locs ls hw hl
    refine lv_istore_n (lv' := [(2, .int j1), (0, .ref (a 0)), (1, .int v1)]) hx hb dX12_isNameOf_19 rfl hl (by decide) rfl (fun ls hl => ?_)
    refine lv_iconst (v := 0) hx hb dX12_isNameOf_20 (by decide) ?_
    refine lv_istore_n (lv' := [(3, .int (0 : Int32)), (2, .int j1), (0, .ref (a 0)), (1, .int v1)]) hx hb dX12_isNameOf_21 rfl hl (by decide) rfl (fun ls hl => ?_)
    obtain ⟨o7, ho7, hf⟩ := bnS hf
    have wL1 : ∀ (k : Nat) {v1 : Int32} {v2 : Int32} {v3 : Int32} {H : Heap} {locs : List Loc} {ls : Array Slot} {o : Int32 × Int32}, X12_isNameOf_L1 n x_tape x_taped x_letters x_at x_begun v1 k v2 v3 = some o → Wd D A s (mW a t x_s x_kept x_laid x_isKept x_pile x_tape x_taped x_letters x_at x_begun x_token x_value x_opened x_steps x_code0 x_read x_saved x_plan x_bestPlan x_most x_many x_few x_everRight x_lagThen x_shadedThen x_firstFit x_rows x_rowMany x_sorts x_sizes x_number x_holds x_heldOne x_trace x_traced x_own x_isParted) H locs → lv_has ls 4 [(0, .ref (a 0)), (1, .int v1), (2, .int v2), (3, .int v3)] → (∀ (H : Heap) (locs : List Loc) (ls : Array Slot), Wd D A s (mW a t x_s x_kept x_laid x_isKept x_pile x_tape x_taped x_letters x_at x_begun x_token x_value x_opened x_steps x_code0 x_read x_saved x_plan x_bestPlan x_most x_many x_few x_everRight x_lagThen x_shadedThen x_firstFit x_rows x_rowMany x_sorts x_sizes x_number x_holds x_heldOne x_trace x_traced x_own x_isParted) H locs → lv_has ls 4 [(0, .ref (a 0)), (1, .int v1), (2, .int o.1), (3, .int o.2)] → W p l e (rmz 2 0 0) s m args below meth c H locs 0 0 Q (F0 m 86 ls [])) → W p l e (rmz 2 0 0) s m args below meth c H locs 0 0 Q (F0 m 22 ls []) := by
      clear hf ho7 hw hl
      intro k
      induction k with
      | zero => intro v1 v2 v3 H locs ls o hf hw hl kx; simp [X12_isNameOf_L1] at hf
      | succ k ih =>
        intro v1 v2 v3 H locs ls o hf hw hl kx
        rw [X12_isNameOf_L1] at hf
        refine lv_iload_n hx hb dX12_isNameOf_22 rfl (lv_at hl 3 rfl) ?_
        refine lv_bipush (v := 8) hx hb dX12_isNameOf_23 (by decide) ?_
        refine lv_icmp_ge (tgt := 86) hx hb dX12_isNameOf_25 (by decide) (fun hc => ?_) (fun hc => ?_)
        · have hf := ifT hf hc
          have hf := Option.some.inj hf
          subst hf
          exact kx _ _ _ hw (lv_sub hl [0, 1, 2, 3] rfl)
        · have hf := ifF hf hc
          refine lv_iload_n hx hb dX12_isNameOf_28 rfl (lv_at hl 2 rfl) ?_
          refine lv_if_eq (tgt := 86) hx hb dX12_isNameOf_29 (by decide) (fun hc => ?_) (fun hc => ?_)
          · have hf := ifT hf hc
            have hf := Option.some.inj hf
            subst hf
            exact kx _ _ _ hw (lv_sub hl [0, 1, 2, 3] rfl)
          · have hf := ifF hf hc
            refine lv_aload_n hx hb dX12_isNameOf_32 rfl (lv_at hl 0 rfl) ?_
            refine mg_letters cx hw dX12_isNameOf_33 ?_
            refine lv_bipush (v := 8) hx hb dX12_isNameOf_36 (by decide) ?_
            refine lv_iload_n hx hb dX12_isNameOf_38 rfl (lv_at hl 1 rfl) ?_
            refine lv_imul hx hb dX12_isNameOf_39 ?_
            refine lv_iload_n hx hb dX12_isNameOf_40 rfl (lv_at hl 3 rfl) ?_
            refine lv_iadd hx hb dX12_isNameOf_41 ?_
            obtain ⟨h2, hf⟩ := ckS hf
            refine ml_letters (j := (((8 : Int32) * v1) + v3).toNatClampNeg) cx hw (ib_in h2) rfl dX12_isNameOf_42 ?_
            refine lv_aload_n hx hb dX12_isNameOf_43 rfl (lv_at hl 0 rfl) ?_
            refine mg_begun cx hw dX12_isNameOf_44 ?_
            refine lv_iload_n hx hb dX12_isNameOf_47 rfl (lv_at hl 3 rfl) ?_
            refine lv_iadd hx hb dX12_isNameOf_48 ?_
            refine lv_aload_n hx hb dX12_isNameOf_49 rfl (lv_at hl 0 rfl) ?_
            refine mg_at cx hw dX12_isNameOf_50 ?_
            obtain ⟨j5, hj5, hf⟩ := bnS hf
            have wj5 : ∀ (H : Heap) (locs : List Loc) (ls : Array Slot), Wd D A s (mW a t x_s x_kept x_laid x_isKept x_pile x_tape x_taped x_letters x_at x_begun x_token x_value x_opened x_steps x_code0 x_read x_saved x_plan x_bestPlan x_most x_many x_few x_everRight x_lagThen x_shadedThen x_firstFit x_rows x_rowMany x_sorts x_sizes x_number x_holds x_heldOne x_trace x_traced x_own x_isParted) H locs → lv_has ls 4 [(0, .ref (a 0)), (1, .int v1), (2, .int v2), (3, .int v3)] → W p l e (rmz 2 0 0) s m args below meth c H locs 0 0 Q (F0 m 71 ls [.int j5, .int (x_letters ((((8 : Int32) * v1) + v3).toNatClampNeg))]) := by
              intro H locs ls hw hl
              obtain ⟨j6, hj6, hf⟩ := pbS hf
              have wj6 : ∀ (H : Heap) (locs : List Loc) (ls : Array Slot), Wd D A s (mW a t x_s x_kept x_laid x_isKept x_pile x_tape x_taped x_letters x_at x_begun x_token x_value x_opened x_steps x_code0 x_read x_saved x_plan x_bestPlan x_most x_many x_few x_everRight x_lagThen x_shadedThen x_firstFit x_rows x_rowMany x_sorts x_sizes x_number x_holds x_heldOne x_trace x_traced x_own x_isParted) H locs → lv_has ls 4 [(0, .ref (a 0)), (1, .int v1), (2, .int v2), (3, .int v3)] → W p l e (rmz 2 0 0) s m args below meth c H locs 0 0 Q (F0 m 79 ls [.int j6]) := by
                intro H locs ls hw hl
                refine lv_istore_n (lv' := [(2, .int j6), (0, .ref (a 0)), (1, .int v1), (3, .int v3)]) hx hb dX12_isNameOf_79 rfl hl (by decide) rfl (fun ls hl => ?_)
                refine lv_iinc (v := (v3 + (1 : Int32))) (lv' := [(3, .int (v3 + (1 : Int32))), (2, .int j6), (0, .ref (a 0)), (1, .int v1)]) hx hb dX12_isNameOf_80 hl (k := 3) rfl rfl (by decide) rfl (fun ls hl => ?_)
                refine lv_goto (tgt := 22) hx hb dX12_isNameOf_83 (by decide) ?_
                exact ih hf hw (lv_sub hl [2, 3, 1, 0] rfl) kx
              clear hf
              have hf := hj6
              clear hj6
              refine lv_icmp_ne (tgt := 78) hx hb dX12_isNameOf_71 (by decide) (fun hc => ?_) (fun hc => ?_)
              · have hf := ifF hf hc
                refine lv_iconst (v := 0) hx hb dX12_isNameOf_78 (by decide) ?_
                subst hf
                exact wj6 _ _ _ hw (lv_sub hl [0, 1, 2, 3] rfl)
              · have hf := ifT hf hc
                refine lv_iconst (v := 1) hx hb dX12_isNameOf_74 (by decide) ?_
                refine lv_goto (tgt := 79) hx hb dX12_isNameOf_75 (by decide) ?_
                subst hf
                exact wj6 _ _ _ hw (lv_sub hl [0, 1, 2, 3] rfl)
            clear hf
            have hf := hj5
            clear hj5
            refine lv_icmp_ge (tgt := 69) hx hb dX12_isNameOf_53 (by decide) (fun hc => ?_) (fun hc => ?_)
            · have hf := ifT hf hc
              refine lv_bipush (v := 32) hx hb dX12_isNameOf_69 (by decide) ?_
              have hf := Option.some.inj hf
              subst hf
              exact wj5 _ _ _ hw (lv_sub hl [0, 1, 2, 3] rfl)
            · have hf := ifF hf hc
              refine lv_aload_n hx hb dX12_isNameOf_56 rfl (lv_at hl 0 rfl) ?_
              refine lv_aload_n hx hb dX12_isNameOf_57 rfl (lv_at hl 0 rfl) ?_
              refine mg_begun cx hw dX12_isNameOf_58 ?_
              refine lv_iload_n hx hb dX12_isNameOf_61 rfl (lv_at hl 3 rfl) ?_
              refine lv_iadd hx hb dX12_isNameOf_62 ?_
              obtain ⟨r3, h4, hf⟩ := bnS hf
              refine calVi (k := 0) cx hw hl.1 (c_X12_byteAt h4) q_1226 k_X12_byteAt rfl rfl rfl dX12_isNameOf_63 rfl (Nat.le_of_ble_eq_true rfl) ⟨Nat.le_of_ble_eq_true rfl, Nat.le_of_ble_eq_true rfl⟩ ⟨Nat.le_refl _, Nat.le_refl _⟩ (fun H locs hw => ?_)
              refine lv_goto (tgt := 71) hx hb dX12_isNameOf_66 (by decide) ?_
              have hf := Option.some.inj hf
              subst hf
              exact wj5 _ _ _ hw (lv_sub hl [0, 1, 2, 3] rfl)
    refine wL1 n ho7 hw (lv_sub hl [2, 3, 1, 0] rfl) (fun H locs ls hw hl => ?_)
    clear wL1 ho7
    refine lv_iload_n hx hb dX12_isNameOf_86 rfl (lv_at hl 2 rfl) ?_
    obtain ⟨h8, hf⟩ := ckS hf
    have hf := Option.some.inj hf
    subst hf
    exact hR _ _ _ _ _ _ hw (nb (bkS h8)) ⟨rfl, rfl⟩ dX12_isNameOf_87
  clear hf
  have hf := hj1
  clear hj1
  refine lv_icmp_gt (tgt := 18) hx hb dX12_isNameOf_11 (by decide) (fun hc => ?_) (fun hc => ?_)
  · have hf := ifT hf hc
    refine lv_iconst (v := 0) hx hb dX12_isNameOf_18 (by decide) ?_
    subst hf
    exact wj1 _ _ _ hw (lv_sub hl [0, 1] rfl)
  · have hf := ifF hf hc
    refine lv_iconst (v := 1) hx hb dX12_isNameOf_14 (by decide) ?_
    refine lv_goto (tgt := 19) hx hb dX12_isNameOf_15 (by decide) ?_
    subst hf
    exact wj1 _ _ _ hw (lv_sub hl [0, 1] rfl)
theorem dX12_readsName_0 : decode cX12_readsName 0 = .ok (.aload_n 0, 1) := by decide +kernel
theorem dX12_readsName_1 : decode cX12_readsName 1 = .ok (.aload_n 0, 1) := by decide +kernel
theorem dX12_readsName_2 : decode cX12_readsName 2 = .ok (.getfield 132, 3) := by decide +kernel
theorem dX12_readsName_5 : decode cX12_readsName 5 = .ok (.invokevirtual 138, 3) := by decide +kernel
theorem dX12_readsName_8 : decode cX12_readsName 8 = .ok (.bipush 97, 2) := by decide +kernel
theorem dX12_readsName_10 : decode cX12_readsName 10 = .ok (.bipush 122, 2) := by decide +kernel
theorem dX12_readsName_12 : decode cX12_readsName 12 = .ok (.invokestatic 71, 3) := by decide +kernel
theorem dX12_readsName_15 : decode cX12_readsName 15 = .ok (.ifCond .eq 16, 3) := by decide +kernel
theorem dX12_readsName_18 : decode cX12_readsName 18 = .ok (.aload_n 0, 1) := by decide +kernel
theorem dX12_readsName_19 : decode cX12_readsName 19 = .ok (.dup, 1) := by decide +kernel
theorem dX12_readsName_20 : decode cX12_readsName 20 = .ok (.getfield 132, 3) := by decide +kernel
theorem dX12_readsName_23 : decode cX12_readsName 23 = .ok (.iconst 1, 1) := by decide +kernel
theorem dX12_readsName_24 : decode cX12_readsName 24 = .ok (.iadd, 1) := by decide +kernel
theorem dX12_readsName_25 : decode cX12_readsName 25 = .ok (.putfield 132, 3) := by decide +kernel
theorem dX12_readsName_28 : decode cX12_readsName 28 = .ok (.goto (-28), 3) := by decide +kernel
theorem dX12_readsName_31 : decode cX12_readsName 31 = .ok (.aload_n 0, 1) := by decide +kernel
theorem dX12_readsName_32 : decode cX12_readsName 32 = .ok (.bipush 101, 2) := by decide +kernel
theorem dX12_readsName_34 : decode cX12_readsName 34 = .ok (.putfield 141, 3) := by decide +kernel
theorem dX12_readsName_37 : decode cX12_readsName 37 = .ok (.iconst 0, 1) := by decide +kernel
theorem dX12_readsName_38 : decode cX12_readsName 38 = .ok (.istore_n 1, 1) := by decide +kernel
theorem dX12_readsName_39 : decode cX12_readsName 39 = .ok (.iload_n 1, 1) := by decide +kernel
theorem dX12_readsName_40 : decode cX12_readsName 40 = .ok (.bipush 18, 2) := by decide +kernel
theorem dX12_readsName_42 : decode cX12_readsName 42 = .ok (.if_icmp .ge 29, 3) := by decide +kernel
theorem dX12_readsName_45 : decode cX12_readsName 45 = .ok (.aload_n 0, 1) := by decide +kernel
theorem dX12_readsName_46 : decode cX12_readsName 46 = .ok (.aload_n 0, 1) := by decide +kernel
theorem dX12_readsName_47 : decode cX12_readsName 47 = .ok (.iload_n 1, 1) := by decide +kernel
theorem dX12_readsName_48 : decode cX12_readsName 48 = .ok (.invokevirtual 144, 3) := by decide +kernel
theorem dX12_readsName_51 : decode cX12_readsName 51 = .ok (.ifCond .eq 7, 3) := by decide +kernel
theorem dX12_readsName_54 : decode cX12_readsName 54 = .ok (.iload_n 1, 1) := by decide +kernel
theorem dX12_readsName_55 : decode cX12_readsName 55 = .ok (.goto 7, 3) := by decide +kernel
theorem dX12_readsName_58 : decode cX12_readsName 58 = .ok (.aload_n 0, 1) := by decide +kernel
theorem dX12_readsName_59 : decode cX12_readsName 59 = .ok (.getfield 141, 3) := by decide +kernel
theorem dX12_readsName_62 : decode cX12_readsName 62 = .ok (.putfield 141, 3) := by decide +kernel
theorem dX12_readsName_65 : decode cX12_readsName 65 = .ok (.iinc 1 1, 3) := by decide +kernel
theorem dX12_readsName_68 : decode cX12_readsName 68 = .ok (.goto (-29), 3) := by decide +kernel
theorem dX12_readsName_71 : decode cX12_readsName 71 = .ok (.return_, 1) := by decide +kernel
theorem k_X12_readsName : MV yX12_readsName cX12_readsName 2 none 0 := ⟨q_1232, qs_32, q_14, q_1233, ⟨by decide, by decide, by decide +kernel⟩⟩
theorem c_X12_readsName {res : Int32 × Int32} (hf : X12_readsName n x_tape x_taped x_letters x_at x_begun = some res) : MC l E0 D t yX12_readsName cX12_readsName 2 none 3 0 0 [.ref (a 0)] (mW a t x_s x_kept x_laid x_isKept x_pile x_tape x_taped x_letters x_at x_begun x_token x_value x_opened x_steps x_code0 x_read x_saved x_plan x_bestPlan x_most x_many x_few x_everRight x_lagThen x_shadedThen x_firstFit x_rows x_rowMany x_sorts x_sizes x_number x_holds x_heldOne x_trace x_traced x_own x_isParted) (Qn (mW a t x_s x_kept x_laid x_isKept x_pile x_tape x_taped x_letters res.1 x_begun res.2 x_value x_opened x_steps x_code0 x_read x_saved x_plan x_bestPlan x_most x_many x_few x_everRight x_lagThen x_shadedThen x_firstFit x_rows x_rowMany x_sorts x_sizes x_number x_holds x_heldOne x_trace x_traced x_own x_isParted)) := by
  unfold X12_readsName at hf
  refine MC.ofV pn_X12 (Nat.le_of_ble_eq_true rfl) ?_
  intro p e s m args below meth c A Q ls cx hR hw hl
  have hx := cx.1
  have hb := cx.2.1
  have hl : lv_has ls 2 [(0, .ref (a 0))] := hl
  obtain ⟨o3, ho3, hf⟩ := bnS hf
  have wL1 : ∀ (k : Nat) {x_at : Int32} {H : Heap} {locs : List Loc} {ls : Array Slot} {o : Int32}, X12_readsName_L1 n x_tape x_taped k x_at = some o → Wd D A s (mW a t x_s x_kept x_laid x_isKept x_pile x_tape x_taped x_letters x_at x_begun x_token x_value x_opened x_steps x_code0 x_read x_saved x_plan x_bestPlan x_most x_many x_few x_everRight x_lagThen x_shadedThen x_firstFit x_rows x_rowMany x_sorts x_sizes x_number x_holds x_heldOne x_trace x_traced x_own x_isParted) H locs → lv_has ls 2 [(0, .ref (a 0))] → (∀ (H : Heap) (locs : List Loc) (ls : Array Slot), Wd D A s (mW a t x_s x_kept x_laid x_isKept x_pile x_tape x_taped x_letters o x_begun x_token x_value x_opened x_steps x_code0 x_read x_saved x_plan x_bestPlan x_most x_many x_few x_everRight x_lagThen x_shadedThen x_firstFit x_rows x_rowMany x_sorts x_sizes x_number x_holds x_heldOne x_trace x_traced x_own x_isParted) H locs → lv_has ls 2 [(0, .ref (a 0))] → W p l e (rmz 3 0 0) s m args below meth c H locs 0 0 Q (F0 m 31 ls [])) → W p l e (rmz 3 0 0) s m args below meth c H locs 0 0 Q (F0 m 0 ls []) := by
    clear hf ho3 hw hl
    intro k
    induction k with
    | zero => intro x_at H locs ls o hf hw hl kx; simp [X12_readsName_L1] at hf
    | succ k ih =>
      intro x_at H locs ls o hf hw hl kx
      rw [X12_readsName_L1] at hf
      refine lv_aload_n hx hb dX12_readsName_0 rfl (lv_at hl 0 rfl) ?_
      refine lv_aload_n hx hb dX12_readsName_1 rfl (lv_at hl 0 rfl) ?_
      refine mg_at cx hw dX12_readsName_2 ?_
      obtain ⟨r1, h2, hf⟩ := bnS hf
      refine calVi (k := 0) cx hw hl.1 (c_X12_byteAt h2) q_1226 k_X12_byteAt rfl rfl rfl dX12_readsName_5 rfl (Nat.le_of_ble_eq_true rfl) ⟨Nat.le_of_ble_eq_true rfl, Nat.le_of_ble_eq_true rfl⟩ ⟨Nat.le_refl _, Nat.le_refl _⟩ (fun H locs hw => ?_)
      refine lv_bipush (v := 97) hx hb dX12_readsName_8 (by decide) ?_
      refine lv_bipush (v := 122) hx hb dX12_readsName_10 (by decide) ?_
      refine calSi cx hw hl.1 (c_X12_in1 rfl) q_1214 k_X12_in1 rfl dX12_readsName_12 rfl (Nat.le_of_ble_eq_true rfl) ⟨Nat.le_of_ble_eq_true rfl, Nat.le_of_ble_eq_true rfl⟩ ⟨Nat.le_refl _, Nat.le_refl _⟩ (fun H locs hw => ?_)
      refine lv_if_eq (tgt := 31) hx hb dX12_readsName_15 (by decide) (fun hc => ?_) (fun hc => ?_)
      · have hf := ifT hf hc
        have hf := Option.some.inj hf
        subst hf
        exact kx _ _ _ hw (lv_sub hl [0] rfl)
      · have hf := ifF hf hc
        refine lv_aload_n hx hb dX12_readsName_18 rfl (lv_at hl 0 rfl) ?_
        refine lv_dup hx hb dX12_readsName_19 rfl ?_
        refine mg_at cx hw dX12_readsName_20 ?_
        refine lv_iconst (v := 1) hx hb dX12_readsName_23 (by decide) ?_
        refine lv_iadd hx hb dX12_readsName_24 ?_
        refine mp_at cx hw dX12_readsName_25 (fun H locs hw => ?_)
        refine lv_goto (tgt := 0) hx hb dX12_readsName_28 (by decide) ?_
        exact ih hf hw (lv_sub hl [0] rfl) kx
  refine wL1 n ho3 hw (lv_sub hl [0] rfl) (fun H locs ls hw hl => ?_)
  clear wL1 ho3
  refine lv_aload_n hx hb dX12_readsName_31 rfl (lv_at hl 0 rfl) ?_
  refine lv_bipush (v := 101) hx hb dX12_readsName_32 (by decide) ?_
  refine mp_token cx hw dX12_readsName_34 (fun H locs hw => ?_)
  refine lv_iconst (v := 0) hx hb dX12_readsName_37 (by decide) ?_
  refine lv_istore_n (lv' := [(1, .int (0 : Int32)), (0, .ref (a 0))]) hx hb dX12_readsName_38 rfl hl (by decide) rfl (fun ls hl => ?_)
  obtain ⟨o7, ho7, hf⟩ := bnS hf
  have wL2 : ∀ (k : Nat) {v1 : Int32} {x_at : Int32} {x_token : Int32} {H : Heap} {locs : List Loc} {ls : Array Slot} {o : Int32 × Int32}, X12_readsName_L2 n x_tape x_taped x_letters x_at x_begun k v1 x_token = some o → Wd D A s (mW a t x_s x_kept x_laid x_isKept x_pile x_tape x_taped x_letters x_at x_begun x_token x_value x_opened x_steps x_code0 x_read x_saved x_plan x_bestPlan x_most x_many x_few x_everRight x_lagThen x_shadedThen x_firstFit x_rows x_rowMany x_sorts x_sizes x_number x_holds x_heldOne x_trace x_traced x_own x_isParted) H locs → lv_has ls 2 [(0, .ref (a 0)), (1, .int v1)] → (∀ (H : Heap) (locs : List Loc) (ls : Array Slot), Wd D A s (mW a t x_s x_kept x_laid x_isKept x_pile x_tape x_taped x_letters x_at x_begun o.2 x_value x_opened x_steps x_code0 x_read x_saved x_plan x_bestPlan x_most x_many x_few x_everRight x_lagThen x_shadedThen x_firstFit x_rows x_rowMany x_sorts x_sizes x_number x_holds x_heldOne x_trace x_traced x_own x_isParted) H locs → lv_has ls 2 [(0, .ref (a 0)), (1, .int o.1)] → W p l e (rmz 3 0 0) s m args below meth c H locs 0 0 Q (F0 m 71 ls [])) → W p l e (rmz 3 0 0) s m args below meth c H locs 0 0 Q (F0 m 39 ls []) := by
    clear hf ho7 hw hl
    intro k
    induction k with
    | zero => intro v1 x_at x_token H locs ls o hf hw hl kx; simp [X12_readsName_L2] at hf
    | succ k ih =>
      intro v1 x_at x_token H locs ls o hf hw hl kx
      rw [X12_readsName_L2] at hf
      refine lv_iload_n hx hb dX12_readsName_39 rfl (lv_at hl 1 rfl) ?_
      refine lv_bipush (v := 18) hx hb dX12_readsName_40 (by decide) ?_
      refine lv_icmp_ge (tgt := 71) hx hb dX12_readsName_42 (by decide) (fun hc => ?_) (fun hc => ?_)
      · have hf := ifT hf hc
        have hf := Option.some.inj hf
        subst hf
        exact kx _ _ _ hw (lv_sub hl [0, 1] rfl)
      · have hf := ifF hf hc
        refine lv_aload_n hx hb dX12_readsName_45 rfl (lv_at hl 0 rfl) ?_
        refine lv_aload_n hx hb dX12_readsName_46 rfl (lv_at hl 0 rfl) ?_
        refine lv_iload_n hx hb dX12_readsName_47 rfl (lv_at hl 1 rfl) ?_
        obtain ⟨r4, h5, hf⟩ := bnS hf
        refine calVi (k := 0) cx hw hl.1 (c_X12_isNameOf h5) q_1234 k_X12_isNameOf rfl rfl rfl dX12_readsName_48 rfl (Nat.le_of_ble_eq_true rfl) ⟨Nat.le_of_ble_eq_true rfl, Nat.le_of_ble_eq_true rfl⟩ ⟨Nat.le_refl _, Nat.le_refl _⟩ (fun H locs hw => ?_)
        obtain ⟨j6, hj6, hf⟩ := pbS hf
        have wj6 : ∀ (H : Heap) (locs : List Loc) (ls : Array Slot), Wd D A s (mW a t x_s x_kept x_laid x_isKept x_pile x_tape x_taped x_letters x_at x_begun x_token x_value x_opened x_steps x_code0 x_read x_saved x_plan x_bestPlan x_most x_many x_few x_everRight x_lagThen x_shadedThen x_firstFit x_rows x_rowMany x_sorts x_sizes x_number x_holds x_heldOne x_trace x_traced x_own x_isParted) H locs → lv_has ls 2 [(0, .ref (a 0)), (1, .int v1)] → W p l e (rmz 3 0 0) s m args below meth c H locs 0 0 Q (F0 m 62 ls [.int j6, .ref (a 0)]) := by
          intro H locs ls hw hl
          refine mp_token cx hw dX12_readsName_62 (fun H locs hw => ?_)
          refine lv_iinc (v := (v1 + (1 : Int32))) (lv' := [(1, .int (v1 + (1 : Int32))), (0, .ref (a 0))]) hx hb dX12_readsName_65 hl (k := 1) rfl rfl (by decide) rfl (fun ls hl => ?_)
          refine lv_goto (tgt := 39) hx hb dX12_readsName_68 (by decide) ?_
          exact ih hf hw (lv_sub hl [1, 0] rfl) kx
        clear hf
        have hf := hj6
        clear hj6
        refine lv_if_eq (tgt := 58) hx hb dX12_readsName_51 (by decide) (fun hc => ?_) (fun hc => ?_)
        · have hf := ifT hf hc
          refine lv_aload_n hx hb dX12_readsName_58 rfl (lv_at hl 0 rfl) ?_
          refine mg_token cx hw dX12_readsName_59 ?_
          subst hf
          exact wj6 _ _ _ hw (lv_sub hl [0, 1] rfl)
        · have hf := ifF hf hc
          refine lv_iload_n hx hb dX12_readsName_54 rfl (lv_at hl 1 rfl) ?_
          refine lv_goto (tgt := 62) hx hb dX12_readsName_55 (by decide) ?_
          subst hf
          exact wj6 _ _ _ hw (lv_sub hl [0, 1] rfl)
  refine wL2 n ho7 hw (lv_sub hl [1, 0] rfl) (fun H locs ls hw hl => ?_)
  clear wL2 ho7
  have hf := Option.some.inj hf
  subst hf
  exact hR _ _ _ _ _ hw ⟨rfl, rfl⟩ dX12_readsName_71
theorem dX12_readsNumber_0 : decode cX12_readsNumber 0 = .ok (.aload_n 0, 1) := by decide +kernel
theorem dX12_readsNumber_1 : decode cX12_readsNumber 1 = .ok (.iconst 0, 1) := by decide +kernel
theorem dX12_readsNumber_2 : decode cX12_readsNumber 2 = .ok (.putfield 148, 3) := by decide +kernel
theorem dX12_readsNumber_5 : decode cX12_readsNumber 5 = .ok (.aload_n 0, 1) := by decide +kernel
theorem dX12_readsNumber_6 : decode cX12_readsNumber 6 = .ok (.aload_n 0, 1) := by decide +kernel
theorem dX12_readsNumber_7 : decode cX12_readsNumber 7 = .ok (.getfield 132, 3) := by decide +kernel
theorem dX12_readsNumber_10 : decode cX12_readsNumber 10 = .ok (.invokevirtual 138, 3) := by decide +kernel
theorem dX12_readsNumber_13 : decode cX12_readsNumber 13 = .ok (.bipush 48, 2) := by decide +kernel
theorem dX12_readsNumber_15 : decode cX12_readsNumber 15 = .ok (.bipush 57, 2) := by decide +kernel
theorem dX12_readsNumber_17 : decode cX12_readsNumber 17 = .ok (.invokestatic 71, 3) := by decide +kernel
theorem dX12_readsNumber_20 : decode cX12_readsNumber 20 = .ok (.ifCond .eq 59, 3) := by decide +kernel
theorem dX12_readsNumber_23 : decode cX12_readsNumber 23 = .ok (.aload_n 0, 1) := by decide +kernel
theorem dX12_readsNumber_24 : decode cX12_readsNumber 24 = .ok (.aload_n 0, 1) := by decide +kernel
theorem dX12_readsNumber_25 : decode cX12_readsNumber 25 = .ok (.getfield 132, 3) := by decide +kernel
theorem dX12_readsNumber_28 : decode cX12_readsNumber 28 = .ok (.aload_n 0, 1) := by decide +kernel
theorem dX12_readsNumber_29 : decode cX12_readsNumber 29 = .ok (.getfield 135, 3) := by decide +kernel
theorem dX12_readsNumber_32 : decode cX12_readsNumber 32 = .ok (.isub, 1) := by decide +kernel
theorem dX12_readsNumber_33 : decode cX12_readsNumber 33 = .ok (.iconst 4, 1) := by decide +kernel
theorem dX12_readsNumber_34 : decode cX12_readsNumber 34 = .ok (.if_icmp .ge 25, 3) := by decide +kernel
theorem dX12_readsNumber_37 : decode cX12_readsNumber 37 = .ok (.bipush 10, 2) := by decide +kernel
theorem dX12_readsNumber_39 : decode cX12_readsNumber 39 = .ok (.aload_n 0, 1) := by decide +kernel
theorem dX12_readsNumber_40 : decode cX12_readsNumber 40 = .ok (.getfield 148, 3) := by decide +kernel
theorem dX12_readsNumber_43 : decode cX12_readsNumber 43 = .ok (.imul, 1) := by decide +kernel
theorem dX12_readsNumber_44 : decode cX12_readsNumber 44 = .ok (.aload_n 0, 1) := by decide +kernel
theorem dX12_readsNumber_45 : decode cX12_readsNumber 45 = .ok (.aload_n 0, 1) := by decide +kernel
theorem dX12_readsNumber_46 : decode cX12_readsNumber 46 = .ok (.getfield 132, 3) := by decide +kernel
theorem dX12_readsNumber_49 : decode cX12_readsNumber 49 = .ok (.invokevirtual 138, 3) := by decide +kernel
theorem dX12_readsNumber_52 : decode cX12_readsNumber 52 = .ok (.iadd, 1) := by decide +kernel
theorem dX12_readsNumber_53 : decode cX12_readsNumber 53 = .ok (.bipush 48, 2) := by decide +kernel
theorem dX12_readsNumber_55 : decode cX12_readsNumber 55 = .ok (.isub, 1) := by decide +kernel
theorem dX12_readsNumber_56 : decode cX12_readsNumber 56 = .ok (.goto 7, 3) := by decide +kernel
theorem dX12_readsNumber_59 : decode cX12_readsNumber 59 = .ok (.aload_n 0, 1) := by decide +kernel
theorem dX12_readsNumber_60 : decode cX12_readsNumber 60 = .ok (.getfield 148, 3) := by decide +kernel
theorem dX12_readsNumber_63 : decode cX12_readsNumber 63 = .ok (.putfield 148, 3) := by decide +kernel
theorem dX12_readsNumber_66 : decode cX12_readsNumber 66 = .ok (.aload_n 0, 1) := by decide +kernel
theorem dX12_readsNumber_67 : decode cX12_readsNumber 67 = .ok (.dup, 1) := by decide +kernel
theorem dX12_readsNumber_68 : decode cX12_readsNumber 68 = .ok (.getfield 132, 3) := by decide +kernel
theorem dX12_readsNumber_71 : decode cX12_readsNumber 71 = .ok (.iconst 1, 1) := by decide +kernel
theorem dX12_readsNumber_72 : decode cX12_readsNumber 72 = .ok (.iadd, 1) := by decide +kernel
theorem dX12_readsNumber_73 : decode cX12_readsNumber 73 = .ok (.putfield 132, 3) := by decide +kernel
theorem dX12_readsNumber_76 : decode cX12_readsNumber 76 = .ok (.goto (-71), 3) := by decide +kernel
theorem dX12_readsNumber_79 : decode cX12_readsNumber 79 = .ok (.aload_n 0, 1) := by decide +kernel
theorem dX12_readsNumber_80 : decode cX12_readsNumber 80 = .ok (.aload_n 0, 1) := by decide +kernel
theorem dX12_readsNumber_81 : decode cX12_readsNumber 81 = .ok (.getfield 132, 3) := by decide +kernel
theorem dX12_readsNumber_84 : decode cX12_readsNumber 84 = .ok (.aload_n 0, 1) := by decide +kernel
theorem dX12_readsNumber_85 : decode cX12_readsNumber 85 = .ok (.getfield 135, 3) := by decide +kernel
theorem dX12_readsNumber_88 : decode cX12_readsNumber 88 = .ok (.isub, 1) := by decide +kernel
theorem dX12_readsNumber_89 : decode cX12_readsNumber 89 = .ok (.iconst 4, 1) := by decide +kernel
theorem dX12_readsNumber_90 : decode cX12_readsNumber 90 = .ok (.if_icmp .le 8, 3) := by decide +kernel
theorem dX12_readsNumber_93 : decode cX12_readsNumber 93 = .ok (.bipush 101, 2) := by decide +kernel
theorem dX12_readsNumber_95 : decode cX12_readsNumber 95 = .ok (.goto 5, 3) := by decide +kernel
theorem dX12_readsNumber_98 : decode cX12_readsNumber 98 = .ok (.bipush 100, 2) := by decide +kernel
theorem dX12_readsNumber_100 : decode cX12_readsNumber 100 = .ok (.putfield 141, 3) := by decide +kernel
theorem dX12_readsNumber_103 : decode cX12_readsNumber 103 = .ok (.return_, 1) := by decide +kernel
theorem k_X12_readsNumber : MV yX12_readsNumber cX12_readsNumber 1 none 0 := ⟨q_1240, qs_34, q_14, q_1241, ⟨by decide, by decide, by decide +kernel⟩⟩
theorem c_X12_readsNumber {res : Int32 × Int32 × Int32} (hf : X12_readsNumber n x_tape x_taped x_at x_begun = some res) : MC l E0 D t yX12_readsNumber cX12_readsNumber 1 none 2 0 0 [.ref (a 0)] (mW a t x_s x_kept x_laid x_isKept x_pile x_tape x_taped x_letters x_at x_begun x_token x_value x_opened x_steps x_code0 x_read x_saved x_plan x_bestPlan x_most x_many x_few x_everRight x_lagThen x_shadedThen x_firstFit x_rows x_rowMany x_sorts x_sizes x_number x_holds x_heldOne x_trace x_traced x_own x_isParted) (Qn (mW a t x_s x_kept x_laid x_isKept x_pile x_tape x_taped x_letters res.1 x_begun res.2.1 res.2.2 x_opened x_steps x_code0 x_read x_saved x_plan x_bestPlan x_most x_many x_few x_everRight x_lagThen x_shadedThen x_firstFit x_rows x_rowMany x_sorts x_sizes x_number x_holds x_heldOne x_trace x_traced x_own x_isParted)) := by
  unfold X12_readsNumber at hf
  refine MC.ofV pn_X12 (Nat.le_of_ble_eq_true rfl) ?_
  intro p e s m args below meth c A Q ls cx hR hw hl
  have hx := cx.1
  have hb := cx.2.1
  have hl : lv_has ls 1 [(0, .ref (a 0))] := hl
  refine lv_aload_n hx hb dX12_readsNumber_0 rfl (lv_at hl 0 rfl) ?_
  refine lv_iconst (v := 0) hx hb dX12_readsNumber_1 (by decide) ?_
  refine mp_value cx hw dX12_readsNumber_2 (fun H locs hw => ?_)
  obtain ⟨o6, ho6, hf⟩ := bnS hf
  have wL1 : ∀ (k : Nat) {x_at : Int32} {x_value : Int32} {H : Heap} {locs : List Loc} {ls : Array Slot} {o : Int32 × Int32}, X12_readsNumber_L1 n x_tape x_taped x_begun k x_at x_value = some o → Wd D A s (mW a t x_s x_kept x_laid x_isKept x_pile x_tape x_taped x_letters x_at x_begun x_token x_value x_opened x_steps x_code0 x_read x_saved x_plan x_bestPlan x_most x_many x_few x_everRight x_lagThen x_shadedThen x_firstFit x_rows x_rowMany x_sorts x_sizes x_number x_holds x_heldOne x_trace x_traced x_own x_isParted) H locs → lv_has ls 1 [(0, .ref (a 0))] → (∀ (H : Heap) (locs : List Loc) (ls : Array Slot), Wd D A s (mW a t x_s x_kept x_laid x_isKept x_pile x_tape x_taped x_letters o.1 x_begun x_token o.2 x_opened x_steps x_code0 x_read x_saved x_plan x_bestPlan x_most x_many x_few x_everRight x_lagThen x_shadedThen x_firstFit x_rows x_rowMany x_sorts x_sizes x_number x_holds x_heldOne x_trace x_traced x_own x_isParted) H locs → lv_has ls 1 [(0, .ref (a 0))] → W p l e (rmz 2 0 0) s m args below meth c H locs 0 0 Q (F0 m 79 ls [])) → W p l e (rmz 2 0 0) s m args below meth c H locs 0 0 Q (F0 m 5 ls []) := by
    clear hf ho6 hw hl
    intro k
    induction k with
    | zero => intro x_at x_value H locs ls o hf hw hl kx; simp [X12_readsNumber_L1] at hf
    | succ k ih =>
      intro x_at x_value H locs ls o hf hw hl kx
      rw [X12_readsNumber_L1] at hf
      refine lv_aload_n hx hb dX12_readsNumber_5 rfl (lv_at hl 0 rfl) ?_
      refine lv_aload_n hx hb dX12_readsNumber_6 rfl (lv_at hl 0 rfl) ?_
      refine mg_at cx hw dX12_readsNumber_7 ?_
      obtain ⟨r1, h2, hf⟩ := bnS hf
      refine calVi (k := 0) cx hw hl.1 (c_X12_byteAt h2) q_1226 k_X12_byteAt rfl rfl rfl dX12_readsNumber_10 rfl (Nat.le_of_ble_eq_true rfl) ⟨Nat.le_of_ble_eq_true rfl, Nat.le_of_ble_eq_true rfl⟩ ⟨Nat.le_refl _, Nat.le_refl _⟩ (fun H locs hw => ?_)
      refine lv_bipush (v := 48) hx hb dX12_readsNumber_13 (by decide) ?_
      refine lv_bipush (v := 57) hx hb dX12_readsNumber_15 (by decide) ?_
      refine calSi cx hw hl.1 (c_X12_in1 rfl) q_1214 k_X12_in1 rfl dX12_readsNumber_17 rfl (Nat.le_of_ble_eq_true rfl) ⟨Nat.le_of_ble_eq_true rfl, Nat.le_of_ble_eq_true rfl⟩ ⟨Nat.le_refl _, Nat.le_refl _⟩ (fun H locs hw => ?_)
      refine lv_if_eq (tgt := 79) hx hb dX12_readsNumber_20 (by decide) (fun hc => ?_) (fun hc => ?_)
      · have hf := ifT hf hc
        have hf := Option.some.inj hf
        subst hf
        exact kx _ _ _ hw (lv_sub hl [0] rfl)
      · have hf := ifF hf hc
        refine lv_aload_n hx hb dX12_readsNumber_23 rfl (lv_at hl 0 rfl) ?_
        refine lv_aload_n hx hb dX12_readsNumber_24 rfl (lv_at hl 0 rfl) ?_
        refine mg_at cx hw dX12_readsNumber_25 ?_
        refine lv_aload_n hx hb dX12_readsNumber_28 rfl (lv_at hl 0 rfl) ?_
        refine mg_begun cx hw dX12_readsNumber_29 ?_
        refine lv_isub hx hb dX12_readsNumber_32 ?_
        refine lv_iconst (v := 4) hx hb dX12_readsNumber_33 (by decide) ?_
        obtain ⟨j5, hj5, hf⟩ := bnS hf
        have wj5 : ∀ (H : Heap) (locs : List Loc) (ls : Array Slot), Wd D A s (mW a t x_s x_kept x_laid x_isKept x_pile x_tape x_taped x_letters x_at x_begun x_token x_value x_opened x_steps x_code0 x_read x_saved x_plan x_bestPlan x_most x_many x_few x_everRight x_lagThen x_shadedThen x_firstFit x_rows x_rowMany x_sorts x_sizes x_number x_holds x_heldOne x_trace x_traced x_own x_isParted) H locs → lv_has ls 1 [(0, .ref (a 0))] → W p l e (rmz 2 0 0) s m args below meth c H locs 0 0 Q (F0 m 63 ls [.int j5, .ref (a 0)]) := by
          intro H locs ls hw hl
          refine mp_value cx hw dX12_readsNumber_63 (fun H locs hw => ?_)
          refine lv_aload_n hx hb dX12_readsNumber_66 rfl (lv_at hl 0 rfl) ?_
          refine lv_dup hx hb dX12_readsNumber_67 rfl ?_
          refine mg_at cx hw dX12_readsNumber_68 ?_
          refine lv_iconst (v := 1) hx hb dX12_readsNumber_71 (by decide) ?_
          refine lv_iadd hx hb dX12_readsNumber_72 ?_
          refine mp_at cx hw dX12_readsNumber_73 (fun H locs hw => ?_)
          refine lv_goto (tgt := 5) hx hb dX12_readsNumber_76 (by decide) ?_
          exact ih hf hw (lv_sub hl [0] rfl) kx
        clear hf
        have hf := hj5
        clear hj5
        refine lv_icmp_ge (tgt := 59) hx hb dX12_readsNumber_34 (by decide) (fun hc => ?_) (fun hc => ?_)
        · have hf := ifT hf hc
          refine lv_aload_n hx hb dX12_readsNumber_59 rfl (lv_at hl 0 rfl) ?_
          refine mg_value cx hw dX12_readsNumber_60 ?_
          have hf := Option.some.inj hf
          subst hf
          exact wj5 _ _ _ hw (lv_sub hl [0] rfl)
        · have hf := ifF hf hc
          refine lv_bipush (v := 10) hx hb dX12_readsNumber_37 (by decide) ?_
          refine lv_aload_n hx hb dX12_readsNumber_39 rfl (lv_at hl 0 rfl) ?_
          refine mg_value cx hw dX12_readsNumber_40 ?_
          refine lv_imul hx hb dX12_readsNumber_43 ?_
          refine lv_aload_n hx hb dX12_readsNumber_44 rfl (lv_at hl 0 rfl) ?_
          refine lv_aload_n hx hb dX12_readsNumber_45 rfl (lv_at hl 0 rfl) ?_
          refine mg_at cx hw dX12_readsNumber_46 ?_
          obtain ⟨r3, h4, hf⟩ := bnS hf
          refine calVi (k := 0) cx hw hl.1 (c_X12_byteAt h4) q_1226 k_X12_byteAt rfl rfl rfl dX12_readsNumber_49 rfl (Nat.le_of_ble_eq_true rfl) ⟨Nat.le_of_ble_eq_true rfl, Nat.le_of_ble_eq_true rfl⟩ ⟨Nat.le_refl _, Nat.le_refl _⟩ (fun H locs hw => ?_)
          refine lv_iadd hx hb dX12_readsNumber_52 ?_
          refine lv_bipush (v := 48) hx hb dX12_readsNumber_53 (by decide) ?_
          refine lv_isub hx hb dX12_readsNumber_55 ?_
          refine lv_goto (tgt := 63) hx hb dX12_readsNumber_56 (by decide) ?_
          have hf := Option.some.inj hf
          subst hf
          exact wj5 _ _ _ hw (lv_sub hl [0] rfl)
  refine wL1 n ho6 hw (lv_sub hl [0] rfl) (fun H locs ls hw hl => ?_)
  clear wL1 ho6
  refine lv_aload_n hx hb dX12_readsNumber_79 rfl (lv_at hl 0 rfl) ?_
  refine lv_aload_n hx hb dX12_readsNumber_80 rfl (lv_at hl 0 rfl) ?_
  refine mg_at cx hw dX12_readsNumber_81 ?_
  refine lv_aload_n hx hb dX12_readsNumber_84 rfl (lv_at hl 0 rfl) ?_
  refine mg_begun cx hw dX12_readsNumber_85 ?_
  refine lv_isub hx hb dX12_readsNumber_88 ?_
  refine lv_iconst (v := 4) hx hb dX12_readsNumber_89 (by decide) ?_
  refine lv_icmp_le (tgt := 98) hx hb dX12_readsNumber_90 (by decide) (fun hc => ?_) (fun hc => ?_)
  · have hf := ifT hf hc
    refine lv_bipush (v := 100) hx hb dX12_readsNumber_98 (by decide) ?_
    refine mp_token cx hw dX12_readsNumber_100 (fun H locs hw => ?_)
    have hf := Option.some.inj hf
    subst hf
    exact hR _ _ _ _ _ hw ⟨rfl, rfl⟩ dX12_readsNumber_103
  · have hf := ifF hf hc
    refine lv_bipush (v := 101) hx hb dX12_readsNumber_93 (by decide) ?_
    refine lv_goto (tgt := 100) hx hb dX12_readsNumber_95 (by decide) ?_
    refine mp_token cx hw dX12_readsNumber_100 (fun H locs hw => ?_)
    have hf := Option.some.inj hf
    subst hf
    exact hR _ _ _ _ _ hw ⟨rfl, rfl⟩ dX12_readsNumber_103
theorem dX12_next_0 : decode cX12_next 0 = .ok (.aload_n 0, 1) := by decide +kernel
theorem dX12_next_1 : decode cX12_next 1 = .ok (.aload_n 0, 1) := by decide +kernel
theorem dX12_next_2 : decode cX12_next 2 = .ok (.getfield 132, 3) := by decide +kernel
theorem dX12_next_5 : decode cX12_next 5 = .ok (.invokevirtual 138, 3) := by decide +kernel
theorem dX12_next_8 : decode cX12_next 8 = .ok (.bipush 32, 2) := by decide +kernel
theorem dX12_next_10 : decode cX12_next 10 = .ok (.if_icmp .ne 16, 3) := by decide +kernel
theorem dX12_next_13 : decode cX12_next 13 = .ok (.aload_n 0, 1) := by decide +kernel
theorem dX12_next_14 : decode cX12_next 14 = .ok (.dup, 1) := by decide +kernel
theorem dX12_next_15 : decode cX12_next 15 = .ok (.getfield 132, 3) := by decide +kernel
theorem dX12_next_18 : decode cX12_next 18 = .ok (.iconst 1, 1) := by decide +kernel
theorem dX12_next_19 : decode cX12_next 19 = .ok (.iadd, 1) := by decide +kernel
theorem dX12_next_20 : decode cX12_next 20 = .ok (.putfield 132, 3) := by decide +kernel
theorem dX12_next_23 : decode cX12_next 23 = .ok (.goto (-23), 3) := by decide +kernel
theorem dX12_next_26 : decode cX12_next 26 = .ok (.aload_n 0, 1) := by decide +kernel
theorem dX12_next_27 : decode cX12_next 27 = .ok (.aload_n 0, 1) := by decide +kernel
theorem dX12_next_28 : decode cX12_next 28 = .ok (.getfield 132, 3) := by decide +kernel
theorem dX12_next_31 : decode cX12_next 31 = .ok (.putfield 135, 3) := by decide +kernel
theorem dX12_next_34 : decode cX12_next 34 = .ok (.aload_n 0, 1) := by decide +kernel
theorem dX12_next_35 : decode cX12_next 35 = .ok (.aload_n 0, 1) := by decide +kernel
theorem dX12_next_36 : decode cX12_next 36 = .ok (.getfield 132, 3) := by decide +kernel
theorem dX12_next_39 : decode cX12_next 39 = .ok (.invokevirtual 138, 3) := by decide +kernel
theorem dX12_next_42 : decode cX12_next 42 = .ok (.istore_n 1, 1) := by decide +kernel
theorem dX12_next_43 : decode cX12_next 43 = .ok (.iload_n 1, 1) := by decide +kernel
theorem dX12_next_44 : decode cX12_next 44 = .ok (.ifCond .ge 11, 3) := by decide +kernel
theorem dX12_next_47 : decode cX12_next 47 = .ok (.aload_n 0, 1) := by decide +kernel
theorem dX12_next_48 : decode cX12_next 48 = .ok (.iconst (-1), 1) := by decide +kernel
theorem dX12_next_49 : decode cX12_next 49 = .ok (.putfield 141, 3) := by decide +kernel
theorem dX12_next_52 : decode cX12_next 52 = .ok (.goto 58, 3) := by decide +kernel
theorem dX12_next_55 : decode cX12_next 55 = .ok (.iload_n 1, 1) := by decide +kernel
theorem dX12_next_56 : decode cX12_next 56 = .ok (.bipush 97, 2) := by decide +kernel
theorem dX12_next_58 : decode cX12_next 58 = .ok (.bipush 122, 2) := by decide +kernel
theorem dX12_next_60 : decode cX12_next 60 = .ok (.invokestatic 71, 3) := by decide +kernel
theorem dX12_next_63 : decode cX12_next 63 = .ok (.ifCond .eq 10, 3) := by decide +kernel
theorem dX12_next_66 : decode cX12_next 66 = .ok (.aload_n 0, 1) := by decide +kernel
theorem dX12_next_67 : decode cX12_next 67 = .ok (.invokevirtual 151, 3) := by decide +kernel
theorem dX12_next_70 : decode cX12_next 70 = .ok (.goto 40, 3) := by decide +kernel
theorem dX12_next_73 : decode cX12_next 73 = .ok (.iload_n 1, 1) := by decide +kernel
theorem dX12_next_74 : decode cX12_next 74 = .ok (.bipush 48, 2) := by decide +kernel
theorem dX12_next_76 : decode cX12_next 76 = .ok (.bipush 57, 2) := by decide +kernel
theorem dX12_next_78 : decode cX12_next 78 = .ok (.invokestatic 71, 3) := by decide +kernel
theorem dX12_next_81 : decode cX12_next 81 = .ok (.ifCond .eq 10, 3) := by decide +kernel
theorem dX12_next_84 : decode cX12_next 84 = .ok (.aload_n 0, 1) := by decide +kernel
theorem dX12_next_85 : decode cX12_next 85 = .ok (.invokevirtual 154, 3) := by decide +kernel
theorem dX12_next_88 : decode cX12_next 88 = .ok (.goto 22, 3) := by decide +kernel
theorem dX12_next_91 : decode cX12_next 91 = .ok (.aload_n 0, 1) := by decide +kernel
theorem dX12_next_92 : decode cX12_next 92 = .ok (.sipush 200, 3) := by decide +kernel
theorem dX12_next_95 : decode cX12_next 95 = .ok (.iload_n 1, 1) := by decide +kernel
theorem dX12_next_96 : decode cX12_next 96 = .ok (.iadd, 1) := by decide +kernel
theorem dX12_next_97 : decode cX12_next 97 = .ok (.putfield 141, 3) := by decide +kernel
theorem dX12_next_100 : decode cX12_next 100 = .ok (.aload_n 0, 1) := by decide +kernel
theorem dX12_next_101 : decode cX12_next 101 = .ok (.dup, 1) := by decide +kernel
theorem dX12_next_102 : decode cX12_next 102 = .ok (.getfield 132, 3) := by decide +kernel
theorem dX12_next_105 : decode cX12_next 105 = .ok (.iconst 1, 1) := by decide +kernel
theorem dX12_next_106 : decode cX12_next 106 = .ok (.iadd, 1) := by decide +kernel
theorem dX12_next_107 : decode cX12_next 107 = .ok (.putfield 132, 3) := by decide +kernel
theorem dX12_next_110 : decode cX12_next 110 = .ok (.return_, 1) := by decide +kernel
theorem k_X12_next : MV yX12_next cX12_next 2 none 0 := ⟨q_1224, qs_30, q_14, q_1225, ⟨by decide, by decide, by decide +kernel⟩⟩
theorem c_X12_next {res : Int32 × Int32 × Int32 × Int32} (hf : X12_next n x_tape x_taped x_letters x_at x_value = some res) : MC l E0 D t yX12_next cX12_next 2 none 4 0 0 [.ref (a 0)] (mW a t x_s x_kept x_laid x_isKept x_pile x_tape x_taped x_letters x_at x_begun x_token x_value x_opened x_steps x_code0 x_read x_saved x_plan x_bestPlan x_most x_many x_few x_everRight x_lagThen x_shadedThen x_firstFit x_rows x_rowMany x_sorts x_sizes x_number x_holds x_heldOne x_trace x_traced x_own x_isParted) (Qn (mW a t x_s x_kept x_laid x_isKept x_pile x_tape x_taped x_letters res.1 res.2.1 res.2.2.1 res.2.2.2 x_opened x_steps x_code0 x_read x_saved x_plan x_bestPlan x_most x_many x_few x_everRight x_lagThen x_shadedThen x_firstFit x_rows x_rowMany x_sorts x_sizes x_number x_holds x_heldOne x_trace x_traced x_own x_isParted)) := by
  unfold X12_next at hf
  refine MC.ofV pn_X12 (Nat.le_of_ble_eq_true rfl) ?_
  intro p e s m args below meth c A Q ls cx hR hw hl
  have hx := cx.1
  have hb := cx.2.1
  have hl : lv_has ls 2 [(0, .ref (a 0))] := hl
  obtain ⟨o3, ho3, hf⟩ := bnS hf
  have wL1 : ∀ (k : Nat) {x_at : Int32} {H : Heap} {locs : List Loc} {ls : Array Slot} {o : Int32}, X12_next_L1 n x_tape x_taped k x_at = some o → Wd D A s (mW a t x_s x_kept x_laid x_isKept x_pile x_tape x_taped x_letters x_at x_begun x_token x_value x_opened x_steps x_code0 x_read x_saved x_plan x_bestPlan x_most x_many x_few x_everRight x_lagThen x_shadedThen x_firstFit x_rows x_rowMany x_sorts x_sizes x_number x_holds x_heldOne x_trace x_traced x_own x_isParted) H locs → lv_has ls 2 [(0, .ref (a 0))] → (∀ (H : Heap) (locs : List Loc) (ls : Array Slot), Wd D A s (mW a t x_s x_kept x_laid x_isKept x_pile x_tape x_taped x_letters o x_begun x_token x_value x_opened x_steps x_code0 x_read x_saved x_plan x_bestPlan x_most x_many x_few x_everRight x_lagThen x_shadedThen x_firstFit x_rows x_rowMany x_sorts x_sizes x_number x_holds x_heldOne x_trace x_traced x_own x_isParted) H locs → lv_has ls 2 [(0, .ref (a 0))] → W p l e (rmz 4 0 0) s m args below meth c H locs 0 0 Q (F0 m 26 ls [])) → W p l e (rmz 4 0 0) s m args below meth c H locs 0 0 Q (F0 m 0 ls []) := by
    clear hf ho3 hw hl
    intro k
    induction k with
    | zero => intro x_at H locs ls o hf hw hl kx; simp [X12_next_L1] at hf
    | succ k ih =>
      intro x_at H locs ls o hf hw hl kx
      rw [X12_next_L1] at hf
      refine lv_aload_n hx hb dX12_next_0 rfl (lv_at hl 0 rfl) ?_
      refine lv_aload_n hx hb dX12_next_1 rfl (lv_at hl 0 rfl) ?_
      refine mg_at cx hw dX12_next_2 ?_
      obtain ⟨r1, h2, hf⟩ := bnS hf
      refine calVi (k := 0) cx hw hl.1 (c_X12_byteAt h2) q_1226 k_X12_byteAt rfl rfl rfl dX12_next_5 rfl (Nat.le_of_ble_eq_true rfl) ⟨Nat.le_of_ble_eq_true rfl, Nat.le_of_ble_eq_true rfl⟩ ⟨Nat.le_refl _, Nat.le_refl _⟩ (fun H locs hw => ?_)
      refine lv_bipush (v := 32) hx hb dX12_next_8 (by decide) ?_
      refine lv_icmp_ne (tgt := 26) hx hb dX12_next_10 (by decide) (fun hc => ?_) (fun hc => ?_)
      · have hf := ifF hf hc
        have hf := Option.some.inj hf
        subst hf
        exact kx _ _ _ hw (lv_sub hl [0] rfl)
      · have hf := ifT hf hc
        refine lv_aload_n hx hb dX12_next_13 rfl (lv_at hl 0 rfl) ?_
        refine lv_dup hx hb dX12_next_14 rfl ?_
        refine mg_at cx hw dX12_next_15 ?_
        refine lv_iconst (v := 1) hx hb dX12_next_18 (by decide) ?_
        refine lv_iadd hx hb dX12_next_19 ?_
        refine mp_at cx hw dX12_next_20 (fun H locs hw => ?_)
        refine lv_goto (tgt := 0) hx hb dX12_next_23 (by decide) ?_
        exact ih hf hw (lv_sub hl [0] rfl) kx
  refine wL1 n ho3 hw (lv_sub hl [0] rfl) (fun H locs ls hw hl => ?_)
  clear wL1 ho3
  refine lv_aload_n hx hb dX12_next_26 rfl (lv_at hl 0 rfl) ?_
  refine lv_aload_n hx hb dX12_next_27 rfl (lv_at hl 0 rfl) ?_
  refine mg_at cx hw dX12_next_28 ?_
  refine mp_begun cx hw dX12_next_31 (fun H locs hw => ?_)
  refine lv_aload_n hx hb dX12_next_34 rfl (lv_at hl 0 rfl) ?_
  refine lv_aload_n hx hb dX12_next_35 rfl (lv_at hl 0 rfl) ?_
  refine mg_at cx hw dX12_next_36 ?_
  obtain ⟨r4, h5, hf⟩ := bnS hf
  refine calVi (k := 0) cx hw hl.1 (c_X12_byteAt h5) q_1226 k_X12_byteAt rfl rfl rfl dX12_next_39 rfl (Nat.le_of_ble_eq_true rfl) ⟨Nat.le_of_ble_eq_true rfl, Nat.le_of_ble_eq_true rfl⟩ ⟨Nat.le_refl _, Nat.le_refl _⟩ (fun H locs hw => ?_)
  refine lv_istore_n (lv' := [(1, .int r4), (0, .ref (a 0))]) hx hb dX12_next_42 rfl hl (by decide) rfl (fun ls hl => ?_)
  refine lv_iload_n hx hb dX12_next_43 rfl (lv_at hl 0 rfl) ?_
  refine lv_if_ge (tgt := 55) hx hb dX12_next_44 (by decide) (fun hc => ?_) (fun hc => ?_)
  · have hf := ifT hf hc
    refine lv_iload_n hx hb dX12_next_55 rfl (lv_at hl 0 rfl) ?_
    refine lv_bipush (v := 97) hx hb dX12_next_56 (by decide) ?_
    refine lv_bipush (v := 122) hx hb dX12_next_58 (by decide) ?_
    refine calSi cx hw hl.1 (c_X12_in1 rfl) q_1214 k_X12_in1 rfl dX12_next_60 rfl (Nat.le_of_ble_eq_true rfl) ⟨Nat.le_of_ble_eq_true rfl, Nat.le_of_ble_eq_true rfl⟩ ⟨Nat.le_refl _, Nat.le_refl _⟩ (fun H locs hw => ?_)
    refine lv_if_eq (tgt := 73) hx hb dX12_next_63 (by decide) (fun hc => ?_) (fun hc => ?_)
    · have hf := ifT hf hc
      refine lv_iload_n hx hb dX12_next_73 rfl (lv_at hl 0 rfl) ?_
      refine lv_bipush (v := 48) hx hb dX12_next_74 (by decide) ?_
      refine lv_bipush (v := 57) hx hb dX12_next_76 (by decide) ?_
      refine calSi cx hw hl.1 (c_X12_in1 rfl) q_1214 k_X12_in1 rfl dX12_next_78 rfl (Nat.le_of_ble_eq_true rfl) ⟨Nat.le_of_ble_eq_true rfl, Nat.le_of_ble_eq_true rfl⟩ ⟨Nat.le_refl _, Nat.le_refl _⟩ (fun H locs hw => ?_)
      refine lv_if_eq (tgt := 91) hx hb dX12_next_81 (by decide) (fun hc => ?_) (fun hc => ?_)
      · have hf := ifT hf hc
        refine lv_aload_n hx hb dX12_next_91 rfl (lv_at hl 1 rfl) ?_
        refine lv_sipush (v := 200) hx hb dX12_next_92 (by decide) ?_
        refine lv_iload_n hx hb dX12_next_95 rfl (lv_at hl 0 rfl) ?_
        refine lv_iadd hx hb dX12_next_96 ?_
        refine mp_token cx hw dX12_next_97 (fun H locs hw => ?_)
        refine lv_aload_n hx hb dX12_next_100 rfl (lv_at hl 1 rfl) ?_
        refine lv_dup hx hb dX12_next_101 rfl ?_
        refine mg_at cx hw dX12_next_102 ?_
        refine lv_iconst (v := 1) hx hb dX12_next_105 (by decide) ?_
        refine lv_iadd hx hb dX12_next_106 ?_
        refine mp_at cx hw dX12_next_107 (fun H locs hw => ?_)
        have hf := Option.some.inj hf
        subst hf
        exact hR _ _ _ _ _ hw ⟨rfl, rfl⟩ dX12_next_110
      · have hf := ifF hf hc
        refine lv_aload_n hx hb dX12_next_84 rfl (lv_at hl 1 rfl) ?_
        obtain ⟨r6, h7, hf⟩ := bnS hf
        refine calVv (k := 0) cx hw hl.1 (c_X12_readsNumber h7) q_1238 k_X12_readsNumber rfl rfl rfl dX12_next_85 rfl (Nat.le_of_ble_eq_true rfl) ⟨Nat.le_of_ble_eq_true rfl, Nat.le_of_ble_eq_true rfl⟩ ⟨Nat.le_refl _, Nat.le_refl _⟩ (fun H locs hw => ?_)
        refine lv_goto (tgt := 110) hx hb dX12_next_88 (by decide) ?_
        have hf := Option.some.inj hf
        subst hf
        exact hR _ _ _ _ _ hw ⟨rfl, rfl⟩ dX12_next_110
    · have hf := ifF hf hc
      refine lv_aload_n hx hb dX12_next_66 rfl (lv_at hl 1 rfl) ?_
      obtain ⟨r8, h9, hf⟩ := bnS hf
      refine calVv (k := 0) cx hw hl.1 (c_X12_readsName h9) q_1230 k_X12_readsName rfl rfl rfl dX12_next_67 rfl (Nat.le_of_ble_eq_true rfl) ⟨Nat.le_of_ble_eq_true rfl, Nat.le_of_ble_eq_true rfl⟩ ⟨Nat.le_refl _, Nat.le_refl _⟩ (fun H locs hw => ?_)
      refine lv_goto (tgt := 110) hx hb dX12_next_70 (by decide) ?_
      have hf := Option.some.inj hf
      subst hf
      exact hR _ _ _ _ _ hw ⟨rfl, rfl⟩ dX12_next_110
  · have hf := ifF hf hc
    refine lv_aload_n hx hb dX12_next_47 rfl (lv_at hl 1 rfl) ?_
    refine lv_iconst (v := (-1)) hx hb dX12_next_48 (by decide) ?_
    refine mp_token cx hw dX12_next_49 (fun H locs hw => ?_)
    refine lv_goto (tgt := 110) hx hb dX12_next_52 (by decide) ?_
    have hf := Option.some.inj hf
    subst hf
    exact hR _ _ _ _ _ hw ⟨rfl, rfl⟩ dX12_next_110
theorem dX12_takes_0 : decode cX12_takes 0 = .ok (.aload_n 0, 1) := by decide +kernel
theorem dX12_takes_1 : decode cX12_takes 1 = .ok (.getfield 141, 3) := by decide +kernel
theorem dX12_takes_4 : decode cX12_takes 4 = .ok (.iload_n 1, 1) := by decide +kernel
theorem dX12_takes_5 : decode cX12_takes 5 = .ok (.if_icmp .ne 7, 3) := by decide +kernel
theorem dX12_takes_8 : decode cX12_takes 8 = .ok (.iconst 1, 1) := by decide +kernel
theorem dX12_takes_9 : decode cX12_takes 9 = .ok (.goto 4, 3) := by decide +kernel
theorem dX12_takes_12 : decode cX12_takes 12 = .ok (.iconst 0, 1) := by decide +kernel
theorem dX12_takes_13 : decode cX12_takes 13 = .ok (.istore_n 2, 1) := by decide +kernel
theorem dX12_takes_14 : decode cX12_takes 14 = .ok (.iload_n 2, 1) := by decide +kernel
theorem dX12_takes_15 : decode cX12_takes 15 = .ok (.ifCond .eq 7, 3) := by decide +kernel
theorem dX12_takes_18 : decode cX12_takes 18 = .ok (.aload_n 0, 1) := by decide +kernel
theorem dX12_takes_19 : decode cX12_takes 19 = .ok (.invokevirtual 157, 3) := by decide +kernel
theorem dX12_takes_22 : decode cX12_takes 22 = .ok (.iload_n 2, 1) := by decide +kernel
theorem dX12_takes_23 : decode cX12_takes 23 = .ok (.ireturn, 1) := by decide +kernel
theorem k_X12_takes : MV yX12_takes cX12_takes 3 (some .boolean) 1 := ⟨q_1248, qs_36, q_14, q_1249, ⟨by decide, by decide, by decide +kernel⟩⟩
theorem c_X12_takes {res : Int32 × Int32 × Int32 × Int32 × Int32} (hf : X12_takes n x_tape x_taped x_letters x_at x_begun x_token x_value v1 = some res) : MC l E0 D t yX12_takes cX12_takes 3 (some .boolean) 5 0 0 [.ref (a 0), .int v1] (mW a t x_s x_kept x_laid x_isKept x_pile x_tape x_taped x_letters x_at x_begun x_token x_value x_opened x_steps x_code0 x_read x_saved x_plan x_bestPlan x_most x_many x_few x_everRight x_lagThen x_shadedThen x_firstFit x_rows x_rowMany x_sorts x_sizes x_number x_holds x_heldOne x_trace x_traced x_own x_isParted) (Qi res.1 (mW a t x_s x_kept x_laid x_isKept x_pile x_tape x_taped x_letters res.2.1 res.2.2.1 res.2.2.2.1 res.2.2.2.2 x_opened x_steps x_code0 x_read x_saved x_plan x_bestPlan x_most x_many x_few x_everRight x_lagThen x_shadedThen x_firstFit x_rows x_rowMany x_sorts x_sizes x_number x_holds x_heldOne x_trace x_traced x_own x_isParted)) := by
  unfold X12_takes at hf
  refine MC.ofI pn_X12 (Nat.le_of_ble_eq_true rfl) ?_
  intro p e s m args below meth c A Q ls cx hR hw hl
  have hx := cx.1
  have hb := cx.2.1
  have hl : lv_has ls 3 [(0, .ref (a 0)), (1, .int v1)] := hl
  refine lv_aload_n hx hb dX12_takes_0 rfl (lv_at hl 0 rfl) ?_
  refine mg_token cx hw dX12_takes_1 ?_
  refine lv_iload_n hx hb dX12_takes_4 rfl (lv_at hl 1 rfl) ?_
  obtain ⟨j1, hj1, hf⟩ := pbS hf
  have wj1 : ∀ (H : Heap) (locs : List Loc) (ls : Array Slot), Wd D A s (mW a t x_s x_kept x_laid x_isKept x_pile x_tape x_taped x_letters x_at x_begun x_token x_value x_opened x_steps x_code0 x_read x_saved x_plan x_bestPlan x_most x_many x_few x_everRight x_lagThen x_shadedThen x_firstFit x_rows x_rowMany x_sorts x_sizes x_number x_holds x_heldOne x_trace x_traced x_own x_isParted) H locs → lv_has ls 3 [(0, .ref (a 0)), (1, .int v1)] → W p l e (rmz 5 0 0) s m args below meth c H locs 0 0 Q (F0 m 13 ls [.int j1]) := by
    intro H locs ls hw hl
    refine lv_istore_n (lv' := [(2, .int j1), (0, .ref (a 0)), (1, .int v1)]) hx hb dX12_takes_13 rfl hl (by decide) rfl (fun ls hl => ?_)
    refine lv_iload_n hx hb dX12_takes_14 rfl (lv_at hl 0 rfl) ?_
    refine lv_if_eq (tgt := 22) hx hb dX12_takes_15 (by decide) (fun hc => ?_) (fun hc => ?_)
    · have hf := ifT hf hc
      refine lv_iload_n hx hb dX12_takes_22 rfl (lv_at hl 0 rfl) ?_
      obtain ⟨h4, hf⟩ := ckS hf
      have hf := Option.some.inj hf
      subst hf
      exact hR _ _ _ _ _ _ hw (nb (bkS h4)) ⟨rfl, rfl⟩ dX12_takes_23
    · have hf := ifF hf hc
      refine lv_aload_n hx hb dX12_takes_18 rfl (lv_at hl 1 rfl) ?_
      obtain ⟨r2, h3, hf⟩ := bnS hf
      refine calVv (k := 0) cx hw hl.1 (c_X12_next h3) q_1222 k_X12_next rfl rfl rfl dX12_takes_19 rfl (Nat.le_of_ble_eq_true rfl) ⟨Nat.le_of_ble_eq_true rfl, Nat.le_of_ble_eq_true rfl⟩ ⟨Nat.le_refl _, Nat.le_refl _⟩ (fun H locs hw => ?_)
      refine lv_iload_n hx hb dX12_takes_22 rfl (lv_at hl 0 rfl) ?_
      obtain ⟨h5, hf⟩ := ckS hf
      have hf := Option.some.inj hf
      subst hf
      exact hR _ _ _ _ _ _ hw (nb (bkS h5)) ⟨rfl, rfl⟩ dX12_takes_23
  clear hf
  have hf := hj1
  clear hj1
  refine lv_icmp_ne (tgt := 12) hx hb dX12_takes_5 (by decide) (fun hc => ?_) (fun hc => ?_)
  · have hf := ifF hf hc
    refine lv_iconst (v := 0) hx hb dX12_takes_12 (by decide) ?_
    subst hf
    exact wj1 _ _ _ hw (lv_sub hl [0, 1] rfl)
  · have hf := ifT hf hc
    refine lv_iconst (v := 1) hx hb dX12_takes_8 (by decide) ?_
    refine lv_goto (tgt := 13) hx hb dX12_takes_9 (by decide) ?_
    subst hf
    exact wj1 _ _ _ hw (lv_sub hl [0, 1] rfl)
theorem dX12_lays_0 : decode cX12_lays 0 = .ok (.aload_n 0, 1) := by decide +kernel
theorem dX12_lays_1 : decode cX12_lays 1 = .ok (.getfield 29, 3) := by decide +kernel
theorem dX12_lays_4 : decode cX12_lays 4 = .ok (.aload_n 0, 1) := by decide +kernel
theorem dX12_lays_5 : decode cX12_lays 5 = .ok (.getfield 160, 3) := by decide +kernel
theorem dX12_lays_8 : decode cX12_lays 8 = .ok (.iload_n 1, 1) := by decide +kernel
theorem dX12_lays_9 : decode cX12_lays 9 = .ok (.iastore, 1) := by decide +kernel
theorem dX12_lays_10 : decode cX12_lays 10 = .ok (.aload_n 0, 1) := by decide +kernel
theorem dX12_lays_11 : decode cX12_lays 11 = .ok (.dup, 1) := by decide +kernel
theorem dX12_lays_12 : decode cX12_lays 12 = .ok (.getfield 160, 3) := by decide +kernel
theorem dX12_lays_15 : decode cX12_lays 15 = .ok (.iconst 1, 1) := by decide +kernel
theorem dX12_lays_16 : decode cX12_lays 16 = .ok (.iadd, 1) := by decide +kernel
theorem dX12_lays_17 : decode cX12_lays 17 = .ok (.putfield 160, 3) := by decide +kernel
theorem dX12_lays_20 : decode cX12_lays 20 = .ok (.return_, 1) := by decide +kernel
theorem k_X12_lays : MV yX12_lays cX12_lays 2 none 1 := ⟨q_1276, qs_43, q_14, q_1277, ⟨by decide, by decide, by decide +kernel⟩⟩
theorem c_X12_lays {res : Int32 × (Nat → Int32)} (hf : X12_lays x_steps x_code0 v1 = some res) : MC l E0 D t yX12_lays cX12_lays 2 none 1 0 0 [.ref (a 0), .int v1] (mW a t x_s x_kept x_laid x_isKept x_pile x_tape x_taped x_letters x_at x_begun x_token x_value x_opened x_steps x_code0 x_read x_saved x_plan x_bestPlan x_most x_many x_few x_everRight x_lagThen x_shadedThen x_firstFit x_rows x_rowMany x_sorts x_sizes x_number x_holds x_heldOne x_trace x_traced x_own x_isParted) (Qn (mW a t x_s x_kept x_laid x_isKept x_pile x_tape x_taped x_letters x_at x_begun x_token x_value x_opened res.1 res.2 x_read x_saved x_plan x_bestPlan x_most x_many x_few x_everRight x_lagThen x_shadedThen x_firstFit x_rows x_rowMany x_sorts x_sizes x_number x_holds x_heldOne x_trace x_traced x_own x_isParted)) := by
  unfold X12_lays at hf
  refine MC.ofV pn_X12 (Nat.le_of_ble_eq_true rfl) ?_
  intro p e s m args below meth c A Q ls cx hR hw hl
  have hx := cx.1
  have hb := cx.2.1
  have hl : lv_has ls 2 [(0, .ref (a 0)), (1, .int v1)] := hl
  refine lv_aload_n hx hb dX12_lays_0 rfl (lv_at hl 0 rfl) ?_
  refine mg_code0 cx hw dX12_lays_1 ?_
  refine lv_aload_n hx hb dX12_lays_4 rfl (lv_at hl 0 rfl) ?_
  refine mg_steps cx hw dX12_lays_5 ?_
  refine lv_iload_n hx hb dX12_lays_8 rfl (lv_at hl 1 rfl) ?_
  obtain ⟨h1, hf⟩ := ckS hf
  refine ms_code0 (j := x_steps.toNatClampNeg) cx hw (ib_in h1) rfl dX12_lays_9 (fun H locs hw => ?_)
  refine lv_aload_n hx hb dX12_lays_10 rfl (lv_at hl 0 rfl) ?_
  refine lv_dup hx hb dX12_lays_11 rfl ?_
  refine mg_steps cx hw dX12_lays_12 ?_
  refine lv_iconst (v := 1) hx hb dX12_lays_15 (by decide) ?_
  refine lv_iadd hx hb dX12_lays_16 ?_
  refine mp_steps cx hw dX12_lays_17 (fun H locs hw => ?_)
  have hf := Option.some.inj hf
  subst hf
  exact hR _ _ _ _ _ hw ⟨rfl, rfl⟩ dX12_lays_20
theorem dX12_readsValue_0 : decode cX12_readsValue 0 = .ok (.aload_n 0, 1) := by decide +kernel
theorem dX12_readsValue_1 : decode cX12_readsValue 1 = .ok (.getfield 141, 3) := by decide +kernel
theorem dX12_readsValue_4 : decode cX12_readsValue 4 = .ok (.bipush 100, 2) := by decide +kernel
theorem dX12_readsValue_6 : decode cX12_readsValue 6 = .ok (.if_icmp .eq 17, 3) := by decide +kernel
theorem dX12_readsValue_9 : decode cX12_readsValue 9 = .ok (.aload_n 0, 1) := by decide +kernel
theorem dX12_readsValue_10 : decode cX12_readsValue 10 = .ok (.getfield 141, 3) := by decide +kernel
theorem dX12_readsValue_13 : decode cX12_readsValue 13 = .ok (.bipush 13, 2) := by decide +kernel
theorem dX12_readsValue_15 : decode cX12_readsValue 15 = .ok (.bipush 17, 2) := by decide +kernel
theorem dX12_readsValue_17 : decode cX12_readsValue 17 = .ok (.invokestatic 71, 3) := by decide +kernel
theorem dX12_readsValue_20 : decode cX12_readsValue 20 = .ok (.ifCond .eq 7, 3) := by decide +kernel
theorem dX12_readsValue_23 : decode cX12_readsValue 23 = .ok (.iconst 1, 1) := by decide +kernel
theorem dX12_readsValue_24 : decode cX12_readsValue 24 = .ok (.goto 4, 3) := by decide +kernel
theorem dX12_readsValue_27 : decode cX12_readsValue 27 = .ok (.iconst 0, 1) := by decide +kernel
theorem dX12_readsValue_28 : decode cX12_readsValue 28 = .ok (.istore_n 1, 1) := by decide +kernel
theorem dX12_readsValue_29 : decode cX12_readsValue 29 = .ok (.iload_n 1, 1) := by decide +kernel
theorem dX12_readsValue_30 : decode cX12_readsValue 30 = .ok (.ifCond .eq 38, 3) := by decide +kernel
theorem dX12_readsValue_33 : decode cX12_readsValue 33 = .ok (.aload_n 0, 1) := by decide +kernel
theorem dX12_readsValue_34 : decode cX12_readsValue 34 = .ok (.aload_n 0, 1) := by decide +kernel
theorem dX12_readsValue_35 : decode cX12_readsValue 35 = .ok (.getfield 141, 3) := by decide +kernel
theorem dX12_readsValue_38 : decode cX12_readsValue 38 = .ok (.bipush 100, 2) := by decide +kernel
theorem dX12_readsValue_40 : decode cX12_readsValue 40 = .ok (.if_icmp .ne 10, 3) := by decide +kernel
theorem dX12_readsValue_43 : decode cX12_readsValue 43 = .ok (.aload_n 0, 1) := by decide +kernel
theorem dX12_readsValue_44 : decode cX12_readsValue 44 = .ok (.getfield 148, 3) := by decide +kernel
theorem dX12_readsValue_47 : decode cX12_readsValue 47 = .ok (.goto 14, 3) := by decide +kernel
theorem dX12_readsValue_50 : decode cX12_readsValue 50 = .ok (.sipush 10000, 3) := by decide +kernel
theorem dX12_readsValue_53 : decode cX12_readsValue 53 = .ok (.aload_n 0, 1) := by decide +kernel
theorem dX12_readsValue_54 : decode cX12_readsValue 54 = .ok (.getfield 141, 3) := by decide +kernel
theorem dX12_readsValue_57 : decode cX12_readsValue 57 = .ok (.iadd, 1) := by decide +kernel
theorem dX12_readsValue_58 : decode cX12_readsValue 58 = .ok (.bipush 13, 2) := by decide +kernel
theorem dX12_readsValue_60 : decode cX12_readsValue 60 = .ok (.isub, 1) := by decide +kernel
theorem dX12_readsValue_61 : decode cX12_readsValue 61 = .ok (.invokevirtual 163, 3) := by decide +kernel
theorem dX12_readsValue_64 : decode cX12_readsValue 64 = .ok (.aload_n 0, 1) := by decide +kernel
theorem dX12_readsValue_65 : decode cX12_readsValue 65 = .ok (.invokevirtual 157, 3) := by decide +kernel
theorem dX12_readsValue_68 : decode cX12_readsValue 68 = .ok (.iload_n 1, 1) := by decide +kernel
theorem dX12_readsValue_69 : decode cX12_readsValue 69 = .ok (.ireturn, 1) := by decide +kernel
theorem k_X12_readsValue : MV yX12_readsValue cX12_readsValue 2 (some .boolean) 0 := ⟨q_1272, qs_42, q_14, q_1273, ⟨by decide, by decide, by decide +kernel⟩⟩
theorem c_X12_readsValue {res : Int32 × Int32 × Int32 × Int32 × Int32 × Int32 × (Nat → Int32)} (hf : X12_readsValue n x_tape x_taped x_letters x_at x_begun x_token x_value x_steps x_code0 = some res) : MC l E0 D t yX12_readsValue cX12_readsValue 2 (some .boolean) 5 0 0 [.ref (a 0)] (mW a t x_s x_kept x_laid x_isKept x_pile x_tape x_taped x_letters x_at x_begun x_token x_value x_opened x_steps x_code0 x_read x_saved x_plan x_bestPlan x_most x_many x_few x_everRight x_lagThen x_shadedThen x_firstFit x_rows x_rowMany x_sorts x_sizes x_number x_holds x_heldOne x_trace x_traced x_own x_isParted) (Qi res.1 (mW a t x_s x_kept x_laid x_isKept x_pile x_tape x_taped x_letters res.2.1 res.2.2.1 res.2.2.2.1 res.2.2.2.2.1 x_opened res.2.2.2.2.2.1 res.2.2.2.2.2.2 x_read x_saved x_plan x_bestPlan x_most x_many x_few x_everRight x_lagThen x_shadedThen x_firstFit x_rows x_rowMany x_sorts x_sizes x_number x_holds x_heldOne x_trace x_traced x_own x_isParted)) := by
  unfold X12_readsValue at hf
  refine MC.ofI pn_X12 (Nat.le_of_ble_eq_true rfl) ?_
  intro p e s m args below meth c A Q ls cx hR hw hl
  have hx := cx.1
  have hb := cx.2.1
  have hl : lv_has ls 2 [(0, .ref (a 0))] := hl
  refine lv_aload_n hx hb dX12_readsValue_0 rfl (lv_at hl 0 rfl) ?_
  refine mg_token cx hw dX12_readsValue_1 ?_
  refine lv_bipush (v := 100) hx hb dX12_readsValue_4 (by decide) ?_
  obtain ⟨j1, hj1, hf⟩ := pbS hf
  have wj1 : ∀ (H : Heap) (locs : List Loc) (ls : Array Slot), Wd D A s (mW a t x_s x_kept x_laid x_isKept x_pile x_tape x_taped x_letters x_at x_begun x_token x_value x_opened x_steps x_code0 x_read x_saved x_plan x_bestPlan x_most x_many x_few x_everRight x_lagThen x_shadedThen x_firstFit x_rows x_rowMany x_sorts x_sizes x_number x_holds x_heldOne x_trace x_traced x_own x_isParted) H locs → lv_has ls 2 [(0, .ref (a 0))] → W p l e (rmz 5 0 0) s m args below meth c H locs 0 0 Q (F0 m 28 ls [.int j1]) := by
    intro H locs ls hw hl
    refine lv_istore_n (lv' := [(1, .int j1), (0, .ref (a 0))]) hx hb dX12_readsValue_28 rfl hl (by decide) rfl (fun ls hl => ?_)
    refine lv_iload_n hx hb dX12_readsValue_29 rfl (lv_at hl 0 rfl) ?_
    refine lv_if_eq (tgt := 68) hx hb dX12_readsValue_30 (by decide) (fun hc => ?_) (fun hc => ?_)
    · have hf := ifT hf hc
      refine lv_iload_n hx hb dX12_readsValue_68 rfl (lv_at hl 0 rfl) ?_
      obtain ⟨h7, hf⟩ := ckS hf
      have hf := Option.some.inj hf
      subst hf
      exact hR _ _ _ _ _ _ hw (nb (bkS h7)) ⟨rfl, rfl⟩ dX12_readsValue_69
    · have hf := ifF hf hc
      refine lv_aload_n hx hb dX12_readsValue_33 rfl (lv_at hl 1 rfl) ?_
      refine lv_aload_n hx hb dX12_readsValue_34 rfl (lv_at hl 1 rfl) ?_
      refine mg_token cx hw dX12_readsValue_35 ?_
      refine lv_bipush (v := 100) hx hb dX12_readsValue_38 (by decide) ?_
      obtain ⟨j2, hj2, hf⟩ := pbS hf
      have wj2 : ∀ (H : Heap) (locs : List Loc) (ls : Array Slot), Wd D A s (mW a t x_s x_kept x_laid x_isKept x_pile x_tape x_taped x_letters x_at x_begun x_token x_value x_opened x_steps x_code0 x_read x_saved x_plan x_bestPlan x_most x_many x_few x_everRight x_lagThen x_shadedThen x_firstFit x_rows x_rowMany x_sorts x_sizes x_number x_holds x_heldOne x_trace x_traced x_own x_isParted) H locs → lv_has ls 2 [(0, .ref (a 0)), (1, .int j1)] → W p l e (rmz 5 0 0) s m args below meth c H locs 0 0 Q (F0 m 61 ls [.int j2, .ref (a 0)]) := by
        intro H locs ls hw hl
        obtain ⟨r3, h4, hf⟩ := bnS hf
        refine calVv (k := 0) cx hw hl.1 (c_X12_lays h4) q_1274 k_X12_lays rfl rfl rfl dX12_readsValue_61 rfl (Nat.le_of_ble_eq_true rfl) ⟨Nat.le_of_ble_eq_true rfl, Nat.le_of_ble_eq_true rfl⟩ ⟨Nat.le_refl _, Nat.le_refl _⟩ (fun H locs hw => ?_)
        refine lv_aload_n hx hb dX12_readsValue_64 rfl (lv_at hl 0 rfl) ?_
        obtain ⟨r5, h6, hf⟩ := bnS hf
        refine calVv (k := 0) cx hw hl.1 (c_X12_next h6) q_1222 k_X12_next rfl rfl rfl dX12_readsValue_65 rfl (Nat.le_of_ble_eq_true rfl) ⟨Nat.le_of_ble_eq_true rfl, Nat.le_of_ble_eq_true rfl⟩ ⟨Nat.le_refl _, Nat.le_refl _⟩ (fun H locs hw => ?_)
        refine lv_iload_n hx hb dX12_readsValue_68 rfl (lv_at hl 1 rfl) ?_
        obtain ⟨h8, hf⟩ := ckS hf
        have hf := Option.some.inj hf
        subst hf
        exact hR _ _ _ _ _ _ hw (nb (bkS h8)) ⟨rfl, rfl⟩ dX12_readsValue_69
      clear hf
      have hf := hj2
      clear hj2
      refine lv_icmp_ne (tgt := 50) hx hb dX12_readsValue_40 (by decide) (fun hc => ?_) (fun hc => ?_)
      · have hf := ifF hf hc
        refine lv_sipush (v := 10000) hx hb dX12_readsValue_50 (by decide) ?_
        refine lv_aload_n hx hb dX12_readsValue_53 rfl (lv_at hl 1 rfl) ?_
        refine mg_token cx hw dX12_readsValue_54 ?_
        refine lv_iadd hx hb dX12_readsValue_57 ?_
        refine lv_bipush (v := 13) hx hb dX12_readsValue_58 (by decide) ?_
        refine lv_isub hx hb dX12_readsValue_60 ?_
        subst hf
        exact wj2 _ _ _ hw (lv_sub hl [1, 0] rfl)
      · have hf := ifT hf hc
        refine lv_aload_n hx hb dX12_readsValue_43 rfl (lv_at hl 1 rfl) ?_
        refine mg_value cx hw dX12_readsValue_44 ?_
        refine lv_goto (tgt := 61) hx hb dX12_readsValue_47 (by decide) ?_
        subst hf
        exact wj2 _ _ _ hw (lv_sub hl [1, 0] rfl)
  clear hf
  have hf := hj1
  clear hj1
  refine lv_icmp_eq (tgt := 23) hx hb dX12_readsValue_6 (by decide) (fun hc => ?_) (fun hc => ?_)
  · have hf := ifT hf hc
    refine lv_iconst (v := 1) hx hb dX12_readsValue_23 (by decide) ?_
    refine lv_goto (tgt := 28) hx hb dX12_readsValue_24 (by decide) ?_
    subst hf
    exact wj1 _ _ _ hw (lv_sub hl [0] rfl)
  · have hf := ifF hf hc
    refine lv_aload_n hx hb dX12_readsValue_9 rfl (lv_at hl 0 rfl) ?_
    refine mg_token cx hw dX12_readsValue_10 ?_
    refine lv_bipush (v := 13) hx hb dX12_readsValue_13 (by decide) ?_
    refine lv_bipush (v := 17) hx hb dX12_readsValue_15 (by decide) ?_
    refine calSi cx hw hl.1 (c_X12_in1 rfl) q_1214 k_X12_in1 rfl dX12_readsValue_17 rfl (Nat.le_of_ble_eq_true rfl) ⟨Nat.le_of_ble_eq_true rfl, Nat.le_of_ble_eq_true rfl⟩ ⟨Nat.le_refl _, Nat.le_refl _⟩ (fun H locs hw => ?_)
    refine lv_if_eq (tgt := 27) hx hb dX12_readsValue_20 (by decide) (fun hc => ?_) (fun hc => ?_)
    · have hf := ifT hf hc
      refine lv_iconst (v := 0) hx hb dX12_readsValue_27 (by decide) ?_
      subst hf
      exact wj1 _ _ _ hw (lv_sub hl [0] rfl)
    · have hf := ifF hf hc
      refine lv_iconst (v := 1) hx hb dX12_readsValue_23 (by decide) ?_
      refine lv_goto (tgt := 28) hx hb dX12_readsValue_24 (by decide) ?_
      subst hf
      exact wj1 _ _ _ hw (lv_sub hl [0] rfl)
theorem dX12_readsLike_0 : decode cX12_readsLike 0 = .ok (.aload_n 0, 1) := by decide +kernel
theorem dX12_readsLike_1 : decode cX12_readsLike 1 = .ok (.invokevirtual 167, 3) := by decide +kernel
theorem dX12_readsLike_4 : decode cX12_readsLike 4 = .ok (.ifCond .ne 5, 3) := by decide +kernel
theorem dX12_readsLike_7 : decode cX12_readsLike 7 = .ok (.iconst 0, 1) := by decide +kernel
theorem dX12_readsLike_8 : decode cX12_readsLike 8 = .ok (.ireturn, 1) := by decide +kernel
theorem dX12_readsLike_9 : decode cX12_readsLike 9 = .ok (.aload_n 0, 1) := by decide +kernel
theorem dX12_readsLike_10 : decode cX12_readsLike 10 = .ok (.getfield 141, 3) := by decide +kernel
theorem dX12_readsLike_13 : decode cX12_readsLike 13 = .ok (.sipush 260, 3) := by decide +kernel
theorem dX12_readsLike_16 : decode cX12_readsLike 16 = .ok (.if_icmp .ne 9, 3) := by decide +kernel
theorem dX12_readsLike_19 : decode cX12_readsLike 19 = .ok (.sipush 10010, 3) := by decide +kernel
theorem dX12_readsLike_22 : decode cX12_readsLike 22 = .ok (.goto 36, 3) := by decide +kernel
theorem dX12_readsLike_25 : decode cX12_readsLike 25 = .ok (.aload_n 0, 1) := by decide +kernel
theorem dX12_readsLike_26 : decode cX12_readsLike 26 = .ok (.getfield 141, 3) := by decide +kernel
theorem dX12_readsLike_29 : decode cX12_readsLike 29 = .ok (.sipush 261, 3) := by decide +kernel
theorem dX12_readsLike_32 : decode cX12_readsLike 32 = .ok (.if_icmp .ne 9, 3) := by decide +kernel
theorem dX12_readsLike_35 : decode cX12_readsLike 35 = .ok (.sipush 10011, 3) := by decide +kernel
theorem dX12_readsLike_38 : decode cX12_readsLike 38 = .ok (.goto 20, 3) := by decide +kernel
theorem dX12_readsLike_41 : decode cX12_readsLike 41 = .ok (.aload_n 0, 1) := by decide +kernel
theorem dX12_readsLike_42 : decode cX12_readsLike 42 = .ok (.getfield 141, 3) := by decide +kernel
theorem dX12_readsLike_45 : decode cX12_readsLike 45 = .ok (.sipush 262, 3) := by decide +kernel
theorem dX12_readsLike_48 : decode cX12_readsLike 48 = .ok (.if_icmp .ne 9, 3) := by decide +kernel
theorem dX12_readsLike_51 : decode cX12_readsLike 51 = .ok (.sipush 10012, 3) := by decide +kernel
theorem dX12_readsLike_54 : decode cX12_readsLike 54 = .ok (.goto 4, 3) := by decide +kernel
theorem dX12_readsLike_57 : decode cX12_readsLike 57 = .ok (.iconst 0, 1) := by decide +kernel
theorem dX12_readsLike_58 : decode cX12_readsLike 58 = .ok (.istore_n 1, 1) := by decide +kernel
theorem dX12_readsLike_59 : decode cX12_readsLike 59 = .ok (.iload_n 1, 1) := by decide +kernel
theorem dX12_readsLike_60 : decode cX12_readsLike 60 = .ok (.ifCond .ne 5, 3) := by decide +kernel
theorem dX12_readsLike_63 : decode cX12_readsLike 63 = .ok (.iconst 0, 1) := by decide +kernel
theorem dX12_readsLike_64 : decode cX12_readsLike 64 = .ok (.ireturn, 1) := by decide +kernel
theorem dX12_readsLike_65 : decode cX12_readsLike 65 = .ok (.aload_n 0, 1) := by decide +kernel
theorem dX12_readsLike_66 : decode cX12_readsLike 66 = .ok (.invokevirtual 157, 3) := by decide +kernel
theorem dX12_readsLike_69 : decode cX12_readsLike 69 = .ok (.aload_n 0, 1) := by decide +kernel
theorem dX12_readsLike_70 : decode cX12_readsLike 70 = .ok (.invokevirtual 167, 3) := by decide +kernel
theorem dX12_readsLike_73 : decode cX12_readsLike 73 = .ok (.ifCond .ne 5, 3) := by decide +kernel
theorem dX12_readsLike_76 : decode cX12_readsLike 76 = .ok (.iconst 0, 1) := by decide +kernel
theorem dX12_readsLike_77 : decode cX12_readsLike 77 = .ok (.ireturn, 1) := by decide +kernel
theorem dX12_readsLike_78 : decode cX12_readsLike 78 = .ok (.aload_n 0, 1) := by decide +kernel
theorem dX12_readsLike_79 : decode cX12_readsLike 79 = .ok (.iload_n 1, 1) := by decide +kernel
theorem dX12_readsLike_80 : decode cX12_readsLike 80 = .ok (.invokevirtual 163, 3) := by decide +kernel
theorem dX12_readsLike_83 : decode cX12_readsLike 83 = .ok (.iconst 1, 1) := by decide +kernel
theorem dX12_readsLike_84 : decode cX12_readsLike 84 = .ok (.ireturn, 1) := by decide +kernel
theorem k_X12_readsLike : MV yX12_readsLike cX12_readsLike 2 (some .boolean) 0 := ⟨q_1268, qs_41, q_14, q_1269, ⟨by decide, by decide, by decide +kernel⟩⟩
theorem c_X12_readsLike {res : Int32 × Int32 × Int32 × Int32 × Int32 × Int32 × (Nat → Int32)} (hf : X12_readsLike n x_tape x_taped x_letters x_at x_begun x_token x_value x_steps x_code0 = some res) : MC l E0 D t yX12_readsLike cX12_readsLike 2 (some .boolean) 6 0 0 [.ref (a 0)] (mW a t x_s x_kept x_laid x_isKept x_pile x_tape x_taped x_letters x_at x_begun x_token x_value x_opened x_steps x_code0 x_read x_saved x_plan x_bestPlan x_most x_many x_few x_everRight x_lagThen x_shadedThen x_firstFit x_rows x_rowMany x_sorts x_sizes x_number x_holds x_heldOne x_trace x_traced x_own x_isParted) (Qi res.1 (mW a t x_s x_kept x_laid x_isKept x_pile x_tape x_taped x_letters res.2.1 res.2.2.1 res.2.2.2.1 res.2.2.2.2.1 x_opened res.2.2.2.2.2.1 res.2.2.2.2.2.2 x_read x_saved x_plan x_bestPlan x_most x_many x_few x_everRight x_lagThen x_shadedThen x_firstFit x_rows x_rowMany x_sorts x_sizes x_number x_holds x_heldOne x_trace x_traced x_own x_isParted)) := by
  unfold X12_readsLike at hf
  refine MC.ofI pn_X12 (Nat.le_of_ble_eq_true rfl) ?_
  intro p e s m args below meth c A Q ls cx hR hw hl
  have hx := cx.1
  have hb := cx.2.1
  have hl : lv_has ls 2 [(0, .ref (a 0))] := hl
  refine lv_aload_n hx hb dX12_readsLike_0 rfl (lv_at hl 0 rfl) ?_
  obtain ⟨r1, h2, hf⟩ := bnS hf
  refine calVi (k := 0) cx hw hl.1 (c_X12_readsValue h2) q_1270 k_X12_readsValue rfl rfl rfl dX12_readsLike_1 rfl (Nat.le_of_ble_eq_true rfl) ⟨Nat.le_of_ble_eq_true rfl, Nat.le_of_ble_eq_true rfl⟩ ⟨Nat.le_refl _, Nat.le_refl _⟩ (fun H locs hw => ?_)
  refine lv_if_ne (tgt := 9) hx hb dX12_readsLike_4 (by decide) (fun hc => ?_) (fun hc => ?_)
  · have hf := ifF hf hc
    refine lv_aload_n hx hb dX12_readsLike_9 rfl (lv_at hl 0 rfl) ?_
    refine mg_token cx hw dX12_readsLike_10 ?_
    refine lv_sipush (v := 260) hx hb dX12_readsLike_13 (by decide) ?_
    obtain ⟨j3, hj3, hf⟩ := pbS hf
    have wj3 : ∀ (H : Heap) (locs : List Loc) (ls : Array Slot), Wd D A s (mW a t x_s x_kept x_laid x_isKept x_pile x_tape x_taped x_letters r1.2.1 r1.2.2.1 r1.2.2.2.1 r1.2.2.2.2.1 x_opened r1.2.2.2.2.2.1 r1.2.2.2.2.2.2 x_read x_saved x_plan x_bestPlan x_most x_many x_few x_everRight x_lagThen x_shadedThen x_firstFit x_rows x_rowMany x_sorts x_sizes x_number x_holds x_heldOne x_trace x_traced x_own x_isParted) H locs → lv_has ls 2 [(0, .ref (a 0))] → W p l e (rmz 6 0 0) s m args below meth c H locs 0 0 Q (F0 m 58 ls [.int j3]) := by
      intro H locs ls hw hl
      refine lv_istore_n (lv' := [(1, .int j3), (0, .ref (a 0))]) hx hb dX12_readsLike_58 rfl hl (by decide) rfl (fun ls hl => ?_)
      refine lv_iload_n hx hb dX12_readsLike_59 rfl (lv_at hl 0 rfl) ?_
      refine lv_if_ne (tgt := 65) hx hb dX12_readsLike_60 (by decide) (fun hc => ?_) (fun hc => ?_)
      · have hf := ifF hf hc
        refine lv_aload_n hx hb dX12_readsLike_65 rfl (lv_at hl 1 rfl) ?_
        obtain ⟨r4, h5, hf⟩ := bnS hf
        refine calVv (k := 0) cx hw hl.1 (c_X12_next h5) q_1222 k_X12_next rfl rfl rfl dX12_readsLike_66 rfl (Nat.le_of_ble_eq_true rfl) ⟨Nat.le_of_ble_eq_true rfl, Nat.le_of_ble_eq_true rfl⟩ ⟨Nat.le_refl _, Nat.le_refl _⟩ (fun H locs hw => ?_)
        refine lv_aload_n hx hb dX12_readsLike_69 rfl (lv_at hl 1 rfl) ?_
        obtain ⟨r6, h7, hf⟩ := bnS hf
        refine calVi (k := 0) cx hw hl.1 (c_X12_readsValue h7) q_1270 k_X12_readsValue rfl rfl rfl dX12_readsLike_70 rfl (Nat.le_of_ble_eq_true rfl) ⟨Nat.le_of_ble_eq_true rfl, Nat.le_of_ble_eq_true rfl⟩ ⟨Nat.le_refl _, Nat.le_refl _⟩ (fun H locs hw => ?_)
        refine lv_if_ne (tgt := 78) hx hb dX12_readsLike_73 (by decide) (fun hc => ?_) (fun hc => ?_)
        · have hf := ifF hf hc
          refine lv_aload_n hx hb dX12_readsLike_78 rfl (lv_at hl 1 rfl) ?_
          refine lv_iload_n hx hb dX12_readsLike_79 rfl (lv_at hl 0 rfl) ?_
          obtain ⟨r8, h9, hf⟩ := bnS hf
          refine calVv (k := 0) cx hw hl.1 (c_X12_lays h9) q_1274 k_X12_lays rfl rfl rfl dX12_readsLike_80 rfl (Nat.le_of_ble_eq_true rfl) ⟨Nat.le_of_ble_eq_true rfl, Nat.le_of_ble_eq_true rfl⟩ ⟨Nat.le_refl _, Nat.le_refl _⟩ (fun H locs hw => ?_)
          refine lv_iconst (v := 1) hx hb dX12_readsLike_83 (by decide) ?_
          have hf := Option.some.inj hf
          subst hf
          exact hR _ _ _ _ _ _ hw rfl ⟨rfl, rfl⟩ dX12_readsLike_84
        · have hf := ifT hf hc
          refine lv_iconst (v := 0) hx hb dX12_readsLike_76 (by decide) ?_
          have hf := Option.some.inj hf
          subst hf
          exact hR _ _ _ _ _ _ hw rfl ⟨rfl, rfl⟩ dX12_readsLike_77
      · have hf := ifT hf hc
        refine lv_iconst (v := 0) hx hb dX12_readsLike_63 (by decide) ?_
        have hf := Option.some.inj hf
        subst hf
        exact hR _ _ _ _ _ _ hw rfl ⟨rfl, rfl⟩ dX12_readsLike_64
    clear hf
    have hf := hj3
    clear hj3
    refine lv_icmp_ne (tgt := 25) hx hb dX12_readsLike_16 (by decide) (fun hc => ?_) (fun hc => ?_)
    · have hf := ifF hf hc
      refine lv_aload_n hx hb dX12_readsLike_25 rfl (lv_at hl 0 rfl) ?_
      refine mg_token cx hw dX12_readsLike_26 ?_
      refine lv_sipush (v := 261) hx hb dX12_readsLike_29 (by decide) ?_
      refine lv_icmp_ne (tgt := 41) hx hb dX12_readsLike_32 (by decide) (fun hc => ?_) (fun hc => ?_)
      · have hf := ifF hf hc
        refine lv_aload_n hx hb dX12_readsLike_41 rfl (lv_at hl 0 rfl) ?_
        refine mg_token cx hw dX12_readsLike_42 ?_
        refine lv_sipush (v := 262) hx hb dX12_readsLike_45 (by decide) ?_
        refine lv_icmp_ne (tgt := 57) hx hb dX12_readsLike_48 (by decide) (fun hc => ?_) (fun hc => ?_)
        · have hf := ifF hf hc
          refine lv_iconst (v := 0) hx hb dX12_readsLike_57 (by decide) ?_
          subst hf
          exact wj3 _ _ _ hw (lv_sub hl [0] rfl)
        · have hf := ifT hf hc
          refine lv_sipush (v := 10012) hx hb dX12_readsLike_51 (by decide) ?_
          refine lv_goto (tgt := 58) hx hb dX12_readsLike_54 (by decide) ?_
          subst hf
          exact wj3 _ _ _ hw (lv_sub hl [0] rfl)
      · have hf := ifT hf hc
        refine lv_sipush (v := 10011) hx hb dX12_readsLike_35 (by decide) ?_
        refine lv_goto (tgt := 58) hx hb dX12_readsLike_38 (by decide) ?_
        subst hf
        exact wj3 _ _ _ hw (lv_sub hl [0] rfl)
    · have hf := ifT hf hc
      refine lv_sipush (v := 10010) hx hb dX12_readsLike_19 (by decide) ?_
      refine lv_goto (tgt := 58) hx hb dX12_readsLike_22 (by decide) ?_
      subst hf
      exact wj3 _ _ _ hw (lv_sub hl [0] rfl)
  · have hf := ifT hf hc
    refine lv_iconst (v := 0) hx hb dX12_readsLike_7 (by decide) ?_
    have hf := Option.some.inj hf
    subst hf
    exact hR _ _ _ _ _ _ hw rfl ⟨rfl, rfl⟩ dX12_readsLike_8
theorem dX12_readsCondition_0 : decode cX12_readsCondition 0 = .ok (.aload_n 0, 1) := by decide +kernel
theorem dX12_readsCondition_1 : decode cX12_readsCondition 1 = .ok (.invokevirtual 189, 3) := by decide +kernel
theorem dX12_readsCondition_4 : decode cX12_readsCondition 4 = .ok (.istore_n 1, 1) := by decide +kernel
theorem dX12_readsCondition_5 : decode cX12_readsCondition 5 = .ok (.iload_n 1, 1) := by decide +kernel
theorem dX12_readsCondition_6 : decode cX12_readsCondition 6 = .ok (.ifCond .eq 31, 3) := by decide +kernel
theorem dX12_readsCondition_9 : decode cX12_readsCondition 9 = .ok (.aload_n 0, 1) := by decide +kernel
theorem dX12_readsCondition_10 : decode cX12_readsCondition 10 = .ok (.bipush 12, 2) := by decide +kernel
theorem dX12_readsCondition_12 : decode cX12_readsCondition 12 = .ok (.invokevirtual 177, 3) := by decide +kernel
theorem dX12_readsCondition_15 : decode cX12_readsCondition 15 = .ok (.ifCond .eq 22, 3) := by decide +kernel
theorem dX12_readsCondition_18 : decode cX12_readsCondition 18 = .ok (.aload_n 0, 1) := by decide +kernel
theorem dX12_readsCondition_19 : decode cX12_readsCondition 19 = .ok (.invokevirtual 189, 3) := by decide +kernel
theorem dX12_readsCondition_22 : decode cX12_readsCondition 22 = .ok (.istore_n 1, 1) := by decide +kernel
theorem dX12_readsCondition_23 : decode cX12_readsCondition 23 = .ok (.iload_n 1, 1) := by decide +kernel
theorem dX12_readsCondition_24 : decode cX12_readsCondition 24 = .ok (.ifCond .eq (-19), 3) := by decide +kernel
theorem dX12_readsCondition_27 : decode cX12_readsCondition 27 = .ok (.aload_n 0, 1) := by decide +kernel
theorem dX12_readsCondition_28 : decode cX12_readsCondition 28 = .ok (.sipush 10014, 3) := by decide +kernel
theorem dX12_readsCondition_31 : decode cX12_readsCondition 31 = .ok (.invokevirtual 163, 3) := by decide +kernel
theorem dX12_readsCondition_34 : decode cX12_readsCondition 34 = .ok (.goto (-29), 3) := by decide +kernel
theorem dX12_readsCondition_37 : decode cX12_readsCondition 37 = .ok (.iload_n 1, 1) := by decide +kernel
theorem dX12_readsCondition_38 : decode cX12_readsCondition 38 = .ok (.ireturn, 1) := by decide +kernel
theorem dX12_readsAll_0 : decode cX12_readsAll 0 = .ok (.aload_n 0, 1) := by decide +kernel
theorem dX12_readsAll_1 : decode cX12_readsAll 1 = .ok (.invokevirtual 186, 3) := by decide +kernel
theorem dX12_readsAll_4 : decode cX12_readsAll 4 = .ok (.istore_n 1, 1) := by decide +kernel
theorem dX12_readsAll_5 : decode cX12_readsAll 5 = .ok (.iload_n 1, 1) := by decide +kernel
theorem dX12_readsAll_6 : decode cX12_readsAll 6 = .ok (.ifCond .eq 31, 3) := by decide +kernel
theorem dX12_readsAll_9 : decode cX12_readsAll 9 = .ok (.aload_n 0, 1) := by decide +kernel
theorem dX12_readsAll_10 : decode cX12_readsAll 10 = .ok (.bipush 11, 2) := by decide +kernel
theorem dX12_readsAll_12 : decode cX12_readsAll 12 = .ok (.invokevirtual 177, 3) := by decide +kernel
theorem dX12_readsAll_15 : decode cX12_readsAll 15 = .ok (.ifCond .eq 22, 3) := by decide +kernel
theorem dX12_readsAll_18 : decode cX12_readsAll 18 = .ok (.aload_n 0, 1) := by decide +kernel
theorem dX12_readsAll_19 : decode cX12_readsAll 19 = .ok (.invokevirtual 186, 3) := by decide +kernel
theorem dX12_readsAll_22 : decode cX12_readsAll 22 = .ok (.istore_n 1, 1) := by decide +kernel
theorem dX12_readsAll_23 : decode cX12_readsAll 23 = .ok (.iload_n 1, 1) := by decide +kernel
theorem dX12_readsAll_24 : decode cX12_readsAll 24 = .ok (.ifCond .eq (-19), 3) := by decide +kernel
theorem dX12_readsAll_27 : decode cX12_readsAll 27 = .ok (.aload_n 0, 1) := by decide +kernel
theorem dX12_readsAll_28 : decode cX12_readsAll 28 = .ok (.sipush 10013, 3) := by decide +kernel
theorem dX12_readsAll_31 : decode cX12_readsAll 31 = .ok (.invokevirtual 163, 3) := by decide +kernel
theorem dX12_readsAll_34 : decode cX12_readsAll 34 = .ok (.goto (-29), 3) := by decide +kernel
theorem dX12_readsAll_37 : decode cX12_readsAll 37 = .ok (.iload_n 1, 1) := by decide +kernel
theorem dX12_readsAll_38 : decode cX12_readsAll 38 = .ok (.ireturn, 1) := by decide +kernel
theorem dX12_readsOne_0 : decode cX12_readsOne 0 = .ok (.iconst 0, 1) := by decide +kernel
theorem dX12_readsOne_1 : decode cX12_readsOne 1 = .ok (.istore_n 1, 1) := by decide +kernel
theorem dX12_readsOne_2 : decode cX12_readsOne 2 = .ok (.aload_n 0, 1) := by decide +kernel
theorem dX12_readsOne_3 : decode cX12_readsOne 3 = .ok (.bipush 10, 2) := by decide +kernel
theorem dX12_readsOne_5 : decode cX12_readsOne 5 = .ok (.invokevirtual 177, 3) := by decide +kernel
theorem dX12_readsOne_8 : decode cX12_readsOne 8 = .ok (.ifCond .eq 9, 3) := by decide +kernel
theorem dX12_readsOne_11 : decode cX12_readsOne 11 = .ok (.iinc 1 1, 3) := by decide +kernel
theorem dX12_readsOne_14 : decode cX12_readsOne 14 = .ok (.goto (-12), 3) := by decide +kernel
theorem dX12_readsOne_17 : decode cX12_readsOne 17 = .ok (.aload_n 0, 1) := by decide +kernel
theorem dX12_readsOne_18 : decode cX12_readsOne 18 = .ok (.getfield 141, 3) := by decide +kernel
theorem dX12_readsOne_21 : decode cX12_readsOne 21 = .ok (.sipush 240, 3) := by decide +kernel
theorem dX12_readsOne_24 : decode cX12_readsOne 24 = .ok (.if_icmp .ne 10, 3) := by decide +kernel
theorem dX12_readsOne_27 : decode cX12_readsOne 27 = .ok (.aload_n 0, 1) := by decide +kernel
theorem dX12_readsOne_28 : decode cX12_readsOne 28 = .ok (.invokevirtual 180, 3) := by decide +kernel
theorem dX12_readsOne_31 : decode cX12_readsOne 31 = .ok (.goto 7, 3) := by decide +kernel
theorem dX12_readsOne_34 : decode cX12_readsOne 34 = .ok (.aload_n 0, 1) := by decide +kernel
theorem dX12_readsOne_35 : decode cX12_readsOne 35 = .ok (.invokevirtual 183, 3) := by decide +kernel
theorem dX12_readsOne_38 : decode cX12_readsOne 38 = .ok (.istore_n 2, 1) := by decide +kernel
theorem dX12_readsOne_39 : decode cX12_readsOne 39 = .ok (.iconst 0, 1) := by decide +kernel
theorem dX12_readsOne_40 : decode cX12_readsOne 40 = .ok (.istore_n 3, 1) := by decide +kernel
theorem dX12_readsOne_41 : decode cX12_readsOne 41 = .ok (.iload_n 3, 1) := by decide +kernel
theorem dX12_readsOne_42 : decode cX12_readsOne 42 = .ok (.iload_n 1, 1) := by decide +kernel
theorem dX12_readsOne_43 : decode cX12_readsOne 43 = .ok (.if_icmp .ge 20, 3) := by decide +kernel
theorem dX12_readsOne_46 : decode cX12_readsOne 46 = .ok (.iload_n 2, 1) := by decide +kernel
theorem dX12_readsOne_47 : decode cX12_readsOne 47 = .ok (.ifCond .eq 16, 3) := by decide +kernel
theorem dX12_readsOne_50 : decode cX12_readsOne 50 = .ok (.aload_n 0, 1) := by decide +kernel
theorem dX12_readsOne_51 : decode cX12_readsOne 51 = .ok (.sipush 10015, 3) := by decide +kernel
theorem dX12_readsOne_54 : decode cX12_readsOne 54 = .ok (.invokevirtual 163, 3) := by decide +kernel
theorem dX12_readsOne_57 : decode cX12_readsOne 57 = .ok (.iinc 3 1, 3) := by decide +kernel
theorem dX12_readsOne_60 : decode cX12_readsOne 60 = .ok (.goto (-19), 3) := by decide +kernel
theorem dX12_readsOne_63 : decode cX12_readsOne 63 = .ok (.iload_n 2, 1) := by decide +kernel
theorem dX12_readsOne_64 : decode cX12_readsOne 64 = .ok (.ireturn, 1) := by decide +kernel
theorem dX12_readsWithin_0 : decode cX12_readsWithin 0 = .ok (.aload_n 0, 1) := by decide +kernel
theorem dX12_readsWithin_1 : decode cX12_readsWithin 1 = .ok (.getfield 171, 3) := by decide +kernel
theorem dX12_readsWithin_4 : decode cX12_readsWithin 4 = .ok (.iconst 3, 1) := by decide +kernel
theorem dX12_readsWithin_5 : decode cX12_readsWithin 5 = .ok (.if_icmp .ne 5, 3) := by decide +kernel
theorem dX12_readsWithin_8 : decode cX12_readsWithin 8 = .ok (.iconst 0, 1) := by decide +kernel
theorem dX12_readsWithin_9 : decode cX12_readsWithin 9 = .ok (.ireturn, 1) := by decide +kernel
theorem dX12_readsWithin_10 : decode cX12_readsWithin 10 = .ok (.aload_n 0, 1) := by decide +kernel
theorem dX12_readsWithin_11 : decode cX12_readsWithin 11 = .ok (.dup, 1) := by decide +kernel
theorem dX12_readsWithin_12 : decode cX12_readsWithin 12 = .ok (.getfield 171, 3) := by decide +kernel
theorem dX12_readsWithin_15 : decode cX12_readsWithin 15 = .ok (.iconst 1, 1) := by decide +kernel
theorem dX12_readsWithin_16 : decode cX12_readsWithin 16 = .ok (.iadd, 1) := by decide +kernel
theorem dX12_readsWithin_17 : decode cX12_readsWithin 17 = .ok (.putfield 171, 3) := by decide +kernel
theorem dX12_readsWithin_20 : decode cX12_readsWithin 20 = .ok (.aload_n 0, 1) := by decide +kernel
theorem dX12_readsWithin_21 : decode cX12_readsWithin 21 = .ok (.invokevirtual 157, 3) := by decide +kernel
theorem dX12_readsWithin_24 : decode cX12_readsWithin 24 = .ok (.aload_n 0, 1) := by decide +kernel
theorem dX12_readsWithin_25 : decode cX12_readsWithin 25 = .ok (.invokevirtual 174, 3) := by decide +kernel
theorem dX12_readsWithin_28 : decode cX12_readsWithin 28 = .ok (.ifCond .eq 13, 3) := by decide +kernel
theorem dX12_readsWithin_31 : decode cX12_readsWithin 31 = .ok (.aload_n 0, 1) := by decide +kernel
theorem dX12_readsWithin_32 : decode cX12_readsWithin 32 = .ok (.sipush 241, 3) := by decide +kernel
theorem dX12_readsWithin_35 : decode cX12_readsWithin 35 = .ok (.invokevirtual 177, 3) := by decide +kernel
theorem dX12_readsWithin_38 : decode cX12_readsWithin 38 = .ok (.ifCond .ne 5, 3) := by decide +kernel
theorem dX12_readsWithin_41 : decode cX12_readsWithin 41 = .ok (.iconst 0, 1) := by decide +kernel
theorem dX12_readsWithin_42 : decode cX12_readsWithin 42 = .ok (.ireturn, 1) := by decide +kernel
theorem dX12_readsWithin_43 : decode cX12_readsWithin 43 = .ok (.aload_n 0, 1) := by decide +kernel
theorem dX12_readsWithin_44 : decode cX12_readsWithin 44 = .ok (.dup, 1) := by decide +kernel
theorem dX12_readsWithin_45 : decode cX12_readsWithin 45 = .ok (.getfield 171, 3) := by decide +kernel
theorem dX12_readsWithin_48 : decode cX12_readsWithin 48 = .ok (.iconst 1, 1) := by decide +kernel
theorem dX12_readsWithin_49 : decode cX12_readsWithin 49 = .ok (.isub, 1) := by decide +kernel
theorem dX12_readsWithin_50 : decode cX12_readsWithin 50 = .ok (.putfield 171, 3) := by decide +kernel
theorem dX12_readsWithin_53 : decode cX12_readsWithin 53 = .ok (.iconst 1, 1) := by decide +kernel
theorem dX12_readsWithin_54 : decode cX12_readsWithin 54 = .ok (.ireturn, 1) := by decide +kernel
theorem k_X12_readsCondition : MV yX12_readsCondition cX12_readsCondition 2 (some .boolean) 0 := ⟨q_1252, qs_37, q_14, q_1253, ⟨by decide, by decide, by decide +kernel⟩⟩
theorem k_X12_readsAll : MV yX12_readsAll cX12_readsAll 2 (some .boolean) 0 := ⟨q_1256, qs_38, q_14, q_1257, ⟨by decide, by decide, by decide +kernel⟩⟩
theorem k_X12_readsOne : MV yX12_readsOne cX12_readsOne 4 (some .boolean) 0 := ⟨q_1260, qs_39, q_14, q_1261, ⟨by decide, by decide, by decide +kernel⟩⟩
theorem k_X12_readsWithin : MV yX12_readsWithin cX12_readsWithin 1 (some .boolean) 0 := ⟨q_1264, qs_40, q_14, q_1265, ⟨by decide, by decide, by decide +kernel⟩⟩
theorem cb_X12_readsCondition {F : Nat → (Nat → Int32) → Int32 → (Nat → Int32) → Int32 → Int32 → Int32 → Int32 → Int32 → Int32 → (Nat → Int32) → Option (Int32 × Int32 × Int32 × Int32 × Int32 × Int32 × Int32 × (Nat → Int32))} {d : Nat} (hF0 : ∀ {x_s : Nat → Int32} {x_kept : Nat → Int32} {x_laid : Nat → Int32} {x_isKept : Int32} {x_pile : Nat → Int32} {x_tape : Nat → Int32} {x_taped : Int32} {x_letters : Nat → Int32} {x_at : Int32} {x_begun : Int32} {x_token : Int32} {x_value : Int32} {x_opened : Int32} {x_steps : Int32} {x_code0 : Nat → Int32} {x_read : Nat → Int32} {x_saved : Nat → Int32} {x_plan : Nat → Int32} {x_bestPlan : Nat → Int32} {x_most : Int32} {x_many : Int32} {x_few : Int32} {x_everRight : Int32} {x_lagThen : Nat → Int32} {x_shadedThen : Nat → Int32} {x_firstFit : Int32} {x_rows : Nat → Int32} {x_rowMany : Int32} {x_sorts : Nat → Int32} {x_sizes : Nat → Int32} {x_number : Nat → Int32} {x_holds : Nat → Int32} {x_heldOne : Nat → Int32} {x_trace : Nat → Int32} {x_traced : Int32} {x_own : Int32} {x_isParted : Int32} {res : Int32 × Int32 × Int32 × Int32 × Int32 × Int32 × Int32 × (Nat → Int32)}, F 0 x_tape x_taped x_letters x_at x_begun x_token x_value x_opened x_steps x_code0 = some res → MC l E0 D t yX12_readsCondition cX12_readsCondition 2 (some .boolean) (7 + 4 * d) 0 0 [.ref (a 0)] (mW a t x_s x_kept x_laid x_isKept x_pile x_tape x_taped x_letters x_at x_begun x_token x_value x_opened x_steps x_code0 x_read x_saved x_plan x_bestPlan x_most x_many x_few x_everRight x_lagThen x_shadedThen x_firstFit x_rows x_rowMany x_sorts x_sizes x_number x_holds x_heldOne x_trace x_traced x_own x_isParted) (Qi res.1 (mW a t x_s x_kept x_laid x_isKept x_pile x_tape x_taped x_letters res.2.1 res.2.2.1 res.2.2.2.1 res.2.2.2.2.1 res.2.2.2.2.2.1 res.2.2.2.2.2.2.1 res.2.2.2.2.2.2.2 x_read x_saved x_plan x_bestPlan x_most x_many x_few x_everRight x_lagThen x_shadedThen x_firstFit x_rows x_rowMany x_sorts x_sizes x_number x_holds x_heldOne x_trace x_traced x_own x_isParted))) (hF1 : ∀ {x_s : Nat → Int32} {x_kept : Nat → Int32} {x_laid : Nat → Int32} {x_isKept : Int32} {x_pile : Nat → Int32} {x_tape : Nat → Int32} {x_taped : Int32} {x_letters : Nat → Int32} {x_at : Int32} {x_begun : Int32} {x_token : Int32} {x_value : Int32} {x_opened : Int32} {x_steps : Int32} {x_code0 : Nat → Int32} {x_read : Nat → Int32} {x_saved : Nat → Int32} {x_plan : Nat → Int32} {x_bestPlan : Nat → Int32} {x_most : Int32} {x_many : Int32} {x_few : Int32} {x_everRight : Int32} {x_lagThen : Nat → Int32} {x_shadedThen : Nat → Int32} {x_firstFit : Int32} {x_rows : Nat → Int32} {x_rowMany : Int32} {x_sorts : Nat → Int32} {x_sizes : Nat → Int32} {x_number : Nat → Int32} {x_holds : Nat → Int32} {x_heldOne : Nat → Int32} {x_trace : Nat → Int32} {x_traced : Int32} {x_own : Int32} {x_isParted : Int32} {res : Int32 × Int32 × Int32 × Int32 × Int32 × Int32 × Int32 × (Nat → Int32)}, F 1 x_tape x_taped x_letters x_at x_begun x_token x_value x_opened x_steps x_code0 = some res → MC l E0 D t yX12_readsAll cX12_readsAll 2 (some .boolean) (7 + 4 * d) 0 0 [.ref (a 0)] (mW a t x_s x_kept x_laid x_isKept x_pile x_tape x_taped x_letters x_at x_begun x_token x_value x_opened x_steps x_code0 x_read x_saved x_plan x_bestPlan x_most x_many x_few x_everRight x_lagThen x_shadedThen x_firstFit x_rows x_rowMany x_sorts x_sizes x_number x_holds x_heldOne x_trace x_traced x_own x_isParted) (Qi res.1 (mW a t x_s x_kept x_laid x_isKept x_pile x_tape x_taped x_letters res.2.1 res.2.2.1 res.2.2.2.1 res.2.2.2.2.1 res.2.2.2.2.2.1 res.2.2.2.2.2.2.1 res.2.2.2.2.2.2.2 x_read x_saved x_plan x_bestPlan x_most x_many x_few x_everRight x_lagThen x_shadedThen x_firstFit x_rows x_rowMany x_sorts x_sizes x_number x_holds x_heldOne x_trace x_traced x_own x_isParted))) (hF2 : ∀ {x_s : Nat → Int32} {x_kept : Nat → Int32} {x_laid : Nat → Int32} {x_isKept : Int32} {x_pile : Nat → Int32} {x_tape : Nat → Int32} {x_taped : Int32} {x_letters : Nat → Int32} {x_at : Int32} {x_begun : Int32} {x_token : Int32} {x_value : Int32} {x_opened : Int32} {x_steps : Int32} {x_code0 : Nat → Int32} {x_read : Nat → Int32} {x_saved : Nat → Int32} {x_plan : Nat → Int32} {x_bestPlan : Nat → Int32} {x_most : Int32} {x_many : Int32} {x_few : Int32} {x_everRight : Int32} {x_lagThen : Nat → Int32} {x_shadedThen : Nat → Int32} {x_firstFit : Int32} {x_rows : Nat → Int32} {x_rowMany : Int32} {x_sorts : Nat → Int32} {x_sizes : Nat → Int32} {x_number : Nat → Int32} {x_holds : Nat → Int32} {x_heldOne : Nat → Int32} {x_trace : Nat → Int32} {x_traced : Int32} {x_own : Int32} {x_isParted : Int32} {res : Int32 × Int32 × Int32 × Int32 × Int32 × Int32 × Int32 × (Nat → Int32)}, F 2 x_tape x_taped x_letters x_at x_begun x_token x_value x_opened x_steps x_code0 = some res → MC l E0 D t yX12_readsOne cX12_readsOne 4 (some .boolean) (7 + 4 * d) 0 0 [.ref (a 0)] (mW a t x_s x_kept x_laid x_isKept x_pile x_tape x_taped x_letters x_at x_begun x_token x_value x_opened x_steps x_code0 x_read x_saved x_plan x_bestPlan x_most x_many x_few x_everRight x_lagThen x_shadedThen x_firstFit x_rows x_rowMany x_sorts x_sizes x_number x_holds x_heldOne x_trace x_traced x_own x_isParted) (Qi res.1 (mW a t x_s x_kept x_laid x_isKept x_pile x_tape x_taped x_letters res.2.1 res.2.2.1 res.2.2.2.1 res.2.2.2.2.1 res.2.2.2.2.2.1 res.2.2.2.2.2.2.1 res.2.2.2.2.2.2.2 x_read x_saved x_plan x_bestPlan x_most x_many x_few x_everRight x_lagThen x_shadedThen x_firstFit x_rows x_rowMany x_sorts x_sizes x_number x_holds x_heldOne x_trace x_traced x_own x_isParted))) (hF3 : ∀ {x_s : Nat → Int32} {x_kept : Nat → Int32} {x_laid : Nat → Int32} {x_isKept : Int32} {x_pile : Nat → Int32} {x_tape : Nat → Int32} {x_taped : Int32} {x_letters : Nat → Int32} {x_at : Int32} {x_begun : Int32} {x_token : Int32} {x_value : Int32} {x_opened : Int32} {x_steps : Int32} {x_code0 : Nat → Int32} {x_read : Nat → Int32} {x_saved : Nat → Int32} {x_plan : Nat → Int32} {x_bestPlan : Nat → Int32} {x_most : Int32} {x_many : Int32} {x_few : Int32} {x_everRight : Int32} {x_lagThen : Nat → Int32} {x_shadedThen : Nat → Int32} {x_firstFit : Int32} {x_rows : Nat → Int32} {x_rowMany : Int32} {x_sorts : Nat → Int32} {x_sizes : Nat → Int32} {x_number : Nat → Int32} {x_holds : Nat → Int32} {x_heldOne : Nat → Int32} {x_trace : Nat → Int32} {x_traced : Int32} {x_own : Int32} {x_isParted : Int32} {res : Int32 × Int32 × Int32 × Int32 × Int32 × Int32 × Int32 × (Nat → Int32)}, F 3 x_tape x_taped x_letters x_at x_begun x_token x_value x_opened x_steps x_code0 = some res → MC l E0 D t yX12_readsWithin cX12_readsWithin 1 (some .boolean) (7 + 4 * d) 0 0 [.ref (a 0)] (mW a t x_s x_kept x_laid x_isKept x_pile x_tape x_taped x_letters x_at x_begun x_token x_value x_opened x_steps x_code0 x_read x_saved x_plan x_bestPlan x_most x_many x_few x_everRight x_lagThen x_shadedThen x_firstFit x_rows x_rowMany x_sorts x_sizes x_number x_holds x_heldOne x_trace x_traced x_own x_isParted) (Qi res.1 (mW a t x_s x_kept x_laid x_isKept x_pile x_tape x_taped x_letters res.2.1 res.2.2.1 res.2.2.2.1 res.2.2.2.2.1 res.2.2.2.2.2.1 res.2.2.2.2.2.2.1 res.2.2.2.2.2.2.2 x_read x_saved x_plan x_bestPlan x_most x_many x_few x_everRight x_lagThen x_shadedThen x_firstFit x_rows x_rowMany x_sorts x_sizes x_number x_holds x_heldOne x_trace x_traced x_own x_isParted))) {res : Int32 × Int32 × Int32 × Int32 × Int32 × Int32 × Int32 × (Nat → Int32)} (hf : X12_readsCondition_b n F x_tape x_taped x_letters x_at x_begun x_token x_value x_opened x_steps x_code0 = some res) : MC l E0 D t yX12_readsCondition cX12_readsCondition 2 (some .boolean) (7 + 4 * (d + 1)) 0 0 [.ref (a 0)] (mW a t x_s x_kept x_laid x_isKept x_pile x_tape x_taped x_letters x_at x_begun x_token x_value x_opened x_steps x_code0 x_read x_saved x_plan x_bestPlan x_most x_many x_few x_everRight x_lagThen x_shadedThen x_firstFit x_rows x_rowMany x_sorts x_sizes x_number x_holds x_heldOne x_trace x_traced x_own x_isParted) (Qi res.1 (mW a t x_s x_kept x_laid x_isKept x_pile x_tape x_taped x_letters res.2.1 res.2.2.1 res.2.2.2.1 res.2.2.2.2.1 res.2.2.2.2.2.1 res.2.2.2.2.2.2.1 res.2.2.2.2.2.2.2 x_read x_saved x_plan x_bestPlan x_most x_many x_few x_everRight x_lagThen x_shadedThen x_firstFit x_rows x_rowMany x_sorts x_sizes x_number x_holds x_heldOne x_trace x_traced x_own x_isParted)) := by
  unfold X12_readsCondition_b at hf
  refine MC.ofI pn_X12 (Nat.le_of_ble_eq_true rfl) ?_
  intro p e s m args below meth c A Q ls cx hR hw hl
  have hx := cx.1
  have hb := cx.2.1
  have hl : lv_has ls 2 [(0, .ref (a 0))] := hl
  refine lv_aload_n hx hb dX12_readsCondition_0 rfl (lv_at hl 0 rfl) ?_
  obtain ⟨r1, h2, hf⟩ := bnS hf
  refine calVi (k := 0) cx hw hl.1 (hF1 h2) q_1254 k_X12_readsAll rfl rfl rfl dX12_readsCondition_1 rfl (Nat.le_of_ble_eq_true rfl) ⟨by show _ ≤ 7 + 4 * (d + 1); omega, by show _ ≤ 64 * (7 + 4 * (d + 1)); omega⟩ ⟨Nat.le_refl _, Nat.le_refl _⟩ (fun H locs hw => ?_)
  refine lv_istore_n (lv' := [(1, .int r1.1), (0, .ref (a 0))]) hx hb dX12_readsCondition_4 rfl hl (by decide) rfl (fun ls hl => ?_)
  obtain ⟨o9, ho9, hf⟩ := bnS hf
  have wL1 : ∀ (k : Nat) {v1 : Int32} {x_at : Int32} {x_begun : Int32} {x_token : Int32} {x_value : Int32} {x_opened : Int32} {x_steps : Int32} {x_code0 : Nat → Int32} {H : Heap} {locs : List Loc} {ls : Array Slot} {o : Int32 × Int32 × Int32 × Int32 × Int32 × Int32 × Int32 × (Nat → Int32)}, X12_readsCondition_L1 n F x_tape x_taped x_letters k v1 x_at x_begun x_token x_value x_opened x_steps x_code0 = some o → Wd D A s (mW a t x_s x_kept x_laid x_isKept x_pile x_tape x_taped x_letters x_at x_begun x_token x_value x_opened x_steps x_code0 x_read x_saved x_plan x_bestPlan x_most x_many x_few x_everRight x_lagThen x_shadedThen x_firstFit x_rows x_rowMany x_sorts x_sizes x_number x_holds x_heldOne x_trace x_traced x_own x_isParted) H locs → lv_has ls 2 [(0, .ref (a 0)), (1, .int v1)] → (∀ (H : Heap) (locs : List Loc) (ls : Array Slot), Wd D A s (mW a t x_s x_kept x_laid x_isKept x_pile x_tape x_taped x_letters o.2.1 o.2.2.1 o.2.2.2.1 o.2.2.2.2.1 o.2.2.2.2.2.1 o.2.2.2.2.2.2.1 o.2.2.2.2.2.2.2 x_read x_saved x_plan x_bestPlan x_most x_many x_few x_everRight x_lagThen x_shadedThen x_firstFit x_rows x_rowMany x_sorts x_sizes x_number x_holds x_heldOne x_trace x_traced x_own x_isParted) H locs → lv_has ls 2 [(0, .ref (a 0)), (1, .int o.1)] → W p l e (rmz (7 + 4 * (d + 1)) 0 0) s m args below meth c H locs 0 0 Q (F0 m 37 ls [])) → W p l e (rmz (7 + 4 * (d + 1)) 0 0) s m args below meth c H locs 0 0 Q (F0 m 5 ls []) := by
    clear hf ho9 hw hl
    intro k
    induction k with
    | zero => intro v1 x_at x_begun x_token x_value x_opened x_steps x_code0 H locs ls o hf hw hl kx; simp [X12_readsCondition_L1] at hf
    | succ k ih =>
      intro v1 x_at x_begun x_token x_value x_opened x_steps x_code0 H locs ls o hf hw hl kx
      rw [X12_readsCondition_L1] at hf
      refine lv_iload_n hx hb dX12_readsCondition_5 rfl (lv_at hl 1 rfl) ?_
      refine lv_if_eq (tgt := 37) hx hb dX12_readsCondition_6 (by decide) (fun hc => ?_) (fun hc => ?_)
      · have hf := ifT hf hc
        have hf := Option.some.inj hf
        subst hf
        exact kx _ _ _ hw (lv_sub hl [0, 1] rfl)
      · have hf := ifF hf hc
        refine lv_aload_n hx hb dX12_readsCondition_9 rfl (lv_at hl 0 rfl) ?_
        refine lv_bipush (v := 12) hx hb dX12_readsCondition_10 (by decide) ?_
        obtain ⟨r3, h4, hf⟩ := bnS hf
        refine calVi (k := 0) cx hw hl.1 (c_X12_takes h4) q_1246 k_X12_takes rfl rfl rfl dX12_readsCondition_12 rfl (Nat.le_of_ble_eq_true rfl) ⟨by show _ ≤ 7 + 4 * (d + 1); omega, by show _ ≤ 64 * (7 + 4 * (d + 1)); omega⟩ ⟨Nat.le_refl _, Nat.le_refl _⟩ (fun H locs hw => ?_)
        refine lv_if_eq (tgt := 37) hx hb dX12_readsCondition_15 (by decide) (fun hc => ?_) (fun hc => ?_)
        · have hf := ifT hf hc
          have hf := Option.some.inj hf
          subst hf
          exact kx _ _ _ hw (lv_sub hl [0, 1] rfl)
        · have hf := ifF hf hc
          refine lv_aload_n hx hb dX12_readsCondition_18 rfl (lv_at hl 0 rfl) ?_
          obtain ⟨r5, h6, hf⟩ := bnS hf
          refine calVi (k := 0) cx hw hl.1 (hF1 h6) q_1254 k_X12_readsAll rfl rfl rfl dX12_readsCondition_19 rfl (Nat.le_of_ble_eq_true rfl) ⟨by show _ ≤ 7 + 4 * (d + 1); omega, by show _ ≤ 64 * (7 + 4 * (d + 1)); omega⟩ ⟨Nat.le_refl _, Nat.le_refl _⟩ (fun H locs hw => ?_)
          refine lv_istore_n (lv' := [(1, .int r5.1), (0, .ref (a 0))]) hx hb dX12_readsCondition_22 rfl hl (by decide) rfl (fun ls hl => ?_)
          refine lv_iload_n hx hb dX12_readsCondition_23 rfl (lv_at hl 0 rfl) ?_
          refine lv_if_eq (tgt := 5) hx hb dX12_readsCondition_24 (by decide) (fun hc => ?_) (fun hc => ?_)
          · have hf := ifT hf hc
            exact ih hf hw (lv_sub hl [1, 0] rfl) kx
          · have hf := ifF hf hc
            refine lv_aload_n hx hb dX12_readsCondition_27 rfl (lv_at hl 1 rfl) ?_
            refine lv_sipush (v := 10014) hx hb dX12_readsCondition_28 (by decide) ?_
            obtain ⟨r7, h8, hf⟩ := bnS hf
            refine calVv (k := 0) cx hw hl.1 (c_X12_lays h8) q_1274 k_X12_lays rfl rfl rfl dX12_readsCondition_31 rfl (Nat.le_of_ble_eq_true rfl) ⟨by show _ ≤ 7 + 4 * (d + 1); omega, by show _ ≤ 64 * (7 + 4 * (d + 1)); omega⟩ ⟨Nat.le_refl _, Nat.le_refl _⟩ (fun H locs hw => ?_)
            refine lv_goto (tgt := 5) hx hb dX12_readsCondition_34 (by decide) ?_
            exact ih hf hw (lv_sub hl [1, 0] rfl) kx
  refine wL1 n ho9 hw (lv_sub hl [1, 0] rfl) (fun H locs ls hw hl => ?_)
  clear wL1 ho9
  refine lv_iload_n hx hb dX12_readsCondition_37 rfl (lv_at hl 1 rfl) ?_
  obtain ⟨h10, hf⟩ := ckS hf
  have hf := Option.some.inj hf
  subst hf
  exact hR _ _ _ _ _ _ hw (nb (bkS h10)) ⟨rfl, rfl⟩ dX12_readsCondition_38
theorem cb_X12_readsAll {F : Nat → (Nat → Int32) → Int32 → (Nat → Int32) → Int32 → Int32 → Int32 → Int32 → Int32 → Int32 → (Nat → Int32) → Option (Int32 × Int32 × Int32 × Int32 × Int32 × Int32 × Int32 × (Nat → Int32))} {d : Nat} (hF0 : ∀ {x_s : Nat → Int32} {x_kept : Nat → Int32} {x_laid : Nat → Int32} {x_isKept : Int32} {x_pile : Nat → Int32} {x_tape : Nat → Int32} {x_taped : Int32} {x_letters : Nat → Int32} {x_at : Int32} {x_begun : Int32} {x_token : Int32} {x_value : Int32} {x_opened : Int32} {x_steps : Int32} {x_code0 : Nat → Int32} {x_read : Nat → Int32} {x_saved : Nat → Int32} {x_plan : Nat → Int32} {x_bestPlan : Nat → Int32} {x_most : Int32} {x_many : Int32} {x_few : Int32} {x_everRight : Int32} {x_lagThen : Nat → Int32} {x_shadedThen : Nat → Int32} {x_firstFit : Int32} {x_rows : Nat → Int32} {x_rowMany : Int32} {x_sorts : Nat → Int32} {x_sizes : Nat → Int32} {x_number : Nat → Int32} {x_holds : Nat → Int32} {x_heldOne : Nat → Int32} {x_trace : Nat → Int32} {x_traced : Int32} {x_own : Int32} {x_isParted : Int32} {res : Int32 × Int32 × Int32 × Int32 × Int32 × Int32 × Int32 × (Nat → Int32)}, F 0 x_tape x_taped x_letters x_at x_begun x_token x_value x_opened x_steps x_code0 = some res → MC l E0 D t yX12_readsCondition cX12_readsCondition 2 (some .boolean) (7 + 4 * d) 0 0 [.ref (a 0)] (mW a t x_s x_kept x_laid x_isKept x_pile x_tape x_taped x_letters x_at x_begun x_token x_value x_opened x_steps x_code0 x_read x_saved x_plan x_bestPlan x_most x_many x_few x_everRight x_lagThen x_shadedThen x_firstFit x_rows x_rowMany x_sorts x_sizes x_number x_holds x_heldOne x_trace x_traced x_own x_isParted) (Qi res.1 (mW a t x_s x_kept x_laid x_isKept x_pile x_tape x_taped x_letters res.2.1 res.2.2.1 res.2.2.2.1 res.2.2.2.2.1 res.2.2.2.2.2.1 res.2.2.2.2.2.2.1 res.2.2.2.2.2.2.2 x_read x_saved x_plan x_bestPlan x_most x_many x_few x_everRight x_lagThen x_shadedThen x_firstFit x_rows x_rowMany x_sorts x_sizes x_number x_holds x_heldOne x_trace x_traced x_own x_isParted))) (hF1 : ∀ {x_s : Nat → Int32} {x_kept : Nat → Int32} {x_laid : Nat → Int32} {x_isKept : Int32} {x_pile : Nat → Int32} {x_tape : Nat → Int32} {x_taped : Int32} {x_letters : Nat → Int32} {x_at : Int32} {x_begun : Int32} {x_token : Int32} {x_value : Int32} {x_opened : Int32} {x_steps : Int32} {x_code0 : Nat → Int32} {x_read : Nat → Int32} {x_saved : Nat → Int32} {x_plan : Nat → Int32} {x_bestPlan : Nat → Int32} {x_most : Int32} {x_many : Int32} {x_few : Int32} {x_everRight : Int32} {x_lagThen : Nat → Int32} {x_shadedThen : Nat → Int32} {x_firstFit : Int32} {x_rows : Nat → Int32} {x_rowMany : Int32} {x_sorts : Nat → Int32} {x_sizes : Nat → Int32} {x_number : Nat → Int32} {x_holds : Nat → Int32} {x_heldOne : Nat → Int32} {x_trace : Nat → Int32} {x_traced : Int32} {x_own : Int32} {x_isParted : Int32} {res : Int32 × Int32 × Int32 × Int32 × Int32 × Int32 × Int32 × (Nat → Int32)}, F 1 x_tape x_taped x_letters x_at x_begun x_token x_value x_opened x_steps x_code0 = some res → MC l E0 D t yX12_readsAll cX12_readsAll 2 (some .boolean) (7 + 4 * d) 0 0 [.ref (a 0)] (mW a t x_s x_kept x_laid x_isKept x_pile x_tape x_taped x_letters x_at x_begun x_token x_value x_opened x_steps x_code0 x_read x_saved x_plan x_bestPlan x_most x_many x_few x_everRight x_lagThen x_shadedThen x_firstFit x_rows x_rowMany x_sorts x_sizes x_number x_holds x_heldOne x_trace x_traced x_own x_isParted) (Qi res.1 (mW a t x_s x_kept x_laid x_isKept x_pile x_tape x_taped x_letters res.2.1 res.2.2.1 res.2.2.2.1 res.2.2.2.2.1 res.2.2.2.2.2.1 res.2.2.2.2.2.2.1 res.2.2.2.2.2.2.2 x_read x_saved x_plan x_bestPlan x_most x_many x_few x_everRight x_lagThen x_shadedThen x_firstFit x_rows x_rowMany x_sorts x_sizes x_number x_holds x_heldOne x_trace x_traced x_own x_isParted))) (hF2 : ∀ {x_s : Nat → Int32} {x_kept : Nat → Int32} {x_laid : Nat → Int32} {x_isKept : Int32} {x_pile : Nat → Int32} {x_tape : Nat → Int32} {x_taped : Int32} {x_letters : Nat → Int32} {x_at : Int32} {x_begun : Int32} {x_token : Int32} {x_value : Int32} {x_opened : Int32} {x_steps : Int32} {x_code0 : Nat → Int32} {x_read : Nat → Int32} {x_saved : Nat → Int32} {x_plan : Nat → Int32} {x_bestPlan : Nat → Int32} {x_most : Int32} {x_many : Int32} {x_few : Int32} {x_everRight : Int32} {x_lagThen : Nat → Int32} {x_shadedThen : Nat → Int32} {x_firstFit : Int32} {x_rows : Nat → Int32} {x_rowMany : Int32} {x_sorts : Nat → Int32} {x_sizes : Nat → Int32} {x_number : Nat → Int32} {x_holds : Nat → Int32} {x_heldOne : Nat → Int32} {x_trace : Nat → Int32} {x_traced : Int32} {x_own : Int32} {x_isParted : Int32} {res : Int32 × Int32 × Int32 × Int32 × Int32 × Int32 × Int32 × (Nat → Int32)}, F 2 x_tape x_taped x_letters x_at x_begun x_token x_value x_opened x_steps x_code0 = some res → MC l E0 D t yX12_readsOne cX12_readsOne 4 (some .boolean) (7 + 4 * d) 0 0 [.ref (a 0)] (mW a t x_s x_kept x_laid x_isKept x_pile x_tape x_taped x_letters x_at x_begun x_token x_value x_opened x_steps x_code0 x_read x_saved x_plan x_bestPlan x_most x_many x_few x_everRight x_lagThen x_shadedThen x_firstFit x_rows x_rowMany x_sorts x_sizes x_number x_holds x_heldOne x_trace x_traced x_own x_isParted) (Qi res.1 (mW a t x_s x_kept x_laid x_isKept x_pile x_tape x_taped x_letters res.2.1 res.2.2.1 res.2.2.2.1 res.2.2.2.2.1 res.2.2.2.2.2.1 res.2.2.2.2.2.2.1 res.2.2.2.2.2.2.2 x_read x_saved x_plan x_bestPlan x_most x_many x_few x_everRight x_lagThen x_shadedThen x_firstFit x_rows x_rowMany x_sorts x_sizes x_number x_holds x_heldOne x_trace x_traced x_own x_isParted))) (hF3 : ∀ {x_s : Nat → Int32} {x_kept : Nat → Int32} {x_laid : Nat → Int32} {x_isKept : Int32} {x_pile : Nat → Int32} {x_tape : Nat → Int32} {x_taped : Int32} {x_letters : Nat → Int32} {x_at : Int32} {x_begun : Int32} {x_token : Int32} {x_value : Int32} {x_opened : Int32} {x_steps : Int32} {x_code0 : Nat → Int32} {x_read : Nat → Int32} {x_saved : Nat → Int32} {x_plan : Nat → Int32} {x_bestPlan : Nat → Int32} {x_most : Int32} {x_many : Int32} {x_few : Int32} {x_everRight : Int32} {x_lagThen : Nat → Int32} {x_shadedThen : Nat → Int32} {x_firstFit : Int32} {x_rows : Nat → Int32} {x_rowMany : Int32} {x_sorts : Nat → Int32} {x_sizes : Nat → Int32} {x_number : Nat → Int32} {x_holds : Nat → Int32} {x_heldOne : Nat → Int32} {x_trace : Nat → Int32} {x_traced : Int32} {x_own : Int32} {x_isParted : Int32} {res : Int32 × Int32 × Int32 × Int32 × Int32 × Int32 × Int32 × (Nat → Int32)}, F 3 x_tape x_taped x_letters x_at x_begun x_token x_value x_opened x_steps x_code0 = some res → MC l E0 D t yX12_readsWithin cX12_readsWithin 1 (some .boolean) (7 + 4 * d) 0 0 [.ref (a 0)] (mW a t x_s x_kept x_laid x_isKept x_pile x_tape x_taped x_letters x_at x_begun x_token x_value x_opened x_steps x_code0 x_read x_saved x_plan x_bestPlan x_most x_many x_few x_everRight x_lagThen x_shadedThen x_firstFit x_rows x_rowMany x_sorts x_sizes x_number x_holds x_heldOne x_trace x_traced x_own x_isParted) (Qi res.1 (mW a t x_s x_kept x_laid x_isKept x_pile x_tape x_taped x_letters res.2.1 res.2.2.1 res.2.2.2.1 res.2.2.2.2.1 res.2.2.2.2.2.1 res.2.2.2.2.2.2.1 res.2.2.2.2.2.2.2 x_read x_saved x_plan x_bestPlan x_most x_many x_few x_everRight x_lagThen x_shadedThen x_firstFit x_rows x_rowMany x_sorts x_sizes x_number x_holds x_heldOne x_trace x_traced x_own x_isParted))) {res : Int32 × Int32 × Int32 × Int32 × Int32 × Int32 × Int32 × (Nat → Int32)} (hf : X12_readsAll_b n F x_tape x_taped x_letters x_at x_begun x_token x_value x_opened x_steps x_code0 = some res) : MC l E0 D t yX12_readsAll cX12_readsAll 2 (some .boolean) (7 + 4 * (d + 1)) 0 0 [.ref (a 0)] (mW a t x_s x_kept x_laid x_isKept x_pile x_tape x_taped x_letters x_at x_begun x_token x_value x_opened x_steps x_code0 x_read x_saved x_plan x_bestPlan x_most x_many x_few x_everRight x_lagThen x_shadedThen x_firstFit x_rows x_rowMany x_sorts x_sizes x_number x_holds x_heldOne x_trace x_traced x_own x_isParted) (Qi res.1 (mW a t x_s x_kept x_laid x_isKept x_pile x_tape x_taped x_letters res.2.1 res.2.2.1 res.2.2.2.1 res.2.2.2.2.1 res.2.2.2.2.2.1 res.2.2.2.2.2.2.1 res.2.2.2.2.2.2.2 x_read x_saved x_plan x_bestPlan x_most x_many x_few x_everRight x_lagThen x_shadedThen x_firstFit x_rows x_rowMany x_sorts x_sizes x_number x_holds x_heldOne x_trace x_traced x_own x_isParted)) := by
  unfold X12_readsAll_b at hf
  refine MC.ofI pn_X12 (Nat.le_of_ble_eq_true rfl) ?_
  intro p e s m args below meth c A Q ls cx hR hw hl
  have hx := cx.1
  have hb := cx.2.1
  have hl : lv_has ls 2 [(0, .ref (a 0))] := hl
  refine lv_aload_n hx hb dX12_readsAll_0 rfl (lv_at hl 0 rfl) ?_
  obtain ⟨r1, h2, hf⟩ := bnS hf
  refine calVi (k := 0) cx hw hl.1 (hF2 h2) q_1258 k_X12_readsOne rfl rfl rfl dX12_readsAll_1 rfl (Nat.le_of_ble_eq_true rfl) ⟨by show _ ≤ 7 + 4 * (d + 1); omega, by show _ ≤ 64 * (7 + 4 * (d + 1)); omega⟩ ⟨Nat.le_refl _, Nat.le_refl _⟩ (fun H locs hw => ?_)
  refine lv_istore_n (lv' := [(1, .int r1.1), (0, .ref (a 0))]) hx hb dX12_readsAll_4 rfl hl (by decide) rfl (fun ls hl => ?_)
  obtain ⟨o9, ho9, hf⟩ := bnS hf
  have wL1 : ∀ (k : Nat) {v1 : Int32} {x_at : Int32} {x_begun : Int32} {x_token : Int32} {x_value : Int32} {x_opened : Int32} {x_steps : Int32} {x_code0 : Nat → Int32} {H : Heap} {locs : List Loc} {ls : Array Slot} {o : Int32 × Int32 × Int32 × Int32 × Int32 × Int32 × Int32 × (Nat → Int32)}, X12_readsAll_L1 n F x_tape x_taped x_letters k v1 x_at x_begun x_token x_value x_opened x_steps x_code0 = some o → Wd D A s (mW a t x_s x_kept x_laid x_isKept x_pile x_tape x_taped x_letters x_at x_begun x_token x_value x_opened x_steps x_code0 x_read x_saved x_plan x_bestPlan x_most x_many x_few x_everRight x_lagThen x_shadedThen x_firstFit x_rows x_rowMany x_sorts x_sizes x_number x_holds x_heldOne x_trace x_traced x_own x_isParted) H locs → lv_has ls 2 [(0, .ref (a 0)), (1, .int v1)] → (∀ (H : Heap) (locs : List Loc) (ls : Array Slot), Wd D A s (mW a t x_s x_kept x_laid x_isKept x_pile x_tape x_taped x_letters o.2.1 o.2.2.1 o.2.2.2.1 o.2.2.2.2.1 o.2.2.2.2.2.1 o.2.2.2.2.2.2.1 o.2.2.2.2.2.2.2 x_read x_saved x_plan x_bestPlan x_most x_many x_few x_everRight x_lagThen x_shadedThen x_firstFit x_rows x_rowMany x_sorts x_sizes x_number x_holds x_heldOne x_trace x_traced x_own x_isParted) H locs → lv_has ls 2 [(0, .ref (a 0)), (1, .int o.1)] → W p l e (rmz (7 + 4 * (d + 1)) 0 0) s m args below meth c H locs 0 0 Q (F0 m 37 ls [])) → W p l e (rmz (7 + 4 * (d + 1)) 0 0) s m args below meth c H locs 0 0 Q (F0 m 5 ls []) := by
    clear hf ho9 hw hl
    intro k
    induction k with
    | zero => intro v1 x_at x_begun x_token x_value x_opened x_steps x_code0 H locs ls o hf hw hl kx; simp [X12_readsAll_L1] at hf
    | succ k ih =>
      intro v1 x_at x_begun x_token x_value x_opened x_steps x_code0 H locs ls o hf hw hl kx
      rw [X12_readsAll_L1] at hf
      refine lv_iload_n hx hb dX12_readsAll_5 rfl (lv_at hl 1 rfl) ?_
      refine lv_if_eq (tgt := 37) hx hb dX12_readsAll_6 (by decide) (fun hc => ?_) (fun hc => ?_)
      · have hf := ifT hf hc
        have hf := Option.some.inj hf
        subst hf
        exact kx _ _ _ hw (lv_sub hl [0, 1] rfl)
      · have hf := ifF hf hc
        refine lv_aload_n hx hb dX12_readsAll_9 rfl (lv_at hl 0 rfl) ?_
        refine lv_bipush (v := 11) hx hb dX12_readsAll_10 (by decide) ?_
        obtain ⟨r3, h4, hf⟩ := bnS hf
        refine calVi (k := 0) cx hw hl.1 (c_X12_takes h4) q_1246 k_X12_takes rfl rfl rfl dX12_readsAll_12 rfl (Nat.le_of_ble_eq_true rfl) ⟨by show _ ≤ 7 + 4 * (d + 1); omega, by show _ ≤ 64 * (7 + 4 * (d + 1)); omega⟩ ⟨Nat.le_refl _, Nat.le_refl _⟩ (fun H locs hw => ?_)
        refine lv_if_eq (tgt := 37) hx hb dX12_readsAll_15 (by decide) (fun hc => ?_) (fun hc => ?_)
        · have hf := ifT hf hc
          have hf := Option.some.inj hf
          subst hf
          exact kx _ _ _ hw (lv_sub hl [0, 1] rfl)
        · have hf := ifF hf hc
          refine lv_aload_n hx hb dX12_readsAll_18 rfl (lv_at hl 0 rfl) ?_
          obtain ⟨r5, h6, hf⟩ := bnS hf
          refine calVi (k := 0) cx hw hl.1 (hF2 h6) q_1258 k_X12_readsOne rfl rfl rfl dX12_readsAll_19 rfl (Nat.le_of_ble_eq_true rfl) ⟨by show _ ≤ 7 + 4 * (d + 1); omega, by show _ ≤ 64 * (7 + 4 * (d + 1)); omega⟩ ⟨Nat.le_refl _, Nat.le_refl _⟩ (fun H locs hw => ?_)
          refine lv_istore_n (lv' := [(1, .int r5.1), (0, .ref (a 0))]) hx hb dX12_readsAll_22 rfl hl (by decide) rfl (fun ls hl => ?_)
          refine lv_iload_n hx hb dX12_readsAll_23 rfl (lv_at hl 0 rfl) ?_
          refine lv_if_eq (tgt := 5) hx hb dX12_readsAll_24 (by decide) (fun hc => ?_) (fun hc => ?_)
          · have hf := ifT hf hc
            exact ih hf hw (lv_sub hl [1, 0] rfl) kx
          · have hf := ifF hf hc
            refine lv_aload_n hx hb dX12_readsAll_27 rfl (lv_at hl 1 rfl) ?_
            refine lv_sipush (v := 10013) hx hb dX12_readsAll_28 (by decide) ?_
            obtain ⟨r7, h8, hf⟩ := bnS hf
            refine calVv (k := 0) cx hw hl.1 (c_X12_lays h8) q_1274 k_X12_lays rfl rfl rfl dX12_readsAll_31 rfl (Nat.le_of_ble_eq_true rfl) ⟨by show _ ≤ 7 + 4 * (d + 1); omega, by show _ ≤ 64 * (7 + 4 * (d + 1)); omega⟩ ⟨Nat.le_refl _, Nat.le_refl _⟩ (fun H locs hw => ?_)
            refine lv_goto (tgt := 5) hx hb dX12_readsAll_34 (by decide) ?_
            exact ih hf hw (lv_sub hl [1, 0] rfl) kx
  refine wL1 n ho9 hw (lv_sub hl [1, 0] rfl) (fun H locs ls hw hl => ?_)
  clear wL1 ho9
  refine lv_iload_n hx hb dX12_readsAll_37 rfl (lv_at hl 1 rfl) ?_
  obtain ⟨h10, hf⟩ := ckS hf
  have hf := Option.some.inj hf
  subst hf
  exact hR _ _ _ _ _ _ hw (nb (bkS h10)) ⟨rfl, rfl⟩ dX12_readsAll_38
theorem cb_X12_readsOne {F : Nat → (Nat → Int32) → Int32 → (Nat → Int32) → Int32 → Int32 → Int32 → Int32 → Int32 → Int32 → (Nat → Int32) → Option (Int32 × Int32 × Int32 × Int32 × Int32 × Int32 × Int32 × (Nat → Int32))} {d : Nat} (hF0 : ∀ {x_s : Nat → Int32} {x_kept : Nat → Int32} {x_laid : Nat → Int32} {x_isKept : Int32} {x_pile : Nat → Int32} {x_tape : Nat → Int32} {x_taped : Int32} {x_letters : Nat → Int32} {x_at : Int32} {x_begun : Int32} {x_token : Int32} {x_value : Int32} {x_opened : Int32} {x_steps : Int32} {x_code0 : Nat → Int32} {x_read : Nat → Int32} {x_saved : Nat → Int32} {x_plan : Nat → Int32} {x_bestPlan : Nat → Int32} {x_most : Int32} {x_many : Int32} {x_few : Int32} {x_everRight : Int32} {x_lagThen : Nat → Int32} {x_shadedThen : Nat → Int32} {x_firstFit : Int32} {x_rows : Nat → Int32} {x_rowMany : Int32} {x_sorts : Nat → Int32} {x_sizes : Nat → Int32} {x_number : Nat → Int32} {x_holds : Nat → Int32} {x_heldOne : Nat → Int32} {x_trace : Nat → Int32} {x_traced : Int32} {x_own : Int32} {x_isParted : Int32} {res : Int32 × Int32 × Int32 × Int32 × Int32 × Int32 × Int32 × (Nat → Int32)}, F 0 x_tape x_taped x_letters x_at x_begun x_token x_value x_opened x_steps x_code0 = some res → MC l E0 D t yX12_readsCondition cX12_readsCondition 2 (some .boolean) (7 + 4 * d) 0 0 [.ref (a 0)] (mW a t x_s x_kept x_laid x_isKept x_pile x_tape x_taped x_letters x_at x_begun x_token x_value x_opened x_steps x_code0 x_read x_saved x_plan x_bestPlan x_most x_many x_few x_everRight x_lagThen x_shadedThen x_firstFit x_rows x_rowMany x_sorts x_sizes x_number x_holds x_heldOne x_trace x_traced x_own x_isParted) (Qi res.1 (mW a t x_s x_kept x_laid x_isKept x_pile x_tape x_taped x_letters res.2.1 res.2.2.1 res.2.2.2.1 res.2.2.2.2.1 res.2.2.2.2.2.1 res.2.2.2.2.2.2.1 res.2.2.2.2.2.2.2 x_read x_saved x_plan x_bestPlan x_most x_many x_few x_everRight x_lagThen x_shadedThen x_firstFit x_rows x_rowMany x_sorts x_sizes x_number x_holds x_heldOne x_trace x_traced x_own x_isParted))) (hF1 : ∀ {x_s : Nat → Int32} {x_kept : Nat → Int32} {x_laid : Nat → Int32} {x_isKept : Int32} {x_pile : Nat → Int32} {x_tape : Nat → Int32} {x_taped : Int32} {x_letters : Nat → Int32} {x_at : Int32} {x_begun : Int32} {x_token : Int32} {x_value : Int32} {x_opened : Int32} {x_steps : Int32} {x_code0 : Nat → Int32} {x_read : Nat → Int32} {x_saved : Nat → Int32} {x_plan : Nat → Int32} {x_bestPlan : Nat → Int32} {x_most : Int32} {x_many : Int32} {x_few : Int32} {x_everRight : Int32} {x_lagThen : Nat → Int32} {x_shadedThen : Nat → Int32} {x_firstFit : Int32} {x_rows : Nat → Int32} {x_rowMany : Int32} {x_sorts : Nat → Int32} {x_sizes : Nat → Int32} {x_number : Nat → Int32} {x_holds : Nat → Int32} {x_heldOne : Nat → Int32} {x_trace : Nat → Int32} {x_traced : Int32} {x_own : Int32} {x_isParted : Int32} {res : Int32 × Int32 × Int32 × Int32 × Int32 × Int32 × Int32 × (Nat → Int32)}, F 1 x_tape x_taped x_letters x_at x_begun x_token x_value x_opened x_steps x_code0 = some res → MC l E0 D t yX12_readsAll cX12_readsAll 2 (some .boolean) (7 + 4 * d) 0 0 [.ref (a 0)] (mW a t x_s x_kept x_laid x_isKept x_pile x_tape x_taped x_letters x_at x_begun x_token x_value x_opened x_steps x_code0 x_read x_saved x_plan x_bestPlan x_most x_many x_few x_everRight x_lagThen x_shadedThen x_firstFit x_rows x_rowMany x_sorts x_sizes x_number x_holds x_heldOne x_trace x_traced x_own x_isParted) (Qi res.1 (mW a t x_s x_kept x_laid x_isKept x_pile x_tape x_taped x_letters res.2.1 res.2.2.1 res.2.2.2.1 res.2.2.2.2.1 res.2.2.2.2.2.1 res.2.2.2.2.2.2.1 res.2.2.2.2.2.2.2 x_read x_saved x_plan x_bestPlan x_most x_many x_few x_everRight x_lagThen x_shadedThen x_firstFit x_rows x_rowMany x_sorts x_sizes x_number x_holds x_heldOne x_trace x_traced x_own x_isParted))) (hF2 : ∀ {x_s : Nat → Int32} {x_kept : Nat → Int32} {x_laid : Nat → Int32} {x_isKept : Int32} {x_pile : Nat → Int32} {x_tape : Nat → Int32} {x_taped : Int32} {x_letters : Nat → Int32} {x_at : Int32} {x_begun : Int32} {x_token : Int32} {x_value : Int32} {x_opened : Int32} {x_steps : Int32} {x_code0 : Nat → Int32} {x_read : Nat → Int32} {x_saved : Nat → Int32} {x_plan : Nat → Int32} {x_bestPlan : Nat → Int32} {x_most : Int32} {x_many : Int32} {x_few : Int32} {x_everRight : Int32} {x_lagThen : Nat → Int32} {x_shadedThen : Nat → Int32} {x_firstFit : Int32} {x_rows : Nat → Int32} {x_rowMany : Int32} {x_sorts : Nat → Int32} {x_sizes : Nat → Int32} {x_number : Nat → Int32} {x_holds : Nat → Int32} {x_heldOne : Nat → Int32} {x_trace : Nat → Int32} {x_traced : Int32} {x_own : Int32} {x_isParted : Int32} {res : Int32 × Int32 × Int32 × Int32 × Int32 × Int32 × Int32 × (Nat → Int32)}, F 2 x_tape x_taped x_letters x_at x_begun x_token x_value x_opened x_steps x_code0 = some res → MC l E0 D t yX12_readsOne cX12_readsOne 4 (some .boolean) (7 + 4 * d) 0 0 [.ref (a 0)] (mW a t x_s x_kept x_laid x_isKept x_pile x_tape x_taped x_letters x_at x_begun x_token x_value x_opened x_steps x_code0 x_read x_saved x_plan x_bestPlan x_most x_many x_few x_everRight x_lagThen x_shadedThen x_firstFit x_rows x_rowMany x_sorts x_sizes x_number x_holds x_heldOne x_trace x_traced x_own x_isParted) (Qi res.1 (mW a t x_s x_kept x_laid x_isKept x_pile x_tape x_taped x_letters res.2.1 res.2.2.1 res.2.2.2.1 res.2.2.2.2.1 res.2.2.2.2.2.1 res.2.2.2.2.2.2.1 res.2.2.2.2.2.2.2 x_read x_saved x_plan x_bestPlan x_most x_many x_few x_everRight x_lagThen x_shadedThen x_firstFit x_rows x_rowMany x_sorts x_sizes x_number x_holds x_heldOne x_trace x_traced x_own x_isParted))) (hF3 : ∀ {x_s : Nat → Int32} {x_kept : Nat → Int32} {x_laid : Nat → Int32} {x_isKept : Int32} {x_pile : Nat → Int32} {x_tape : Nat → Int32} {x_taped : Int32} {x_letters : Nat → Int32} {x_at : Int32} {x_begun : Int32} {x_token : Int32} {x_value : Int32} {x_opened : Int32} {x_steps : Int32} {x_code0 : Nat → Int32} {x_read : Nat → Int32} {x_saved : Nat → Int32} {x_plan : Nat → Int32} {x_bestPlan : Nat → Int32} {x_most : Int32} {x_many : Int32} {x_few : Int32} {x_everRight : Int32} {x_lagThen : Nat → Int32} {x_shadedThen : Nat → Int32} {x_firstFit : Int32} {x_rows : Nat → Int32} {x_rowMany : Int32} {x_sorts : Nat → Int32} {x_sizes : Nat → Int32} {x_number : Nat → Int32} {x_holds : Nat → Int32} {x_heldOne : Nat → Int32} {x_trace : Nat → Int32} {x_traced : Int32} {x_own : Int32} {x_isParted : Int32} {res : Int32 × Int32 × Int32 × Int32 × Int32 × Int32 × Int32 × (Nat → Int32)}, F 3 x_tape x_taped x_letters x_at x_begun x_token x_value x_opened x_steps x_code0 = some res → MC l E0 D t yX12_readsWithin cX12_readsWithin 1 (some .boolean) (7 + 4 * d) 0 0 [.ref (a 0)] (mW a t x_s x_kept x_laid x_isKept x_pile x_tape x_taped x_letters x_at x_begun x_token x_value x_opened x_steps x_code0 x_read x_saved x_plan x_bestPlan x_most x_many x_few x_everRight x_lagThen x_shadedThen x_firstFit x_rows x_rowMany x_sorts x_sizes x_number x_holds x_heldOne x_trace x_traced x_own x_isParted) (Qi res.1 (mW a t x_s x_kept x_laid x_isKept x_pile x_tape x_taped x_letters res.2.1 res.2.2.1 res.2.2.2.1 res.2.2.2.2.1 res.2.2.2.2.2.1 res.2.2.2.2.2.2.1 res.2.2.2.2.2.2.2 x_read x_saved x_plan x_bestPlan x_most x_many x_few x_everRight x_lagThen x_shadedThen x_firstFit x_rows x_rowMany x_sorts x_sizes x_number x_holds x_heldOne x_trace x_traced x_own x_isParted))) {res : Int32 × Int32 × Int32 × Int32 × Int32 × Int32 × Int32 × (Nat → Int32)} (hf : X12_readsOne_b n F x_tape x_taped x_letters x_at x_begun x_token x_value x_opened x_steps x_code0 = some res) : MC l E0 D t yX12_readsOne cX12_readsOne 4 (some .boolean) (7 + 4 * (d + 1)) 0 0 [.ref (a 0)] (mW a t x_s x_kept x_laid x_isKept x_pile x_tape x_taped x_letters x_at x_begun x_token x_value x_opened x_steps x_code0 x_read x_saved x_plan x_bestPlan x_most x_many x_few x_everRight x_lagThen x_shadedThen x_firstFit x_rows x_rowMany x_sorts x_sizes x_number x_holds x_heldOne x_trace x_traced x_own x_isParted) (Qi res.1 (mW a t x_s x_kept x_laid x_isKept x_pile x_tape x_taped x_letters res.2.1 res.2.2.1 res.2.2.2.1 res.2.2.2.2.1 res.2.2.2.2.2.1 res.2.2.2.2.2.2.1 res.2.2.2.2.2.2.2 x_read x_saved x_plan x_bestPlan x_most x_many x_few x_everRight x_lagThen x_shadedThen x_firstFit x_rows x_rowMany x_sorts x_sizes x_number x_holds x_heldOne x_trace x_traced x_own x_isParted)) := by
  unfold X12_readsOne_b at hf
  refine MC.ofI pn_X12 (Nat.le_of_ble_eq_true rfl) ?_
  intro p e s m args below meth c A Q ls cx hR hw hl
  have hx := cx.1
  have hb := cx.2.1
  have hl : lv_has ls 4 [(0, .ref (a 0))] := hl
  refine lv_iconst (v := 0) hx hb dX12_readsOne_0 (by decide) ?_
  refine lv_istore_n (lv' := [(1, .int (0 : Int32)), (0, .ref (a 0))]) hx hb dX12_readsOne_1 rfl hl (by decide) rfl (fun ls hl => ?_)
  obtain ⟨o3, ho3, hf⟩ := bnS hf
  have wL1 : ∀ (k : Nat) {v1 : Int32} {x_at : Int32} {x_begun : Int32} {x_token : Int32} {x_value : Int32} {H : Heap} {locs : List Loc} {ls : Array Slot} {o : Int32 × Int32 × Int32 × Int32 × Int32}, X12_readsOne_L1 n F x_tape x_taped x_letters k v1 x_at x_begun x_token x_value = some o → Wd D A s (mW a t x_s x_kept x_laid x_isKept x_pile x_tape x_taped x_letters x_at x_begun x_token x_value x_opened x_steps x_code0 x_read x_saved x_plan x_bestPlan x_most x_many x_few x_everRight x_lagThen x_shadedThen x_firstFit x_rows x_rowMany x_sorts x_sizes x_number x_holds x_heldOne x_trace x_traced x_own x_isParted) H locs → lv_has ls 4 [(0, .ref (a 0)), (1, .int v1)] → (∀ (H : Heap) (locs : List Loc) (ls : Array Slot), Wd D A s (mW a t x_s x_kept x_laid x_isKept x_pile x_tape x_taped x_letters o.2.1 o.2.2.1 o.2.2.2.1 o.2.2.2.2 x_opened x_steps x_code0 x_read x_saved x_plan x_bestPlan x_most x_many x_few x_everRight x_lagThen x_shadedThen x_firstFit x_rows x_rowMany x_sorts x_sizes x_number x_holds x_heldOne x_trace x_traced x_own x_isParted) H locs → lv_has ls 4 [(0, .ref (a 0)), (1, .int o.1)] → W p l e (rmz (7 + 4 * (d + 1)) 0 0) s m args below meth c H locs 0 0 Q (F0 m 17 ls [])) → W p l e (rmz (7 + 4 * (d + 1)) 0 0) s m args below meth c H locs 0 0 Q (F0 m 2 ls []) := by
    clear hf ho3 hw hl
    intro k
    induction k with
    | zero => intro v1 x_at x_begun x_token x_value H locs ls o hf hw hl kx; simp [X12_readsOne_L1] at hf
    | succ k ih =>
      intro v1 x_at x_begun x_token x_value H locs ls o hf hw hl kx
      rw [X12_readsOne_L1] at hf
      refine lv_aload_n hx hb dX12_readsOne_2 rfl (lv_at hl 0 rfl) ?_
      refine lv_bipush (v := 10) hx hb dX12_readsOne_3 (by decide) ?_
      obtain ⟨r1, h2, hf⟩ := bnS hf
      refine calVi (k := 0) cx hw hl.1 (c_X12_takes h2) q_1246 k_X12_takes rfl rfl rfl dX12_readsOne_5 rfl (Nat.le_of_ble_eq_true rfl) ⟨by show _ ≤ 7 + 4 * (d + 1); omega, by show _ ≤ 64 * (7 + 4 * (d + 1)); omega⟩ ⟨Nat.le_refl _, Nat.le_refl _⟩ (fun H locs hw => ?_)
      refine lv_if_eq (tgt := 17) hx hb dX12_readsOne_8 (by decide) (fun hc => ?_) (fun hc => ?_)
      · have hf := ifT hf hc
        have hf := Option.some.inj hf
        subst hf
        exact kx _ _ _ hw (lv_sub hl [0, 1] rfl)
      · have hf := ifF hf hc
        refine lv_iinc (v := (v1 + (1 : Int32))) (lv' := [(1, .int (v1 + (1 : Int32))), (0, .ref (a 0))]) hx hb dX12_readsOne_11 hl (k := 1) rfl rfl (by decide) rfl (fun ls hl => ?_)
        refine lv_goto (tgt := 2) hx hb dX12_readsOne_14 (by decide) ?_
        exact ih hf hw (lv_sub hl [1, 0] rfl) kx
  refine wL1 n ho3 hw (lv_sub hl [1, 0] rfl) (fun H locs ls hw hl => ?_)
  clear wL1 ho3
  refine lv_aload_n hx hb dX12_readsOne_17 rfl (lv_at hl 0 rfl) ?_
  refine mg_token cx hw dX12_readsOne_18 ?_
  refine lv_sipush (v := 240) hx hb dX12_readsOne_21 (by decide) ?_
  obtain ⟨j8, hj8, hf⟩ := bnS hf
  have wj8 : ∀ (H : Heap) (locs : List Loc) (ls : Array Slot), Wd D A s (mW a t x_s x_kept x_laid x_isKept x_pile x_tape x_taped x_letters j8.2.1 j8.2.2.1 j8.2.2.2.1 j8.2.2.2.2.1 j8.2.2.2.2.2.1 j8.2.2.2.2.2.2.1 j8.2.2.2.2.2.2.2 x_read x_saved x_plan x_bestPlan x_most x_many x_few x_everRight x_lagThen x_shadedThen x_firstFit x_rows x_rowMany x_sorts x_sizes x_number x_holds x_heldOne x_trace x_traced x_own x_isParted) H locs → lv_has ls 4 [(0, .ref (a 0)), (1, .int o3.1)] → W p l e (rmz (7 + 4 * (d + 1)) 0 0) s m args below meth c H locs 0 0 Q (F0 m 38 ls [.int j8.1]) := by
    intro H locs ls hw hl
    refine lv_istore_n (lv' := [(2, .int j8.1), (0, .ref (a 0)), (1, .int o3.1)]) hx hb dX12_readsOne_38 rfl hl (by decide) rfl (fun ls hl => ?_)
    refine lv_iconst (v := 0) hx hb dX12_readsOne_39 (by decide) ?_
    refine lv_istore_n (lv' := [(3, .int (0 : Int32)), (2, .int j8.1), (0, .ref (a 0)), (1, .int o3.1)]) hx hb dX12_readsOne_40 rfl hl (by decide) rfl (fun ls hl => ?_)
    obtain ⟨o11, ho11, hf⟩ := bnS hf
    have wL2 : ∀ (k : Nat) {v1 : Int32} {v2 : Int32} {v3 : Int32} {x_at : Int32} {x_begun : Int32} {x_token : Int32} {x_value : Int32} {x_opened : Int32} {x_steps : Int32} {x_code0 : Nat → Int32} {H : Heap} {locs : List Loc} {ls : Array Slot} {o : Int32 × Int32 × (Nat → Int32)}, X12_readsOne_L2 n F v1 v2 k v3 x_steps x_code0 = some o → Wd D A s (mW a t x_s x_kept x_laid x_isKept x_pile x_tape x_taped x_letters x_at x_begun x_token x_value x_opened x_steps x_code0 x_read x_saved x_plan x_bestPlan x_most x_many x_few x_everRight x_lagThen x_shadedThen x_firstFit x_rows x_rowMany x_sorts x_sizes x_number x_holds x_heldOne x_trace x_traced x_own x_isParted) H locs → lv_has ls 4 [(0, .ref (a 0)), (1, .int v1), (2, .int v2), (3, .int v3)] → (∀ (H : Heap) (locs : List Loc) (ls : Array Slot), Wd D A s (mW a t x_s x_kept x_laid x_isKept x_pile x_tape x_taped x_letters x_at x_begun x_token x_value x_opened o.2.1 o.2.2 x_read x_saved x_plan x_bestPlan x_most x_many x_few x_everRight x_lagThen x_shadedThen x_firstFit x_rows x_rowMany x_sorts x_sizes x_number x_holds x_heldOne x_trace x_traced x_own x_isParted) H locs → lv_has ls 4 [(0, .ref (a 0)), (1, .int v1), (2, .int v2), (3, .int o.1)] → W p l e (rmz (7 + 4 * (d + 1)) 0 0) s m args below meth c H locs 0 0 Q (F0 m 63 ls [])) → W p l e (rmz (7 + 4 * (d + 1)) 0 0) s m args below meth c H locs 0 0 Q (F0 m 41 ls []) := by
      clear hf ho11 hw hl
      intro k
      induction k with
      | zero => intro v1 v2 v3 x_at x_begun x_token x_value x_opened x_steps x_code0 H locs ls o hf hw hl kx; simp [X12_readsOne_L2] at hf
      | succ k ih =>
        intro v1 v2 v3 x_at x_begun x_token x_value x_opened x_steps x_code0 H locs ls o hf hw hl kx
        rw [X12_readsOne_L2] at hf
        refine lv_iload_n hx hb dX12_readsOne_41 rfl (lv_at hl 3 rfl) ?_
        refine lv_iload_n hx hb dX12_readsOne_42 rfl (lv_at hl 1 rfl) ?_
        refine lv_icmp_ge (tgt := 63) hx hb dX12_readsOne_43 (by decide) (fun hc => ?_) (fun hc => ?_)
        · have hf := ifT hf hc
          have hf := Option.some.inj hf
          subst hf
          exact kx _ _ _ hw (lv_sub hl [0, 1, 2, 3] rfl)
        · have hf := ifF hf hc
          refine lv_iload_n hx hb dX12_readsOne_46 rfl (lv_at hl 2 rfl) ?_
          refine lv_if_eq (tgt := 63) hx hb dX12_readsOne_47 (by decide) (fun hc => ?_) (fun hc => ?_)
          · have hf := ifT hf hc
            have hf := Option.some.inj hf
            subst hf
            exact kx _ _ _ hw (lv_sub hl [0, 1, 2, 3] rfl)
          · have hf := ifF hf hc
            refine lv_aload_n hx hb dX12_readsOne_50 rfl (lv_at hl 0 rfl) ?_
            refine lv_sipush (v := 10015) hx hb dX12_readsOne_51 (by decide) ?_
            obtain ⟨r9, h10, hf⟩ := bnS hf
            refine calVv (k := 0) cx hw hl.1 (c_X12_lays h10) q_1274 k_X12_lays rfl rfl rfl dX12_readsOne_54 rfl (Nat.le_of_ble_eq_true rfl) ⟨by show _ ≤ 7 + 4 * (d + 1); omega, by show _ ≤ 64 * (7 + 4 * (d + 1)); omega⟩ ⟨Nat.le_refl _, Nat.le_refl _⟩ (fun H locs hw => ?_)
            refine lv_iinc (v := (v3 + (1 : Int32))) (lv' := [(3, .int (v3 + (1 : Int32))), (0, .ref (a 0)), (1, .int v1), (2, .int v2)]) hx hb dX12_readsOne_57 hl (k := 3) rfl rfl (by decide) rfl (fun ls hl => ?_)
            refine lv_goto (tgt := 41) hx hb dX12_readsOne_60 (by decide) ?_
            exact ih hf hw (lv_sub hl [1, 2, 3, 0] rfl) kx
    refine wL2 n ho11 hw (lv_sub hl [2, 3, 1, 0] rfl) (fun H locs ls hw hl => ?_)
    clear wL2 ho11
    refine lv_iload_n hx hb dX12_readsOne_63 rfl (lv_at hl 2 rfl) ?_
    obtain ⟨h12, hf⟩ := ckS hf
    have hf := Option.some.inj hf
    subst hf
    exact hR _ _ _ _ _ _ hw (nb (bkS h12)) ⟨rfl, rfl⟩ dX12_readsOne_64
  clear hf
  have hf := hj8
  clear hj8
  refine lv_icmp_ne (tgt := 34) hx hb dX12_readsOne_24 (by decide) (fun hc => ?_) (fun hc => ?_)
  · have hf := ifF hf hc
    refine lv_aload_n hx hb dX12_readsOne_34 rfl (lv_at hl 0 rfl) ?_
    obtain ⟨r6, h7, hf⟩ := bnS hf
    refine calVi (k := 0) cx hw hl.1 (c_X12_readsLike h7) q_1266 k_X12_readsLike rfl rfl rfl dX12_readsOne_35 rfl (Nat.le_of_ble_eq_true rfl) ⟨by show _ ≤ 7 + 4 * (d + 1); omega, by show _ ≤ 64 * (7 + 4 * (d + 1)); omega⟩ ⟨Nat.le_refl _, Nat.le_refl _⟩ (fun H locs hw => ?_)
    have hf := Option.some.inj hf
    subst hf
    exact wj8 _ _ _ hw (lv_sub hl [0, 1] rfl)
  · have hf := ifT hf hc
    refine lv_aload_n hx hb dX12_readsOne_27 rfl (lv_at hl 0 rfl) ?_
    obtain ⟨r4, h5, hf⟩ := bnS hf
    refine calVi (k := 0) cx hw hl.1 (hF3 h5) q_1262 k_X12_readsWithin rfl rfl rfl dX12_readsOne_28 rfl (Nat.le_of_ble_eq_true rfl) ⟨by show _ ≤ 7 + 4 * (d + 1); omega, by show _ ≤ 64 * (7 + 4 * (d + 1)); omega⟩ ⟨Nat.le_refl _, Nat.le_refl _⟩ (fun H locs hw => ?_)
    refine lv_goto (tgt := 38) hx hb dX12_readsOne_31 (by decide) ?_
    have hf := Option.some.inj hf
    subst hf
    exact wj8 _ _ _ hw (lv_sub hl [0, 1] rfl)
theorem cb_X12_readsWithin {F : Nat → (Nat → Int32) → Int32 → (Nat → Int32) → Int32 → Int32 → Int32 → Int32 → Int32 → Int32 → (Nat → Int32) → Option (Int32 × Int32 × Int32 × Int32 × Int32 × Int32 × Int32 × (Nat → Int32))} {d : Nat} (hF0 : ∀ {x_s : Nat → Int32} {x_kept : Nat → Int32} {x_laid : Nat → Int32} {x_isKept : Int32} {x_pile : Nat → Int32} {x_tape : Nat → Int32} {x_taped : Int32} {x_letters : Nat → Int32} {x_at : Int32} {x_begun : Int32} {x_token : Int32} {x_value : Int32} {x_opened : Int32} {x_steps : Int32} {x_code0 : Nat → Int32} {x_read : Nat → Int32} {x_saved : Nat → Int32} {x_plan : Nat → Int32} {x_bestPlan : Nat → Int32} {x_most : Int32} {x_many : Int32} {x_few : Int32} {x_everRight : Int32} {x_lagThen : Nat → Int32} {x_shadedThen : Nat → Int32} {x_firstFit : Int32} {x_rows : Nat → Int32} {x_rowMany : Int32} {x_sorts : Nat → Int32} {x_sizes : Nat → Int32} {x_number : Nat → Int32} {x_holds : Nat → Int32} {x_heldOne : Nat → Int32} {x_trace : Nat → Int32} {x_traced : Int32} {x_own : Int32} {x_isParted : Int32} {res : Int32 × Int32 × Int32 × Int32 × Int32 × Int32 × Int32 × (Nat → Int32)}, F 0 x_tape x_taped x_letters x_at x_begun x_token x_value x_opened x_steps x_code0 = some res → MC l E0 D t yX12_readsCondition cX12_readsCondition 2 (some .boolean) (7 + 4 * d) 0 0 [.ref (a 0)] (mW a t x_s x_kept x_laid x_isKept x_pile x_tape x_taped x_letters x_at x_begun x_token x_value x_opened x_steps x_code0 x_read x_saved x_plan x_bestPlan x_most x_many x_few x_everRight x_lagThen x_shadedThen x_firstFit x_rows x_rowMany x_sorts x_sizes x_number x_holds x_heldOne x_trace x_traced x_own x_isParted) (Qi res.1 (mW a t x_s x_kept x_laid x_isKept x_pile x_tape x_taped x_letters res.2.1 res.2.2.1 res.2.2.2.1 res.2.2.2.2.1 res.2.2.2.2.2.1 res.2.2.2.2.2.2.1 res.2.2.2.2.2.2.2 x_read x_saved x_plan x_bestPlan x_most x_many x_few x_everRight x_lagThen x_shadedThen x_firstFit x_rows x_rowMany x_sorts x_sizes x_number x_holds x_heldOne x_trace x_traced x_own x_isParted))) (hF1 : ∀ {x_s : Nat → Int32} {x_kept : Nat → Int32} {x_laid : Nat → Int32} {x_isKept : Int32} {x_pile : Nat → Int32} {x_tape : Nat → Int32} {x_taped : Int32} {x_letters : Nat → Int32} {x_at : Int32} {x_begun : Int32} {x_token : Int32} {x_value : Int32} {x_opened : Int32} {x_steps : Int32} {x_code0 : Nat → Int32} {x_read : Nat → Int32} {x_saved : Nat → Int32} {x_plan : Nat → Int32} {x_bestPlan : Nat → Int32} {x_most : Int32} {x_many : Int32} {x_few : Int32} {x_everRight : Int32} {x_lagThen : Nat → Int32} {x_shadedThen : Nat → Int32} {x_firstFit : Int32} {x_rows : Nat → Int32} {x_rowMany : Int32} {x_sorts : Nat → Int32} {x_sizes : Nat → Int32} {x_number : Nat → Int32} {x_holds : Nat → Int32} {x_heldOne : Nat → Int32} {x_trace : Nat → Int32} {x_traced : Int32} {x_own : Int32} {x_isParted : Int32} {res : Int32 × Int32 × Int32 × Int32 × Int32 × Int32 × Int32 × (Nat → Int32)}, F 1 x_tape x_taped x_letters x_at x_begun x_token x_value x_opened x_steps x_code0 = some res → MC l E0 D t yX12_readsAll cX12_readsAll 2 (some .boolean) (7 + 4 * d) 0 0 [.ref (a 0)] (mW a t x_s x_kept x_laid x_isKept x_pile x_tape x_taped x_letters x_at x_begun x_token x_value x_opened x_steps x_code0 x_read x_saved x_plan x_bestPlan x_most x_many x_few x_everRight x_lagThen x_shadedThen x_firstFit x_rows x_rowMany x_sorts x_sizes x_number x_holds x_heldOne x_trace x_traced x_own x_isParted) (Qi res.1 (mW a t x_s x_kept x_laid x_isKept x_pile x_tape x_taped x_letters res.2.1 res.2.2.1 res.2.2.2.1 res.2.2.2.2.1 res.2.2.2.2.2.1 res.2.2.2.2.2.2.1 res.2.2.2.2.2.2.2 x_read x_saved x_plan x_bestPlan x_most x_many x_few x_everRight x_lagThen x_shadedThen x_firstFit x_rows x_rowMany x_sorts x_sizes x_number x_holds x_heldOne x_trace x_traced x_own x_isParted))) (hF2 : ∀ {x_s : Nat → Int32} {x_kept : Nat → Int32} {x_laid : Nat → Int32} {x_isKept : Int32} {x_pile : Nat → Int32} {x_tape : Nat → Int32} {x_taped : Int32} {x_letters : Nat → Int32} {x_at : Int32} {x_begun : Int32} {x_token : Int32} {x_value : Int32} {x_opened : Int32} {x_steps : Int32} {x_code0 : Nat → Int32} {x_read : Nat → Int32} {x_saved : Nat → Int32} {x_plan : Nat → Int32} {x_bestPlan : Nat → Int32} {x_most : Int32} {x_many : Int32} {x_few : Int32} {x_everRight : Int32} {x_lagThen : Nat → Int32} {x_shadedThen : Nat → Int32} {x_firstFit : Int32} {x_rows : Nat → Int32} {x_rowMany : Int32} {x_sorts : Nat → Int32} {x_sizes : Nat → Int32} {x_number : Nat → Int32} {x_holds : Nat → Int32} {x_heldOne : Nat → Int32} {x_trace : Nat → Int32} {x_traced : Int32} {x_own : Int32} {x_isParted : Int32} {res : Int32 × Int32 × Int32 × Int32 × Int32 × Int32 × Int32 × (Nat → Int32)}, F 2 x_tape x_taped x_letters x_at x_begun x_token x_value x_opened x_steps x_code0 = some res → MC l E0 D t yX12_readsOne cX12_readsOne 4 (some .boolean) (7 + 4 * d) 0 0 [.ref (a 0)] (mW a t x_s x_kept x_laid x_isKept x_pile x_tape x_taped x_letters x_at x_begun x_token x_value x_opened x_steps x_code0 x_read x_saved x_plan x_bestPlan x_most x_many x_few x_everRight x_lagThen x_shadedThen x_firstFit x_rows x_rowMany x_sorts x_sizes x_number x_holds x_heldOne x_trace x_traced x_own x_isParted) (Qi res.1 (mW a t x_s x_kept x_laid x_isKept x_pile x_tape x_taped x_letters res.2.1 res.2.2.1 res.2.2.2.1 res.2.2.2.2.1 res.2.2.2.2.2.1 res.2.2.2.2.2.2.1 res.2.2.2.2.2.2.2 x_read x_saved x_plan x_bestPlan x_most x_many x_few x_everRight x_lagThen x_shadedThen x_firstFit x_rows x_rowMany x_sorts x_sizes x_number x_holds x_heldOne x_trace x_traced x_own x_isParted))) (hF3 : ∀ {x_s : Nat → Int32} {x_kept : Nat → Int32} {x_laid : Nat → Int32} {x_isKept : Int32} {x_pile : Nat → Int32} {x_tape : Nat → Int32} {x_taped : Int32} {x_letters : Nat → Int32} {x_at : Int32} {x_begun : Int32} {x_token : Int32} {x_value : Int32} {x_opened : Int32} {x_steps : Int32} {x_code0 : Nat → Int32} {x_read : Nat → Int32} {x_saved : Nat → Int32} {x_plan : Nat → Int32} {x_bestPlan : Nat → Int32} {x_most : Int32} {x_many : Int32} {x_few : Int32} {x_everRight : Int32} {x_lagThen : Nat → Int32} {x_shadedThen : Nat → Int32} {x_firstFit : Int32} {x_rows : Nat → Int32} {x_rowMany : Int32} {x_sorts : Nat → Int32} {x_sizes : Nat → Int32} {x_number : Nat → Int32} {x_holds : Nat → Int32} {x_heldOne : Nat → Int32} {x_trace : Nat → Int32} {x_traced : Int32} {x_own : Int32} {x_isParted : Int32} {res : Int32 × Int32 × Int32 × Int32 × Int32 × Int32 × Int32 × (Nat → Int32)}, F 3 x_tape x_taped x_letters x_at x_begun x_token x_value x_opened x_steps x_code0 = some res → MC l E0 D t yX12_readsWithin cX12_readsWithin 1 (some .boolean) (7 + 4 * d) 0 0 [.ref (a 0)] (mW a t x_s x_kept x_laid x_isKept x_pile x_tape x_taped x_letters x_at x_begun x_token x_value x_opened x_steps x_code0 x_read x_saved x_plan x_bestPlan x_most x_many x_few x_everRight x_lagThen x_shadedThen x_firstFit x_rows x_rowMany x_sorts x_sizes x_number x_holds x_heldOne x_trace x_traced x_own x_isParted) (Qi res.1 (mW a t x_s x_kept x_laid x_isKept x_pile x_tape x_taped x_letters res.2.1 res.2.2.1 res.2.2.2.1 res.2.2.2.2.1 res.2.2.2.2.2.1 res.2.2.2.2.2.2.1 res.2.2.2.2.2.2.2 x_read x_saved x_plan x_bestPlan x_most x_many x_few x_everRight x_lagThen x_shadedThen x_firstFit x_rows x_rowMany x_sorts x_sizes x_number x_holds x_heldOne x_trace x_traced x_own x_isParted))) {res : Int32 × Int32 × Int32 × Int32 × Int32 × Int32 × Int32 × (Nat → Int32)} (hf : X12_readsWithin_b n F x_tape x_taped x_letters x_at x_begun x_token x_value x_opened x_steps x_code0 = some res) : MC l E0 D t yX12_readsWithin cX12_readsWithin 1 (some .boolean) (7 + 4 * (d + 1)) 0 0 [.ref (a 0)] (mW a t x_s x_kept x_laid x_isKept x_pile x_tape x_taped x_letters x_at x_begun x_token x_value x_opened x_steps x_code0 x_read x_saved x_plan x_bestPlan x_most x_many x_few x_everRight x_lagThen x_shadedThen x_firstFit x_rows x_rowMany x_sorts x_sizes x_number x_holds x_heldOne x_trace x_traced x_own x_isParted) (Qi res.1 (mW a t x_s x_kept x_laid x_isKept x_pile x_tape x_taped x_letters res.2.1 res.2.2.1 res.2.2.2.1 res.2.2.2.2.1 res.2.2.2.2.2.1 res.2.2.2.2.2.2.1 res.2.2.2.2.2.2.2 x_read x_saved x_plan x_bestPlan x_most x_many x_few x_everRight x_lagThen x_shadedThen x_firstFit x_rows x_rowMany x_sorts x_sizes x_number x_holds x_heldOne x_trace x_traced x_own x_isParted)) := by
  unfold X12_readsWithin_b at hf
  refine MC.ofI pn_X12 (Nat.le_of_ble_eq_true rfl) ?_
  intro p e s m args below meth c A Q ls cx hR hw hl
  have hx := cx.1
  have hb := cx.2.1
  have hl : lv_has ls 1 [(0, .ref (a 0))] := hl
  refine lv_aload_n hx hb dX12_readsWithin_0 rfl (lv_at hl 0 rfl) ?_
  refine mg_opened cx hw dX12_readsWithin_1 ?_
  refine lv_iconst (v := 3) hx hb dX12_readsWithin_4 (by decide) ?_
  refine lv_icmp_ne (tgt := 10) hx hb dX12_readsWithin_5 (by decide) (fun hc => ?_) (fun hc => ?_)
  · have hf := ifF hf hc
    refine lv_aload_n hx hb dX12_readsWithin_10 rfl (lv_at hl 0 rfl) ?_
    refine lv_dup hx hb dX12_readsWithin_11 rfl ?_
    refine mg_opened cx hw dX12_readsWithin_12 ?_
    refine lv_iconst (v := 1) hx hb dX12_readsWithin_15 (by decide) ?_
    refine lv_iadd hx hb dX12_readsWithin_16 ?_
    refine mp_opened cx hw dX12_readsWithin_17 (fun H locs hw => ?_)
    refine lv_aload_n hx hb dX12_readsWithin_20 rfl (lv_at hl 0 rfl) ?_
    obtain ⟨r1, h2, hf⟩ := bnS hf
    refine calVv (k := 0) cx hw hl.1 (c_X12_next h2) q_1222 k_X12_next rfl rfl rfl dX12_readsWithin_21 rfl (Nat.le_of_ble_eq_true rfl) ⟨by show _ ≤ 7 + 4 * (d + 1); omega, by show _ ≤ 64 * (7 + 4 * (d + 1)); omega⟩ ⟨Nat.le_refl _, Nat.le_refl _⟩ (fun H locs hw => ?_)
    refine lv_aload_n hx hb dX12_readsWithin_24 rfl (lv_at hl 0 rfl) ?_
    obtain ⟨r3, h4, hf⟩ := bnS hf
    refine calVi (k := 0) cx hw hl.1 (hF0 h4) q_1250 k_X12_readsCondition rfl rfl rfl dX12_readsWithin_25 rfl (Nat.le_of_ble_eq_true rfl) ⟨by show _ ≤ 7 + 4 * (d + 1); omega, by show _ ≤ 64 * (7 + 4 * (d + 1)); omega⟩ ⟨Nat.le_refl _, Nat.le_refl _⟩ (fun H locs hw => ?_)
    refine lv_if_eq (tgt := 41) hx hb dX12_readsWithin_28 (by decide) (fun hc => ?_) (fun hc => ?_)
    · have hf := ifT hf hc
      refine lv_iconst (v := 0) hx hb dX12_readsWithin_41 (by decide) ?_
      have hf := Option.some.inj hf
      subst hf
      exact hR _ _ _ _ _ _ hw rfl ⟨rfl, rfl⟩ dX12_readsWithin_42
    · have hf := ifF hf hc
      refine lv_aload_n hx hb dX12_readsWithin_31 rfl (lv_at hl 0 rfl) ?_
      refine lv_sipush (v := 241) hx hb dX12_readsWithin_32 (by decide) ?_
      obtain ⟨r5, h6, hf⟩ := bnS hf
      refine calVi (k := 0) cx hw hl.1 (c_X12_takes h6) q_1246 k_X12_takes rfl rfl rfl dX12_readsWithin_35 rfl (Nat.le_of_ble_eq_true rfl) ⟨by show _ ≤ 7 + 4 * (d + 1); omega, by show _ ≤ 64 * (7 + 4 * (d + 1)); omega⟩ ⟨Nat.le_refl _, Nat.le_refl _⟩ (fun H locs hw => ?_)
      refine lv_if_ne (tgt := 43) hx hb dX12_readsWithin_38 (by decide) (fun hc => ?_) (fun hc => ?_)
      · have hf := ifF hf hc
        refine lv_aload_n hx hb dX12_readsWithin_43 rfl (lv_at hl 0 rfl) ?_
        refine lv_dup hx hb dX12_readsWithin_44 rfl ?_
        refine mg_opened cx hw dX12_readsWithin_45 ?_
        refine lv_iconst (v := 1) hx hb dX12_readsWithin_48 (by decide) ?_
        refine lv_isub hx hb dX12_readsWithin_49 ?_
        refine mp_opened cx hw dX12_readsWithin_50 (fun H locs hw => ?_)
        refine lv_iconst (v := 1) hx hb dX12_readsWithin_53 (by decide) ?_
        have hf := Option.some.inj hf
        subst hf
        exact hR _ _ _ _ _ _ hw rfl ⟨rfl, rfl⟩ dX12_readsWithin_54
      · have hf := ifT hf hc
        refine lv_iconst (v := 0) hx hb dX12_readsWithin_41 (by decide) ?_
        have hf := Option.some.inj hf
        subst hf
        exact hR _ _ _ _ _ _ hw rfl ⟨rfl, rfl⟩ dX12_readsWithin_42
  · have hf := ifT hf hc
    refine lv_iconst (v := 0) hx hb dX12_readsWithin_8 (by decide) ?_
    have hf := Option.some.inj hf
    subst hf
    exact hR _ _ _ _ _ _ hw rfl ⟨rfl, rfl⟩ dX12_readsWithin_9
theorem cg_X12_readsCondition_G : ∀ d : Nat, (∀ {x_s : Nat → Int32} {x_kept : Nat → Int32} {x_laid : Nat → Int32} {x_isKept : Int32} {x_pile : Nat → Int32} {x_tape : Nat → Int32} {x_taped : Int32} {x_letters : Nat → Int32} {x_at : Int32} {x_begun : Int32} {x_token : Int32} {x_value : Int32} {x_opened : Int32} {x_steps : Int32} {x_code0 : Nat → Int32} {x_read : Nat → Int32} {x_saved : Nat → Int32} {x_plan : Nat → Int32} {x_bestPlan : Nat → Int32} {x_most : Int32} {x_many : Int32} {x_few : Int32} {x_everRight : Int32} {x_lagThen : Nat → Int32} {x_shadedThen : Nat → Int32} {x_firstFit : Int32} {x_rows : Nat → Int32} {x_rowMany : Int32} {x_sorts : Nat → Int32} {x_sizes : Nat → Int32} {x_number : Nat → Int32} {x_holds : Nat → Int32} {x_heldOne : Nat → Int32} {x_trace : Nat → Int32} {x_traced : Int32} {x_own : Int32} {x_isParted : Int32} {res : Int32 × Int32 × Int32 × Int32 × Int32 × Int32 × Int32 × (Nat → Int32)}, X12_readsCondition_G n d 0 x_tape x_taped x_letters x_at x_begun x_token x_value x_opened x_steps x_code0 = some res → MC l E0 D t yX12_readsCondition cX12_readsCondition 2 (some .boolean) (7 + 4 * d) 0 0 [.ref (a 0)] (mW a t x_s x_kept x_laid x_isKept x_pile x_tape x_taped x_letters x_at x_begun x_token x_value x_opened x_steps x_code0 x_read x_saved x_plan x_bestPlan x_most x_many x_few x_everRight x_lagThen x_shadedThen x_firstFit x_rows x_rowMany x_sorts x_sizes x_number x_holds x_heldOne x_trace x_traced x_own x_isParted) (Qi res.1 (mW a t x_s x_kept x_laid x_isKept x_pile x_tape x_taped x_letters res.2.1 res.2.2.1 res.2.2.2.1 res.2.2.2.2.1 res.2.2.2.2.2.1 res.2.2.2.2.2.2.1 res.2.2.2.2.2.2.2 x_read x_saved x_plan x_bestPlan x_most x_many x_few x_everRight x_lagThen x_shadedThen x_firstFit x_rows x_rowMany x_sorts x_sizes x_number x_holds x_heldOne x_trace x_traced x_own x_isParted))) ∧ (∀ {x_s : Nat → Int32} {x_kept : Nat → Int32} {x_laid : Nat → Int32} {x_isKept : Int32} {x_pile : Nat → Int32} {x_tape : Nat → Int32} {x_taped : Int32} {x_letters : Nat → Int32} {x_at : Int32} {x_begun : Int32} {x_token : Int32} {x_value : Int32} {x_opened : Int32} {x_steps : Int32} {x_code0 : Nat → Int32} {x_read : Nat → Int32} {x_saved : Nat → Int32} {x_plan : Nat → Int32} {x_bestPlan : Nat → Int32} {x_most : Int32} {x_many : Int32} {x_few : Int32} {x_everRight : Int32} {x_lagThen : Nat → Int32} {x_shadedThen : Nat → Int32} {x_firstFit : Int32} {x_rows : Nat → Int32} {x_rowMany : Int32} {x_sorts : Nat → Int32} {x_sizes : Nat → Int32} {x_number : Nat → Int32} {x_holds : Nat → Int32} {x_heldOne : Nat → Int32} {x_trace : Nat → Int32} {x_traced : Int32} {x_own : Int32} {x_isParted : Int32} {res : Int32 × Int32 × Int32 × Int32 × Int32 × Int32 × Int32 × (Nat → Int32)}, X12_readsCondition_G n d 1 x_tape x_taped x_letters x_at x_begun x_token x_value x_opened x_steps x_code0 = some res → MC l E0 D t yX12_readsAll cX12_readsAll 2 (some .boolean) (7 + 4 * d) 0 0 [.ref (a 0)] (mW a t x_s x_kept x_laid x_isKept x_pile x_tape x_taped x_letters x_at x_begun x_token x_value x_opened x_steps x_code0 x_read x_saved x_plan x_bestPlan x_most x_many x_few x_everRight x_lagThen x_shadedThen x_firstFit x_rows x_rowMany x_sorts x_sizes x_number x_holds x_heldOne x_trace x_traced x_own x_isParted) (Qi res.1 (mW a t x_s x_kept x_laid x_isKept x_pile x_tape x_taped x_letters res.2.1 res.2.2.1 res.2.2.2.1 res.2.2.2.2.1 res.2.2.2.2.2.1 res.2.2.2.2.2.2.1 res.2.2.2.2.2.2.2 x_read x_saved x_plan x_bestPlan x_most x_many x_few x_everRight x_lagThen x_shadedThen x_firstFit x_rows x_rowMany x_sorts x_sizes x_number x_holds x_heldOne x_trace x_traced x_own x_isParted))) ∧ (∀ {x_s : Nat → Int32} {x_kept : Nat → Int32} {x_laid : Nat → Int32} {x_isKept : Int32} {x_pile : Nat → Int32} {x_tape : Nat → Int32} {x_taped : Int32} {x_letters : Nat → Int32} {x_at : Int32} {x_begun : Int32} {x_token : Int32} {x_value : Int32} {x_opened : Int32} {x_steps : Int32} {x_code0 : Nat → Int32} {x_read : Nat → Int32} {x_saved : Nat → Int32} {x_plan : Nat → Int32} {x_bestPlan : Nat → Int32} {x_most : Int32} {x_many : Int32} {x_few : Int32} {x_everRight : Int32} {x_lagThen : Nat → Int32} {x_shadedThen : Nat → Int32} {x_firstFit : Int32} {x_rows : Nat → Int32} {x_rowMany : Int32} {x_sorts : Nat → Int32} {x_sizes : Nat → Int32} {x_number : Nat → Int32} {x_holds : Nat → Int32} {x_heldOne : Nat → Int32} {x_trace : Nat → Int32} {x_traced : Int32} {x_own : Int32} {x_isParted : Int32} {res : Int32 × Int32 × Int32 × Int32 × Int32 × Int32 × Int32 × (Nat → Int32)}, X12_readsCondition_G n d 2 x_tape x_taped x_letters x_at x_begun x_token x_value x_opened x_steps x_code0 = some res → MC l E0 D t yX12_readsOne cX12_readsOne 4 (some .boolean) (7 + 4 * d) 0 0 [.ref (a 0)] (mW a t x_s x_kept x_laid x_isKept x_pile x_tape x_taped x_letters x_at x_begun x_token x_value x_opened x_steps x_code0 x_read x_saved x_plan x_bestPlan x_most x_many x_few x_everRight x_lagThen x_shadedThen x_firstFit x_rows x_rowMany x_sorts x_sizes x_number x_holds x_heldOne x_trace x_traced x_own x_isParted) (Qi res.1 (mW a t x_s x_kept x_laid x_isKept x_pile x_tape x_taped x_letters res.2.1 res.2.2.1 res.2.2.2.1 res.2.2.2.2.1 res.2.2.2.2.2.1 res.2.2.2.2.2.2.1 res.2.2.2.2.2.2.2 x_read x_saved x_plan x_bestPlan x_most x_many x_few x_everRight x_lagThen x_shadedThen x_firstFit x_rows x_rowMany x_sorts x_sizes x_number x_holds x_heldOne x_trace x_traced x_own x_isParted))) ∧ (∀ {x_s : Nat → Int32} {x_kept : Nat → Int32} {x_laid : Nat → Int32} {x_isKept : Int32} {x_pile : Nat → Int32} {x_tape : Nat → Int32} {x_taped : Int32} {x_letters : Nat → Int32} {x_at : Int32} {x_begun : Int32} {x_token : Int32} {x_value : Int32} {x_opened : Int32} {x_steps : Int32} {x_code0 : Nat → Int32} {x_read : Nat → Int32} {x_saved : Nat → Int32} {x_plan : Nat → Int32} {x_bestPlan : Nat → Int32} {x_most : Int32} {x_many : Int32} {x_few : Int32} {x_everRight : Int32} {x_lagThen : Nat → Int32} {x_shadedThen : Nat → Int32} {x_firstFit : Int32} {x_rows : Nat → Int32} {x_rowMany : Int32} {x_sorts : Nat → Int32} {x_sizes : Nat → Int32} {x_number : Nat → Int32} {x_holds : Nat → Int32} {x_heldOne : Nat → Int32} {x_trace : Nat → Int32} {x_traced : Int32} {x_own : Int32} {x_isParted : Int32} {res : Int32 × Int32 × Int32 × Int32 × Int32 × Int32 × Int32 × (Nat → Int32)}, X12_readsCondition_G n d 3 x_tape x_taped x_letters x_at x_begun x_token x_value x_opened x_steps x_code0 = some res → MC l E0 D t yX12_readsWithin cX12_readsWithin 1 (some .boolean) (7 + 4 * d) 0 0 [.ref (a 0)] (mW a t x_s x_kept x_laid x_isKept x_pile x_tape x_taped x_letters x_at x_begun x_token x_value x_opened x_steps x_code0 x_read x_saved x_plan x_bestPlan x_most x_many x_few x_everRight x_lagThen x_shadedThen x_firstFit x_rows x_rowMany x_sorts x_sizes x_number x_holds x_heldOne x_trace x_traced x_own x_isParted) (Qi res.1 (mW a t x_s x_kept x_laid x_isKept x_pile x_tape x_taped x_letters res.2.1 res.2.2.1 res.2.2.2.1 res.2.2.2.2.1 res.2.2.2.2.2.1 res.2.2.2.2.2.2.1 res.2.2.2.2.2.2.2 x_read x_saved x_plan x_bestPlan x_most x_many x_few x_everRight x_lagThen x_shadedThen x_firstFit x_rows x_rowMany x_sorts x_sizes x_number x_holds x_heldOne x_trace x_traced x_own x_isParted))) := by
  intro d
  induction d with
  | zero => refine ⟨?_, ?_, ?_, ?_⟩ <;> (intros; rename_i hf; simp [X12_readsCondition_G] at hf)
  | succ d ih =>
    obtain ⟨i0, i1, i2, i3⟩ := ih
    refine ⟨?_, ?_, ?_, ?_⟩
    · intros; rename_i hf; rw [X12_readsCondition_G] at hf; exact cb_X12_readsCondition (fun h => i0 h) (fun h => i1 h) (fun h => i2 h) (fun h => i3 h) hf
    · intros; rename_i hf; rw [X12_readsCondition_G] at hf; exact cb_X12_readsAll (fun h => i0 h) (fun h => i1 h) (fun h => i2 h) (fun h => i3 h) hf
    · intros; rename_i hf; rw [X12_readsCondition_G] at hf; exact cb_X12_readsOne (fun h => i0 h) (fun h => i1 h) (fun h => i2 h) (fun h => i3 h) hf
    · intros; rename_i hf; rw [X12_readsCondition_G] at hf; exact cb_X12_readsWithin (fun h => i0 h) (fun h => i1 h) (fun h => i2 h) (fun h => i3 h) hf
theorem c_X12_readsCondition {d : Nat} {res : Int32 × Int32 × Int32 × Int32 × Int32 × Int32 × Int32 × (Nat → Int32)} (hf : X12_readsCondition n d x_tape x_taped x_letters x_at x_begun x_token x_value x_opened x_steps x_code0 = some res) : MC l E0 D t yX12_readsCondition cX12_readsCondition 2 (some .boolean) (7 + 4 * d) 0 0 [.ref (a 0)] (mW a t x_s x_kept x_laid x_isKept x_pile x_tape x_taped x_letters x_at x_begun x_token x_value x_opened x_steps x_code0 x_read x_saved x_plan x_bestPlan x_most x_many x_few x_everRight x_lagThen x_shadedThen x_firstFit x_rows x_rowMany x_sorts x_sizes x_number x_holds x_heldOne x_trace x_traced x_own x_isParted) (Qi res.1 (mW a t x_s x_kept x_laid x_isKept x_pile x_tape x_taped x_letters res.2.1 res.2.2.1 res.2.2.2.1 res.2.2.2.2.1 res.2.2.2.2.2.1 res.2.2.2.2.2.2.1 res.2.2.2.2.2.2.2 x_read x_saved x_plan x_bestPlan x_most x_many x_few x_everRight x_lagThen x_shadedThen x_firstFit x_rows x_rowMany x_sorts x_sizes x_number x_holds x_heldOne x_trace x_traced x_own x_isParted)) := (cg_X12_readsCondition_G d).1 hf
theorem c_X12_readsAll {d : Nat} {res : Int32 × Int32 × Int32 × Int32 × Int32 × Int32 × Int32 × (Nat → Int32)} (hf : X12_readsAll n d x_tape x_taped x_letters x_at x_begun x_token x_value x_opened x_steps x_code0 = some res) : MC l E0 D t yX12_readsAll cX12_readsAll 2 (some .boolean) (7 + 4 * d) 0 0 [.ref (a 0)] (mW a t x_s x_kept x_laid x_isKept x_pile x_tape x_taped x_letters x_at x_begun x_token x_value x_opened x_steps x_code0 x_read x_saved x_plan x_bestPlan x_most x_many x_few x_everRight x_lagThen x_shadedThen x_firstFit x_rows x_rowMany x_sorts x_sizes x_number x_holds x_heldOne x_trace x_traced x_own x_isParted) (Qi res.1 (mW a t x_s x_kept x_laid x_isKept x_pile x_tape x_taped x_letters res.2.1 res.2.2.1 res.2.2.2.1 res.2.2.2.2.1 res.2.2.2.2.2.1 res.2.2.2.2.2.2.1 res.2.2.2.2.2.2.2 x_read x_saved x_plan x_bestPlan x_most x_many x_few x_everRight x_lagThen x_shadedThen x_firstFit x_rows x_rowMany x_sorts x_sizes x_number x_holds x_heldOne x_trace x_traced x_own x_isParted)) := (cg_X12_readsCondition_G d).2.1 hf
theorem c_X12_readsOne {d : Nat} {res : Int32 × Int32 × Int32 × Int32 × Int32 × Int32 × Int32 × (Nat → Int32)} (hf : X12_readsOne n d x_tape x_taped x_letters x_at x_begun x_token x_value x_opened x_steps x_code0 = some res) : MC l E0 D t yX12_readsOne cX12_readsOne 4 (some .boolean) (7 + 4 * d) 0 0 [.ref (a 0)] (mW a t x_s x_kept x_laid x_isKept x_pile x_tape x_taped x_letters x_at x_begun x_token x_value x_opened x_steps x_code0 x_read x_saved x_plan x_bestPlan x_most x_many x_few x_everRight x_lagThen x_shadedThen x_firstFit x_rows x_rowMany x_sorts x_sizes x_number x_holds x_heldOne x_trace x_traced x_own x_isParted) (Qi res.1 (mW a t x_s x_kept x_laid x_isKept x_pile x_tape x_taped x_letters res.2.1 res.2.2.1 res.2.2.2.1 res.2.2.2.2.1 res.2.2.2.2.2.1 res.2.2.2.2.2.2.1 res.2.2.2.2.2.2.2 x_read x_saved x_plan x_bestPlan x_most x_many x_few x_everRight x_lagThen x_shadedThen x_firstFit x_rows x_rowMany x_sorts x_sizes x_number x_holds x_heldOne x_trace x_traced x_own x_isParted)) := (cg_X12_readsCondition_G d).2.2.1 hf
theorem c_X12_readsWithin {d : Nat} {res : Int32 × Int32 × Int32 × Int32 × Int32 × Int32 × Int32 × (Nat → Int32)} (hf : X12_readsWithin n d x_tape x_taped x_letters x_at x_begun x_token x_value x_opened x_steps x_code0 = some res) : MC l E0 D t yX12_readsWithin cX12_readsWithin 1 (some .boolean) (7 + 4 * d) 0 0 [.ref (a 0)] (mW a t x_s x_kept x_laid x_isKept x_pile x_tape x_taped x_letters x_at x_begun x_token x_value x_opened x_steps x_code0 x_read x_saved x_plan x_bestPlan x_most x_many x_few x_everRight x_lagThen x_shadedThen x_firstFit x_rows x_rowMany x_sorts x_sizes x_number x_holds x_heldOne x_trace x_traced x_own x_isParted) (Qi res.1 (mW a t x_s x_kept x_laid x_isKept x_pile x_tape x_taped x_letters res.2.1 res.2.2.1 res.2.2.2.1 res.2.2.2.2.1 res.2.2.2.2.2.1 res.2.2.2.2.2.2.1 res.2.2.2.2.2.2.2 x_read x_saved x_plan x_bestPlan x_most x_many x_few x_everRight x_lagThen x_shadedThen x_firstFit x_rows x_rowMany x_sorts x_sizes x_number x_holds x_heldOne x_trace x_traced x_own x_isParted)) := (cg_X12_readsCondition_G d).2.2.2 hf
theorem dX12_readsRule_0 : decode cX12_readsRule 0 = .ok (.iload_n 1, 1) := by decide +kernel
theorem dX12_readsRule_1 : decode cX12_readsRule 1 = .ok (.bipush 8, 2) := by decide +kernel
theorem dX12_readsRule_3 : decode cX12_readsRule 3 = .ok (.if_icmp .eq 15, 3) := by decide +kernel
theorem dX12_readsRule_6 : decode cX12_readsRule 6 = .ok (.aload_n 0, 1) := by decide +kernel
theorem dX12_readsRule_7 : decode cX12_readsRule 7 = .ok (.getfield 141, 3) := by decide +kernel
theorem dX12_readsRule_10 : decode cX12_readsRule 10 = .ok (.iconst 0, 1) := by decide +kernel
theorem dX12_readsRule_11 : decode cX12_readsRule 11 = .ok (.iconst 5, 1) := by decide +kernel
theorem dX12_readsRule_12 : decode cX12_readsRule 12 = .ok (.invokestatic 71, 3) := by decide +kernel
theorem dX12_readsRule_15 : decode cX12_readsRule 15 = .ok (.ifCond .ne 5, 3) := by decide +kernel
theorem dX12_readsRule_18 : decode cX12_readsRule 18 = .ok (.iconst 0, 1) := by decide +kernel
theorem dX12_readsRule_19 : decode cX12_readsRule 19 = .ok (.ireturn, 1) := by decide +kernel
theorem dX12_readsRule_20 : decode cX12_readsRule 20 = .ok (.aload_n 0, 1) := by decide +kernel
theorem dX12_readsRule_21 : decode cX12_readsRule 21 = .ok (.getfield 32, 3) := by decide +kernel
theorem dX12_readsRule_24 : decode cX12_readsRule 24 = .ok (.iconst 3, 1) := by decide +kernel
theorem dX12_readsRule_25 : decode cX12_readsRule 25 = .ok (.iload_n 1, 1) := by decide +kernel
theorem dX12_readsRule_26 : decode cX12_readsRule 26 = .ok (.imul, 1) := by decide +kernel
theorem dX12_readsRule_27 : decode cX12_readsRule 27 = .ok (.aload_n 0, 1) := by decide +kernel
theorem dX12_readsRule_28 : decode cX12_readsRule 28 = .ok (.getfield 141, 3) := by decide +kernel
theorem dX12_readsRule_31 : decode cX12_readsRule 31 = .ok (.iastore, 1) := by decide +kernel
theorem dX12_readsRule_32 : decode cX12_readsRule 32 = .ok (.aload_n 0, 1) := by decide +kernel
theorem dX12_readsRule_33 : decode cX12_readsRule 33 = .ok (.invokevirtual 157, 3) := by decide +kernel
theorem dX12_readsRule_36 : decode cX12_readsRule 36 = .ok (.aload_n 0, 1) := by decide +kernel
theorem dX12_readsRule_37 : decode cX12_readsRule 37 = .ok (.iconst 0, 1) := by decide +kernel
theorem dX12_readsRule_38 : decode cX12_readsRule 38 = .ok (.putfield 171, 3) := by decide +kernel
theorem dX12_readsRule_41 : decode cX12_readsRule 41 = .ok (.aload_n 0, 1) := by decide +kernel
theorem dX12_readsRule_42 : decode cX12_readsRule 42 = .ok (.bipush 9, 2) := by decide +kernel
theorem dX12_readsRule_44 : decode cX12_readsRule 44 = .ok (.invokevirtual 177, 3) := by decide +kernel
theorem dX12_readsRule_47 : decode cX12_readsRule 47 = .ok (.ifCond .eq 12, 3) := by decide +kernel
theorem dX12_readsRule_50 : decode cX12_readsRule 50 = .ok (.aload_n 0, 1) := by decide +kernel
theorem dX12_readsRule_51 : decode cX12_readsRule 51 = .ok (.invokevirtual 174, 3) := by decide +kernel
theorem dX12_readsRule_54 : decode cX12_readsRule 54 = .ok (.ifCond .ne 5, 3) := by decide +kernel
theorem dX12_readsRule_57 : decode cX12_readsRule 57 = .ok (.iconst 0, 1) := by decide +kernel
theorem dX12_readsRule_58 : decode cX12_readsRule 58 = .ok (.ireturn, 1) := by decide +kernel
theorem dX12_readsRule_59 : decode cX12_readsRule 59 = .ok (.aload_n 0, 1) := by decide +kernel
theorem dX12_readsRule_60 : decode cX12_readsRule 60 = .ok (.getfield 141, 3) := by decide +kernel
theorem dX12_readsRule_63 : decode cX12_readsRule 63 = .ok (.bipush 6, 2) := by decide +kernel
theorem dX12_readsRule_65 : decode cX12_readsRule 65 = .ok (.bipush 8, 2) := by decide +kernel
theorem dX12_readsRule_67 : decode cX12_readsRule 67 = .ok (.invokestatic 71, 3) := by decide +kernel
theorem dX12_readsRule_70 : decode cX12_readsRule 70 = .ok (.ifCond .ne 5, 3) := by decide +kernel
theorem dX12_readsRule_73 : decode cX12_readsRule 73 = .ok (.iconst 0, 1) := by decide +kernel
theorem dX12_readsRule_74 : decode cX12_readsRule 74 = .ok (.ireturn, 1) := by decide +kernel
theorem dX12_readsRule_75 : decode cX12_readsRule 75 = .ok (.aload_n 0, 1) := by decide +kernel
theorem dX12_readsRule_76 : decode cX12_readsRule 76 = .ok (.getfield 32, 3) := by decide +kernel
theorem dX12_readsRule_79 : decode cX12_readsRule 79 = .ok (.iconst 3, 1) := by decide +kernel
theorem dX12_readsRule_80 : decode cX12_readsRule 80 = .ok (.iload_n 1, 1) := by decide +kernel
theorem dX12_readsRule_81 : decode cX12_readsRule 81 = .ok (.imul, 1) := by decide +kernel
theorem dX12_readsRule_82 : decode cX12_readsRule 82 = .ok (.iconst 1, 1) := by decide +kernel
theorem dX12_readsRule_83 : decode cX12_readsRule 83 = .ok (.iadd, 1) := by decide +kernel
theorem dX12_readsRule_84 : decode cX12_readsRule 84 = .ok (.aload_n 0, 1) := by decide +kernel
theorem dX12_readsRule_85 : decode cX12_readsRule 85 = .ok (.getfield 141, 3) := by decide +kernel
theorem dX12_readsRule_88 : decode cX12_readsRule 88 = .ok (.bipush 6, 2) := by decide +kernel
theorem dX12_readsRule_90 : decode cX12_readsRule 90 = .ok (.isub, 1) := by decide +kernel
theorem dX12_readsRule_91 : decode cX12_readsRule 91 = .ok (.iastore, 1) := by decide +kernel
theorem dX12_readsRule_92 : decode cX12_readsRule 92 = .ok (.aload_n 0, 1) := by decide +kernel
theorem dX12_readsRule_93 : decode cX12_readsRule 93 = .ok (.getfield 32, 3) := by decide +kernel
theorem dX12_readsRule_96 : decode cX12_readsRule 96 = .ok (.iconst 3, 1) := by decide +kernel
theorem dX12_readsRule_97 : decode cX12_readsRule 97 = .ok (.iload_n 1, 1) := by decide +kernel
theorem dX12_readsRule_98 : decode cX12_readsRule 98 = .ok (.imul, 1) := by decide +kernel
theorem dX12_readsRule_99 : decode cX12_readsRule 99 = .ok (.iconst 2, 1) := by decide +kernel
theorem dX12_readsRule_100 : decode cX12_readsRule 100 = .ok (.iadd, 1) := by decide +kernel
theorem dX12_readsRule_101 : decode cX12_readsRule 101 = .ok (.aload_n 0, 1) := by decide +kernel
theorem dX12_readsRule_102 : decode cX12_readsRule 102 = .ok (.getfield 160, 3) := by decide +kernel
theorem dX12_readsRule_105 : decode cX12_readsRule 105 = .ok (.iastore, 1) := by decide +kernel
theorem dX12_readsRule_106 : decode cX12_readsRule 106 = .ok (.aload_n 0, 1) := by decide +kernel
theorem dX12_readsRule_107 : decode cX12_readsRule 107 = .ok (.invokevirtual 157, 3) := by decide +kernel
theorem dX12_readsRule_110 : decode cX12_readsRule 110 = .ok (.aload_n 0, 1) := by decide +kernel
theorem dX12_readsRule_111 : decode cX12_readsRule 111 = .ok (.sipush 259, 3) := by decide +kernel
theorem dX12_readsRule_114 : decode cX12_readsRule 114 = .ok (.invokevirtual 177, 3) := by decide +kernel
theorem dX12_readsRule_117 : decode cX12_readsRule 117 = .ok (.ireturn, 1) := by decide +kernel
theorem k_X12_readsRule : MV yX12_readsRule cX12_readsRule 2 (some .boolean) 1 := ⟨q_1244, qs_35, q_14, q_1245, ⟨by decide, by decide, by decide +kernel⟩⟩
theorem c_X12_readsRule {res : Int32 × Int32 × Int32 × Int32 × Int32 × Int32 × Int32 × (Nat → Int32) × (Nat → Int32)} (hf : X12_readsRule n x_tape x_taped x_letters x_at x_begun x_token x_value x_opened x_steps x_code0 x_read v1 = some res) : MC l E0 D t yX12_readsRule cX12_readsRule 2 (some .boolean) 88 0 0 [.ref (a 0), .int v1] (mW a t x_s x_kept x_laid x_isKept x_pile x_tape x_taped x_letters x_at x_begun x_token x_value x_opened x_steps x_code0 x_read x_saved x_plan x_bestPlan x_most x_many x_few x_everRight x_lagThen x_shadedThen x_firstFit x_rows x_rowMany x_sorts x_sizes x_number x_holds x_heldOne x_trace x_traced x_own x_isParted) (Qi res.1 (mW a t x_s x_kept x_laid x_isKept x_pile x_tape x_taped x_letters res.2.1 res.2.2.1 res.2.2.2.1 res.2.2.2.2.1 res.2.2.2.2.2.1 res.2.2.2.2.2.2.1 res.2.2.2.2.2.2.2.1 res.2.2.2.2.2.2.2.2 x_saved x_plan x_bestPlan x_most x_many x_few x_everRight x_lagThen x_shadedThen x_firstFit x_rows x_rowMany x_sorts x_sizes x_number x_holds x_heldOne x_trace x_traced x_own x_isParted)) := by
  unfold X12_readsRule at hf
  refine MC.ofI pn_X12 (Nat.le_of_ble_eq_true rfl) ?_
  intro p e s m args below meth c A Q ls cx hR hw hl
  have hx := cx.1
  have hb := cx.2.1
  have hl : lv_has ls 2 [(0, .ref (a 0)), (1, .int v1)] := hl
  refine lv_iload_n hx hb dX12_readsRule_0 rfl (lv_at hl 1 rfl) ?_
  refine lv_bipush (v := 8) hx hb dX12_readsRule_1 (by decide) ?_
  refine lv_icmp_eq (tgt := 18) hx hb dX12_readsRule_3 (by decide) (fun hc => ?_) (fun hc => ?_)
  · have hf := ifT hf hc
    refine lv_iconst (v := 0) hx hb dX12_readsRule_18 (by decide) ?_
    have hf := Option.some.inj hf
    subst hf
    exact hR _ _ _ _ _ _ hw rfl ⟨rfl, rfl⟩ dX12_readsRule_19
  · have hf := ifF hf hc
    refine lv_aload_n hx hb dX12_readsRule_6 rfl (lv_at hl 0 rfl) ?_
    refine mg_token cx hw dX12_readsRule_7 ?_
    refine lv_iconst (v := 0) hx hb dX12_readsRule_10 (by decide) ?_
    refine lv_iconst (v := 5) hx hb dX12_readsRule_11 (by decide) ?_
    refine calSi cx hw hl.1 (c_X12_in1 rfl) q_1214 k_X12_in1 rfl dX12_readsRule_12 rfl (Nat.le_of_ble_eq_true rfl) ⟨Nat.le_of_ble_eq_true rfl, Nat.le_of_ble_eq_true rfl⟩ ⟨Nat.le_refl _, Nat.le_refl _⟩ (fun H locs hw => ?_)
    refine lv_if_ne (tgt := 20) hx hb dX12_readsRule_15 (by decide) (fun hc => ?_) (fun hc => ?_)
    · have hf := ifF hf hc
      refine lv_aload_n hx hb dX12_readsRule_20 rfl (lv_at hl 0 rfl) ?_
      refine mg_read cx hw dX12_readsRule_21 ?_
      refine lv_iconst (v := 3) hx hb dX12_readsRule_24 (by decide) ?_
      refine lv_iload_n hx hb dX12_readsRule_25 rfl (lv_at hl 1 rfl) ?_
      refine lv_imul hx hb dX12_readsRule_26 ?_
      refine lv_aload_n hx hb dX12_readsRule_27 rfl (lv_at hl 0 rfl) ?_
      refine mg_token cx hw dX12_readsRule_28 ?_
      obtain ⟨h1, hf⟩ := ckS hf
      refine ms_read (j := ((3 : Int32) * v1).toNatClampNeg) cx hw (ib_in h1) rfl dX12_readsRule_31 (fun H locs hw => ?_)
      refine lv_aload_n hx hb dX12_readsRule_32 rfl (lv_at hl 0 rfl) ?_
      obtain ⟨r2, h3, hf⟩ := bnS hf
      refine calVv (k := 0) cx hw hl.1 (c_X12_next h3) q_1222 k_X12_next rfl rfl rfl dX12_readsRule_33 rfl (Nat.le_of_ble_eq_true rfl) ⟨Nat.le_of_ble_eq_true rfl, Nat.le_of_ble_eq_true rfl⟩ ⟨Nat.le_refl _, Nat.le_refl _⟩ (fun H locs hw => ?_)
      refine lv_aload_n hx hb dX12_readsRule_36 rfl (lv_at hl 0 rfl) ?_
      refine lv_iconst (v := 0) hx hb dX12_readsRule_37 (by decide) ?_
      refine mp_opened cx hw dX12_readsRule_38 (fun H locs hw => ?_)
      refine lv_aload_n hx hb dX12_readsRule_41 rfl (lv_at hl 0 rfl) ?_
      refine lv_bipush (v := 9) hx hb dX12_readsRule_42 (by decide) ?_
      obtain ⟨r4, h5, hf⟩ := bnS hf
      refine calVi (k := 0) cx hw hl.1 (c_X12_takes h5) q_1246 k_X12_takes rfl rfl rfl dX12_readsRule_44 rfl (Nat.le_of_ble_eq_true rfl) ⟨Nat.le_of_ble_eq_true rfl, Nat.le_of_ble_eq_true rfl⟩ ⟨Nat.le_refl _, Nat.le_refl _⟩ (fun H locs hw => ?_)
      obtain ⟨J8, hJ8, hf⟩ := jnS hf
      have wj8 : ∀ (j8 : Int32 × Int32 × Int32 × Int32 × Int32 × Int32 × (Nat → Int32)) (H : Heap) (locs : List Loc) (ls : Array Slot), J8 j8 = some res → Wd D A s (mW a t x_s x_kept x_laid x_isKept x_pile x_tape x_taped x_letters j8.1 j8.2.1 j8.2.2.1 j8.2.2.2.1 j8.2.2.2.2.1 j8.2.2.2.2.2.1 j8.2.2.2.2.2.2 (upd x_read (((3 : Int32) * v1).toNatClampNeg) x_token) x_saved x_plan x_bestPlan x_most x_many x_few x_everRight x_lagThen x_shadedThen x_firstFit x_rows x_rowMany x_sorts x_sizes x_number x_holds x_heldOne x_trace x_traced x_own x_isParted) H locs → lv_has ls 2 [(0, .ref (a 0)), (1, .int v1)] → W p l e (rmz 88 0 0) s m args below meth c H locs 0 0 Q (F0 m 59 ls []) := by
        intro j8 H locs ls hf hw hl
        have hf := hJ8 _ hf
        refine lv_aload_n hx hb dX12_readsRule_59 rfl (lv_at hl 0 rfl) ?_
        refine mg_token cx hw dX12_readsRule_60 ?_
        refine lv_bipush (v := 6) hx hb dX12_readsRule_63 (by decide) ?_
        refine lv_bipush (v := 8) hx hb dX12_readsRule_65 (by decide) ?_
        refine calSi cx hw hl.1 (c_X12_in1 rfl) q_1214 k_X12_in1 rfl dX12_readsRule_67 rfl (Nat.le_of_ble_eq_true rfl) ⟨Nat.le_of_ble_eq_true rfl, Nat.le_of_ble_eq_true rfl⟩ ⟨Nat.le_refl _, Nat.le_refl _⟩ (fun H locs hw => ?_)
        refine lv_if_ne (tgt := 75) hx hb dX12_readsRule_70 (by decide) (fun hc => ?_) (fun hc => ?_)
        · have hf := ifF hf hc
          refine lv_aload_n hx hb dX12_readsRule_75 rfl (lv_at hl 0 rfl) ?_
          refine mg_read cx hw dX12_readsRule_76 ?_
          refine lv_iconst (v := 3) hx hb dX12_readsRule_79 (by decide) ?_
          refine lv_iload_n hx hb dX12_readsRule_80 rfl (lv_at hl 1 rfl) ?_
          refine lv_imul hx hb dX12_readsRule_81 ?_
          refine lv_iconst (v := 1) hx hb dX12_readsRule_82 (by decide) ?_
          refine lv_iadd hx hb dX12_readsRule_83 ?_
          refine lv_aload_n hx hb dX12_readsRule_84 rfl (lv_at hl 0 rfl) ?_
          refine mg_token cx hw dX12_readsRule_85 ?_
          refine lv_bipush (v := 6) hx hb dX12_readsRule_88 (by decide) ?_
          refine lv_isub hx hb dX12_readsRule_90 ?_
          obtain ⟨h9, hf⟩ := ckS hf
          refine ms_read (j := (((3 : Int32) * v1) + (1 : Int32)).toNatClampNeg) cx hw (ib_in h9) rfl dX12_readsRule_91 (fun H locs hw => ?_)
          refine lv_aload_n hx hb dX12_readsRule_92 rfl (lv_at hl 0 rfl) ?_
          refine mg_read cx hw dX12_readsRule_93 ?_
          refine lv_iconst (v := 3) hx hb dX12_readsRule_96 (by decide) ?_
          refine lv_iload_n hx hb dX12_readsRule_97 rfl (lv_at hl 1 rfl) ?_
          refine lv_imul hx hb dX12_readsRule_98 ?_
          refine lv_iconst (v := 2) hx hb dX12_readsRule_99 (by decide) ?_
          refine lv_iadd hx hb dX12_readsRule_100 ?_
          refine lv_aload_n hx hb dX12_readsRule_101 rfl (lv_at hl 0 rfl) ?_
          refine mg_steps cx hw dX12_readsRule_102 ?_
          obtain ⟨h10, hf⟩ := ckS hf
          refine ms_read (j := (((3 : Int32) * v1) + (2 : Int32)).toNatClampNeg) cx hw (ib_in h10) rfl dX12_readsRule_105 (fun H locs hw => ?_)
          refine lv_aload_n hx hb dX12_readsRule_106 rfl (lv_at hl 0 rfl) ?_
          obtain ⟨r11, h12, hf⟩ := bnS hf
          refine calVv (k := 0) cx hw hl.1 (c_X12_next h12) q_1222 k_X12_next rfl rfl rfl dX12_readsRule_107 rfl (Nat.le_of_ble_eq_true rfl) ⟨Nat.le_of_ble_eq_true rfl, Nat.le_of_ble_eq_true rfl⟩ ⟨Nat.le_refl _, Nat.le_refl _⟩ (fun H locs hw => ?_)
          refine lv_aload_n hx hb dX12_readsRule_110 rfl (lv_at hl 0 rfl) ?_
          refine lv_sipush (v := 259) hx hb dX12_readsRule_111 (by decide) ?_
          obtain ⟨r13, h14, hf⟩ := bnS hf
          refine calVi (k := 0) cx hw hl.1 (c_X12_takes h14) q_1246 k_X12_takes rfl rfl rfl dX12_readsRule_114 rfl (Nat.le_of_ble_eq_true rfl) ⟨Nat.le_of_ble_eq_true rfl, Nat.le_of_ble_eq_true rfl⟩ ⟨Nat.le_refl _, Nat.le_refl _⟩ (fun H locs hw => ?_)
          obtain ⟨h15, hf⟩ := ckS hf
          have hf := Option.some.inj hf
          subst hf
          exact hR _ _ _ _ _ _ hw (nb (bkS h15)) ⟨rfl, rfl⟩ dX12_readsRule_117
        · have hf := ifT hf hc
          refine lv_iconst (v := 0) hx hb dX12_readsRule_73 (by decide) ?_
          have hf := Option.some.inj hf
          subst hf
          exact hR _ _ _ _ _ _ hw rfl ⟨rfl, rfl⟩ dX12_readsRule_74
      clear hJ8
      refine lv_if_eq (tgt := 59) hx hb dX12_readsRule_47 (by decide) (fun hc => ?_) (fun hc => ?_)
      · have hf := ifT hf hc
        exact wj8 _ _ _ _ hf hw (lv_sub hl [0, 1] rfl)
      · have hf := ifF hf hc
        refine lv_aload_n hx hb dX12_readsRule_50 rfl (lv_at hl 0 rfl) ?_
        obtain ⟨r6, h7, hf⟩ := bnS hf
        refine calVi (k := 0) cx hw hl.1 (c_X12_readsCondition h7) q_1250 k_X12_readsCondition rfl rfl rfl dX12_readsRule_51 rfl (Nat.le_of_ble_eq_true rfl) ⟨Nat.le_of_ble_eq_true rfl, Nat.le_of_ble_eq_true rfl⟩ ⟨Nat.le_refl _, Nat.le_refl _⟩ (fun H locs hw => ?_)
        refine lv_if_ne (tgt := 59) hx hb dX12_readsRule_54 (by decide) (fun hc => ?_) (fun hc => ?_)
        · have hf := ifF hf hc
          exact wj8 _ _ _ _ hf hw (lv_sub hl [0, 1] rfl)
        · have hf := ifT hf hc
          refine lv_iconst (v := 0) hx hb dX12_readsRule_57 (by decide) ?_
          have hf := Option.some.inj hf
          subst hf
          exact hR _ _ _ _ _ _ hw rfl ⟨rfl, rfl⟩ dX12_readsRule_58
    · have hf := ifT hf hc
      refine lv_iconst (v := 0) hx hb dX12_readsRule_18 (by decide) ?_
      have hf := Option.some.inj hf
      subst hf
      exact hR _ _ _ _ _ _ hw rfl ⟨rfl, rfl⟩ dX12_readsRule_19
theorem dX12_feed_0 : decode cX12_feed 0 = .ok (.iload_n 3, 1) := by decide +kernel
theorem dX12_feed_1 : decode cX12_feed 1 = .ok (.iconst 1, 1) := by decide +kernel
theorem dX12_feed_2 : decode cX12_feed 2 = .ok (.bipush 8, 2) := by decide +kernel
theorem dX12_feed_4 : decode cX12_feed 4 = .ok (.invokestatic 71, 3) := by decide +kernel
theorem dX12_feed_7 : decode cX12_feed 7 = .ok (.ifCond .ne 5, 3) := by decide +kernel
theorem dX12_feed_10 : decode cX12_feed 10 = .ok (.iconst (-1), 1) := by decide +kernel
theorem dX12_feed_11 : decode cX12_feed 11 = .ok (.ireturn, 1) := by decide +kernel
theorem dX12_feed_12 : decode cX12_feed 12 = .ok (.aload_n 0, 1) := by decide +kernel
theorem dX12_feed_13 : decode cX12_feed 13 = .ok (.getfield 128, 3) := by decide +kernel
theorem dX12_feed_16 : decode cX12_feed 16 = .ok (.iload_n 3, 1) := by decide +kernel
theorem dX12_feed_17 : decode cX12_feed 17 = .ok (.iadd, 1) := by decide +kernel
theorem dX12_feed_18 : decode cX12_feed 18 = .ok (.sipush 200, 3) := by decide +kernel
theorem dX12_feed_21 : decode cX12_feed 21 = .ok (.if_icmp .le 6, 3) := by decide +kernel
theorem dX12_feed_24 : decode cX12_feed 24 = .ok (.bipush (-2), 2) := by decide +kernel
theorem dX12_feed_26 : decode cX12_feed 26 = .ok (.ireturn, 1) := by decide +kernel
theorem dX12_feed_27 : decode cX12_feed 27 = .ok (.iconst 0, 1) := by decide +kernel
theorem dX12_feed_28 : decode cX12_feed 28 = .ok (.istore 4, 2) := by decide +kernel
theorem dX12_feed_30 : decode cX12_feed 30 = .ok (.iload 4, 2) := by decide +kernel
theorem dX12_feed_32 : decode cX12_feed 32 = .ok (.iload_n 3, 1) := by decide +kernel
theorem dX12_feed_33 : decode cX12_feed 33 = .ok (.if_icmp .ge 40, 3) := by decide +kernel
theorem dX12_feed_36 : decode cX12_feed 36 = .ok (.aload_n 0, 1) := by decide +kernel
theorem dX12_feed_37 : decode cX12_feed 37 = .ok (.getfield 22, 3) := by decide +kernel
theorem dX12_feed_40 : decode cX12_feed 40 = .ok (.aload_n 0, 1) := by decide +kernel
theorem dX12_feed_41 : decode cX12_feed 41 = .ok (.getfield 128, 3) := by decide +kernel
theorem dX12_feed_44 : decode cX12_feed 44 = .ok (.lload_n 1, 1) := by decide +kernel
theorem dX12_feed_45 : decode cX12_feed 45 = .ok (.bipush 8, 2) := by decide +kernel
theorem dX12_feed_47 : decode cX12_feed 47 = .ok (.iload 4, 2) := by decide +kernel
theorem dX12_feed_49 : decode cX12_feed 49 = .ok (.imul, 1) := by decide +kernel
theorem dX12_feed_50 : decode cX12_feed 50 = .ok (.lshr, 1) := by decide +kernel
theorem dX12_feed_51 : decode cX12_feed 51 = .ok (.ldc2_w 192, 3) := by decide +kernel
theorem dX12_feed_54 : decode cX12_feed 54 = .ok (.land, 1) := by decide +kernel
theorem dX12_feed_55 : decode cX12_feed 55 = .ok (.l2i, 1) := by decide +kernel
theorem dX12_feed_56 : decode cX12_feed 56 = .ok (.iastore, 1) := by decide +kernel
theorem dX12_feed_57 : decode cX12_feed 57 = .ok (.aload_n 0, 1) := by decide +kernel
theorem dX12_feed_58 : decode cX12_feed 58 = .ok (.dup, 1) := by decide +kernel
theorem dX12_feed_59 : decode cX12_feed 59 = .ok (.getfield 128, 3) := by decide +kernel
theorem dX12_feed_62 : decode cX12_feed 62 = .ok (.iconst 1, 1) := by decide +kernel
theorem dX12_feed_63 : decode cX12_feed 63 = .ok (.iadd, 1) := by decide +kernel
theorem dX12_feed_64 : decode cX12_feed 64 = .ok (.putfield 128, 3) := by decide +kernel
theorem dX12_feed_67 : decode cX12_feed 67 = .ok (.iinc 4 1, 3) := by decide +kernel
theorem dX12_feed_70 : decode cX12_feed 70 = .ok (.goto (-40), 3) := by decide +kernel
theorem dX12_feed_73 : decode cX12_feed 73 = .ok (.aload_n 0, 1) := by decide +kernel
theorem dX12_feed_74 : decode cX12_feed 74 = .ok (.getfield 128, 3) := by decide +kernel
theorem dX12_feed_77 : decode cX12_feed 77 = .ok (.ireturn, 1) := by decide +kernel
theorem k_X12_feed : MV yX12_feed cX12_feed 5 (some .int) 2 := ⟨q_1211, q_1212, q_14, q_1213, ⟨by decide, by decide, by decide +kernel⟩⟩
theorem c_X12_feed {v1 : Int64} {res : Int32 × (Nat → Int32) × Int32} (hf : X12_feed n x_tape x_taped v1 v3 = some res) : MC l E0 D t yX12_feed cX12_feed 5 (some .int) 2 0 0 [.ref (a 0), .long v1, .int v3] (mW a t x_s x_kept x_laid x_isKept x_pile x_tape x_taped x_letters x_at x_begun x_token x_value x_opened x_steps x_code0 x_read x_saved x_plan x_bestPlan x_most x_many x_few x_everRight x_lagThen x_shadedThen x_firstFit x_rows x_rowMany x_sorts x_sizes x_number x_holds x_heldOne x_trace x_traced x_own x_isParted) (Qi res.1 (mW a t x_s x_kept x_laid x_isKept x_pile res.2.1 res.2.2 x_letters x_at x_begun x_token x_value x_opened x_steps x_code0 x_read x_saved x_plan x_bestPlan x_most x_many x_few x_everRight x_lagThen x_shadedThen x_firstFit x_rows x_rowMany x_sorts x_sizes x_number x_holds x_heldOne x_trace x_traced x_own x_isParted)) := by
  unfold X12_feed at hf
  refine MC.ofI pn_X12 (Nat.le_of_ble_eq_true rfl) ?_
  intro p e s m args below meth c A Q ls cx hR hw hl
  have hx := cx.1
  have hb := cx.2.1
  have hl : lv_has ls 5 [(0, .ref (a 0)), (1, .long v1), (3, .int v3)] := hl
  refine lv_iload_n hx hb dX12_feed_0 rfl (lv_at hl 2 rfl) ?_
  refine lv_iconst (v := 1) hx hb dX12_feed_1 (by decide) ?_
  refine lv_bipush (v := 8) hx hb dX12_feed_2 (by decide) ?_
  refine calSi cx hw hl.1 (c_X12_in1 rfl) q_1214 k_X12_in1 rfl dX12_feed_4 rfl (Nat.le_of_ble_eq_true rfl) ⟨Nat.le_of_ble_eq_true rfl, Nat.le_of_ble_eq_true rfl⟩ ⟨Nat.le_refl _, Nat.le_refl _⟩ (fun H locs hw => ?_)
  refine lv_if_ne (tgt := 12) hx hb dX12_feed_7 (by decide) (fun hc => ?_) (fun hc => ?_)
  · have hf := ifF hf hc
    refine lv_aload_n hx hb dX12_feed_12 rfl (lv_at hl 0 rfl) ?_
    refine mg_taped cx hw dX12_feed_13 ?_
    refine lv_iload_n hx hb dX12_feed_16 rfl (lv_at hl 2 rfl) ?_
    refine lv_iadd hx hb dX12_feed_17 ?_
    refine lv_sipush (v := 200) hx hb dX12_feed_18 (by decide) ?_
    refine lv_icmp_le (tgt := 27) hx hb dX12_feed_21 (by decide) (fun hc => ?_) (fun hc => ?_)
    · have hf := ifT hf hc
      refine lv_iconst (v := 0) hx hb dX12_feed_27 (by decide) ?_
      refine lv_istore (lv' := [(4, .int (0 : Int32)), (0, .ref (a 0)), (1, .long v1), (3, .int v3)]) hx hb dX12_feed_28 hl (by decide) rfl (fun ls hl => ?_)
      obtain ⟨o2, ho2, hf⟩ := bnS hf
      have wL1 : ∀ (k : Nat) {v1 : Int64} {v3 : Int32} {v4 : Int32} {x_tape : Nat → Int32} {x_taped : Int32} {H : Heap} {locs : List Loc} {ls : Array Slot} {o : Int32 × (Nat → Int32) × Int32}, X12_feed_L1 n v1 v3 k v4 x_tape x_taped = some o → Wd D A s (mW a t x_s x_kept x_laid x_isKept x_pile x_tape x_taped x_letters x_at x_begun x_token x_value x_opened x_steps x_code0 x_read x_saved x_plan x_bestPlan x_most x_many x_few x_everRight x_lagThen x_shadedThen x_firstFit x_rows x_rowMany x_sorts x_sizes x_number x_holds x_heldOne x_trace x_traced x_own x_isParted) H locs → lv_has ls 5 [(0, .ref (a 0)), (1, .long v1), (3, .int v3), (4, .int v4)] → (∀ (H : Heap) (locs : List Loc) (ls : Array Slot), Wd D A s (mW a t x_s x_kept x_laid x_isKept x_pile o.2.1 o.2.2 x_letters x_at x_begun x_token x_value x_opened x_steps x_code0 x_read x_saved x_plan x_bestPlan x_most x_many x_few x_everRight x_lagThen x_shadedThen x_firstFit x_rows x_rowMany x_sorts x_sizes x_number x_holds x_heldOne x_trace x_traced x_own x_isParted) H locs → lv_has ls 5 [(0, .ref (a 0)), (1, .long v1), (3, .int v3), (4, .int o.1)] → W p l e (rmz 2 0 0) s m args below meth c H locs 0 0 Q (F0 m 73 ls [])) → W p l e (rmz 2 0 0) s m args below meth c H locs 0 0 Q (F0 m 30 ls []) := by
        clear hf ho2 hw hl
        intro k
        induction k with
        | zero => intro v1 v3 v4 x_tape x_taped H locs ls o hf hw hl kx; simp [X12_feed_L1] at hf
        | succ k ih =>
          intro v1 v3 v4 x_tape x_taped H locs ls o hf hw hl kx
          rw [X12_feed_L1] at hf
          refine lv_iload hx hb dX12_feed_30 (lv_at hl 3 rfl) ?_
          refine lv_iload_n hx hb dX12_feed_32 rfl (lv_at hl 2 rfl) ?_
          refine lv_icmp_ge (tgt := 73) hx hb dX12_feed_33 (by decide) (fun hc => ?_) (fun hc => ?_)
          · have hf := ifT hf hc
            have hf := Option.some.inj hf
            subst hf
            exact kx _ _ _ hw (lv_sub hl [0, 1, 2, 3] rfl)
          · have hf := ifF hf hc
            refine lv_aload_n hx hb dX12_feed_36 rfl (lv_at hl 0 rfl) ?_
            refine mg_tape cx hw dX12_feed_37 ?_
            refine lv_aload_n hx hb dX12_feed_40 rfl (lv_at hl 0 rfl) ?_
            refine mg_taped cx hw dX12_feed_41 ?_
            refine lv_lload_n hx hb dX12_feed_44 rfl (lv_at hl 1 rfl) ?_
            refine lv_bipush (v := 8) hx hb dX12_feed_45 (by decide) ?_
            refine lv_iload hx hb dX12_feed_47 (lv_at hl 3 rfl) ?_
            refine lv_imul hx hb dX12_feed_49 ?_
            refine lv_lshr hx hb dX12_feed_50 rfl ?_
            refine lv_ldc2 (v := 255) hx hb cx.2.2.2.1 (cx.2.2.2.2.1 _ q_1217) dX12_feed_51 ?_
            refine lv_land hx hb dX12_feed_54 ?_
            refine lv_l2i hx hb dX12_feed_55 rfl ?_
            obtain ⟨h1, hf⟩ := ckS hf
            refine ms_tape (j := x_taped.toNatClampNeg) cx hw (ib_in h1) rfl dX12_feed_56 (fun H locs hw => ?_)
            refine lv_aload_n hx hb dX12_feed_57 rfl (lv_at hl 0 rfl) ?_
            refine lv_dup hx hb dX12_feed_58 rfl ?_
            refine mg_taped cx hw dX12_feed_59 ?_
            refine lv_iconst (v := 1) hx hb dX12_feed_62 (by decide) ?_
            refine lv_iadd hx hb dX12_feed_63 ?_
            refine mp_taped cx hw dX12_feed_64 (fun H locs hw => ?_)
            refine lv_iinc (v := (v4 + (1 : Int32))) (lv' := [(4, .int (v4 + (1 : Int32))), (0, .ref (a 0)), (1, .long v1), (3, .int v3)]) hx hb dX12_feed_67 hl (k := 3) rfl rfl (by decide) rfl (fun ls hl => ?_)
            refine lv_goto (tgt := 30) hx hb dX12_feed_70 (by decide) ?_
            exact ih hf hw (lv_sub hl [1, 2, 3, 0] rfl) kx
      refine wL1 n ho2 hw (lv_sub hl [1, 2, 3, 0] rfl) (fun H locs ls hw hl => ?_)
      clear wL1 ho2
      refine lv_aload_n hx hb dX12_feed_73 rfl (lv_at hl 0 rfl) ?_
      refine mg_taped cx hw dX12_feed_74 ?_
      have hf := Option.some.inj hf
      subst hf
      exact hR _ _ _ _ _ _ hw rfl ⟨rfl, rfl⟩ dX12_feed_77
    · have hf := ifF hf hc
      refine lv_bipush (v := (-2)) hx hb dX12_feed_24 (by decide) ?_
      have hf := Option.some.inj hf
      subst hf
      exact hR _ _ _ _ _ _ hw rfl ⟨rfl, rfl⟩ dX12_feed_26
  · have hf := ifT hf hc
    refine lv_iconst (v := (-1)) hx hb dX12_feed_10 (by decide) ?_
    have hf := Option.some.inj hf
    subst hf
    exact hR _ _ _ _ _ _ hw rfl ⟨rfl, rfl⟩ dX12_feed_11
theorem dX12_rules_0 : decode cX12_rules 0 = .ok (.aload_n 0, 1) := by decide +kernel
theorem dX12_rules_1 : decode cX12_rules 1 = .ok (.iconst 0, 1) := by decide +kernel
theorem dX12_rules_2 : decode cX12_rules 2 = .ok (.putfield 132, 3) := by decide +kernel
theorem dX12_rules_5 : decode cX12_rules 5 = .ok (.aload_n 0, 1) := by decide +kernel
theorem dX12_rules_6 : decode cX12_rules 6 = .ok (.iconst 0, 1) := by decide +kernel
theorem dX12_rules_7 : decode cX12_rules 7 = .ok (.putfield 160, 3) := by decide +kernel
theorem dX12_rules_10 : decode cX12_rules 10 = .ok (.iconst 0, 1) := by decide +kernel
theorem dX12_rules_11 : decode cX12_rules 11 = .ok (.istore_n 1, 1) := by decide +kernel
theorem dX12_rules_12 : decode cX12_rules 12 = .ok (.aload_n 0, 1) := by decide +kernel
theorem dX12_rules_13 : decode cX12_rules 13 = .ok (.invokevirtual 157, 3) := by decide +kernel
theorem dX12_rules_16 : decode cX12_rules 16 = .ok (.iconst 1, 1) := by decide +kernel
theorem dX12_rules_17 : decode cX12_rules 17 = .ok (.istore_n 2, 1) := by decide +kernel
theorem dX12_rules_18 : decode cX12_rules 18 = .ok (.iload_n 2, 1) := by decide +kernel
theorem dX12_rules_19 : decode cX12_rules 19 = .ok (.ifCond .eq 23, 3) := by decide +kernel
theorem dX12_rules_22 : decode cX12_rules 22 = .ok (.aload_n 0, 1) := by decide +kernel
theorem dX12_rules_23 : decode cX12_rules 23 = .ok (.getfield 141, 3) := by decide +kernel
theorem dX12_rules_26 : decode cX12_rules 26 = .ok (.iconst (-1), 1) := by decide +kernel
theorem dX12_rules_27 : decode cX12_rules 27 = .ok (.if_icmp .eq 15, 3) := by decide +kernel
theorem dX12_rules_30 : decode cX12_rules 30 = .ok (.aload_n 0, 1) := by decide +kernel
theorem dX12_rules_31 : decode cX12_rules 31 = .ok (.iload_n 1, 1) := by decide +kernel
theorem dX12_rules_32 : decode cX12_rules 32 = .ok (.invokevirtual 194, 3) := by decide +kernel
theorem dX12_rules_35 : decode cX12_rules 35 = .ok (.istore_n 2, 1) := by decide +kernel
theorem dX12_rules_36 : decode cX12_rules 36 = .ok (.iinc 1 1, 3) := by decide +kernel
theorem dX12_rules_39 : decode cX12_rules 39 = .ok (.goto (-21), 3) := by decide +kernel
theorem dX12_rules_42 : decode cX12_rules 42 = .ok (.aload_n 0, 1) := by decide +kernel
theorem dX12_rules_43 : decode cX12_rules 43 = .ok (.iconst 0, 1) := by decide +kernel
theorem dX12_rules_44 : decode cX12_rules 44 = .ok (.putfield 128, 3) := by decide +kernel
theorem dX12_rules_47 : decode cX12_rules 47 = .ok (.iload_n 2, 1) := by decide +kernel
theorem dX12_rules_48 : decode cX12_rules 48 = .ok (.ifCond .ne 11, 3) := by decide +kernel
theorem dX12_rules_51 : decode cX12_rules 51 = .ok (.bipush (-100), 2) := by decide +kernel
theorem dX12_rules_53 : decode cX12_rules 53 = .ok (.aload_n 0, 1) := by decide +kernel
theorem dX12_rules_54 : decode cX12_rules 54 = .ok (.getfield 135, 3) := by decide +kernel
theorem dX12_rules_57 : decode cX12_rules 57 = .ok (.isub, 1) := by decide +kernel
theorem dX12_rules_58 : decode cX12_rules 58 = .ok (.ireturn, 1) := by decide +kernel
theorem dX12_rules_59 : decode cX12_rules 59 = .ok (.aload_n 0, 1) := by decide +kernel
theorem dX12_rules_60 : decode cX12_rules 60 = .ok (.getfield 9, 3) := by decide +kernel
theorem dX12_rules_63 : decode cX12_rules 63 = .ok (.iconst 5, 1) := by decide +kernel
theorem dX12_rules_64 : decode cX12_rules 64 = .ok (.iload_n 1, 1) := by decide +kernel
theorem dX12_rules_65 : decode cX12_rules 65 = .ok (.iastore, 1) := by decide +kernel
theorem dX12_rules_66 : decode cX12_rules 66 = .ok (.iconst 0, 1) := by decide +kernel
theorem dX12_rules_67 : decode cX12_rules 67 = .ok (.istore_n 3, 1) := by decide +kernel
theorem dX12_rules_68 : decode cX12_rules 68 = .ok (.iload_n 3, 1) := by decide +kernel
theorem dX12_rules_69 : decode cX12_rules 69 = .ok (.iconst 3, 1) := by decide +kernel
theorem dX12_rules_70 : decode cX12_rules 70 = .ok (.iload_n 1, 1) := by decide +kernel
theorem dX12_rules_71 : decode cX12_rules 71 = .ok (.imul, 1) := by decide +kernel
theorem dX12_rules_72 : decode cX12_rules 72 = .ok (.if_icmp .ge 24, 3) := by decide +kernel
theorem dX12_rules_75 : decode cX12_rules 75 = .ok (.aload_n 0, 1) := by decide +kernel
theorem dX12_rules_76 : decode cX12_rules 76 = .ok (.getfield 9, 3) := by decide +kernel
theorem dX12_rules_79 : decode cX12_rules 79 = .ok (.bipush 89, 2) := by decide +kernel
theorem dX12_rules_81 : decode cX12_rules 81 = .ok (.iload_n 3, 1) := by decide +kernel
theorem dX12_rules_82 : decode cX12_rules 82 = .ok (.iadd, 1) := by decide +kernel
theorem dX12_rules_83 : decode cX12_rules 83 = .ok (.aload_n 0, 1) := by decide +kernel
theorem dX12_rules_84 : decode cX12_rules 84 = .ok (.getfield 32, 3) := by decide +kernel
theorem dX12_rules_87 : decode cX12_rules 87 = .ok (.iload_n 3, 1) := by decide +kernel
theorem dX12_rules_88 : decode cX12_rules 88 = .ok (.iaload, 1) := by decide +kernel
theorem dX12_rules_89 : decode cX12_rules 89 = .ok (.iastore, 1) := by decide +kernel
theorem dX12_rules_90 : decode cX12_rules 90 = .ok (.iinc 3 1, 3) := by decide +kernel
theorem dX12_rules_93 : decode cX12_rules 93 = .ok (.goto (-25), 3) := by decide +kernel
theorem dX12_rules_96 : decode cX12_rules 96 = .ok (.iconst 0, 1) := by decide +kernel
theorem dX12_rules_97 : decode cX12_rules 97 = .ok (.istore_n 3, 1) := by decide +kernel
theorem dX12_rules_98 : decode cX12_rules 98 = .ok (.iload_n 3, 1) := by decide +kernel
theorem dX12_rules_99 : decode cX12_rules 99 = .ok (.aload_n 0, 1) := by decide +kernel
theorem dX12_rules_100 : decode cX12_rules 100 = .ok (.getfield 160, 3) := by decide +kernel
theorem dX12_rules_103 : decode cX12_rules 103 = .ok (.if_icmp .ge 24, 3) := by decide +kernel
theorem dX12_rules_106 : decode cX12_rules 106 = .ok (.aload_n 0, 1) := by decide +kernel
theorem dX12_rules_107 : decode cX12_rules 107 = .ok (.getfield 9, 3) := by decide +kernel
theorem dX12_rules_110 : decode cX12_rules 110 = .ok (.bipush 113, 2) := by decide +kernel
theorem dX12_rules_112 : decode cX12_rules 112 = .ok (.iload_n 3, 1) := by decide +kernel
theorem dX12_rules_113 : decode cX12_rules 113 = .ok (.iadd, 1) := by decide +kernel
theorem dX12_rules_114 : decode cX12_rules 114 = .ok (.aload_n 0, 1) := by decide +kernel
theorem dX12_rules_115 : decode cX12_rules 115 = .ok (.getfield 29, 3) := by decide +kernel
theorem dX12_rules_118 : decode cX12_rules 118 = .ok (.iload_n 3, 1) := by decide +kernel
theorem dX12_rules_119 : decode cX12_rules 119 = .ok (.iaload, 1) := by decide +kernel
theorem dX12_rules_120 : decode cX12_rules 120 = .ok (.iastore, 1) := by decide +kernel
theorem dX12_rules_121 : decode cX12_rules 121 = .ok (.iinc 3 1, 3) := by decide +kernel
theorem dX12_rules_124 : decode cX12_rules 124 = .ok (.goto (-26), 3) := by decide +kernel
theorem dX12_rules_127 : decode cX12_rules 127 = .ok (.iload_n 1, 1) := by decide +kernel
theorem dX12_rules_128 : decode cX12_rules 128 = .ok (.ireturn, 1) := by decide +kernel
theorem k_X12_rules : MV yX12_rules cX12_rules 4 (some .int) 0 := ⟨q_1219, q_1220, q_14, q_1221, ⟨by decide, by decide, by decide +kernel⟩⟩
theorem c_X12_rules {res : Int32 × (Nat → Int32) × Int32 × Int32 × Int32 × Int32 × Int32 × Int32 × Int32 × (Nat → Int32) × (Nat → Int32)} (hf : X12_rules n x_s x_tape x_taped x_letters x_value x_opened x_code0 x_read = some res) : MC l E0 D t yX12_rules cX12_rules 4 (some .int) 89 0 0 [.ref (a 0)] (mW a t x_s x_kept x_laid x_isKept x_pile x_tape x_taped x_letters x_at x_begun x_token x_value x_opened x_steps x_code0 x_read x_saved x_plan x_bestPlan x_most x_many x_few x_everRight x_lagThen x_shadedThen x_firstFit x_rows x_rowMany x_sorts x_sizes x_number x_holds x_heldOne x_trace x_traced x_own x_isParted) (Qi res.1 (mW a t res.2.1 x_kept x_laid x_isKept x_pile x_tape res.2.2.1 x_letters res.2.2.2.1 res.2.2.2.2.1 res.2.2.2.2.2.1 res.2.2.2.2.2.2.1 res.2.2.2.2.2.2.2.1 res.2.2.2.2.2.2.2.2.1 res.2.2.2.2.2.2.2.2.2.1 res.2.2.2.2.2.2.2.2.2.2 x_saved x_plan x_bestPlan x_most x_many x_few x_everRight x_lagThen x_shadedThen x_firstFit x_rows x_rowMany x_sorts x_sizes x_number x_holds x_heldOne x_trace x_traced x_own x_isParted)) := by
  unfold X12_rules at hf
  refine MC.ofI pn_X12 (Nat.le_of_ble_eq_true rfl) ?_
  intro p e s m args below meth c A Q ls cx hR hw hl
  have hx := cx.1
  have hb := cx.2.1
  have hl : lv_has ls 4 [(0, .ref (a 0))] := hl
  refine lv_aload_n hx hb dX12_rules_0 rfl (lv_at hl 0 rfl) ?_
  refine lv_iconst (v := 0) hx hb dX12_rules_1 (by decide) ?_
  refine mp_at cx hw dX12_rules_2 (fun H locs hw => ?_)
  refine lv_aload_n hx hb dX12_rules_5 rfl (lv_at hl 0 rfl) ?_
  refine lv_iconst (v := 0) hx hb dX12_rules_6 (by decide) ?_
  refine mp_steps cx hw dX12_rules_7 (fun H locs hw => ?_)
  refine lv_iconst (v := 0) hx hb dX12_rules_10 (by decide) ?_
  refine lv_istore_n (lv' := [(1, .int (0 : Int32)), (0, .ref (a 0))]) hx hb dX12_rules_11 rfl hl (by decide) rfl (fun ls hl => ?_)
  refine lv_aload_n hx hb dX12_rules_12 rfl (lv_at hl 1 rfl) ?_
  obtain ⟨r1, h2, hf⟩ := bnS hf
  refine calVv (k := 0) cx hw hl.1 (c_X12_next h2) q_1222 k_X12_next rfl rfl rfl dX12_rules_13 rfl (Nat.le_of_ble_eq_true rfl) ⟨Nat.le_of_ble_eq_true rfl, Nat.le_of_ble_eq_true rfl⟩ ⟨Nat.le_refl _, Nat.le_refl _⟩ (fun H locs hw => ?_)
  refine lv_iconst (v := 1) hx hb dX12_rules_16 (by decide) ?_
  refine lv_istore_n (lv' := [(2, .int (1 : Int32)), (1, .int (0 : Int32)), (0, .ref (a 0))]) hx hb dX12_rules_17 rfl hl (by decide) rfl (fun ls hl => ?_)
  obtain ⟨o5, ho5, hf⟩ := bnS hf
  have wL1 : ∀ (k : Nat) {v1 : Int32} {v2 : Int32} {x_at : Int32} {x_begun : Int32} {x_token : Int32} {x_value : Int32} {x_opened : Int32} {x_steps : Int32} {x_code0 : Nat → Int32} {x_read : Nat → Int32} {H : Heap} {locs : List Loc} {ls : Array Slot} {o : Int32 × Int32 × Int32 × Int32 × Int32 × Int32 × Int32 × Int32 × (Nat → Int32) × (Nat → Int32)}, X12_rules_L1 n x_tape x_taped x_letters k v1 v2 x_at x_begun x_token x_value x_opened x_steps x_code0 x_read = some o → Wd D A s (mW a t x_s x_kept x_laid x_isKept x_pile x_tape x_taped x_letters x_at x_begun x_token x_value x_opened x_steps x_code0 x_read x_saved x_plan x_bestPlan x_most x_many x_few x_everRight x_lagThen x_shadedThen x_firstFit x_rows x_rowMany x_sorts x_sizes x_number x_holds x_heldOne x_trace x_traced x_own x_isParted) H locs → lv_has ls 4 [(0, .ref (a 0)), (1, .int v1), (2, .int v2)] → (∀ (H : Heap) (locs : List Loc) (ls : Array Slot), Wd D A s (mW a t x_s x_kept x_laid x_isKept x_pile x_tape x_taped x_letters o.2.2.1 o.2.2.2.1 o.2.2.2.2.1 o.2.2.2.2.2.1 o.2.2.2.2.2.2.1 o.2.2.2.2.2.2.2.1 o.2.2.2.2.2.2.2.2.1 o.2.2.2.2.2.2.2.2.2 x_saved x_plan x_bestPlan x_most x_many x_few x_everRight x_lagThen x_shadedThen x_firstFit x_rows x_rowMany x_sorts x_sizes x_number x_holds x_heldOne x_trace x_traced x_own x_isParted) H locs → lv_has ls 4 [(0, .ref (a 0)), (1, .int o.1), (2, .int o.2.1)] → W p l e (rmz 89 0 0) s m args below meth c H locs 0 0 Q (F0 m 42 ls [])) → W p l e (rmz 89 0 0) s m args below meth c H locs 0 0 Q (F0 m 18 ls []) := by
    clear hf ho5 hw hl
    intro k
    induction k with
    | zero => intro v1 v2 x_at x_begun x_token x_value x_opened x_steps x_code0 x_read H locs ls o hf hw hl kx; simp [X12_rules_L1] at hf
    | succ k ih =>
      intro v1 v2 x_at x_begun x_token x_value x_opened x_steps x_code0 x_read H locs ls o hf hw hl kx
      rw [X12_rules_L1] at hf
      refine lv_iload_n hx hb dX12_rules_18 rfl (lv_at hl 2 rfl) ?_
      refine lv_if_eq (tgt := 42) hx hb dX12_rules_19 (by decide) (fun hc => ?_) (fun hc => ?_)
      · have hf := ifT hf hc
        have hf := Option.some.inj hf
        subst hf
        exact kx _ _ _ hw (lv_sub hl [0, 1, 2] rfl)
      · have hf := ifF hf hc
        refine lv_aload_n hx hb dX12_rules_22 rfl (lv_at hl 0 rfl) ?_
        refine mg_token cx hw dX12_rules_23 ?_
        refine lv_iconst (v := (-1)) hx hb dX12_rules_26 (by decide) ?_
        refine lv_icmp_eq (tgt := 42) hx hb dX12_rules_27 (by decide) (fun hc => ?_) (fun hc => ?_)
        · have hf := ifT hf hc
          have hf := Option.some.inj hf
          subst hf
          exact kx _ _ _ hw (lv_sub hl [0, 1, 2] rfl)
        · have hf := ifF hf hc
          refine lv_aload_n hx hb dX12_rules_30 rfl (lv_at hl 0 rfl) ?_
          refine lv_iload_n hx hb dX12_rules_31 rfl (lv_at hl 1 rfl) ?_
          obtain ⟨r3, h4, hf⟩ := bnS hf
          refine calVi (k := 0) cx hw hl.1 (c_X12_readsRule h4) q_1242 k_X12_readsRule rfl rfl rfl dX12_rules_32 rfl (Nat.le_of_ble_eq_true rfl) ⟨Nat.le_of_ble_eq_true rfl, Nat.le_of_ble_eq_true rfl⟩ ⟨Nat.le_refl _, Nat.le_refl _⟩ (fun H locs hw => ?_)
          refine lv_istore_n (lv' := [(2, .int r3.1), (0, .ref (a 0)), (1, .int v1)]) hx hb dX12_rules_35 rfl hl (by decide) rfl (fun ls hl => ?_)
          refine lv_iinc (v := (v1 + (1 : Int32))) (lv' := [(1, .int (v1 + (1 : Int32))), (2, .int r3.1), (0, .ref (a 0))]) hx hb dX12_rules_36 hl (k := 2) rfl rfl (by decide) rfl (fun ls hl => ?_)
          refine lv_goto (tgt := 18) hx hb dX12_rules_39 (by decide) ?_
          exact ih hf hw (lv_sub hl [2, 0, 1] rfl) kx
  refine wL1 n ho5 hw (lv_sub hl [2, 1, 0] rfl) (fun H locs ls hw hl => ?_)
  clear wL1 ho5
  refine lv_aload_n hx hb dX12_rules_42 rfl (lv_at hl 0 rfl) ?_
  refine lv_iconst (v := 0) hx hb dX12_rules_43 (by decide) ?_
  refine mp_taped cx hw dX12_rules_44 (fun H locs hw => ?_)
  refine lv_iload_n hx hb dX12_rules_47 rfl (lv_at hl 2 rfl) ?_
  refine lv_if_ne (tgt := 59) hx hb dX12_rules_48 (by decide) (fun hc => ?_) (fun hc => ?_)
  · have hf := ifF hf hc
    refine lv_aload_n hx hb dX12_rules_59 rfl (lv_at hl 0 rfl) ?_
    refine mg_s cx hw dX12_rules_60 ?_
    refine lv_iconst (v := 5) hx hb dX12_rules_63 (by decide) ?_
    refine lv_iload_n hx hb dX12_rules_64 rfl (lv_at hl 1 rfl) ?_
    refine ms_s (j := 5) cx hw (ib_in (by decide)) (by decide) dX12_rules_65 (fun H locs hw => ?_)
    refine lv_iconst (v := 0) hx hb dX12_rules_66 (by decide) ?_
    refine lv_istore_n (lv' := [(3, .int (0 : Int32)), (0, .ref (a 0)), (1, .int o5.1), (2, .int o5.2.1)]) hx hb dX12_rules_67 rfl hl (by decide) rfl (fun ls hl => ?_)
    obtain ⟨o8, ho8, hf⟩ := bnS hf
    have wL2 : ∀ (k : Nat) {v1 : Int32} {v2 : Int32} {v3 : Int32} {x_s : Nat → Int32} {x_taped : Int32} {x_at : Int32} {x_begun : Int32} {x_token : Int32} {x_value : Int32} {x_opened : Int32} {x_steps : Int32} {x_code0 : Nat → Int32} {x_read : Nat → Int32} {H : Heap} {locs : List Loc} {ls : Array Slot} {o : Int32 × (Nat → Int32)}, X12_rules_L2 n x_read v1 k v3 x_s = some o → Wd D A s (mW a t x_s x_kept x_laid x_isKept x_pile x_tape x_taped x_letters x_at x_begun x_token x_value x_opened x_steps x_code0 x_read x_saved x_plan x_bestPlan x_most x_many x_few x_everRight x_lagThen x_shadedThen x_firstFit x_rows x_rowMany x_sorts x_sizes x_number x_holds x_heldOne x_trace x_traced x_own x_isParted) H locs → lv_has ls 4 [(0, .ref (a 0)), (1, .int v1), (2, .int v2), (3, .int v3)] → (∀ (H : Heap) (locs : List Loc) (ls : Array Slot), Wd D A s (mW a t o.2 x_kept x_laid x_isKept x_pile x_tape x_taped x_letters x_at x_begun x_token x_value x_opened x_steps x_code0 x_read x_saved x_plan x_bestPlan x_most x_many x_few x_everRight x_lagThen x_shadedThen x_firstFit x_rows x_rowMany x_sorts x_sizes x_number x_holds x_heldOne x_trace x_traced x_own x_isParted) H locs → lv_has ls 4 [(0, .ref (a 0)), (1, .int v1), (2, .int v2), (3, .int o.1)] → W p l e (rmz 89 0 0) s m args below meth c H locs 0 0 Q (F0 m 96 ls [])) → W p l e (rmz 89 0 0) s m args below meth c H locs 0 0 Q (F0 m 68 ls []) := by
      clear hf ho8 hw hl
      intro k
      induction k with
      | zero => intro v1 v2 v3 x_s x_taped x_at x_begun x_token x_value x_opened x_steps x_code0 x_read H locs ls o hf hw hl kx; simp [X12_rules_L2] at hf
      | succ k ih =>
        intro v1 v2 v3 x_s x_taped x_at x_begun x_token x_value x_opened x_steps x_code0 x_read H locs ls o hf hw hl kx
        rw [X12_rules_L2] at hf
        refine lv_iload_n hx hb dX12_rules_68 rfl (lv_at hl 3 rfl) ?_
        refine lv_iconst (v := 3) hx hb dX12_rules_69 (by decide) ?_
        refine lv_iload_n hx hb dX12_rules_70 rfl (lv_at hl 1 rfl) ?_
        refine lv_imul hx hb dX12_rules_71 ?_
        refine lv_icmp_ge (tgt := 96) hx hb dX12_rules_72 (by decide) (fun hc => ?_) (fun hc => ?_)
        · have hf := ifT hf hc
          have hf := Option.some.inj hf
          subst hf
          exact kx _ _ _ hw (lv_sub hl [0, 1, 2, 3] rfl)
        · have hf := ifF hf hc
          refine lv_aload_n hx hb dX12_rules_75 rfl (lv_at hl 0 rfl) ?_
          refine mg_s cx hw dX12_rules_76 ?_
          refine lv_bipush (v := 89) hx hb dX12_rules_79 (by decide) ?_
          refine lv_iload_n hx hb dX12_rules_81 rfl (lv_at hl 3 rfl) ?_
          refine lv_iadd hx hb dX12_rules_82 ?_
          refine lv_aload_n hx hb dX12_rules_83 rfl (lv_at hl 0 rfl) ?_
          refine mg_read cx hw dX12_rules_84 ?_
          refine lv_iload_n hx hb dX12_rules_87 rfl (lv_at hl 3 rfl) ?_
          obtain ⟨h6, hf⟩ := ckS hf
          refine ml_read (j := v3.toNatClampNeg) cx hw (ib_in h6) rfl dX12_rules_88 ?_
          obtain ⟨h7, hf⟩ := ckS hf
          refine ms_s (j := ((89 : Int32) + v3).toNatClampNeg) cx hw (ib_in h7) rfl dX12_rules_89 (fun H locs hw => ?_)
          refine lv_iinc (v := (v3 + (1 : Int32))) (lv' := [(3, .int (v3 + (1 : Int32))), (0, .ref (a 0)), (1, .int v1), (2, .int v2)]) hx hb dX12_rules_90 hl (k := 3) rfl rfl (by decide) rfl (fun ls hl => ?_)
          refine lv_goto (tgt := 68) hx hb dX12_rules_93 (by decide) ?_
          exact ih hf hw (lv_sub hl [1, 2, 3, 0] rfl) kx
    refine wL2 n ho8 hw (lv_sub hl [1, 2, 3, 0] rfl) (fun H locs ls hw hl => ?_)
    clear wL2 ho8
    refine lv_iconst (v := 0) hx hb dX12_rules_96 (by decide) ?_
    refine lv_istore_n (lv' := [(3, .int (0 : Int32)), (0, .ref (a 0)), (1, .int o5.1), (2, .int o5.2.1)]) hx hb dX12_rules_97 rfl hl (by decide) rfl (fun ls hl => ?_)
    obtain ⟨o11, ho11, hf⟩ := bnS hf
    have wL3 : ∀ (k : Nat) {v1 : Int32} {v2 : Int32} {v3 : Int32} {x_s : Nat → Int32} {x_taped : Int32} {x_at : Int32} {x_begun : Int32} {x_token : Int32} {x_value : Int32} {x_opened : Int32} {x_steps : Int32} {x_code0 : Nat → Int32} {x_read : Nat → Int32} {H : Heap} {locs : List Loc} {ls : Array Slot} {o : Int32 × (Nat → Int32)}, X12_rules_L3 n x_steps x_code0 k v3 x_s = some o → Wd D A s (mW a t x_s x_kept x_laid x_isKept x_pile x_tape x_taped x_letters x_at x_begun x_token x_value x_opened x_steps x_code0 x_read x_saved x_plan x_bestPlan x_most x_many x_few x_everRight x_lagThen x_shadedThen x_firstFit x_rows x_rowMany x_sorts x_sizes x_number x_holds x_heldOne x_trace x_traced x_own x_isParted) H locs → lv_has ls 4 [(0, .ref (a 0)), (1, .int v1), (2, .int v2), (3, .int v3)] → (∀ (H : Heap) (locs : List Loc) (ls : Array Slot), Wd D A s (mW a t o.2 x_kept x_laid x_isKept x_pile x_tape x_taped x_letters x_at x_begun x_token x_value x_opened x_steps x_code0 x_read x_saved x_plan x_bestPlan x_most x_many x_few x_everRight x_lagThen x_shadedThen x_firstFit x_rows x_rowMany x_sorts x_sizes x_number x_holds x_heldOne x_trace x_traced x_own x_isParted) H locs → lv_has ls 4 [(0, .ref (a 0)), (1, .int v1), (2, .int v2), (3, .int o.1)] → W p l e (rmz 89 0 0) s m args below meth c H locs 0 0 Q (F0 m 127 ls [])) → W p l e (rmz 89 0 0) s m args below meth c H locs 0 0 Q (F0 m 98 ls []) := by
      clear hf ho11 hw hl
      intro k
      induction k with
      | zero => intro v1 v2 v3 x_s x_taped x_at x_begun x_token x_value x_opened x_steps x_code0 x_read H locs ls o hf hw hl kx; simp [X12_rules_L3] at hf
      | succ k ih =>
        intro v1 v2 v3 x_s x_taped x_at x_begun x_token x_value x_opened x_steps x_code0 x_read H locs ls o hf hw hl kx
        rw [X12_rules_L3] at hf
        refine lv_iload_n hx hb dX12_rules_98 rfl (lv_at hl 3 rfl) ?_
        refine lv_aload_n hx hb dX12_rules_99 rfl (lv_at hl 0 rfl) ?_
        refine mg_steps cx hw dX12_rules_100 ?_
        refine lv_icmp_ge (tgt := 127) hx hb dX12_rules_103 (by decide) (fun hc => ?_) (fun hc => ?_)
        · have hf := ifT hf hc
          have hf := Option.some.inj hf
          subst hf
          exact kx _ _ _ hw (lv_sub hl [0, 1, 2, 3] rfl)
        · have hf := ifF hf hc
          refine lv_aload_n hx hb dX12_rules_106 rfl (lv_at hl 0 rfl) ?_
          refine mg_s cx hw dX12_rules_107 ?_
          refine lv_bipush (v := 113) hx hb dX12_rules_110 (by decide) ?_
          refine lv_iload_n hx hb dX12_rules_112 rfl (lv_at hl 3 rfl) ?_
          refine lv_iadd hx hb dX12_rules_113 ?_
          refine lv_aload_n hx hb dX12_rules_114 rfl (lv_at hl 0 rfl) ?_
          refine mg_code0 cx hw dX12_rules_115 ?_
          refine lv_iload_n hx hb dX12_rules_118 rfl (lv_at hl 3 rfl) ?_
          obtain ⟨h9, hf⟩ := ckS hf
          refine ml_code0 (j := v3.toNatClampNeg) cx hw (ib_in h9) rfl dX12_rules_119 ?_
          obtain ⟨h10, hf⟩ := ckS hf
          refine ms_s (j := ((113 : Int32) + v3).toNatClampNeg) cx hw (ib_in h10) rfl dX12_rules_120 (fun H locs hw => ?_)
          refine lv_iinc (v := (v3 + (1 : Int32))) (lv' := [(3, .int (v3 + (1 : Int32))), (0, .ref (a 0)), (1, .int v1), (2, .int v2)]) hx hb dX12_rules_121 hl (k := 3) rfl rfl (by decide) rfl (fun ls hl => ?_)
          refine lv_goto (tgt := 98) hx hb dX12_rules_124 (by decide) ?_
          exact ih hf hw (lv_sub hl [1, 2, 3, 0] rfl) kx
    refine wL3 n ho11 hw (lv_sub hl [1, 2, 3, 0] rfl) (fun H locs ls hw hl => ?_)
    clear wL3 ho11
    refine lv_iload_n hx hb dX12_rules_127 rfl (lv_at hl 1 rfl) ?_
    have hf := Option.some.inj hf
    subst hf
    exact hR _ _ _ _ _ _ hw rfl ⟨rfl, rfl⟩ dX12_rules_128
  · have hf := ifT hf hc
    refine lv_bipush (v := (-100)) hx hb dX12_rules_51 (by decide) ?_
    refine lv_aload_n hx hb dX12_rules_53 rfl (lv_at hl 0 rfl) ?_
    refine mg_begun cx hw dX12_rules_54 ?_
    refine lv_isub hx hb dX12_rules_57 ?_
    have hf := Option.some.inj hf
    subst hf
    exact hR _ _ _ _ _ _ hw rfl ⟨rfl, rfl⟩ dX12_rules_58
theorem dX12_setsRight_0 : decode cX12_setsRight 0 = .ok (.aload_n 0, 1) := by decide +kernel
theorem dX12_setsRight_1 : decode cX12_setsRight 1 = .ok (.iload_n 1, 1) := by decide +kernel
theorem dX12_setsRight_2 : decode cX12_setsRight 2 = .ok (.invokevirtual 103, 3) := by decide +kernel
theorem dX12_setsRight_5 : decode cX12_setsRight 5 = .ok (.istore_n 2, 1) := by decide +kernel
theorem dX12_setsRight_6 : decode cX12_setsRight 6 = .ok (.iload_n 2, 1) := by decide +kernel
theorem dX12_setsRight_7 : decode cX12_setsRight 7 = .ok (.ifCond .le 17, 3) := by decide +kernel
theorem dX12_setsRight_10 : decode cX12_setsRight 10 = .ok (.aload_n 0, 1) := by decide +kernel
theorem dX12_setsRight_11 : decode cX12_setsRight 11 = .ok (.iload_n 1, 1) := by decide +kernel
theorem dX12_setsRight_12 : decode cX12_setsRight 12 = .ok (.iconst 4, 1) := by decide +kernel
theorem dX12_setsRight_13 : decode cX12_setsRight 13 = .ok (.iconst 1, 1) := by decide +kernel
theorem dX12_setsRight_14 : decode cX12_setsRight 14 = .ok (.invokevirtual 197, 3) := by decide +kernel
theorem dX12_setsRight_17 : decode cX12_setsRight 17 = .ok (.aload_n 0, 1) := by decide +kernel
theorem dX12_setsRight_18 : decode cX12_setsRight 18 = .ok (.iload_n 1, 1) := by decide +kernel
theorem dX12_setsRight_19 : decode cX12_setsRight 19 = .ok (.iconst 1, 1) := by decide +kernel
theorem dX12_setsRight_20 : decode cX12_setsRight 20 = .ok (.iconst 0, 1) := by decide +kernel
theorem dX12_setsRight_21 : decode cX12_setsRight 21 = .ok (.invokevirtual 197, 3) := by decide +kernel
theorem dX12_setsRight_24 : decode cX12_setsRight 24 = .ok (.iload_n 2, 1) := by decide +kernel
theorem dX12_setsRight_25 : decode cX12_setsRight 25 = .ok (.ireturn, 1) := by decide +kernel
theorem k_X12_setsRight : MV yX12_setsRight cX12_setsRight 3 (some .int) 1 := ⟨q_1432, qs_65, q_14, q_1433, ⟨by decide, by decide, by decide +kernel⟩⟩
theorem c_X12_setsRight {res : Int32 × (Nat → Int32)} (hf : X12_setsRight x_s v1 = some res) : MC l E0 D t yX12_setsRight cX12_setsRight 3 (some .int) 3 0 0 [.ref (a 0), .int v1] (mW a t x_s x_kept x_laid x_isKept x_pile x_tape x_taped x_letters x_at x_begun x_token x_value x_opened x_steps x_code0 x_read x_saved x_plan x_bestPlan x_most x_many x_few x_everRight x_lagThen x_shadedThen x_firstFit x_rows x_rowMany x_sorts x_sizes x_number x_holds x_heldOne x_trace x_traced x_own x_isParted) (Qi res.1 (mW a t res.2 x_kept x_laid x_isKept x_pile x_tape x_taped x_letters x_at x_begun x_token x_value x_opened x_steps x_code0 x_read x_saved x_plan x_bestPlan x_most x_many x_few x_everRight x_lagThen x_shadedThen x_firstFit x_rows x_rowMany x_sorts x_sizes x_number x_holds x_heldOne x_trace x_traced x_own x_isParted)) := by
  unfold X12_setsRight at hf
  refine MC.ofI pn_X12 (Nat.le_of_ble_eq_true rfl) ?_
  intro p e s m args below meth c A Q ls cx hR hw hl
  have hx := cx.1
  have hb := cx.2.1
  have hl : lv_has ls 3 [(0, .ref (a 0)), (1, .int v1)] := hl
  refine lv_aload_n hx hb dX12_setsRight_0 rfl (lv_at hl 0 rfl) ?_
  refine lv_iload_n hx hb dX12_setsRight_1 rfl (lv_at hl 1 rfl) ?_
  obtain ⟨r1, h2, hf⟩ := bnS hf
  refine calVi (k := 0) cx hw hl.1 (c_X12_paysOf h2) q_1326 k_X12_paysOf rfl rfl rfl dX12_setsRight_2 rfl (Nat.le_of_ble_eq_true rfl) ⟨Nat.le_of_ble_eq_true rfl, Nat.le_of_ble_eq_true rfl⟩ ⟨Nat.le_refl _, Nat.le_refl _⟩ (fun H locs hw => ?_)
  refine lv_istore_n (lv' := [(2, .int r1), (0, .ref (a 0)), (1, .int v1)]) hx hb dX12_setsRight_5 rfl hl (by decide) rfl (fun ls hl => ?_)
  refine lv_iload_n hx hb dX12_setsRight_6 rfl (lv_at hl 0 rfl) ?_
  refine lv_if_le (tgt := 24) hx hb dX12_setsRight_7 (by decide) (fun hc => ?_) (fun hc => ?_)
  · have hf := ifT hf hc
    refine lv_iload_n hx hb dX12_setsRight_24 rfl (lv_at hl 0 rfl) ?_
    have hf := Option.some.inj hf
    subst hf
    exact hR _ _ _ _ _ _ hw rfl ⟨rfl, rfl⟩ dX12_setsRight_25
  · have hf := ifF hf hc
    refine lv_aload_n hx hb dX12_setsRight_10 rfl (lv_at hl 1 rfl) ?_
    refine lv_iload_n hx hb dX12_setsRight_11 rfl (lv_at hl 2 rfl) ?_
    refine lv_iconst (v := 4) hx hb dX12_setsRight_12 (by decide) ?_
    refine lv_iconst (v := 1) hx hb dX12_setsRight_13 (by decide) ?_
    obtain ⟨r3, h4, hf⟩ := bnS hf
    refine calVv (k := 0) cx hw hl.1 (c_X12_puts h4) q_1288 k_X12_puts rfl rfl rfl dX12_setsRight_14 rfl (Nat.le_of_ble_eq_true rfl) ⟨Nat.le_of_ble_eq_true rfl, Nat.le_of_ble_eq_true rfl⟩ ⟨Nat.le_refl _, Nat.le_refl _⟩ (fun H locs hw => ?_)
    refine lv_aload_n hx hb dX12_setsRight_17 rfl (lv_at hl 1 rfl) ?_
    refine lv_iload_n hx hb dX12_setsRight_18 rfl (lv_at hl 2 rfl) ?_
    refine lv_iconst (v := 1) hx hb dX12_setsRight_19 (by decide) ?_
    refine lv_iconst (v := 0) hx hb dX12_setsRight_20 (by decide) ?_
    obtain ⟨r5, h6, hf⟩ := bnS hf
    refine calVv (k := 0) cx hw hl.1 (c_X12_puts h6) q_1288 k_X12_puts rfl rfl rfl dX12_setsRight_21 rfl (Nat.le_of_ble_eq_true rfl) ⟨Nat.le_of_ble_eq_true rfl, Nat.le_of_ble_eq_true rfl⟩ ⟨Nat.le_refl _, Nat.le_refl _⟩ (fun H locs hw => ?_)
    refine lv_iload_n hx hb dX12_setsRight_24 rfl (lv_at hl 0 rfl) ?_
    have hf := Option.some.inj hf
    subst hf
    exact hR _ _ _ _ _ _ hw rfl ⟨rfl, rfl⟩ dX12_setsRight_25
theorem dX12_argues_0 : decode cX12_argues 0 = .ok (.iconst 0, 1) := by decide +kernel
theorem dX12_argues_1 : decode cX12_argues 1 = .ok (.istore_n 2, 1) := by decide +kernel
theorem dX12_argues_2 : decode cX12_argues 2 = .ok (.iconst 0, 1) := by decide +kernel
theorem dX12_argues_3 : decode cX12_argues 3 = .ok (.istore_n 3, 1) := by decide +kernel
theorem dX12_argues_4 : decode cX12_argues 4 = .ok (.iload_n 3, 1) := by decide +kernel
theorem dX12_argues_5 : decode cX12_argues 5 = .ok (.aload_n 0, 1) := by decide +kernel
theorem dX12_argues_6 : decode cX12_argues 6 = .ok (.getfield 9, 3) := by decide +kernel
theorem dX12_argues_9 : decode cX12_argues 9 = .ok (.iconst 4, 1) := by decide +kernel
theorem dX12_argues_10 : decode cX12_argues 10 = .ok (.iaload, 1) := by decide +kernel
theorem dX12_argues_11 : decode cX12_argues 11 = .ok (.if_icmp .ge 103, 3) := by decide +kernel
theorem dX12_argues_14 : decode cX12_argues 14 = .ok (.iload_n 3, 1) := by decide +kernel
theorem dX12_argues_15 : decode cX12_argues 15 = .ok (.iload_n 1, 1) := by decide +kernel
theorem dX12_argues_16 : decode cX12_argues 16 = .ok (.if_icmp .eq 35, 3) := by decide +kernel
theorem dX12_argues_19 : decode cX12_argues 19 = .ok (.aload_n 0, 1) := by decide +kernel
theorem dX12_argues_20 : decode cX12_argues 20 = .ok (.iload_n 3, 1) := by decide +kernel
theorem dX12_argues_21 : decode cX12_argues 21 = .ok (.iconst 4, 1) := by decide +kernel
theorem dX12_argues_22 : decode cX12_argues 22 = .ok (.invokevirtual 79, 3) := by decide +kernel
theorem dX12_argues_25 : decode cX12_argues 25 = .ok (.ifCond .ne 26, 3) := by decide +kernel
theorem dX12_argues_28 : decode cX12_argues 28 = .ok (.aload_n 0, 1) := by decide +kernel
theorem dX12_argues_29 : decode cX12_argues 29 = .ok (.iload_n 3, 1) := by decide +kernel
theorem dX12_argues_30 : decode cX12_argues 30 = .ok (.iconst 3, 1) := by decide +kernel
theorem dX12_argues_31 : decode cX12_argues 31 = .ok (.invokevirtual 79, 3) := by decide +kernel
theorem dX12_argues_34 : decode cX12_argues 34 = .ok (.aload_n 0, 1) := by decide +kernel
theorem dX12_argues_35 : decode cX12_argues 35 = .ok (.iload_n 1, 1) := by decide +kernel
theorem dX12_argues_36 : decode cX12_argues 36 = .ok (.iconst 3, 1) := by decide +kernel
theorem dX12_argues_37 : decode cX12_argues 37 = .ok (.invokevirtual 79, 3) := by decide +kernel
theorem dX12_argues_40 : decode cX12_argues 40 = .ok (.invokestatic 106, 3) := by decide +kernel
theorem dX12_argues_43 : decode cX12_argues 43 = .ok (.iconst 1, 1) := by decide +kernel
theorem dX12_argues_44 : decode cX12_argues 44 = .ok (.if_icmp .gt 7, 3) := by decide +kernel
theorem dX12_argues_47 : decode cX12_argues 47 = .ok (.iconst 1, 1) := by decide +kernel
theorem dX12_argues_48 : decode cX12_argues 48 = .ok (.goto 4, 3) := by decide +kernel
theorem dX12_argues_51 : decode cX12_argues 51 = .ok (.iconst 0, 1) := by decide +kernel
theorem dX12_argues_52 : decode cX12_argues 52 = .ok (.istore 4, 2) := by decide +kernel
theorem dX12_argues_54 : decode cX12_argues 54 = .ok (.iload 4, 2) := by decide +kernel
theorem dX12_argues_56 : decode cX12_argues 56 = .ok (.ifCond .eq 21, 3) := by decide +kernel
theorem dX12_argues_59 : decode cX12_argues 59 = .ok (.aload_n 0, 1) := by decide +kernel
theorem dX12_argues_60 : decode cX12_argues 60 = .ok (.iload_n 1, 1) := by decide +kernel
theorem dX12_argues_61 : decode cX12_argues 61 = .ok (.iconst 1, 1) := by decide +kernel
theorem dX12_argues_62 : decode cX12_argues 62 = .ok (.invokevirtual 79, 3) := by decide +kernel
theorem dX12_argues_65 : decode cX12_argues 65 = .ok (.aload_n 0, 1) := by decide +kernel
theorem dX12_argues_66 : decode cX12_argues 66 = .ok (.iload_n 3, 1) := by decide +kernel
theorem dX12_argues_67 : decode cX12_argues 67 = .ok (.iconst 1, 1) := by decide +kernel
theorem dX12_argues_68 : decode cX12_argues 68 = .ok (.invokevirtual 79, 3) := by decide +kernel
theorem dX12_argues_71 : decode cX12_argues 71 = .ok (.isub, 1) := by decide +kernel
theorem dX12_argues_72 : decode cX12_argues 72 = .ok (.iconst 2, 1) := by decide +kernel
theorem dX12_argues_73 : decode cX12_argues 73 = .ok (.idiv, 1) := by decide +kernel
theorem dX12_argues_74 : decode cX12_argues 74 = .ok (.goto 4, 3) := by decide +kernel
theorem dX12_argues_77 : decode cX12_argues 77 = .ok (.iconst 0, 1) := by decide +kernel
theorem dX12_argues_78 : decode cX12_argues 78 = .ok (.istore 5, 2) := by decide +kernel
theorem dX12_argues_80 : decode cX12_argues 80 = .ok (.aload_n 0, 1) := by decide +kernel
theorem dX12_argues_81 : decode cX12_argues 81 = .ok (.iload_n 3, 1) := by decide +kernel
theorem dX12_argues_82 : decode cX12_argues 82 = .ok (.iconst 1, 1) := by decide +kernel
theorem dX12_argues_83 : decode cX12_argues 83 = .ok (.aload_n 0, 1) := by decide +kernel
theorem dX12_argues_84 : decode cX12_argues 84 = .ok (.iload_n 3, 1) := by decide +kernel
theorem dX12_argues_85 : decode cX12_argues 85 = .ok (.iconst 1, 1) := by decide +kernel
theorem dX12_argues_86 : decode cX12_argues 86 = .ok (.invokevirtual 79, 3) := by decide +kernel
theorem dX12_argues_89 : decode cX12_argues 89 = .ok (.iload 5, 2) := by decide +kernel
theorem dX12_argues_91 : decode cX12_argues 91 = .ok (.iadd, 1) := by decide +kernel
theorem dX12_argues_92 : decode cX12_argues 92 = .ok (.invokevirtual 197, 3) := by decide +kernel
theorem dX12_argues_95 : decode cX12_argues 95 = .ok (.iload_n 2, 1) := by decide +kernel
theorem dX12_argues_96 : decode cX12_argues 96 = .ok (.iload 5, 2) := by decide +kernel
theorem dX12_argues_98 : decode cX12_argues 98 = .ok (.ifCond .eq 7, 3) := by decide +kernel
theorem dX12_argues_101 : decode cX12_argues 101 = .ok (.iconst 1, 1) := by decide +kernel
theorem dX12_argues_102 : decode cX12_argues 102 = .ok (.goto 4, 3) := by decide +kernel
theorem dX12_argues_105 : decode cX12_argues 105 = .ok (.iconst 0, 1) := by decide +kernel
theorem dX12_argues_106 : decode cX12_argues 106 = .ok (.iadd, 1) := by decide +kernel
theorem dX12_argues_107 : decode cX12_argues 107 = .ok (.istore_n 2, 1) := by decide +kernel
theorem dX12_argues_108 : decode cX12_argues 108 = .ok (.iinc 3 1, 3) := by decide +kernel
theorem dX12_argues_111 : decode cX12_argues 111 = .ok (.goto (-107), 3) := by decide +kernel
theorem dX12_argues_114 : decode cX12_argues 114 = .ok (.iload_n 2, 1) := by decide +kernel
theorem dX12_argues_115 : decode cX12_argues 115 = .ok (.ireturn, 1) := by decide +kernel
theorem k_X12_argues : MV yX12_argues cX12_argues 6 (some .int) 1 := ⟨q_1436, qs_66, q_14, q_1437, ⟨by decide, by decide, by decide +kernel⟩⟩
theorem c_X12_argues {res : Int32 × (Nat → Int32)} (hf : X12_argues n x_s v1 = some res) : MC l E0 D t yX12_argues cX12_argues 6 (some .int) 2 0 0 [.ref (a 0), .int v1] (mW a t x_s x_kept x_laid x_isKept x_pile x_tape x_taped x_letters x_at x_begun x_token x_value x_opened x_steps x_code0 x_read x_saved x_plan x_bestPlan x_most x_many x_few x_everRight x_lagThen x_shadedThen x_firstFit x_rows x_rowMany x_sorts x_sizes x_number x_holds x_heldOne x_trace x_traced x_own x_isParted) (Qi res.1 (mW a t res.2 x_kept x_laid x_isKept x_pile x_tape x_taped x_letters x_at x_begun x_token x_value x_opened x_steps x_code0 x_read x_saved x_plan x_bestPlan x_most x_many x_few x_everRight x_lagThen x_shadedThen x_firstFit x_rows x_rowMany x_sorts x_sizes x_number x_holds x_heldOne x_trace x_traced x_own x_isParted)) := by
  unfold X12_argues at hf
  refine MC.ofI pn_X12 (Nat.le_of_ble_eq_true rfl) ?_
  intro p e s m args below meth c A Q ls cx hR hw hl
  have hx := cx.1
  have hb := cx.2.1
  have hl : lv_has ls 6 [(0, .ref (a 0)), (1, .int v1)] := hl
  refine lv_iconst (v := 0) hx hb dX12_argues_0 (by decide) ?_
  refine lv_istore_n (lv' := [(2, .int (0 : Int32)), (0, .ref (a 0)), (1, .int v1)]) hx hb dX12_argues_1 rfl hl (by decide) rfl (fun ls hl => ?_)
  refine lv_iconst (v := 0) hx hb dX12_argues_2 (by decide) ?_
  refine lv_istore_n (lv' := [(3, .int (0 : Int32)), (2, .int (0 : Int32)), (0, .ref (a 0)), (1, .int v1)]) hx hb dX12_argues_3 rfl hl (by decide) rfl (fun ls hl => ?_)
  obtain ⟨o19, ho19, hf⟩ := bnS hf
  have wL1 : ∀ (k : Nat) {v1 : Int32} {v2 : Int32} {v3 : Int32} {x_s : Nat → Int32} {H : Heap} {locs : List Loc} {ls : Array Slot} {o : Int32 × Int32 × (Nat → Int32)}, X12_argues_L1 n v1 k v2 v3 x_s = some o → Wd D A s (mW a t x_s x_kept x_laid x_isKept x_pile x_tape x_taped x_letters x_at x_begun x_token x_value x_opened x_steps x_code0 x_read x_saved x_plan x_bestPlan x_most x_many x_few x_everRight x_lagThen x_shadedThen x_firstFit x_rows x_rowMany x_sorts x_sizes x_number x_holds x_heldOne x_trace x_traced x_own x_isParted) H locs → lv_has ls 6 [(0, .ref (a 0)), (1, .int v1), (2, .int v2), (3, .int v3)] → (∀ (H : Heap) (locs : List Loc) (ls : Array Slot), Wd D A s (mW a t o.2.2 x_kept x_laid x_isKept x_pile x_tape x_taped x_letters x_at x_begun x_token x_value x_opened x_steps x_code0 x_read x_saved x_plan x_bestPlan x_most x_many x_few x_everRight x_lagThen x_shadedThen x_firstFit x_rows x_rowMany x_sorts x_sizes x_number x_holds x_heldOne x_trace x_traced x_own x_isParted) H locs → lv_has ls 6 [(0, .ref (a 0)), (1, .int v1), (2, .int o.1), (3, .int o.2.1)] → W p l e (rmz 2 0 0) s m args below meth c H locs 0 0 Q (F0 m 114 ls [])) → W p l e (rmz 2 0 0) s m args below meth c H locs 0 0 Q (F0 m 4 ls []) := by
    clear hf ho19 hw hl
    intro k
    induction k with
    | zero => intro v1 v2 v3 x_s H locs ls o hf hw hl kx; simp [X12_argues_L1] at hf
    | succ k ih =>
      intro v1 v2 v3 x_s H locs ls o hf hw hl kx
      rw [X12_argues_L1] at hf
      refine lv_iload_n hx hb dX12_argues_4 rfl (lv_at hl 3 rfl) ?_
      refine lv_aload_n hx hb dX12_argues_5 rfl (lv_at hl 0 rfl) ?_
      refine mg_s cx hw dX12_argues_6 ?_
      refine lv_iconst (v := 4) hx hb dX12_argues_9 (by decide) ?_
      refine ml_s (j := 4) cx hw (ib_in (by decide)) (by decide) dX12_argues_10 ?_
      refine lv_icmp_ge (tgt := 114) hx hb dX12_argues_11 (by decide) (fun hc => ?_) (fun hc => ?_)
      · have hf := ifT hf hc
        have hf := Option.some.inj hf
        subst hf
        exact kx _ _ _ hw (lv_sub hl [0, 1, 2, 3] rfl)
      · have hf := ifF hf hc
        refine lv_iload_n hx hb dX12_argues_14 rfl (lv_at hl 3 rfl) ?_
        refine lv_iload_n hx hb dX12_argues_15 rfl (lv_at hl 1 rfl) ?_
        obtain ⟨j8, hj8, hf⟩ := bnS hf
        have wj8 : ∀ (H : Heap) (locs : List Loc) (ls : Array Slot), Wd D A s (mW a t x_s x_kept x_laid x_isKept x_pile x_tape x_taped x_letters x_at x_begun x_token x_value x_opened x_steps x_code0 x_read x_saved x_plan x_bestPlan x_most x_many x_few x_everRight x_lagThen x_shadedThen x_firstFit x_rows x_rowMany x_sorts x_sizes x_number x_holds x_heldOne x_trace x_traced x_own x_isParted) H locs → lv_has ls 6 [(0, .ref (a 0)), (1, .int v1), (2, .int v2), (3, .int v3)] → W p l e (rmz 2 0 0) s m args below meth c H locs 0 0 Q (F0 m 52 ls [.int j8]) := by
          intro H locs ls hw hl
          refine lv_istore (lv' := [(4, .int j8), (0, .ref (a 0)), (1, .int v1), (2, .int v2), (3, .int v3)]) hx hb dX12_argues_52 hl (by decide) rfl (fun ls hl => ?_)
          refine lv_iload hx hb dX12_argues_54 (lv_at hl 0 rfl) ?_
          obtain ⟨j13, hj13, hf⟩ := bnS hf
          have wj13 : ∀ (H : Heap) (locs : List Loc) (ls : Array Slot), Wd D A s (mW a t x_s x_kept x_laid x_isKept x_pile x_tape x_taped x_letters x_at x_begun x_token x_value x_opened x_steps x_code0 x_read x_saved x_plan x_bestPlan x_most x_many x_few x_everRight x_lagThen x_shadedThen x_firstFit x_rows x_rowMany x_sorts x_sizes x_number x_holds x_heldOne x_trace x_traced x_own x_isParted) H locs → lv_has ls 6 [(0, .ref (a 0)), (1, .int v1), (2, .int v2), (3, .int v3), (4, .int j8)] → W p l e (rmz 2 0 0) s m args below meth c H locs 0 0 Q (F0 m 78 ls [.int j13]) := by
            intro H locs ls hw hl
            refine lv_istore (lv' := [(5, .int j13), (0, .ref (a 0)), (1, .int v1), (2, .int v2), (3, .int v3), (4, .int j8)]) hx hb dX12_argues_78 hl (by decide) rfl (fun ls hl => ?_)
            refine lv_aload_n hx hb dX12_argues_80 rfl (lv_at hl 1 rfl) ?_
            refine lv_iload_n hx hb dX12_argues_81 rfl (lv_at hl 4 rfl) ?_
            refine lv_iconst (v := 1) hx hb dX12_argues_82 (by decide) ?_
            refine lv_aload_n hx hb dX12_argues_83 rfl (lv_at hl 1 rfl) ?_
            refine lv_iload_n hx hb dX12_argues_84 rfl (lv_at hl 4 rfl) ?_
            refine lv_iconst (v := 1) hx hb dX12_argues_85 (by decide) ?_
            obtain ⟨r14, h15, hf⟩ := bnS hf
            refine calVi (k := 0) cx hw hl.1 (c_X12_get h15) q_1304 k_X12_get rfl rfl rfl dX12_argues_86 rfl (Nat.le_of_ble_eq_true rfl) ⟨Nat.le_of_ble_eq_true rfl, Nat.le_of_ble_eq_true rfl⟩ ⟨Nat.le_refl _, Nat.le_refl _⟩ (fun H locs hw => ?_)
            refine lv_iload hx hb dX12_argues_89 (lv_at hl 0 rfl) ?_
            refine lv_iadd hx hb dX12_argues_91 ?_
            obtain ⟨r16, h17, hf⟩ := bnS hf
            refine calVv (k := 0) cx hw hl.1 (c_X12_puts h17) q_1288 k_X12_puts rfl rfl rfl dX12_argues_92 rfl (Nat.le_of_ble_eq_true rfl) ⟨Nat.le_of_ble_eq_true rfl, Nat.le_of_ble_eq_true rfl⟩ ⟨Nat.le_refl _, Nat.le_refl _⟩ (fun H locs hw => ?_)
            refine lv_iload_n hx hb dX12_argues_95 rfl (lv_at hl 3 rfl) ?_
            refine lv_iload hx hb dX12_argues_96 (lv_at hl 0 rfl) ?_
            obtain ⟨j18, hj18, hf⟩ := pbS hf
            have wj18 : ∀ (H : Heap) (locs : List Loc) (ls : Array Slot), Wd D A s (mW a t r16 x_kept x_laid x_isKept x_pile x_tape x_taped x_letters x_at x_begun x_token x_value x_opened x_steps x_code0 x_read x_saved x_plan x_bestPlan x_most x_many x_few x_everRight x_lagThen x_shadedThen x_firstFit x_rows x_rowMany x_sorts x_sizes x_number x_holds x_heldOne x_trace x_traced x_own x_isParted) H locs → lv_has ls 6 [(0, .ref (a 0)), (1, .int v1), (2, .int v2), (3, .int v3), (4, .int j8), (5, .int j13)] → W p l e (rmz 2 0 0) s m args below meth c H locs 0 0 Q (F0 m 106 ls [.int j18, .int v2]) := by
              intro H locs ls hw hl
              refine lv_iadd hx hb dX12_argues_106 ?_
              refine lv_istore_n (lv' := [(2, .int (v2 + j18)), (0, .ref (a 0)), (1, .int v1), (3, .int v3), (4, .int j8), (5, .int j13)]) hx hb dX12_argues_107 rfl hl (by decide) rfl (fun ls hl => ?_)
              refine lv_iinc (v := (v3 + (1 : Int32))) (lv' := [(3, .int (v3 + (1 : Int32))), (2, .int (v2 + j18)), (0, .ref (a 0)), (1, .int v1), (4, .int j8), (5, .int j13)]) hx hb dX12_argues_108 hl (k := 3) rfl rfl (by decide) rfl (fun ls hl => ?_)
              refine lv_goto (tgt := 4) hx hb dX12_argues_111 (by decide) ?_
              exact ih hf hw (lv_sub hl [2, 3, 1, 0] rfl) kx
            clear hf
            have hf := hj18
            clear hj18
            refine lv_if_eq (tgt := 105) hx hb dX12_argues_98 (by decide) (fun hc => ?_) (fun hc => ?_)
            · have hf := ifT hf hc
              refine lv_iconst (v := 0) hx hb dX12_argues_105 (by decide) ?_
              subst hf
              exact wj18 _ _ _ hw (lv_sub hl [1, 2, 3, 4, 5, 0] rfl)
            · have hf := ifF hf hc
              refine lv_iconst (v := 1) hx hb dX12_argues_101 (by decide) ?_
              refine lv_goto (tgt := 106) hx hb dX12_argues_102 (by decide) ?_
              subst hf
              exact wj18 _ _ _ hw (lv_sub hl [1, 2, 3, 4, 5, 0] rfl)
          clear hf
          have hf := hj13
          clear hj13
          refine lv_if_eq (tgt := 77) hx hb dX12_argues_56 (by decide) (fun hc => ?_) (fun hc => ?_)
          · have hf := ifT hf hc
            refine lv_iconst (v := 0) hx hb dX12_argues_77 (by decide) ?_
            have hf := Option.some.inj hf
            subst hf
            exact wj13 _ _ _ hw (lv_sub hl [1, 2, 3, 4, 0] rfl)
          · have hf := ifF hf hc
            refine lv_aload_n hx hb dX12_argues_59 rfl (lv_at hl 1 rfl) ?_
            refine lv_iload_n hx hb dX12_argues_60 rfl (lv_at hl 2 rfl) ?_
            refine lv_iconst (v := 1) hx hb dX12_argues_61 (by decide) ?_
            obtain ⟨r9, h10, hf⟩ := bnS hf
            refine calVi (k := 0) cx hw hl.1 (c_X12_get h10) q_1304 k_X12_get rfl rfl rfl dX12_argues_62 rfl (Nat.le_of_ble_eq_true rfl) ⟨Nat.le_of_ble_eq_true rfl, Nat.le_of_ble_eq_true rfl⟩ ⟨Nat.le_refl _, Nat.le_refl _⟩ (fun H locs hw => ?_)
            refine lv_aload_n hx hb dX12_argues_65 rfl (lv_at hl 1 rfl) ?_
            refine lv_iload_n hx hb dX12_argues_66 rfl (lv_at hl 4 rfl) ?_
            refine lv_iconst (v := 1) hx hb dX12_argues_67 (by decide) ?_
            obtain ⟨r11, h12, hf⟩ := bnS hf
            refine calVi (k := 0) cx hw hl.1 (c_X12_get h12) q_1304 k_X12_get rfl rfl rfl dX12_argues_68 rfl (Nat.le_of_ble_eq_true rfl) ⟨Nat.le_of_ble_eq_true rfl, Nat.le_of_ble_eq_true rfl⟩ ⟨Nat.le_refl _, Nat.le_refl _⟩ (fun H locs hw => ?_)
            refine lv_isub hx hb dX12_argues_71 ?_
            refine lv_iconst (v := 2) hx hb dX12_argues_72 (by decide) ?_
            refine lv_idiv hx hb dX12_argues_73 (by decide) ?_
            refine lv_goto (tgt := 78) hx hb dX12_argues_74 (by decide) ?_
            have hf := Option.some.inj hf
            subst hf
            exact wj13 _ _ _ hw (lv_sub hl [1, 2, 3, 4, 0] rfl)
        clear hf
        have hf := hj8
        clear hj8
        refine lv_icmp_eq (tgt := 51) hx hb dX12_argues_16 (by decide) (fun hc => ?_) (fun hc => ?_)
        · have hf := ifT hf hc
          refine lv_iconst (v := 0) hx hb dX12_argues_51 (by decide) ?_
          have hf := Option.some.inj hf
          subst hf
          exact wj8 _ _ _ hw (lv_sub hl [0, 1, 2, 3] rfl)
        · have hf := ifF hf hc
          refine lv_aload_n hx hb dX12_argues_19 rfl (lv_at hl 0 rfl) ?_
          refine lv_iload_n hx hb dX12_argues_20 rfl (lv_at hl 3 rfl) ?_
          refine lv_iconst (v := 4) hx hb dX12_argues_21 (by decide) ?_
          obtain ⟨r1, h2, hf⟩ := bnS hf
          refine calVi (k := 0) cx hw hl.1 (c_X12_get h2) q_1304 k_X12_get rfl rfl rfl dX12_argues_22 rfl (Nat.le_of_ble_eq_true rfl) ⟨Nat.le_of_ble_eq_true rfl, Nat.le_of_ble_eq_true rfl⟩ ⟨Nat.le_refl _, Nat.le_refl _⟩ (fun H locs hw => ?_)
          obtain ⟨J7, hJ7, hf⟩ := jnS hf
          have wj7 : ∀ (j7 : Unit) (H : Heap) (locs : List Loc) (ls : Array Slot), J7 j7 = some j8 → Wd D A s (mW a t x_s x_kept x_laid x_isKept x_pile x_tape x_taped x_letters x_at x_begun x_token x_value x_opened x_steps x_code0 x_read x_saved x_plan x_bestPlan x_most x_many x_few x_everRight x_lagThen x_shadedThen x_firstFit x_rows x_rowMany x_sorts x_sizes x_number x_holds x_heldOne x_trace x_traced x_own x_isParted) H locs → lv_has ls 6 [(0, .ref (a 0)), (1, .int v1), (2, .int v2), (3, .int v3)] → W p l e (rmz 2 0 0) s m args below meth c H locs 0 0 Q (F0 m 51 ls []) := by
            intro j7 H locs ls hf hw hl
            have hf := hJ7 _ hf
            refine lv_iconst (v := 0) hx hb dX12_argues_51 (by decide) ?_
            have hf := Option.some.inj hf
            subst hf
            exact wj8 _ _ _ hw (lv_sub hl [0, 1, 2, 3] rfl)
          clear hJ7
          refine lv_if_ne (tgt := 51) hx hb dX12_argues_25 (by decide) (fun hc => ?_) (fun hc => ?_)
          · have hf := ifF hf hc
            exact wj7 _ _ _ _ hf hw (lv_sub hl [0, 1, 2, 3] rfl)
          · have hf := ifT hf hc
            refine lv_aload_n hx hb dX12_argues_28 rfl (lv_at hl 0 rfl) ?_
            refine lv_iload_n hx hb dX12_argues_29 rfl (lv_at hl 3 rfl) ?_
            refine lv_iconst (v := 3) hx hb dX12_argues_30 (by decide) ?_
            obtain ⟨r3, h4, hf⟩ := bnS hf
            refine calVi (k := 0) cx hw hl.1 (c_X12_get h4) q_1304 k_X12_get rfl rfl rfl dX12_argues_31 rfl (Nat.le_of_ble_eq_true rfl) ⟨Nat.le_of_ble_eq_true rfl, Nat.le_of_ble_eq_true rfl⟩ ⟨Nat.le_refl _, Nat.le_refl _⟩ (fun H locs hw => ?_)
            refine lv_aload_n hx hb dX12_argues_34 rfl (lv_at hl 0 rfl) ?_
            refine lv_iload_n hx hb dX12_argues_35 rfl (lv_at hl 1 rfl) ?_
            refine lv_iconst (v := 3) hx hb dX12_argues_36 (by decide) ?_
            obtain ⟨r5, h6, hf⟩ := bnS hf
            refine calVi (k := 0) cx hw hl.1 (c_X12_get h6) q_1304 k_X12_get rfl rfl rfl dX12_argues_37 rfl (Nat.le_of_ble_eq_true rfl) ⟨Nat.le_of_ble_eq_true rfl, Nat.le_of_ble_eq_true rfl⟩ ⟨Nat.le_refl _, Nat.le_refl _⟩ (fun H locs hw => ?_)
            refine calSi cx hw hl.1 (c_X12_apart rfl) q_1411 k_X12_apart rfl dX12_argues_40 rfl (Nat.le_of_ble_eq_true rfl) ⟨Nat.le_of_ble_eq_true rfl, Nat.le_of_ble_eq_true rfl⟩ ⟨Nat.le_refl _, Nat.le_refl _⟩ (fun H locs hw => ?_)
            refine lv_iconst (v := 1) hx hb dX12_argues_43 (by decide) ?_
            refine lv_icmp_gt (tgt := 51) hx hb dX12_argues_44 (by decide) (fun hc => ?_) (fun hc => ?_)
            · have hf := ifT hf hc
              exact wj7 _ _ _ _ hf hw (lv_sub hl [0, 1, 2, 3] rfl)
            · have hf := ifF hf hc
              refine lv_iconst (v := 1) hx hb dX12_argues_47 (by decide) ?_
              refine lv_goto (tgt := 52) hx hb dX12_argues_48 (by decide) ?_
              have hf := Option.some.inj hf
              subst hf
              exact wj8 _ _ _ hw (lv_sub hl [0, 1, 2, 3] rfl)
  refine wL1 n ho19 hw (lv_sub hl [2, 3, 1, 0] rfl) (fun H locs ls hw hl => ?_)
  clear wL1 ho19
  refine lv_iload_n hx hb dX12_argues_114 rfl (lv_at hl 2 rfl) ?_
  have hf := Option.some.inj hf
  subst hf
  exact hR _ _ _ _ _ _ hw rfl ⟨rfl, rfl⟩ dX12_argues_115
end MW2
