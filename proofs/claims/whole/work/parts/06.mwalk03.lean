section MW3
variable {l : Launch} {D : va_G} {t : Nat → ClassId} {a : Nat → Nat} {n : Nat} {x_s : Nat → Int32} {x_kept : Nat → Int32} {x_laid : Nat → Int32} {x_isKept : Int32} {x_pile : Nat → Int32} {x_tape : Nat → Int32} {x_taped : Int32} {x_letters : Nat → Int32} {x_at : Int32} {x_begun : Int32} {x_token : Int32} {x_value : Int32} {x_opened : Int32} {x_steps : Int32} {x_code0 : Nat → Int32} {x_read : Nat → Int32} {x_saved : Nat → Int32} {x_plan : Nat → Int32} {x_bestPlan : Nat → Int32} {x_most : Int32} {x_many : Int32} {x_few : Int32} {x_everRight : Int32} {x_lagThen : Nat → Int32} {x_shadedThen : Nat → Int32} {x_firstFit : Int32} {x_rows : Nat → Int32} {x_rowMany : Int32} {x_sorts : Nat → Int32} {x_sizes : Nat → Int32} {x_number : Nat → Int32} {x_holds : Nat → Int32} {x_heldOne : Nat → Int32} {x_trace : Nat → Int32} {x_traced : Int32} {x_own : Int32} {x_isParted : Int32} {v0 v1 v2 v3 v4 v5 : Int32}
theorem dX12_meets_0 : decode cX12_meets 0 = .ok (.aload_n 0, 1) := by decide +kernel
theorem dX12_meets_1 : decode cX12_meets 1 = .ok (.iload_n 1, 1) := by decide +kernel
theorem dX12_meets_2 : decode cX12_meets 2 = .ok (.invokevirtual 100, 3) := by decide +kernel
theorem dX12_meets_5 : decode cX12_meets 5 = .ok (.istore_n 2, 1) := by decide +kernel
theorem dX12_meets_6 : decode cX12_meets 6 = .ok (.iload_n 2, 1) := by decide +kernel
theorem dX12_meets_7 : decode cX12_meets 7 = .ok (.ifCond .ne 11, 3) := by decide +kernel
theorem dX12_meets_10 : decode cX12_meets 10 = .ok (.aload_n 0, 1) := by decide +kernel
theorem dX12_meets_11 : decode cX12_meets 11 = .ok (.iload_n 1, 1) := by decide +kernel
theorem dX12_meets_12 : decode cX12_meets 12 = .ok (.invokevirtual 201, 3) := by decide +kernel
theorem dX12_meets_15 : decode cX12_meets 15 = .ok (.goto 17, 3) := by decide +kernel
theorem dX12_meets_18 : decode cX12_meets 18 = .ok (.iload_n 2, 1) := by decide +kernel
theorem dX12_meets_19 : decode cX12_meets 19 = .ok (.iconst 2, 1) := by decide +kernel
theorem dX12_meets_20 : decode cX12_meets 20 = .ok (.if_icmp .ne 11, 3) := by decide +kernel
theorem dX12_meets_23 : decode cX12_meets 23 = .ok (.aload_n 0, 1) := by decide +kernel
theorem dX12_meets_24 : decode cX12_meets 24 = .ok (.iload_n 1, 1) := by decide +kernel
theorem dX12_meets_25 : decode cX12_meets 25 = .ok (.invokevirtual 204, 3) := by decide +kernel
theorem dX12_meets_28 : decode cX12_meets 28 = .ok (.goto 4, 3) := by decide +kernel
theorem dX12_meets_31 : decode cX12_meets 31 = .ok (.iconst 0, 1) := by decide +kernel
theorem dX12_meets_32 : decode cX12_meets 32 = .ok (.ireturn, 1) := by decide +kernel
theorem k_X12_meets : MV yX12_meets cX12_meets 3 (some .int) 1 := ⟨q_1428, qs_64, q_14, q_1429, ⟨by decide, by decide, by decide +kernel⟩⟩
theorem c_X12_meets {res : Int32 × (Nat → Int32) × (Nat → Int32)} (hf : X12_meets n x_s x_pile v1 = some res) : MC l E0 D t yX12_meets cX12_meets 3 (some .int) 5 0 0 [.ref (a 0), .int v1] (mW a t x_s x_kept x_laid x_isKept x_pile x_tape x_taped x_letters x_at x_begun x_token x_value x_opened x_steps x_code0 x_read x_saved x_plan x_bestPlan x_most x_many x_few x_everRight x_lagThen x_shadedThen x_firstFit x_rows x_rowMany x_sorts x_sizes x_number x_holds x_heldOne x_trace x_traced x_own x_isParted) (Qi res.1 (mW a t res.2.1 x_kept x_laid x_isKept res.2.2 x_tape x_taped x_letters x_at x_begun x_token x_value x_opened x_steps x_code0 x_read x_saved x_plan x_bestPlan x_most x_many x_few x_everRight x_lagThen x_shadedThen x_firstFit x_rows x_rowMany x_sorts x_sizes x_number x_holds x_heldOne x_trace x_traced x_own x_isParted)) := by
  unfold X12_meets at hf
  refine MC.ofI pn_X12 (Nat.le_of_ble_eq_true rfl) ?_
  intro p e s m args below meth c A Q ls cx hR hw hl
  have hx := cx.1
  have hb := cx.2.1
  have hl : lv_has ls 3 [(0, .ref (a 0)), (1, .int v1)] := hl
  refine lv_aload_n hx hb dX12_meets_0 rfl (lv_at hl 0 rfl) ?_
  refine lv_iload_n hx hb dX12_meets_1 rfl (lv_at hl 1 rfl) ?_
  obtain ⟨r1, h2, hf⟩ := bnS hf
  refine calVi (k := 0) cx hw hl.1 (c_X12_willOf h2) q_1334 k_X12_willOf rfl rfl rfl dX12_meets_2 rfl (Nat.le_of_ble_eq_true rfl) ⟨Nat.le_of_ble_eq_true rfl, Nat.le_of_ble_eq_true rfl⟩ ⟨Nat.le_refl _, Nat.le_refl _⟩ (fun H locs hw => ?_)
  refine lv_istore_n (lv' := [(2, .int r1.1), (0, .ref (a 0)), (1, .int v1)]) hx hb dX12_meets_5 rfl hl (by decide) rfl (fun ls hl => ?_)
  refine lv_iload_n hx hb dX12_meets_6 rfl (lv_at hl 0 rfl) ?_
  refine lv_if_ne (tgt := 18) hx hb dX12_meets_7 (by decide) (fun hc => ?_) (fun hc => ?_)
  · have hf := ifF hf hc
    refine lv_iload_n hx hb dX12_meets_18 rfl (lv_at hl 0 rfl) ?_
    refine lv_iconst (v := 2) hx hb dX12_meets_19 (by decide) ?_
    refine lv_icmp_ne (tgt := 31) hx hb dX12_meets_20 (by decide) (fun hc => ?_) (fun hc => ?_)
    · have hf := ifF hf hc
      refine lv_iconst (v := 0) hx hb dX12_meets_31 (by decide) ?_
      have hf := Option.some.inj hf
      subst hf
      exact hR _ _ _ _ _ _ hw rfl ⟨rfl, rfl⟩ dX12_meets_32
    · have hf := ifT hf hc
      refine lv_aload_n hx hb dX12_meets_23 rfl (lv_at hl 1 rfl) ?_
      refine lv_iload_n hx hb dX12_meets_24 rfl (lv_at hl 2 rfl) ?_
      obtain ⟨r5, h6, hf⟩ := bnS hf
      refine calVi (k := 0) cx hw hl.1 (c_X12_argues h6) q_1434 k_X12_argues rfl rfl rfl dX12_meets_25 rfl (Nat.le_of_ble_eq_true rfl) ⟨Nat.le_of_ble_eq_true rfl, Nat.le_of_ble_eq_true rfl⟩ ⟨Nat.le_refl _, Nat.le_refl _⟩ (fun H locs hw => ?_)
      refine lv_goto (tgt := 32) hx hb dX12_meets_28 (by decide) ?_
      have hf := Option.some.inj hf
      subst hf
      exact hR _ _ _ _ _ _ hw rfl ⟨rfl, rfl⟩ dX12_meets_32
  · have hf := ifT hf hc
    refine lv_aload_n hx hb dX12_meets_10 rfl (lv_at hl 1 rfl) ?_
    refine lv_iload_n hx hb dX12_meets_11 rfl (lv_at hl 2 rfl) ?_
    obtain ⟨r3, h4, hf⟩ := bnS hf
    refine calVi (k := 0) cx hw hl.1 (c_X12_setsRight h4) q_1430 k_X12_setsRight rfl rfl rfl dX12_meets_12 rfl (Nat.le_of_ble_eq_true rfl) ⟨Nat.le_of_ble_eq_true rfl, Nat.le_of_ble_eq_true rfl⟩ ⟨Nat.le_refl _, Nat.le_refl _⟩ (fun H locs hw => ?_)
    refine lv_goto (tgt := 32) hx hb dX12_meets_15 (by decide) ?_
    have hf := Option.some.inj hf
    subst hf
    exact hR _ _ _ _ _ _ hw rfl ⟨rfl, rfl⟩ dX12_meets_32
theorem dX12_restOne_0 : decode cX12_restOne 0 = .ok (.iconst 0, 1) := by decide +kernel
theorem dX12_restOne_1 : decode cX12_restOne 1 = .ok (.istore_n 1, 1) := by decide +kernel
theorem dX12_restOne_2 : decode cX12_restOne 2 = .ok (.iload_n 1, 1) := by decide +kernel
theorem dX12_restOne_3 : decode cX12_restOne 3 = .ok (.aload_n 0, 1) := by decide +kernel
theorem dX12_restOne_4 : decode cX12_restOne 4 = .ok (.getfield 9, 3) := by decide +kernel
theorem dX12_restOne_7 : decode cX12_restOne 7 = .ok (.iconst 4, 1) := by decide +kernel
theorem dX12_restOne_8 : decode cX12_restOne 8 = .ok (.iaload, 1) := by decide +kernel
theorem dX12_restOne_9 : decode cX12_restOne 9 = .ok (.if_icmp .ge 19, 3) := by decide +kernel
theorem dX12_restOne_12 : decode cX12_restOne 12 = .ok (.aload_n 0, 1) := by decide +kernel
theorem dX12_restOne_13 : decode cX12_restOne 13 = .ok (.iload_n 1, 1) := by decide +kernel
theorem dX12_restOne_14 : decode cX12_restOne 14 = .ok (.invokevirtual 207, 3) := by decide +kernel
theorem dX12_restOne_17 : decode cX12_restOne 17 = .ok (.ifCond .eq 5, 3) := by decide +kernel
theorem dX12_restOne_20 : decode cX12_restOne 20 = .ok (.iload_n 1, 1) := by decide +kernel
theorem dX12_restOne_21 : decode cX12_restOne 21 = .ok (.ireturn, 1) := by decide +kernel
theorem dX12_restOne_22 : decode cX12_restOne 22 = .ok (.iinc 1 1, 3) := by decide +kernel
theorem dX12_restOne_25 : decode cX12_restOne 25 = .ok (.goto (-23), 3) := by decide +kernel
theorem dX12_restOne_28 : decode cX12_restOne 28 = .ok (.iconst (-1), 1) := by decide +kernel
theorem dX12_restOne_29 : decode cX12_restOne 29 = .ok (.ireturn, 1) := by decide +kernel
theorem k_X12_restOne : MV yX12_restOne cX12_restOne 2 (some .int) 0 := ⟨q_1424, qs_63, q_14, q_1425, ⟨by decide, by decide, by decide +kernel⟩⟩
theorem c_X12_restOne {res : Int32 × (Nat → Int32)} (hf : X12_restOne n x_s x_pile = some res) : MC l E0 D t yX12_restOne cX12_restOne 2 (some .int) 6 0 0 [.ref (a 0)] (mW a t x_s x_kept x_laid x_isKept x_pile x_tape x_taped x_letters x_at x_begun x_token x_value x_opened x_steps x_code0 x_read x_saved x_plan x_bestPlan x_most x_many x_few x_everRight x_lagThen x_shadedThen x_firstFit x_rows x_rowMany x_sorts x_sizes x_number x_holds x_heldOne x_trace x_traced x_own x_isParted) (Qi res.1 (mW a t x_s x_kept x_laid x_isKept res.2 x_tape x_taped x_letters x_at x_begun x_token x_value x_opened x_steps x_code0 x_read x_saved x_plan x_bestPlan x_most x_many x_few x_everRight x_lagThen x_shadedThen x_firstFit x_rows x_rowMany x_sorts x_sizes x_number x_holds x_heldOne x_trace x_traced x_own x_isParted)) := by
  unfold X12_restOne at hf
  refine MC.ofI pn_X12 (Nat.le_of_ble_eq_true rfl) ?_
  intro p e s m args below meth c A Q ls cx hR hw hl
  have hx := cx.1
  have hb := cx.2.1
  have hl : lv_has ls 2 [(0, .ref (a 0))] := hl
  refine lv_iconst (v := 0) hx hb dX12_restOne_0 (by decide) ?_
  refine lv_istore_n (lv' := [(1, .int (0 : Int32)), (0, .ref (a 0))]) hx hb dX12_restOne_1 rfl hl (by decide) rfl (fun ls hl => ?_)
  obtain ⟨K1, hK1, hf⟩ := jnS hf
  have kx1 : ∀ (o3 : Int32 × (Nat → Int32)) (H : Heap) (locs : List Loc) (ls : Array Slot), K1 o3 = some res → Wd D A s (mW a t x_s x_kept x_laid x_isKept o3.2 x_tape x_taped x_letters x_at x_begun x_token x_value x_opened x_steps x_code0 x_read x_saved x_plan x_bestPlan x_most x_many x_few x_everRight x_lagThen x_shadedThen x_firstFit x_rows x_rowMany x_sorts x_sizes x_number x_holds x_heldOne x_trace x_traced x_own x_isParted) H locs → lv_has ls 2 [(0, .ref (a 0)), (1, .int o3.1)] → W p l e (rmz 6 0 0) s m args below meth c H locs 0 0 Q (F0 m 28 ls []) := by
    intro o3 H locs ls hf hw hl
    have hf := hK1 _ hf
    refine lv_iconst (v := (-1)) hx hb dX12_restOne_28 (by decide) ?_
    have hf := Option.some.inj hf
    subst hf
    exact hR _ _ _ _ _ _ hw rfl ⟨rfl, rfl⟩ dX12_restOne_29
  have wL1 : ∀ (k : Nat) {v1 : Int32} {x_pile : Nat → Int32} {H : Heap} {locs : List Loc} {ls : Array Slot}, X12_restOne_L1 n x_s K1 k v1 x_pile = some res → Wd D A s (mW a t x_s x_kept x_laid x_isKept x_pile x_tape x_taped x_letters x_at x_begun x_token x_value x_opened x_steps x_code0 x_read x_saved x_plan x_bestPlan x_most x_many x_few x_everRight x_lagThen x_shadedThen x_firstFit x_rows x_rowMany x_sorts x_sizes x_number x_holds x_heldOne x_trace x_traced x_own x_isParted) H locs → lv_has ls 2 [(0, .ref (a 0)), (1, .int v1)] → (∀ (o : Int32 × (Nat → Int32)) (H : Heap) (locs : List Loc) (ls : Array Slot), K1 o = some res → Wd D A s (mW a t x_s x_kept x_laid x_isKept o.2 x_tape x_taped x_letters x_at x_begun x_token x_value x_opened x_steps x_code0 x_read x_saved x_plan x_bestPlan x_most x_many x_few x_everRight x_lagThen x_shadedThen x_firstFit x_rows x_rowMany x_sorts x_sizes x_number x_holds x_heldOne x_trace x_traced x_own x_isParted) H locs → lv_has ls 2 [(0, .ref (a 0)), (1, .int o.1)] → W p l e (rmz 6 0 0) s m args below meth c H locs 0 0 Q (F0 m 28 ls [])) → W p l e (rmz 6 0 0) s m args below meth c H locs 0 0 Q (F0 m 2 ls []) := by
    clear hf hw hl hK1 kx1
    intro k
    induction k with
    | zero => intro v1 x_pile H locs ls hf hw hl kx; simp [X12_restOne_L1] at hf
    | succ k ih =>
      intro v1 x_pile H locs ls hf hw hl kx
      rw [X12_restOne_L1] at hf
      refine lv_iload_n hx hb dX12_restOne_2 rfl (lv_at hl 1 rfl) ?_
      refine lv_aload_n hx hb dX12_restOne_3 rfl (lv_at hl 0 rfl) ?_
      refine mg_s cx hw dX12_restOne_4 ?_
      refine lv_iconst (v := 4) hx hb dX12_restOne_7 (by decide) ?_
      refine ml_s (j := 4) cx hw (ib_in (by decide)) (by decide) dX12_restOne_8 ?_
      refine lv_icmp_ge (tgt := 28) hx hb dX12_restOne_9 (by decide) (fun hc => ?_) (fun hc => ?_)
      · have hf := ifT hf hc
        exact kx _ _ _ _ hf hw (lv_sub hl [0, 1] rfl)
      · have hf := ifF hf hc
        refine lv_aload_n hx hb dX12_restOne_12 rfl (lv_at hl 0 rfl) ?_
        refine lv_iload_n hx hb dX12_restOne_13 rfl (lv_at hl 1 rfl) ?_
        obtain ⟨r1, h2, hf⟩ := bnS hf
        refine calVi (k := 0) cx hw hl.1 (c_X12_maySet h2) q_1330 k_X12_maySet rfl rfl rfl dX12_restOne_14 rfl (Nat.le_of_ble_eq_true rfl) ⟨Nat.le_of_ble_eq_true rfl, Nat.le_of_ble_eq_true rfl⟩ ⟨Nat.le_refl _, Nat.le_refl _⟩ (fun H locs hw => ?_)
        refine lv_if_eq (tgt := 22) hx hb dX12_restOne_17 (by decide) (fun hc => ?_) (fun hc => ?_)
        · have hf := ifT hf hc
          refine lv_iinc (v := (v1 + (1 : Int32))) (lv' := [(1, .int (v1 + (1 : Int32))), (0, .ref (a 0))]) hx hb dX12_restOne_22 hl (k := 1) rfl rfl (by decide) rfl (fun ls hl => ?_)
          refine lv_goto (tgt := 2) hx hb dX12_restOne_25 (by decide) ?_
          exact ih hf hw (lv_sub hl [1, 0] rfl) kx
        · have hf := ifF hf hc
          refine lv_iload_n hx hb dX12_restOne_20 rfl (lv_at hl 1 rfl) ?_
          have hf := Option.some.inj hf
          subst hf
          exact hR _ _ _ _ _ _ hw rfl ⟨rfl, rfl⟩ dX12_restOne_21
  exact wL1 n hf hw (lv_sub hl [1, 0] rfl) kx1
theorem dX12_goesBy_0 : decode cX12_goesBy 0 = .ok (.iload_n 1, 1) := by decide +kernel
theorem dX12_goesBy_1 : decode cX12_goesBy 1 = .ok (.ifCond .ge 10, 3) := by decide +kernel
theorem dX12_goesBy_4 : decode cX12_goesBy 4 = .ok (.aload_n 0, 1) := by decide +kernel
theorem dX12_goesBy_5 : decode cX12_goesBy 5 = .ok (.invokevirtual 210, 3) := by decide +kernel
theorem dX12_goesBy_8 : decode cX12_goesBy 8 = .ok (.goto 6, 3) := by decide +kernel
theorem dX12_goesBy_11 : decode cX12_goesBy 11 = .ok (.iload_n 1, 1) := by decide +kernel
theorem dX12_goesBy_12 : decode cX12_goesBy 12 = .ok (.iconst 1, 1) := by decide +kernel
theorem dX12_goesBy_13 : decode cX12_goesBy 13 = .ok (.isub, 1) := by decide +kernel
theorem dX12_goesBy_14 : decode cX12_goesBy 14 = .ok (.istore_n 2, 1) := by decide +kernel
theorem dX12_goesBy_15 : decode cX12_goesBy 15 = .ok (.iload_n 2, 1) := by decide +kernel
theorem dX12_goesBy_16 : decode cX12_goesBy 16 = .ok (.ifCond .lt 11, 3) := by decide +kernel
theorem dX12_goesBy_19 : decode cX12_goesBy 19 = .ok (.aload_n 0, 1) := by decide +kernel
theorem dX12_goesBy_20 : decode cX12_goesBy 20 = .ok (.iload_n 2, 1) := by decide +kernel
theorem dX12_goesBy_21 : decode cX12_goesBy 21 = .ok (.invokevirtual 213, 3) := by decide +kernel
theorem dX12_goesBy_24 : decode cX12_goesBy 24 = .ok (.goto 4, 3) := by decide +kernel
theorem dX12_goesBy_27 : decode cX12_goesBy 27 = .ok (.iconst 0, 1) := by decide +kernel
theorem dX12_goesBy_28 : decode cX12_goesBy 28 = .ok (.aload_n 0, 1) := by decide +kernel
theorem dX12_goesBy_29 : decode cX12_goesBy 29 = .ok (.invokevirtual 216, 3) := by decide +kernel
theorem dX12_goesBy_32 : decode cX12_goesBy 32 = .ok (.iconst 2, 1) := by decide +kernel
theorem dX12_goesBy_33 : decode cX12_goesBy 33 = .ok (.idiv, 1) := by decide +kernel
theorem dX12_goesBy_34 : decode cX12_goesBy 34 = .ok (.iadd, 1) := by decide +kernel
theorem dX12_goesBy_35 : decode cX12_goesBy 35 = .ok (.istore_n 3, 1) := by decide +kernel
theorem dX12_goesBy_36 : decode cX12_goesBy 36 = .ok (.iconst 0, 1) := by decide +kernel
theorem dX12_goesBy_37 : decode cX12_goesBy 37 = .ok (.istore 4, 2) := by decide +kernel
theorem dX12_goesBy_39 : decode cX12_goesBy 39 = .ok (.iload 4, 2) := by decide +kernel
theorem dX12_goesBy_41 : decode cX12_goesBy 41 = .ok (.aload_n 0, 1) := by decide +kernel
theorem dX12_goesBy_42 : decode cX12_goesBy 42 = .ok (.getfield 9, 3) := by decide +kernel
theorem dX12_goesBy_45 : decode cX12_goesBy 45 = .ok (.iconst 4, 1) := by decide +kernel
theorem dX12_goesBy_46 : decode cX12_goesBy 46 = .ok (.iaload, 1) := by decide +kernel
theorem dX12_goesBy_47 : decode cX12_goesBy 47 = .ok (.if_icmp .ge 60, 3) := by decide +kernel
theorem dX12_goesBy_50 : decode cX12_goesBy 50 = .ok (.aload_n 0, 1) := by decide +kernel
theorem dX12_goesBy_51 : decode cX12_goesBy 51 = .ok (.iload 4, 2) := by decide +kernel
theorem dX12_goesBy_53 : decode cX12_goesBy 53 = .ok (.iconst 1, 1) := by decide +kernel
theorem dX12_goesBy_54 : decode cX12_goesBy 54 = .ok (.invokevirtual 79, 3) := by decide +kernel
theorem dX12_goesBy_57 : decode cX12_goesBy 57 = .ok (.aload_n 0, 1) := by decide +kernel
theorem dX12_goesBy_58 : decode cX12_goesBy 58 = .ok (.iload 4, 2) := by decide +kernel
theorem dX12_goesBy_60 : decode cX12_goesBy 60 = .ok (.invokevirtual 219, 3) := by decide +kernel
theorem dX12_goesBy_63 : decode cX12_goesBy 63 = .ok (.iadd, 1) := by decide +kernel
theorem dX12_goesBy_64 : decode cX12_goesBy 64 = .ok (.bipush 99, 2) := by decide +kernel
theorem dX12_goesBy_66 : decode cX12_goesBy 66 = .ok (.invokestatic 222, 3) := by decide +kernel
theorem dX12_goesBy_69 : decode cX12_goesBy 69 = .ok (.istore 5, 2) := by decide +kernel
theorem dX12_goesBy_71 : decode cX12_goesBy 71 = .ok (.aload_n 0, 1) := by decide +kernel
theorem dX12_goesBy_72 : decode cX12_goesBy 72 = .ok (.iload 4, 2) := by decide +kernel
theorem dX12_goesBy_74 : decode cX12_goesBy 74 = .ok (.iconst 1, 1) := by decide +kernel
theorem dX12_goesBy_75 : decode cX12_goesBy 75 = .ok (.aload_n 0, 1) := by decide +kernel
theorem dX12_goesBy_76 : decode cX12_goesBy 76 = .ok (.iload 4, 2) := by decide +kernel
theorem dX12_goesBy_78 : decode cX12_goesBy 78 = .ok (.iconst 4, 1) := by decide +kernel
theorem dX12_goesBy_79 : decode cX12_goesBy 79 = .ok (.invokevirtual 79, 3) := by decide +kernel
theorem dX12_goesBy_82 : decode cX12_goesBy 82 = .ok (.iconst 1, 1) := by decide +kernel
theorem dX12_goesBy_83 : decode cX12_goesBy 83 = .ok (.if_icmp .ne 13, 3) := by decide +kernel
theorem dX12_goesBy_86 : decode cX12_goesBy 86 = .ok (.aload_n 0, 1) := by decide +kernel
theorem dX12_goesBy_87 : decode cX12_goesBy 87 = .ok (.iload 4, 2) := by decide +kernel
theorem dX12_goesBy_89 : decode cX12_goesBy 89 = .ok (.iconst 1, 1) := by decide +kernel
theorem dX12_goesBy_90 : decode cX12_goesBy 90 = .ok (.invokevirtual 79, 3) := by decide +kernel
theorem dX12_goesBy_93 : decode cX12_goesBy 93 = .ok (.goto 5, 3) := by decide +kernel
theorem dX12_goesBy_96 : decode cX12_goesBy 96 = .ok (.iload 5, 2) := by decide +kernel
theorem dX12_goesBy_98 : decode cX12_goesBy 98 = .ok (.invokevirtual 197, 3) := by decide +kernel
theorem dX12_goesBy_101 : decode cX12_goesBy 101 = .ok (.iinc 4 1, 3) := by decide +kernel
theorem dX12_goesBy_104 : decode cX12_goesBy 104 = .ok (.goto (-65), 3) := by decide +kernel
theorem dX12_goesBy_107 : decode cX12_goesBy 107 = .ok (.aload_n 0, 1) := by decide +kernel
theorem dX12_goesBy_108 : decode cX12_goesBy 108 = .ok (.getfield 9, 3) := by decide +kernel
theorem dX12_goesBy_111 : decode cX12_goesBy 111 = .ok (.iconst 0, 1) := by decide +kernel
theorem dX12_goesBy_112 : decode cX12_goesBy 112 = .ok (.dup2, 1) := by decide +kernel
theorem dX12_goesBy_113 : decode cX12_goesBy 113 = .ok (.iaload, 1) := by decide +kernel
theorem dX12_goesBy_114 : decode cX12_goesBy 114 = .ok (.iconst 1, 1) := by decide +kernel
theorem dX12_goesBy_115 : decode cX12_goesBy 115 = .ok (.iadd, 1) := by decide +kernel
theorem dX12_goesBy_116 : decode cX12_goesBy 116 = .ok (.iastore, 1) := by decide +kernel
theorem dX12_goesBy_117 : decode cX12_goesBy 117 = .ok (.aload_n 0, 1) := by decide +kernel
theorem dX12_goesBy_118 : decode cX12_goesBy 118 = .ok (.getfield 9, 3) := by decide +kernel
theorem dX12_goesBy_121 : decode cX12_goesBy 121 = .ok (.iconst 2, 1) := by decide +kernel
theorem dX12_goesBy_122 : decode cX12_goesBy 122 = .ok (.dup2, 1) := by decide +kernel
theorem dX12_goesBy_123 : decode cX12_goesBy 123 = .ok (.iaload, 1) := by decide +kernel
theorem dX12_goesBy_124 : decode cX12_goesBy 124 = .ok (.iload_n 3, 1) := by decide +kernel
theorem dX12_goesBy_125 : decode cX12_goesBy 125 = .ok (.iadd, 1) := by decide +kernel
theorem dX12_goesBy_126 : decode cX12_goesBy 126 = .ok (.iastore, 1) := by decide +kernel
theorem dX12_goesBy_127 : decode cX12_goesBy 127 = .ok (.iload_n 3, 1) := by decide +kernel
theorem dX12_goesBy_128 : decode cX12_goesBy 128 = .ok (.ireturn, 1) := by decide +kernel
theorem k_X12_goesBy : MV yX12_goesBy cX12_goesBy 6 (some .int) 1 := ⟨q_1420, qs_62, q_14, q_1421, ⟨by decide, by decide, by decide +kernel⟩⟩
theorem c_X12_goesBy {res : Int32 × (Nat → Int32) × (Nat → Int32)} (hf : X12_goesBy n x_s x_pile v1 = some res) : MC l E0 D t yX12_goesBy cX12_goesBy 6 (some .int) 7 0 0 [.ref (a 0), .int v1] (mW a t x_s x_kept x_laid x_isKept x_pile x_tape x_taped x_letters x_at x_begun x_token x_value x_opened x_steps x_code0 x_read x_saved x_plan x_bestPlan x_most x_many x_few x_everRight x_lagThen x_shadedThen x_firstFit x_rows x_rowMany x_sorts x_sizes x_number x_holds x_heldOne x_trace x_traced x_own x_isParted) (Qi res.1 (mW a t res.2.1 x_kept x_laid x_isKept res.2.2 x_tape x_taped x_letters x_at x_begun x_token x_value x_opened x_steps x_code0 x_read x_saved x_plan x_bestPlan x_most x_many x_few x_everRight x_lagThen x_shadedThen x_firstFit x_rows x_rowMany x_sorts x_sizes x_number x_holds x_heldOne x_trace x_traced x_own x_isParted)) := by
  unfold X12_goesBy at hf
  refine MC.ofI pn_X12 (Nat.le_of_ble_eq_true rfl) ?_
  intro p e s m args below meth c A Q ls cx hR hw hl
  have hx := cx.1
  have hb := cx.2.1
  have hl : lv_has ls 6 [(0, .ref (a 0)), (1, .int v1)] := hl
  refine lv_iload_n hx hb dX12_goesBy_0 rfl (lv_at hl 1 rfl) ?_
  obtain ⟨j3, hj3, hf⟩ := bnS hf
  have wj3 : ∀ (H : Heap) (locs : List Loc) (ls : Array Slot), Wd D A s (mW a t x_s x_kept x_laid x_isKept j3.2 x_tape x_taped x_letters x_at x_begun x_token x_value x_opened x_steps x_code0 x_read x_saved x_plan x_bestPlan x_most x_many x_few x_everRight x_lagThen x_shadedThen x_firstFit x_rows x_rowMany x_sorts x_sizes x_number x_holds x_heldOne x_trace x_traced x_own x_isParted) H locs → lv_has ls 6 [(0, .ref (a 0)), (1, .int v1)] → W p l e (rmz 7 0 0) s m args below meth c H locs 0 0 Q (F0 m 14 ls [.int j3.1]) := by
    intro H locs ls hw hl
    refine lv_istore_n (lv' := [(2, .int j3.1), (0, .ref (a 0)), (1, .int v1)]) hx hb dX12_goesBy_14 rfl hl (by decide) rfl (fun ls hl => ?_)
    refine lv_iload_n hx hb dX12_goesBy_15 rfl (lv_at hl 0 rfl) ?_
    obtain ⟨j6, hj6, hf⟩ := bnS hf
    have wj6 : ∀ (H : Heap) (locs : List Loc) (ls : Array Slot), Wd D A s (mW a t j6.2.1 x_kept x_laid x_isKept j6.2.2 x_tape x_taped x_letters x_at x_begun x_token x_value x_opened x_steps x_code0 x_read x_saved x_plan x_bestPlan x_most x_many x_few x_everRight x_lagThen x_shadedThen x_firstFit x_rows x_rowMany x_sorts x_sizes x_number x_holds x_heldOne x_trace x_traced x_own x_isParted) H locs → lv_has ls 6 [(0, .ref (a 0)), (1, .int v1), (2, .int j3.1)] → W p l e (rmz 7 0 0) s m args below meth c H locs 0 0 Q (F0 m 28 ls [.int j6.1]) := by
      intro H locs ls hw hl
      refine lv_aload_n hx hb dX12_goesBy_28 rfl (lv_at hl 0 rfl) ?_
      obtain ⟨r7, h8, hf⟩ := bnS hf
      refine calVi (k := 0) cx hw hl.1 (c_X12_pairsNow h8) q_1403 k_X12_pairsNow rfl rfl rfl dX12_goesBy_29 rfl (Nat.le_of_ble_eq_true rfl) ⟨Nat.le_of_ble_eq_true rfl, Nat.le_of_ble_eq_true rfl⟩ ⟨Nat.le_refl _, Nat.le_refl _⟩ (fun H locs hw => ?_)
      refine lv_iconst (v := 2) hx hb dX12_goesBy_32 (by decide) ?_
      refine lv_idiv hx hb dX12_goesBy_33 (by decide) ?_
      refine lv_iadd hx hb dX12_goesBy_34 ?_
      refine lv_istore_n (lv' := [(3, .int (j6.1 + (r7 / (2 : Int32)))), (0, .ref (a 0)), (1, .int v1), (2, .int j3.1)]) hx hb dX12_goesBy_35 rfl hl (by decide) rfl (fun ls hl => ?_)
      refine lv_iconst (v := 0) hx hb dX12_goesBy_36 (by decide) ?_
      refine lv_istore (lv' := [(4, .int (0 : Int32)), (3, .int (j6.1 + (r7 / (2 : Int32)))), (0, .ref (a 0)), (1, .int v1), (2, .int j3.1)]) hx hb dX12_goesBy_37 hl (by decide) rfl (fun ls hl => ?_)
      obtain ⟨o20, ho20, hf⟩ := bnS hf
      have wL1 : ∀ (k : Nat) {v1 : Int32} {v2 : Int32} {v3 : Int32} {v4 : Int32} {x_s : Nat → Int32} {x_pile : Nat → Int32} {H : Heap} {locs : List Loc} {ls : Array Slot} {o : Int32 × (Nat → Int32)}, X12_goesBy_L1 n k v4 x_s = some o → Wd D A s (mW a t x_s x_kept x_laid x_isKept x_pile x_tape x_taped x_letters x_at x_begun x_token x_value x_opened x_steps x_code0 x_read x_saved x_plan x_bestPlan x_most x_many x_few x_everRight x_lagThen x_shadedThen x_firstFit x_rows x_rowMany x_sorts x_sizes x_number x_holds x_heldOne x_trace x_traced x_own x_isParted) H locs → lv_has ls 6 [(0, .ref (a 0)), (1, .int v1), (2, .int v2), (3, .int v3), (4, .int v4)] → (∀ (H : Heap) (locs : List Loc) (ls : Array Slot), Wd D A s (mW a t o.2 x_kept x_laid x_isKept x_pile x_tape x_taped x_letters x_at x_begun x_token x_value x_opened x_steps x_code0 x_read x_saved x_plan x_bestPlan x_most x_many x_few x_everRight x_lagThen x_shadedThen x_firstFit x_rows x_rowMany x_sorts x_sizes x_number x_holds x_heldOne x_trace x_traced x_own x_isParted) H locs → lv_has ls 6 [(0, .ref (a 0)), (1, .int v1), (2, .int v2), (3, .int v3), (4, .int o.1)] → W p l e (rmz 7 0 0) s m args below meth c H locs 0 0 Q (F0 m 107 ls [])) → W p l e (rmz 7 0 0) s m args below meth c H locs 0 0 Q (F0 m 39 ls []) := by
        clear hf ho20 hw hl
        intro k
        induction k with
        | zero => intro v1 v2 v3 v4 x_s x_pile H locs ls o hf hw hl kx; simp [X12_goesBy_L1] at hf
        | succ k ih =>
          intro v1 v2 v3 v4 x_s x_pile H locs ls o hf hw hl kx
          rw [X12_goesBy_L1] at hf
          refine lv_iload hx hb dX12_goesBy_39 (lv_at hl 4 rfl) ?_
          refine lv_aload_n hx hb dX12_goesBy_41 rfl (lv_at hl 0 rfl) ?_
          refine mg_s cx hw dX12_goesBy_42 ?_
          refine lv_iconst (v := 4) hx hb dX12_goesBy_45 (by decide) ?_
          refine ml_s (j := 4) cx hw (ib_in (by decide)) (by decide) dX12_goesBy_46 ?_
          refine lv_icmp_ge (tgt := 107) hx hb dX12_goesBy_47 (by decide) (fun hc => ?_) (fun hc => ?_)
          · have hf := ifT hf hc
            have hf := Option.some.inj hf
            subst hf
            exact kx _ _ _ hw (lv_sub hl [0, 1, 2, 3, 4] rfl)
          · have hf := ifF hf hc
            refine lv_aload_n hx hb dX12_goesBy_50 rfl (lv_at hl 0 rfl) ?_
            refine lv_iload hx hb dX12_goesBy_51 (lv_at hl 4 rfl) ?_
            refine lv_iconst (v := 1) hx hb dX12_goesBy_53 (by decide) ?_
            obtain ⟨r9, h10, hf⟩ := bnS hf
            refine calVi (k := 0) cx hw hl.1 (c_X12_get h10) q_1304 k_X12_get rfl rfl rfl dX12_goesBy_54 rfl (Nat.le_of_ble_eq_true rfl) ⟨Nat.le_of_ble_eq_true rfl, Nat.le_of_ble_eq_true rfl⟩ ⟨Nat.le_refl _, Nat.le_refl _⟩ (fun H locs hw => ?_)
            refine lv_aload_n hx hb dX12_goesBy_57 rfl (lv_at hl 0 rfl) ?_
            refine lv_iload hx hb dX12_goesBy_58 (lv_at hl 4 rfl) ?_
            obtain ⟨r11, h12, hf⟩ := bnS hf
            refine calVi (k := 0) cx hw hl.1 (c_X12_slipsOf h12) q_1315 k_X12_slipsOf rfl rfl rfl dX12_goesBy_60 rfl (Nat.le_of_ble_eq_true rfl) ⟨Nat.le_of_ble_eq_true rfl, Nat.le_of_ble_eq_true rfl⟩ ⟨Nat.le_refl _, Nat.le_refl _⟩ (fun H locs hw => ?_)
            refine lv_iadd hx hb dX12_goesBy_63 ?_
            refine lv_bipush (v := 99) hx hb dX12_goesBy_64 (by decide) ?_
            refine calSi cx hw hl.1 (c_X12_held rfl) q_1438 k_X12_held rfl dX12_goesBy_66 rfl (Nat.le_of_ble_eq_true rfl) ⟨Nat.le_of_ble_eq_true rfl, Nat.le_of_ble_eq_true rfl⟩ ⟨Nat.le_refl _, Nat.le_refl _⟩ (fun H locs hw => ?_)
            refine lv_istore (lv' := [(5, .int (X12_held (r9 + r11) (99 : Int32))), (0, .ref (a 0)), (1, .int v1), (2, .int v2), (3, .int v3), (4, .int v4)]) hx hb dX12_goesBy_69 hl (by decide) rfl (fun ls hl => ?_)
            refine lv_aload_n hx hb dX12_goesBy_71 rfl (lv_at hl 1 rfl) ?_
            refine lv_iload hx hb dX12_goesBy_72 (lv_at hl 5 rfl) ?_
            refine lv_iconst (v := 1) hx hb dX12_goesBy_74 (by decide) ?_
            refine lv_aload_n hx hb dX12_goesBy_75 rfl (lv_at hl 1 rfl) ?_
            refine lv_iload hx hb dX12_goesBy_76 (lv_at hl 5 rfl) ?_
            refine lv_iconst (v := 4) hx hb dX12_goesBy_78 (by decide) ?_
            obtain ⟨r13, h14, hf⟩ := bnS hf
            refine calVi (k := 0) cx hw hl.1 (c_X12_get h14) q_1304 k_X12_get rfl rfl rfl dX12_goesBy_79 rfl (Nat.le_of_ble_eq_true rfl) ⟨Nat.le_of_ble_eq_true rfl, Nat.le_of_ble_eq_true rfl⟩ ⟨Nat.le_refl _, Nat.le_refl _⟩ (fun H locs hw => ?_)
            refine lv_iconst (v := 1) hx hb dX12_goesBy_82 (by decide) ?_
            obtain ⟨j17, hj17, hf⟩ := bnS hf
            have wj17 : ∀ (H : Heap) (locs : List Loc) (ls : Array Slot), Wd D A s (mW a t x_s x_kept x_laid x_isKept x_pile x_tape x_taped x_letters x_at x_begun x_token x_value x_opened x_steps x_code0 x_read x_saved x_plan x_bestPlan x_most x_many x_few x_everRight x_lagThen x_shadedThen x_firstFit x_rows x_rowMany x_sorts x_sizes x_number x_holds x_heldOne x_trace x_traced x_own x_isParted) H locs → lv_has ls 6 [(0, .ref (a 0)), (1, .int v1), (2, .int v2), (3, .int v3), (4, .int v4), (5, .int (X12_held (r9 + r11) (99 : Int32)))] → W p l e (rmz 7 0 0) s m args below meth c H locs 0 0 Q (F0 m 98 ls [.int j17, .int (1 : Int32), .int v4, .ref (a 0)]) := by
              intro H locs ls hw hl
              obtain ⟨r18, h19, hf⟩ := bnS hf
              refine calVv (k := 0) cx hw hl.1 (c_X12_puts h19) q_1288 k_X12_puts rfl rfl rfl dX12_goesBy_98 rfl (Nat.le_of_ble_eq_true rfl) ⟨Nat.le_of_ble_eq_true rfl, Nat.le_of_ble_eq_true rfl⟩ ⟨Nat.le_refl _, Nat.le_refl _⟩ (fun H locs hw => ?_)
              refine lv_iinc (v := (v4 + (1 : Int32))) (lv' := [(4, .int (v4 + (1 : Int32))), (0, .ref (a 0)), (1, .int v1), (2, .int v2), (3, .int v3), (5, .int (X12_held (r9 + r11) (99 : Int32)))]) hx hb dX12_goesBy_101 hl (k := 4) rfl rfl (by decide) rfl (fun ls hl => ?_)
              refine lv_goto (tgt := 39) hx hb dX12_goesBy_104 (by decide) ?_
              exact ih hf hw (lv_sub hl [1, 2, 3, 4, 0] rfl) kx
            clear hf
            have hf := hj17
            clear hj17
            refine lv_icmp_ne (tgt := 96) hx hb dX12_goesBy_83 (by decide) (fun hc => ?_) (fun hc => ?_)
            · have hf := ifF hf hc
              refine lv_iload hx hb dX12_goesBy_96 (lv_at hl 0 rfl) ?_
              have hf := Option.some.inj hf
              subst hf
              exact wj17 _ _ _ hw (lv_sub hl [1, 2, 3, 4, 5, 0] rfl)
            · have hf := ifT hf hc
              refine lv_aload_n hx hb dX12_goesBy_86 rfl (lv_at hl 1 rfl) ?_
              refine lv_iload hx hb dX12_goesBy_87 (lv_at hl 5 rfl) ?_
              refine lv_iconst (v := 1) hx hb dX12_goesBy_89 (by decide) ?_
              obtain ⟨r15, h16, hf⟩ := bnS hf
              refine calVi (k := 0) cx hw hl.1 (c_X12_get h16) q_1304 k_X12_get rfl rfl rfl dX12_goesBy_90 rfl (Nat.le_of_ble_eq_true rfl) ⟨Nat.le_of_ble_eq_true rfl, Nat.le_of_ble_eq_true rfl⟩ ⟨Nat.le_refl _, Nat.le_refl _⟩ (fun H locs hw => ?_)
              refine lv_goto (tgt := 98) hx hb dX12_goesBy_93 (by decide) ?_
              have hf := Option.some.inj hf
              subst hf
              exact wj17 _ _ _ hw (lv_sub hl [1, 2, 3, 4, 5, 0] rfl)
      refine wL1 n ho20 hw (lv_sub hl [2, 3, 4, 1, 0] rfl) (fun H locs ls hw hl => ?_)
      clear wL1 ho20
      refine lv_aload_n hx hb dX12_goesBy_107 rfl (lv_at hl 0 rfl) ?_
      refine mg_s cx hw dX12_goesBy_108 ?_
      refine lv_iconst (v := 0) hx hb dX12_goesBy_111 (by decide) ?_
      refine lv_dup2_11 hx hb dX12_goesBy_112 rfl rfl ?_
      refine ml_s (j := 0) cx hw (ib_in (by decide)) (by decide) dX12_goesBy_113 ?_
      refine lv_iconst (v := 1) hx hb dX12_goesBy_114 (by decide) ?_
      refine lv_iadd hx hb dX12_goesBy_115 ?_
      refine ms_s (j := 0) cx hw (ib_in (by decide)) (by decide) dX12_goesBy_116 (fun H locs hw => ?_)
      refine lv_aload_n hx hb dX12_goesBy_117 rfl (lv_at hl 0 rfl) ?_
      refine mg_s cx hw dX12_goesBy_118 ?_
      refine lv_iconst (v := 2) hx hb dX12_goesBy_121 (by decide) ?_
      refine lv_dup2_11 hx hb dX12_goesBy_122 rfl rfl ?_
      refine ml_s (j := 2) cx hw (ib_in (by decide)) (by decide) dX12_goesBy_123 ?_
      refine lv_iload_n hx hb dX12_goesBy_124 rfl (lv_at hl 3 rfl) ?_
      refine lv_iadd hx hb dX12_goesBy_125 ?_
      refine ms_s (j := 2) cx hw (ib_in (by decide)) (by decide) dX12_goesBy_126 (fun H locs hw => ?_)
      refine lv_iload_n hx hb dX12_goesBy_127 rfl (lv_at hl 3 rfl) ?_
      have hf := Option.some.inj hf
      subst hf
      exact hR _ _ _ _ _ _ hw rfl ⟨rfl, rfl⟩ dX12_goesBy_128
    clear hf
    have hf := hj6
    clear hj6
    refine lv_if_lt (tgt := 27) hx hb dX12_goesBy_16 (by decide) (fun hc => ?_) (fun hc => ?_)
    · have hf := ifT hf hc
      refine lv_iconst (v := 0) hx hb dX12_goesBy_27 (by decide) ?_
      have hf := Option.some.inj hf
      subst hf
      exact wj6 _ _ _ hw (lv_sub hl [1, 2, 0] rfl)
    · have hf := ifF hf hc
      refine lv_aload_n hx hb dX12_goesBy_19 rfl (lv_at hl 1 rfl) ?_
      refine lv_iload_n hx hb dX12_goesBy_20 rfl (lv_at hl 0 rfl) ?_
      obtain ⟨r4, h5, hf⟩ := bnS hf
      refine calVi (k := 0) cx hw hl.1 (c_X12_meets h5) q_1426 k_X12_meets rfl rfl rfl dX12_goesBy_21 rfl (Nat.le_of_ble_eq_true rfl) ⟨Nat.le_of_ble_eq_true rfl, Nat.le_of_ble_eq_true rfl⟩ ⟨Nat.le_refl _, Nat.le_refl _⟩ (fun H locs hw => ?_)
      refine lv_goto (tgt := 28) hx hb dX12_goesBy_24 (by decide) ?_
      have hf := Option.some.inj hf
      subst hf
      exact wj6 _ _ _ hw (lv_sub hl [1, 2, 0] rfl)
  clear hf
  have hf := hj3
  clear hj3
  refine lv_if_ge (tgt := 11) hx hb dX12_goesBy_1 (by decide) (fun hc => ?_) (fun hc => ?_)
  · have hf := ifT hf hc
    refine lv_iload_n hx hb dX12_goesBy_11 rfl (lv_at hl 1 rfl) ?_
    refine lv_iconst (v := 1) hx hb dX12_goesBy_12 (by decide) ?_
    refine lv_isub hx hb dX12_goesBy_13 ?_
    have hf := Option.some.inj hf
    subst hf
    exact wj3 _ _ _ hw (lv_sub hl [0, 1] rfl)
  · have hf := ifF hf hc
    refine lv_aload_n hx hb dX12_goesBy_4 rfl (lv_at hl 0 rfl) ?_
    obtain ⟨r1, h2, hf⟩ := bnS hf
    refine calVi (k := 0) cx hw hl.1 (c_X12_restOne h2) q_1422 k_X12_restOne rfl rfl rfl dX12_goesBy_5 rfl (Nat.le_of_ble_eq_true rfl) ⟨Nat.le_of_ble_eq_true rfl, Nat.le_of_ble_eq_true rfl⟩ ⟨Nat.le_refl _, Nat.le_refl _⟩ (fun H locs hw => ?_)
    refine lv_goto (tgt := 14) hx hb dX12_goesBy_8 (by decide) ?_
    have hf := Option.some.inj hf
    subst hf
    exact wj3 _ _ _ hw (lv_sub hl [0, 1] rfl)
theorem dX12_isDigit_0 : decode cX12_isDigit 0 = .ok (.iload_n 0, 1) := by decide +kernel
theorem dX12_isDigit_1 : decode cX12_isDigit 1 = .ok (.iconst 0, 1) := by decide +kernel
theorem dX12_isDigit_2 : decode cX12_isDigit 2 = .ok (.bipush 9, 2) := by decide +kernel
theorem dX12_isDigit_4 : decode cX12_isDigit 4 = .ok (.invokestatic 71, 3) := by decide +kernel
theorem dX12_isDigit_7 : decode cX12_isDigit 7 = .ok (.ireturn, 1) := by decide +kernel
theorem k_X12_isDigit : MS yX12_isDigit cX12_isDigit 1 (some .boolean) 1 := ⟨q_1283, q_14, q_1284, ⟨by decide, by decide, by decide +kernel⟩⟩
theorem c_X12_isDigit {res : Int32} (hf : X12_isDigit v0 = res) : MC l E0 D t yX12_isDigit cX12_isDigit 1 (some .boolean) 2 0 0 [.int v0] (mW a t x_s x_kept x_laid x_isKept x_pile x_tape x_taped x_letters x_at x_begun x_token x_value x_opened x_steps x_code0 x_read x_saved x_plan x_bestPlan x_most x_many x_few x_everRight x_lagThen x_shadedThen x_firstFit x_rows x_rowMany x_sorts x_sizes x_number x_holds x_heldOne x_trace x_traced x_own x_isParted) (Qi res (mW a t x_s x_kept x_laid x_isKept x_pile x_tape x_taped x_letters x_at x_begun x_token x_value x_opened x_steps x_code0 x_read x_saved x_plan x_bestPlan x_most x_many x_few x_everRight x_lagThen x_shadedThen x_firstFit x_rows x_rowMany x_sorts x_sizes x_number x_holds x_heldOne x_trace x_traced x_own x_isParted)) := by
  unfold X12_isDigit at hf
  refine MC.ofI pn_X12 (Nat.le_of_ble_eq_true rfl) ?_
  intro p e s m args below meth c A Q ls cx hR hw hl
  have hx := cx.1
  have hb := cx.2.1
  have hl : lv_has ls 1 [(0, .int v0)] := hl
  refine lv_iload_n hx hb dX12_isDigit_0 rfl (lv_at hl 0 rfl) ?_
  refine lv_iconst (v := 0) hx hb dX12_isDigit_1 (by decide) ?_
  refine lv_bipush (v := 9) hx hb dX12_isDigit_2 (by decide) ?_
  refine calSi cx hw hl.1 (c_X12_in1 rfl) q_1214 k_X12_in1 rfl dX12_isDigit_4 rfl (Nat.le_of_ble_eq_true rfl) ⟨Nat.le_of_ble_eq_true rfl, Nat.le_of_ble_eq_true rfl⟩ ⟨Nat.le_refl _, Nat.le_refl _⟩ (fun H locs hw => ?_)
  subst hf
  exact hR _ _ _ _ _ _ hw (nb (b_X12_in1 _ _ _)) ⟨rfl, rfl⟩ dX12_isDigit_7
theorem b_X12_isDigit (v0 : Int32) : X12_isDigit v0 = 0 ∨ X12_isDigit v0 = 1 := by unfold X12_isDigit; repeat (first | exact Or.inl rfl | exact Or.inr rfl | apply b_X12_in1 | split)
theorem dX12_isSpot_0 : decode cX12_isSpot 0 = .ok (.iload_n 0, 1) := by decide +kernel
theorem dX12_isSpot_1 : decode cX12_isSpot 1 = .ok (.iconst 0, 1) := by decide +kernel
theorem dX12_isSpot_2 : decode cX12_isSpot 2 = .ok (.iconst 5, 1) := by decide +kernel
theorem dX12_isSpot_3 : decode cX12_isSpot 3 = .ok (.invokestatic 71, 3) := by decide +kernel
theorem dX12_isSpot_6 : decode cX12_isSpot 6 = .ok (.ireturn, 1) := by decide +kernel
theorem k_X12_isSpot : MS yX12_isSpot cX12_isSpot 1 (some .boolean) 1 := ⟨q_1286, q_14, q_1287, ⟨by decide, by decide, by decide +kernel⟩⟩
theorem c_X12_isSpot {res : Int32} (hf : X12_isSpot v0 = res) : MC l E0 D t yX12_isSpot cX12_isSpot 1 (some .boolean) 2 0 0 [.int v0] (mW a t x_s x_kept x_laid x_isKept x_pile x_tape x_taped x_letters x_at x_begun x_token x_value x_opened x_steps x_code0 x_read x_saved x_plan x_bestPlan x_most x_many x_few x_everRight x_lagThen x_shadedThen x_firstFit x_rows x_rowMany x_sorts x_sizes x_number x_holds x_heldOne x_trace x_traced x_own x_isParted) (Qi res (mW a t x_s x_kept x_laid x_isKept x_pile x_tape x_taped x_letters x_at x_begun x_token x_value x_opened x_steps x_code0 x_read x_saved x_plan x_bestPlan x_most x_many x_few x_everRight x_lagThen x_shadedThen x_firstFit x_rows x_rowMany x_sorts x_sizes x_number x_holds x_heldOne x_trace x_traced x_own x_isParted)) := by
  unfold X12_isSpot at hf
  refine MC.ofI pn_X12 (Nat.le_of_ble_eq_true rfl) ?_
  intro p e s m args below meth c A Q ls cx hR hw hl
  have hx := cx.1
  have hb := cx.2.1
  have hl : lv_has ls 1 [(0, .int v0)] := hl
  refine lv_iload_n hx hb dX12_isSpot_0 rfl (lv_at hl 0 rfl) ?_
  refine lv_iconst (v := 0) hx hb dX12_isSpot_1 (by decide) ?_
  refine lv_iconst (v := 5) hx hb dX12_isSpot_2 (by decide) ?_
  refine calSi cx hw hl.1 (c_X12_in1 rfl) q_1214 k_X12_in1 rfl dX12_isSpot_3 rfl (Nat.le_of_ble_eq_true rfl) ⟨Nat.le_of_ble_eq_true rfl, Nat.le_of_ble_eq_true rfl⟩ ⟨Nat.le_refl _, Nat.le_refl _⟩ (fun H locs hw => ?_)
  subst hf
  exact hR _ _ _ _ _ _ hw (nb (b_X12_in1 _ _ _)) ⟨rfl, rfl⟩ dX12_isSpot_6
theorem b_X12_isSpot (v0 : Int32) : X12_isSpot v0 = 0 ∨ X12_isSpot v0 = 1 := by unfold X12_isSpot; repeat (first | exact Or.inl rfl | exact Or.inr rfl | apply b_X12_in1 | split)
theorem dX12_dial_0 : decode cX12_dial 0 = .ok (.iload_n 1, 1) := by decide +kernel
theorem dX12_dial_1 : decode cX12_dial 1 = .ok (.iconst 1, 1) := by decide +kernel
theorem dX12_dial_2 : decode cX12_dial 2 = .ok (.iconst 5, 1) := by decide +kernel
theorem dX12_dial_3 : decode cX12_dial 3 = .ok (.invokestatic 71, 3) := by decide +kernel
theorem dX12_dial_6 : decode cX12_dial 6 = .ok (.ifCond .eq 28, 3) := by decide +kernel
theorem dX12_dial_9 : decode cX12_dial 9 = .ok (.iload_n 2, 1) := by decide +kernel
theorem dX12_dial_10 : decode cX12_dial 10 = .ok (.iconst 0, 1) := by decide +kernel
theorem dX12_dial_11 : decode cX12_dial 11 = .ok (.bipush 99, 2) := by decide +kernel
theorem dX12_dial_13 : decode cX12_dial 13 = .ok (.invokestatic 71, 3) := by decide +kernel
theorem dX12_dial_16 : decode cX12_dial 16 = .ok (.ifCond .eq 18, 3) := by decide +kernel
theorem dX12_dial_19 : decode cX12_dial 19 = .ok (.iload_n 3, 1) := by decide +kernel
theorem dX12_dial_20 : decode cX12_dial 20 = .ok (.invokestatic 225, 3) := by decide +kernel
theorem dX12_dial_23 : decode cX12_dial 23 = .ok (.ifCond .eq 11, 3) := by decide +kernel
theorem dX12_dial_26 : decode cX12_dial 26 = .ok (.iload 4, 2) := by decide +kernel
theorem dX12_dial_28 : decode cX12_dial 28 = .ok (.invokestatic 228, 3) := by decide +kernel
theorem dX12_dial_31 : decode cX12_dial 31 = .ok (.ifCond .ne 5, 3) := by decide +kernel
theorem dX12_dial_34 : decode cX12_dial 34 = .ok (.iconst (-1), 1) := by decide +kernel
theorem dX12_dial_35 : decode cX12_dial 35 = .ok (.ireturn, 1) := by decide +kernel
theorem dX12_dial_36 : decode cX12_dial 36 = .ok (.aload_n 0, 1) := by decide +kernel
theorem dX12_dial_37 : decode cX12_dial 37 = .ok (.getfield 9, 3) := by decide +kernel
theorem dX12_dial_40 : decode cX12_dial 40 = .ok (.iconst 4, 1) := by decide +kernel
theorem dX12_dial_41 : decode cX12_dial 41 = .ok (.iaload, 1) := by decide +kernel
theorem dX12_dial_42 : decode cX12_dial 42 = .ok (.bipush 6, 2) := by decide +kernel
theorem dX12_dial_44 : decode cX12_dial 44 = .ok (.if_icmp .ne 6, 3) := by decide +kernel
theorem dX12_dial_47 : decode cX12_dial 47 = .ok (.bipush (-2), 2) := by decide +kernel
theorem dX12_dial_49 : decode cX12_dial 49 = .ok (.ireturn, 1) := by decide +kernel
theorem dX12_dial_50 : decode cX12_dial 50 = .ok (.aload_n 0, 1) := by decide +kernel
theorem dX12_dial_51 : decode cX12_dial 51 = .ok (.getfield 9, 3) := by decide +kernel
theorem dX12_dial_54 : decode cX12_dial 54 = .ok (.iconst 4, 1) := by decide +kernel
theorem dX12_dial_55 : decode cX12_dial 55 = .ok (.iaload, 1) := by decide +kernel
theorem dX12_dial_56 : decode cX12_dial 56 = .ok (.istore 5, 2) := by decide +kernel
theorem dX12_dial_58 : decode cX12_dial 58 = .ok (.aload_n 0, 1) := by decide +kernel
theorem dX12_dial_59 : decode cX12_dial 59 = .ok (.iload 5, 2) := by decide +kernel
theorem dX12_dial_61 : decode cX12_dial 61 = .ok (.iconst 0, 1) := by decide +kernel
theorem dX12_dial_62 : decode cX12_dial 62 = .ok (.iload_n 1, 1) := by decide +kernel
theorem dX12_dial_63 : decode cX12_dial 63 = .ok (.invokevirtual 197, 3) := by decide +kernel
theorem dX12_dial_66 : decode cX12_dial 66 = .ok (.aload_n 0, 1) := by decide +kernel
theorem dX12_dial_67 : decode cX12_dial 67 = .ok (.iload 5, 2) := by decide +kernel
theorem dX12_dial_69 : decode cX12_dial 69 = .ok (.iconst 1, 1) := by decide +kernel
theorem dX12_dial_70 : decode cX12_dial 70 = .ok (.iload_n 2, 1) := by decide +kernel
theorem dX12_dial_71 : decode cX12_dial 71 = .ok (.invokevirtual 197, 3) := by decide +kernel
theorem dX12_dial_74 : decode cX12_dial 74 = .ok (.aload_n 0, 1) := by decide +kernel
theorem dX12_dial_75 : decode cX12_dial 75 = .ok (.iload 5, 2) := by decide +kernel
theorem dX12_dial_77 : decode cX12_dial 77 = .ok (.iconst 2, 1) := by decide +kernel
theorem dX12_dial_78 : decode cX12_dial 78 = .ok (.iload_n 3, 1) := by decide +kernel
theorem dX12_dial_79 : decode cX12_dial 79 = .ok (.invokevirtual 197, 3) := by decide +kernel
theorem dX12_dial_82 : decode cX12_dial 82 = .ok (.aload_n 0, 1) := by decide +kernel
theorem dX12_dial_83 : decode cX12_dial 83 = .ok (.iload 5, 2) := by decide +kernel
theorem dX12_dial_85 : decode cX12_dial 85 = .ok (.iconst 3, 1) := by decide +kernel
theorem dX12_dial_86 : decode cX12_dial 86 = .ok (.iload 4, 2) := by decide +kernel
theorem dX12_dial_88 : decode cX12_dial 88 = .ok (.invokevirtual 197, 3) := by decide +kernel
theorem dX12_dial_91 : decode cX12_dial 91 = .ok (.aload_n 0, 1) := by decide +kernel
theorem dX12_dial_92 : decode cX12_dial 92 = .ok (.iload 5, 2) := by decide +kernel
theorem dX12_dial_94 : decode cX12_dial 94 = .ok (.iconst 4, 1) := by decide +kernel
theorem dX12_dial_95 : decode cX12_dial 95 = .ok (.iconst 0, 1) := by decide +kernel
theorem dX12_dial_96 : decode cX12_dial 96 = .ok (.invokevirtual 197, 3) := by decide +kernel
theorem dX12_dial_99 : decode cX12_dial 99 = .ok (.aload_n 0, 1) := by decide +kernel
theorem dX12_dial_100 : decode cX12_dial 100 = .ok (.getfield 9, 3) := by decide +kernel
theorem dX12_dial_103 : decode cX12_dial 103 = .ok (.iconst 4, 1) := by decide +kernel
theorem dX12_dial_104 : decode cX12_dial 104 = .ok (.dup2, 1) := by decide +kernel
theorem dX12_dial_105 : decode cX12_dial 105 = .ok (.iaload, 1) := by decide +kernel
theorem dX12_dial_106 : decode cX12_dial 106 = .ok (.iconst 1, 1) := by decide +kernel
theorem dX12_dial_107 : decode cX12_dial 107 = .ok (.iadd, 1) := by decide +kernel
theorem dX12_dial_108 : decode cX12_dial 108 = .ok (.iastore, 1) := by decide +kernel
theorem dX12_dial_109 : decode cX12_dial 109 = .ok (.iload 5, 2) := by decide +kernel
theorem dX12_dial_111 : decode cX12_dial 111 = .ok (.ireturn, 1) := by decide +kernel
theorem k_X12_dial : MV yX12_dial cX12_dial 6 (some .int) 4 := ⟨q_1279, q_1280, q_14, q_1281, ⟨by decide, by decide, by decide +kernel⟩⟩
theorem c_X12_dial {res : Int32 × (Nat → Int32)} (hf : X12_dial x_s v1 v2 v3 v4 = some res) : MC l E0 D t yX12_dial cX12_dial 6 (some .int) 3 0 0 [.ref (a 0), .int v1, .int v2, .int v3, .int v4] (mW a t x_s x_kept x_laid x_isKept x_pile x_tape x_taped x_letters x_at x_begun x_token x_value x_opened x_steps x_code0 x_read x_saved x_plan x_bestPlan x_most x_many x_few x_everRight x_lagThen x_shadedThen x_firstFit x_rows x_rowMany x_sorts x_sizes x_number x_holds x_heldOne x_trace x_traced x_own x_isParted) (Qi res.1 (mW a t res.2 x_kept x_laid x_isKept x_pile x_tape x_taped x_letters x_at x_begun x_token x_value x_opened x_steps x_code0 x_read x_saved x_plan x_bestPlan x_most x_many x_few x_everRight x_lagThen x_shadedThen x_firstFit x_rows x_rowMany x_sorts x_sizes x_number x_holds x_heldOne x_trace x_traced x_own x_isParted)) := by
  unfold X12_dial at hf
  refine MC.ofI pn_X12 (Nat.le_of_ble_eq_true rfl) ?_
  intro p e s m args below meth c A Q ls cx hR hw hl
  have hx := cx.1
  have hb := cx.2.1
  have hl : lv_has ls 6 [(0, .ref (a 0)), (1, .int v1), (2, .int v2), (3, .int v3), (4, .int v4)] := hl
  refine lv_iload_n hx hb dX12_dial_0 rfl (lv_at hl 1 rfl) ?_
  refine lv_iconst (v := 1) hx hb dX12_dial_1 (by decide) ?_
  refine lv_iconst (v := 5) hx hb dX12_dial_2 (by decide) ?_
  refine calSi cx hw hl.1 (c_X12_in1 rfl) q_1214 k_X12_in1 rfl dX12_dial_3 rfl (Nat.le_of_ble_eq_true rfl) ⟨Nat.le_of_ble_eq_true rfl, Nat.le_of_ble_eq_true rfl⟩ ⟨Nat.le_refl _, Nat.le_refl _⟩ (fun H locs hw => ?_)
  refine lv_if_eq (tgt := 34) hx hb dX12_dial_6 (by decide) (fun hc => ?_) (fun hc => ?_)
  · have hf := ifT hf hc
    refine lv_iconst (v := (-1)) hx hb dX12_dial_34 (by decide) ?_
    have hf := Option.some.inj hf
    subst hf
    exact hR _ _ _ _ _ _ hw rfl ⟨rfl, rfl⟩ dX12_dial_35
  · have hf := ifF hf hc
    refine lv_iload_n hx hb dX12_dial_9 rfl (lv_at hl 2 rfl) ?_
    refine lv_iconst (v := 0) hx hb dX12_dial_10 (by decide) ?_
    refine lv_bipush (v := 99) hx hb dX12_dial_11 (by decide) ?_
    refine calSi cx hw hl.1 (c_X12_in1 rfl) q_1214 k_X12_in1 rfl dX12_dial_13 rfl (Nat.le_of_ble_eq_true rfl) ⟨Nat.le_of_ble_eq_true rfl, Nat.le_of_ble_eq_true rfl⟩ ⟨Nat.le_refl _, Nat.le_refl _⟩ (fun H locs hw => ?_)
    refine lv_if_eq (tgt := 34) hx hb dX12_dial_16 (by decide) (fun hc => ?_) (fun hc => ?_)
    · have hf := ifT hf hc
      refine lv_iconst (v := (-1)) hx hb dX12_dial_34 (by decide) ?_
      have hf := Option.some.inj hf
      subst hf
      exact hR _ _ _ _ _ _ hw rfl ⟨rfl, rfl⟩ dX12_dial_35
    · have hf := ifF hf hc
      refine lv_iload_n hx hb dX12_dial_19 rfl (lv_at hl 3 rfl) ?_
      refine calSi cx hw hl.1 (c_X12_isDigit rfl) q_1282 k_X12_isDigit rfl dX12_dial_20 rfl (Nat.le_of_ble_eq_true rfl) ⟨Nat.le_of_ble_eq_true rfl, Nat.le_of_ble_eq_true rfl⟩ ⟨Nat.le_refl _, Nat.le_refl _⟩ (fun H locs hw => ?_)
      refine lv_if_eq (tgt := 34) hx hb dX12_dial_23 (by decide) (fun hc => ?_) (fun hc => ?_)
      · have hf := ifT hf hc
        refine lv_iconst (v := (-1)) hx hb dX12_dial_34 (by decide) ?_
        have hf := Option.some.inj hf
        subst hf
        exact hR _ _ _ _ _ _ hw rfl ⟨rfl, rfl⟩ dX12_dial_35
      · have hf := ifF hf hc
        refine lv_iload hx hb dX12_dial_26 (lv_at hl 4 rfl) ?_
        refine calSi cx hw hl.1 (c_X12_isSpot rfl) q_1285 k_X12_isSpot rfl dX12_dial_28 rfl (Nat.le_of_ble_eq_true rfl) ⟨Nat.le_of_ble_eq_true rfl, Nat.le_of_ble_eq_true rfl⟩ ⟨Nat.le_refl _, Nat.le_refl _⟩ (fun H locs hw => ?_)
        refine lv_if_ne (tgt := 36) hx hb dX12_dial_31 (by decide) (fun hc => ?_) (fun hc => ?_)
        · have hf := ifF hf hc
          refine lv_aload_n hx hb dX12_dial_36 rfl (lv_at hl 0 rfl) ?_
          refine mg_s cx hw dX12_dial_37 ?_
          refine lv_iconst (v := 4) hx hb dX12_dial_40 (by decide) ?_
          refine ml_s (j := 4) cx hw (ib_in (by decide)) (by decide) dX12_dial_41 ?_
          refine lv_bipush (v := 6) hx hb dX12_dial_42 (by decide) ?_
          refine lv_icmp_ne (tgt := 50) hx hb dX12_dial_44 (by decide) (fun hc => ?_) (fun hc => ?_)
          · have hf := ifF hf hc
            refine lv_aload_n hx hb dX12_dial_50 rfl (lv_at hl 0 rfl) ?_
            refine mg_s cx hw dX12_dial_51 ?_
            refine lv_iconst (v := 4) hx hb dX12_dial_54 (by decide) ?_
            refine ml_s (j := 4) cx hw (ib_in (by decide)) (by decide) dX12_dial_55 ?_
            refine lv_istore (lv' := [(5, .int (x_s 4)), (0, .ref (a 0)), (1, .int v1), (2, .int v2), (3, .int v3), (4, .int v4)]) hx hb dX12_dial_56 hl (by decide) rfl (fun ls hl => ?_)
            refine lv_aload_n hx hb dX12_dial_58 rfl (lv_at hl 1 rfl) ?_
            refine lv_iload hx hb dX12_dial_59 (lv_at hl 0 rfl) ?_
            refine lv_iconst (v := 0) hx hb dX12_dial_61 (by decide) ?_
            refine lv_iload_n hx hb dX12_dial_62 rfl (lv_at hl 2 rfl) ?_
            obtain ⟨r1, h2, hf⟩ := bnS hf
            refine calVv (k := 0) cx hw hl.1 (c_X12_puts h2) q_1288 k_X12_puts rfl rfl rfl dX12_dial_63 rfl (Nat.le_of_ble_eq_true rfl) ⟨Nat.le_of_ble_eq_true rfl, Nat.le_of_ble_eq_true rfl⟩ ⟨Nat.le_refl _, Nat.le_refl _⟩ (fun H locs hw => ?_)
            refine lv_aload_n hx hb dX12_dial_66 rfl (lv_at hl 1 rfl) ?_
            refine lv_iload hx hb dX12_dial_67 (lv_at hl 0 rfl) ?_
            refine lv_iconst (v := 1) hx hb dX12_dial_69 (by decide) ?_
            refine lv_iload_n hx hb dX12_dial_70 rfl (lv_at hl 3 rfl) ?_
            obtain ⟨r3, h4, hf⟩ := bnS hf
            refine calVv (k := 0) cx hw hl.1 (c_X12_puts h4) q_1288 k_X12_puts rfl rfl rfl dX12_dial_71 rfl (Nat.le_of_ble_eq_true rfl) ⟨Nat.le_of_ble_eq_true rfl, Nat.le_of_ble_eq_true rfl⟩ ⟨Nat.le_refl _, Nat.le_refl _⟩ (fun H locs hw => ?_)
            refine lv_aload_n hx hb dX12_dial_74 rfl (lv_at hl 1 rfl) ?_
            refine lv_iload hx hb dX12_dial_75 (lv_at hl 0 rfl) ?_
            refine lv_iconst (v := 2) hx hb dX12_dial_77 (by decide) ?_
            refine lv_iload_n hx hb dX12_dial_78 rfl (lv_at hl 4 rfl) ?_
            obtain ⟨r5, h6, hf⟩ := bnS hf
            refine calVv (k := 0) cx hw hl.1 (c_X12_puts h6) q_1288 k_X12_puts rfl rfl rfl dX12_dial_79 rfl (Nat.le_of_ble_eq_true rfl) ⟨Nat.le_of_ble_eq_true rfl, Nat.le_of_ble_eq_true rfl⟩ ⟨Nat.le_refl _, Nat.le_refl _⟩ (fun H locs hw => ?_)
            refine lv_aload_n hx hb dX12_dial_82 rfl (lv_at hl 1 rfl) ?_
            refine lv_iload hx hb dX12_dial_83 (lv_at hl 0 rfl) ?_
            refine lv_iconst (v := 3) hx hb dX12_dial_85 (by decide) ?_
            refine lv_iload hx hb dX12_dial_86 (lv_at hl 5 rfl) ?_
            obtain ⟨r7, h8, hf⟩ := bnS hf
            refine calVv (k := 0) cx hw hl.1 (c_X12_puts h8) q_1288 k_X12_puts rfl rfl rfl dX12_dial_88 rfl (Nat.le_of_ble_eq_true rfl) ⟨Nat.le_of_ble_eq_true rfl, Nat.le_of_ble_eq_true rfl⟩ ⟨Nat.le_refl _, Nat.le_refl _⟩ (fun H locs hw => ?_)
            refine lv_aload_n hx hb dX12_dial_91 rfl (lv_at hl 1 rfl) ?_
            refine lv_iload hx hb dX12_dial_92 (lv_at hl 0 rfl) ?_
            refine lv_iconst (v := 4) hx hb dX12_dial_94 (by decide) ?_
            refine lv_iconst (v := 0) hx hb dX12_dial_95 (by decide) ?_
            obtain ⟨r9, h10, hf⟩ := bnS hf
            refine calVv (k := 0) cx hw hl.1 (c_X12_puts h10) q_1288 k_X12_puts rfl rfl rfl dX12_dial_96 rfl (Nat.le_of_ble_eq_true rfl) ⟨Nat.le_of_ble_eq_true rfl, Nat.le_of_ble_eq_true rfl⟩ ⟨Nat.le_refl _, Nat.le_refl _⟩ (fun H locs hw => ?_)
            refine lv_aload_n hx hb dX12_dial_99 rfl (lv_at hl 1 rfl) ?_
            refine mg_s cx hw dX12_dial_100 ?_
            refine lv_iconst (v := 4) hx hb dX12_dial_103 (by decide) ?_
            refine lv_dup2_11 hx hb dX12_dial_104 rfl rfl ?_
            refine ml_s (j := 4) cx hw (ib_in (by decide)) (by decide) dX12_dial_105 ?_
            refine lv_iconst (v := 1) hx hb dX12_dial_106 (by decide) ?_
            refine lv_iadd hx hb dX12_dial_107 ?_
            refine ms_s (j := 4) cx hw (ib_in (by decide)) (by decide) dX12_dial_108 (fun H locs hw => ?_)
            refine lv_iload hx hb dX12_dial_109 (lv_at hl 0 rfl) ?_
            have hf := Option.some.inj hf
            subst hf
            exact hR _ _ _ _ _ _ hw rfl ⟨rfl, rfl⟩ dX12_dial_111
          · have hf := ifT hf hc
            refine lv_bipush (v := (-2)) hx hb dX12_dial_47 (by decide) ?_
            have hf := Option.some.inj hf
            subst hf
            exact hR _ _ _ _ _ _ hw rfl ⟨rfl, rfl⟩ dX12_dial_49
        · have hf := ifT hf hc
          refine lv_iconst (v := (-1)) hx hb dX12_dial_34 (by decide) ?_
          have hf := Option.some.inj hf
          subst hf
          exact hR _ _ _ _ _ _ hw rfl ⟨rfl, rfl⟩ dX12_dial_35
theorem dX12_dialOf_0 : decode cX12_dialOf 0 = .ok (.aload_n 0, 1) := by decide +kernel
theorem dX12_dialOf_1 : decode cX12_dialOf 1 = .ok (.iload_n 1, 1) := by decide +kernel
theorem dX12_dialOf_2 : decode cX12_dialOf 2 = .ok (.invokevirtual 231, 3) := by decide +kernel
theorem dX12_dialOf_5 : decode cX12_dialOf 5 = .ok (.ifCond .eq 13, 3) := by decide +kernel
theorem dX12_dialOf_8 : decode cX12_dialOf 8 = .ok (.iload_n 2, 1) := by decide +kernel
theorem dX12_dialOf_9 : decode cX12_dialOf 9 = .ok (.iconst 0, 1) := by decide +kernel
theorem dX12_dialOf_10 : decode cX12_dialOf 10 = .ok (.bipush 9, 2) := by decide +kernel
theorem dX12_dialOf_12 : decode cX12_dialOf 12 = .ok (.invokestatic 71, 3) := by decide +kernel
theorem dX12_dialOf_15 : decode cX12_dialOf 15 = .ok (.ifCond .ne 5, 3) := by decide +kernel
theorem dX12_dialOf_18 : decode cX12_dialOf 18 = .ok (.iconst (-1), 1) := by decide +kernel
theorem dX12_dialOf_19 : decode cX12_dialOf 19 = .ok (.ireturn, 1) := by decide +kernel
theorem dX12_dialOf_20 : decode cX12_dialOf 20 = .ok (.iload_n 2, 1) := by decide +kernel
theorem dX12_dialOf_21 : decode cX12_dialOf 21 = .ok (.tableswitch 73 5 9 #[35, 41, 47, 53, 67], 35) := by decide +kernel
theorem dX12_dialOf_56 : decode cX12_dialOf 56 = .ok (.aload_n 0, 1) := by decide +kernel
theorem dX12_dialOf_57 : decode cX12_dialOf 57 = .ok (.iload_n 1, 1) := by decide +kernel
theorem dX12_dialOf_58 : decode cX12_dialOf 58 = .ok (.invokevirtual 91, 3) := by decide +kernel
theorem dX12_dialOf_61 : decode cX12_dialOf 61 = .ok (.ireturn, 1) := by decide +kernel
theorem dX12_dialOf_62 : decode cX12_dialOf 62 = .ok (.aload_n 0, 1) := by decide +kernel
theorem dX12_dialOf_63 : decode cX12_dialOf 63 = .ok (.iload_n 1, 1) := by decide +kernel
theorem dX12_dialOf_64 : decode cX12_dialOf 64 = .ok (.invokevirtual 219, 3) := by decide +kernel
theorem dX12_dialOf_67 : decode cX12_dialOf 67 = .ok (.ireturn, 1) := by decide +kernel
theorem dX12_dialOf_68 : decode cX12_dialOf 68 = .ok (.aload_n 0, 1) := by decide +kernel
theorem dX12_dialOf_69 : decode cX12_dialOf 69 = .ok (.iload_n 1, 1) := by decide +kernel
theorem dX12_dialOf_70 : decode cX12_dialOf 70 = .ok (.invokevirtual 103, 3) := by decide +kernel
theorem dX12_dialOf_73 : decode cX12_dialOf 73 = .ok (.ireturn, 1) := by decide +kernel
theorem dX12_dialOf_74 : decode cX12_dialOf 74 = .ok (.aload_n 0, 1) := by decide +kernel
theorem dX12_dialOf_75 : decode cX12_dialOf 75 = .ok (.iload_n 1, 1) := by decide +kernel
theorem dX12_dialOf_76 : decode cX12_dialOf 76 = .ok (.invokevirtual 207, 3) := by decide +kernel
theorem dX12_dialOf_79 : decode cX12_dialOf 79 = .ok (.ifCond .eq 7, 3) := by decide +kernel
theorem dX12_dialOf_82 : decode cX12_dialOf 82 = .ok (.iconst 1, 1) := by decide +kernel
theorem dX12_dialOf_83 : decode cX12_dialOf 83 = .ok (.goto 4, 3) := by decide +kernel
theorem dX12_dialOf_86 : decode cX12_dialOf 86 = .ok (.iconst 0, 1) := by decide +kernel
theorem dX12_dialOf_87 : decode cX12_dialOf 87 = .ok (.ireturn, 1) := by decide +kernel
theorem dX12_dialOf_88 : decode cX12_dialOf 88 = .ok (.aload_n 0, 1) := by decide +kernel
theorem dX12_dialOf_89 : decode cX12_dialOf 89 = .ok (.iload_n 1, 1) := by decide +kernel
theorem dX12_dialOf_90 : decode cX12_dialOf 90 = .ok (.invokevirtual 100, 3) := by decide +kernel
theorem dX12_dialOf_93 : decode cX12_dialOf 93 = .ok (.ireturn, 1) := by decide +kernel
theorem dX12_dialOf_94 : decode cX12_dialOf 94 = .ok (.aload_n 0, 1) := by decide +kernel
theorem dX12_dialOf_95 : decode cX12_dialOf 95 = .ok (.iload_n 1, 1) := by decide +kernel
theorem dX12_dialOf_96 : decode cX12_dialOf 96 = .ok (.iload_n 2, 1) := by decide +kernel
theorem dX12_dialOf_97 : decode cX12_dialOf 97 = .ok (.invokevirtual 79, 3) := by decide +kernel
theorem dX12_dialOf_100 : decode cX12_dialOf 100 = .ok (.ireturn, 1) := by decide +kernel
theorem k_X12_dialOf : MV yX12_dialOf cX12_dialOf 3 (some .int) 2 := ⟨q_1293, q_1294, q_14, q_1295, ⟨by decide, by decide, by decide +kernel⟩⟩
theorem c_X12_dialOf {res : Int32 × (Nat → Int32)} (hf : X12_dialOf n x_s x_pile v1 v2 = some res) : MC l E0 D t yX12_dialOf cX12_dialOf 3 (some .int) 6 0 0 [.ref (a 0), .int v1, .int v2] (mW a t x_s x_kept x_laid x_isKept x_pile x_tape x_taped x_letters x_at x_begun x_token x_value x_opened x_steps x_code0 x_read x_saved x_plan x_bestPlan x_most x_many x_few x_everRight x_lagThen x_shadedThen x_firstFit x_rows x_rowMany x_sorts x_sizes x_number x_holds x_heldOne x_trace x_traced x_own x_isParted) (Qi res.1 (mW a t x_s x_kept x_laid x_isKept res.2 x_tape x_taped x_letters x_at x_begun x_token x_value x_opened x_steps x_code0 x_read x_saved x_plan x_bestPlan x_most x_many x_few x_everRight x_lagThen x_shadedThen x_firstFit x_rows x_rowMany x_sorts x_sizes x_number x_holds x_heldOne x_trace x_traced x_own x_isParted)) := by
  unfold X12_dialOf at hf
  refine MC.ofI pn_X12 (Nat.le_of_ble_eq_true rfl) ?_
  intro p e s m args below meth c A Q ls cx hR hw hl
  have hx := cx.1
  have hb := cx.2.1
  have hl : lv_has ls 3 [(0, .ref (a 0)), (1, .int v1), (2, .int v2)] := hl
  refine lv_aload_n hx hb dX12_dialOf_0 rfl (lv_at hl 0 rfl) ?_
  refine lv_iload_n hx hb dX12_dialOf_1 rfl (lv_at hl 1 rfl) ?_
  refine calVi (k := 0) cx hw hl.1 (c_X12_isDial rfl) q_1296 k_X12_isDial rfl rfl rfl dX12_dialOf_2 rfl (Nat.le_of_ble_eq_true rfl) ⟨Nat.le_of_ble_eq_true rfl, Nat.le_of_ble_eq_true rfl⟩ ⟨Nat.le_refl _, Nat.le_refl _⟩ (fun H locs hw => ?_)
  refine lv_if_eq (tgt := 18) hx hb dX12_dialOf_5 (by decide) (fun hc => ?_) (fun hc => ?_)
  · have hf := ifT hf hc
    refine lv_iconst (v := (-1)) hx hb dX12_dialOf_18 (by decide) ?_
    have hf := Option.some.inj hf
    subst hf
    exact hR _ _ _ _ _ _ hw rfl ⟨rfl, rfl⟩ dX12_dialOf_19
  · have hf := ifF hf hc
    refine lv_iload_n hx hb dX12_dialOf_8 rfl (lv_at hl 2 rfl) ?_
    refine lv_iconst (v := 0) hx hb dX12_dialOf_9 (by decide) ?_
    refine lv_bipush (v := 9) hx hb dX12_dialOf_10 (by decide) ?_
    refine calSi cx hw hl.1 (c_X12_in1 rfl) q_1214 k_X12_in1 rfl dX12_dialOf_12 rfl (Nat.le_of_ble_eq_true rfl) ⟨Nat.le_of_ble_eq_true rfl, Nat.le_of_ble_eq_true rfl⟩ ⟨Nat.le_refl _, Nat.le_refl _⟩ (fun H locs hw => ?_)
    refine lv_if_ne (tgt := 20) hx hb dX12_dialOf_15 (by decide) (fun hc => ?_) (fun hc => ?_)
    · have hf := ifF hf hc
      refine lv_iload_n hx hb dX12_dialOf_20 rfl (lv_at hl 2 rfl) ?_
      by_cases hc5 : v2 = (5 : Int32)
      · have hf := ifT hf hc5
        refine lv_tableIn (tgt := 56) hx hb dX12_dialOf_21 (by rw [hc5]; decide) (by rw [hc5]; decide) (by rw [hc5]; rfl) (by decide) ?_
        refine lv_aload_n hx hb dX12_dialOf_56 rfl (lv_at hl 0 rfl) ?_
        refine lv_iload_n hx hb dX12_dialOf_57 rfl (lv_at hl 1 rfl) ?_
        obtain ⟨r1, h2, hf⟩ := bnS hf
        refine calVi (k := 0) cx hw hl.1 (c_X12_shadesOf h2) q_1300 k_X12_shadesOf rfl rfl rfl dX12_dialOf_58 rfl (Nat.le_of_ble_eq_true rfl) ⟨Nat.le_of_ble_eq_true rfl, Nat.le_of_ble_eq_true rfl⟩ ⟨Nat.le_refl _, Nat.le_refl _⟩ (fun H locs hw => ?_)
        have hf := Option.some.inj hf
        subst hf
        exact hR _ _ _ _ _ _ hw rfl ⟨rfl, rfl⟩ dX12_dialOf_61
      · have hf := ifF hf hc5
        by_cases hc6 : v2 = (6 : Int32)
        · have hf := ifT hf hc6
          refine lv_tableIn (tgt := 62) hx hb dX12_dialOf_21 (by rw [hc6]; decide) (by rw [hc6]; decide) (by rw [hc6]; rfl) (by decide) ?_
          refine lv_aload_n hx hb dX12_dialOf_62 rfl (lv_at hl 0 rfl) ?_
          refine lv_iload_n hx hb dX12_dialOf_63 rfl (lv_at hl 1 rfl) ?_
          obtain ⟨r3, h4, hf⟩ := bnS hf
          refine calVi (k := 0) cx hw hl.1 (c_X12_slipsOf h4) q_1315 k_X12_slipsOf rfl rfl rfl dX12_dialOf_64 rfl (Nat.le_of_ble_eq_true rfl) ⟨Nat.le_of_ble_eq_true rfl, Nat.le_of_ble_eq_true rfl⟩ ⟨Nat.le_refl _, Nat.le_refl _⟩ (fun H locs hw => ?_)
          have hf := Option.some.inj hf
          subst hf
          exact hR _ _ _ _ _ _ hw rfl ⟨rfl, rfl⟩ dX12_dialOf_67
        · have hf := ifF hf hc6
          by_cases hc7 : v2 = (7 : Int32)
          · have hf := ifT hf hc7
            refine lv_tableIn (tgt := 68) hx hb dX12_dialOf_21 (by rw [hc7]; decide) (by rw [hc7]; decide) (by rw [hc7]; rfl) (by decide) ?_
            refine lv_aload_n hx hb dX12_dialOf_68 rfl (lv_at hl 0 rfl) ?_
            refine lv_iload_n hx hb dX12_dialOf_69 rfl (lv_at hl 1 rfl) ?_
            obtain ⟨r5, h6, hf⟩ := bnS hf
            refine calVi (k := 0) cx hw hl.1 (c_X12_paysOf h6) q_1326 k_X12_paysOf rfl rfl rfl dX12_dialOf_70 rfl (Nat.le_of_ble_eq_true rfl) ⟨Nat.le_of_ble_eq_true rfl, Nat.le_of_ble_eq_true rfl⟩ ⟨Nat.le_refl _, Nat.le_refl _⟩ (fun H locs hw => ?_)
            have hf := Option.some.inj hf
            subst hf
            exact hR _ _ _ _ _ _ hw rfl ⟨rfl, rfl⟩ dX12_dialOf_73
          · have hf := ifF hf hc7
            by_cases hc8 : v2 = (8 : Int32)
            · have hf := ifT hf hc8
              refine lv_tableIn (tgt := 74) hx hb dX12_dialOf_21 (by rw [hc8]; decide) (by rw [hc8]; decide) (by rw [hc8]; rfl) (by decide) ?_
              refine lv_aload_n hx hb dX12_dialOf_74 rfl (lv_at hl 0 rfl) ?_
              refine lv_iload_n hx hb dX12_dialOf_75 rfl (lv_at hl 1 rfl) ?_
              obtain ⟨r7, h8, hf⟩ := bnS hf
              refine calVi (k := 0) cx hw hl.1 (c_X12_maySet h8) q_1330 k_X12_maySet rfl rfl rfl dX12_dialOf_76 rfl (Nat.le_of_ble_eq_true rfl) ⟨Nat.le_of_ble_eq_true rfl, Nat.le_of_ble_eq_true rfl⟩ ⟨Nat.le_refl _, Nat.le_refl _⟩ (fun H locs hw => ?_)
              refine lv_if_eq (tgt := 86) hx hb dX12_dialOf_79 (by decide) (fun hc => ?_) (fun hc => ?_)
              · have hf := ifT hf hc
                refine lv_iconst (v := 0) hx hb dX12_dialOf_86 (by decide) ?_
                have hf := Option.some.inj hf
                subst hf
                exact hR _ _ _ _ _ _ hw rfl ⟨rfl, rfl⟩ dX12_dialOf_87
              · have hf := ifF hf hc
                refine lv_iconst (v := 1) hx hb dX12_dialOf_82 (by decide) ?_
                refine lv_goto (tgt := 87) hx hb dX12_dialOf_83 (by decide) ?_
                have hf := Option.some.inj hf
                subst hf
                exact hR _ _ _ _ _ _ hw rfl ⟨rfl, rfl⟩ dX12_dialOf_87
            · have hf := ifF hf hc8
              by_cases hc9 : v2 = (9 : Int32)
              · have hf := ifT hf hc9
                refine lv_tableIn (tgt := 88) hx hb dX12_dialOf_21 (by rw [hc9]; decide) (by rw [hc9]; decide) (by rw [hc9]; rfl) (by decide) ?_
                refine lv_aload_n hx hb dX12_dialOf_88 rfl (lv_at hl 0 rfl) ?_
                refine lv_iload_n hx hb dX12_dialOf_89 rfl (lv_at hl 1 rfl) ?_
                obtain ⟨r9, h10, hf⟩ := bnS hf
                refine calVi (k := 0) cx hw hl.1 (c_X12_willOf h10) q_1334 k_X12_willOf rfl rfl rfl dX12_dialOf_90 rfl (Nat.le_of_ble_eq_true rfl) ⟨Nat.le_of_ble_eq_true rfl, Nat.le_of_ble_eq_true rfl⟩ ⟨Nat.le_refl _, Nat.le_refl _⟩ (fun H locs hw => ?_)
                have hf := Option.some.inj hf
                subst hf
                exact hR _ _ _ _ _ _ hw rfl ⟨rfl, rfl⟩ dX12_dialOf_93
              · have hf := ifF hf hc9
                refine lv_tableOut (tgt := 94) hx hb dX12_dialOf_21 (by have h5 := lv_neT hc5 (a := 5) (by decide); have h6 := lv_neT hc6 (a := 6) (by decide); have h7 := lv_neT hc7 (a := 7) (by decide); have h8 := lv_neT hc8 (a := 8) (by decide); have h9 := lv_neT hc9 (a := 9) (by decide); omega) (by decide) ?_
                refine lv_aload_n hx hb dX12_dialOf_94 rfl (lv_at hl 0 rfl) ?_
                refine lv_iload_n hx hb dX12_dialOf_95 rfl (lv_at hl 1 rfl) ?_
                refine lv_iload_n hx hb dX12_dialOf_96 rfl (lv_at hl 2 rfl) ?_
                obtain ⟨r11, h12, hf⟩ := bnS hf
                refine calVi (k := 0) cx hw hl.1 (c_X12_get h12) q_1304 k_X12_get rfl rfl rfl dX12_dialOf_97 rfl (Nat.le_of_ble_eq_true rfl) ⟨Nat.le_of_ble_eq_true rfl, Nat.le_of_ble_eq_true rfl⟩ ⟨Nat.le_refl _, Nat.le_refl _⟩ (fun H locs hw => ?_)
                have hf := Option.some.inj hf
                subst hf
                exact hR _ _ _ _ _ _ hw rfl ⟨rfl, rfl⟩ dX12_dialOf_100
    · have hf := ifT hf hc
      refine lv_iconst (v := (-1)) hx hb dX12_dialOf_18 (by decide) ?_
      have hf := Option.some.inj hf
      subst hf
      exact hR _ _ _ _ _ _ hw rfl ⟨rfl, rfl⟩ dX12_dialOf_19
theorem dX12_change_0 : decode cX12_change 0 = .ok (.iload_n 2, 1) := by decide +kernel
theorem dX12_change_1 : decode cX12_change 1 = .ok (.iconst 1, 1) := by decide +kernel
theorem dX12_change_2 : decode cX12_change 2 = .ok (.if_icmp .ne 8, 3) := by decide +kernel
theorem dX12_change_5 : decode cX12_change 5 = .ok (.bipush 99, 2) := by decide +kernel
theorem dX12_change_7 : decode cX12_change 7 = .ok (.goto 23, 3) := by decide +kernel
theorem dX12_change_10 : decode cX12_change 10 = .ok (.iload_n 2, 1) := by decide +kernel
theorem dX12_change_11 : decode cX12_change 11 = .ok (.iconst 3, 1) := by decide +kernel
theorem dX12_change_12 : decode cX12_change 12 = .ok (.if_icmp .ne 7, 3) := by decide +kernel
theorem dX12_change_15 : decode cX12_change 15 = .ok (.iconst 5, 1) := by decide +kernel
theorem dX12_change_16 : decode cX12_change 16 = .ok (.goto 14, 3) := by decide +kernel
theorem dX12_change_19 : decode cX12_change 19 = .ok (.iload_n 2, 1) := by decide +kernel
theorem dX12_change_20 : decode cX12_change 20 = .ok (.iconst 4, 1) := by decide +kernel
theorem dX12_change_21 : decode cX12_change 21 = .ok (.if_icmp .ne 7, 3) := by decide +kernel
theorem dX12_change_24 : decode cX12_change 24 = .ok (.iconst 1, 1) := by decide +kernel
theorem dX12_change_25 : decode cX12_change 25 = .ok (.goto 5, 3) := by decide +kernel
theorem dX12_change_28 : decode cX12_change 28 = .ok (.bipush 9, 2) := by decide +kernel
theorem dX12_change_30 : decode cX12_change 30 = .ok (.istore 4, 2) := by decide +kernel
theorem dX12_change_32 : decode cX12_change 32 = .ok (.aload_n 0, 1) := by decide +kernel
theorem dX12_change_33 : decode cX12_change 33 = .ok (.iload_n 1, 1) := by decide +kernel
theorem dX12_change_34 : decode cX12_change 34 = .ok (.invokevirtual 231, 3) := by decide +kernel
theorem dX12_change_37 : decode cX12_change 37 = .ok (.ifCond .eq 38, 3) := by decide +kernel
theorem dX12_change_40 : decode cX12_change 40 = .ok (.iload_n 2, 1) := by decide +kernel
theorem dX12_change_41 : decode cX12_change 41 = .ok (.iconst 1, 1) := by decide +kernel
theorem dX12_change_42 : decode cX12_change 42 = .ok (.iconst 4, 1) := by decide +kernel
theorem dX12_change_43 : decode cX12_change 43 = .ok (.invokestatic 71, 3) := by decide +kernel
theorem dX12_change_46 : decode cX12_change 46 = .ok (.ifCond .eq 29, 3) := by decide +kernel
theorem dX12_change_49 : decode cX12_change 49 = .ok (.iload_n 3, 1) := by decide +kernel
theorem dX12_change_50 : decode cX12_change 50 = .ok (.iconst 0, 1) := by decide +kernel
theorem dX12_change_51 : decode cX12_change 51 = .ok (.iload 4, 2) := by decide +kernel
theorem dX12_change_53 : decode cX12_change 53 = .ok (.invokestatic 71, 3) := by decide +kernel
theorem dX12_change_56 : decode cX12_change 56 = .ok (.ifCond .eq 19, 3) := by decide +kernel
theorem dX12_change_59 : decode cX12_change 59 = .ok (.aload_n 0, 1) := by decide +kernel
theorem dX12_change_60 : decode cX12_change 60 = .ok (.bipush 35, 2) := by decide +kernel
theorem dX12_change_62 : decode cX12_change 62 = .ok (.iconst 5, 1) := by decide +kernel
theorem dX12_change_63 : decode cX12_change 63 = .ok (.iload_n 1, 1) := by decide +kernel
theorem dX12_change_64 : decode cX12_change 64 = .ok (.imul, 1) := by decide +kernel
theorem dX12_change_65 : decode cX12_change 65 = .ok (.iadd, 1) := by decide +kernel
theorem dX12_change_66 : decode cX12_change 66 = .ok (.iload_n 2, 1) := by decide +kernel
theorem dX12_change_67 : decode cX12_change 67 = .ok (.iadd, 1) := by decide +kernel
theorem dX12_change_68 : decode cX12_change 68 = .ok (.iload_n 3, 1) := by decide +kernel
theorem dX12_change_69 : decode cX12_change 69 = .ok (.invokevirtual 234, 3) := by decide +kernel
theorem dX12_change_72 : decode cX12_change 72 = .ok (.goto 4, 3) := by decide +kernel
theorem dX12_change_75 : decode cX12_change 75 = .ok (.iconst (-1), 1) := by decide +kernel
theorem dX12_change_76 : decode cX12_change 76 = .ok (.ireturn, 1) := by decide +kernel
theorem k_X12_change : MV yX12_change cX12_change 5 (some .int) 3 := ⟨q_1360, q_1361, q_14, q_1362, ⟨by decide, by decide, by decide +kernel⟩⟩
theorem c_X12_change {res : Int32 × (Nat → Int32)} (hf : X12_change x_s v1 v2 v3 = some res) : MC l E0 D t yX12_change cX12_change 5 (some .int) 3 0 0 [.ref (a 0), .int v1, .int v2, .int v3] (mW a t x_s x_kept x_laid x_isKept x_pile x_tape x_taped x_letters x_at x_begun x_token x_value x_opened x_steps x_code0 x_read x_saved x_plan x_bestPlan x_most x_many x_few x_everRight x_lagThen x_shadedThen x_firstFit x_rows x_rowMany x_sorts x_sizes x_number x_holds x_heldOne x_trace x_traced x_own x_isParted) (Qi res.1 (mW a t res.2 x_kept x_laid x_isKept x_pile x_tape x_taped x_letters x_at x_begun x_token x_value x_opened x_steps x_code0 x_read x_saved x_plan x_bestPlan x_most x_many x_few x_everRight x_lagThen x_shadedThen x_firstFit x_rows x_rowMany x_sorts x_sizes x_number x_holds x_heldOne x_trace x_traced x_own x_isParted)) := by
  unfold X12_change at hf
  refine MC.ofI pn_X12 (Nat.le_of_ble_eq_true rfl) ?_
  intro p e s m args below meth c A Q ls cx hR hw hl
  have hx := cx.1
  have hb := cx.2.1
  have hl : lv_has ls 5 [(0, .ref (a 0)), (1, .int v1), (2, .int v2), (3, .int v3)] := hl
  refine lv_iload_n hx hb dX12_change_0 rfl (lv_at hl 2 rfl) ?_
  refine lv_iconst (v := 1) hx hb dX12_change_1 (by decide) ?_
  obtain ⟨j1, hj1, hf⟩ := pbS hf
  have wj1 : ∀ (H : Heap) (locs : List Loc) (ls : Array Slot), Wd D A s (mW a t x_s x_kept x_laid x_isKept x_pile x_tape x_taped x_letters x_at x_begun x_token x_value x_opened x_steps x_code0 x_read x_saved x_plan x_bestPlan x_most x_many x_few x_everRight x_lagThen x_shadedThen x_firstFit x_rows x_rowMany x_sorts x_sizes x_number x_holds x_heldOne x_trace x_traced x_own x_isParted) H locs → lv_has ls 5 [(0, .ref (a 0)), (1, .int v1), (2, .int v2), (3, .int v3)] → W p l e (rmz 3 0 0) s m args below meth c H locs 0 0 Q (F0 m 30 ls [.int j1]) := by
    intro H locs ls hw hl
    refine lv_istore (lv' := [(4, .int j1), (0, .ref (a 0)), (1, .int v1), (2, .int v2), (3, .int v3)]) hx hb dX12_change_30 hl (by decide) rfl (fun ls hl => ?_)
    refine lv_aload_n hx hb dX12_change_32 rfl (lv_at hl 1 rfl) ?_
    refine lv_iload_n hx hb dX12_change_33 rfl (lv_at hl 2 rfl) ?_
    refine calVi (k := 0) cx hw hl.1 (c_X12_isDial rfl) q_1296 k_X12_isDial rfl rfl rfl dX12_change_34 rfl (Nat.le_of_ble_eq_true rfl) ⟨Nat.le_of_ble_eq_true rfl, Nat.le_of_ble_eq_true rfl⟩ ⟨Nat.le_refl _, Nat.le_refl _⟩ (fun H locs hw => ?_)
    refine lv_if_eq (tgt := 75) hx hb dX12_change_37 (by decide) (fun hc => ?_) (fun hc => ?_)
    · have hf := ifT hf hc
      refine lv_iconst (v := (-1)) hx hb dX12_change_75 (by decide) ?_
      have hf := Option.some.inj hf
      subst hf
      exact hR _ _ _ _ _ _ hw rfl ⟨rfl, rfl⟩ dX12_change_76
    · have hf := ifF hf hc
      refine lv_iload_n hx hb dX12_change_40 rfl (lv_at hl 3 rfl) ?_
      refine lv_iconst (v := 1) hx hb dX12_change_41 (by decide) ?_
      refine lv_iconst (v := 4) hx hb dX12_change_42 (by decide) ?_
      refine calSi cx hw hl.1 (c_X12_in1 rfl) q_1214 k_X12_in1 rfl dX12_change_43 rfl (Nat.le_of_ble_eq_true rfl) ⟨Nat.le_of_ble_eq_true rfl, Nat.le_of_ble_eq_true rfl⟩ ⟨Nat.le_refl _, Nat.le_refl _⟩ (fun H locs hw => ?_)
      refine lv_if_eq (tgt := 75) hx hb dX12_change_46 (by decide) (fun hc => ?_) (fun hc => ?_)
      · have hf := ifT hf hc
        refine lv_iconst (v := (-1)) hx hb dX12_change_75 (by decide) ?_
        have hf := Option.some.inj hf
        subst hf
        exact hR _ _ _ _ _ _ hw rfl ⟨rfl, rfl⟩ dX12_change_76
      · have hf := ifF hf hc
        refine lv_iload_n hx hb dX12_change_49 rfl (lv_at hl 4 rfl) ?_
        refine lv_iconst (v := 0) hx hb dX12_change_50 (by decide) ?_
        refine lv_iload hx hb dX12_change_51 (lv_at hl 0 rfl) ?_
        refine calSi cx hw hl.1 (c_X12_in1 rfl) q_1214 k_X12_in1 rfl dX12_change_53 rfl (Nat.le_of_ble_eq_true rfl) ⟨Nat.le_of_ble_eq_true rfl, Nat.le_of_ble_eq_true rfl⟩ ⟨Nat.le_refl _, Nat.le_refl _⟩ (fun H locs hw => ?_)
        refine lv_if_eq (tgt := 75) hx hb dX12_change_56 (by decide) (fun hc => ?_) (fun hc => ?_)
        · have hf := ifT hf hc
          refine lv_iconst (v := (-1)) hx hb dX12_change_75 (by decide) ?_
          have hf := Option.some.inj hf
          subst hf
          exact hR _ _ _ _ _ _ hw rfl ⟨rfl, rfl⟩ dX12_change_76
        · have hf := ifF hf hc
          refine lv_aload_n hx hb dX12_change_59 rfl (lv_at hl 1 rfl) ?_
          refine lv_bipush (v := 35) hx hb dX12_change_60 (by decide) ?_
          refine lv_iconst (v := 5) hx hb dX12_change_62 (by decide) ?_
          refine lv_iload_n hx hb dX12_change_63 rfl (lv_at hl 2 rfl) ?_
          refine lv_imul hx hb dX12_change_64 ?_
          refine lv_iadd hx hb dX12_change_65 ?_
          refine lv_iload_n hx hb dX12_change_66 rfl (lv_at hl 3 rfl) ?_
          refine lv_iadd hx hb dX12_change_67 ?_
          refine lv_iload_n hx hb dX12_change_68 rfl (lv_at hl 4 rfl) ?_
          obtain ⟨r2, h3, hf⟩ := bnS hf
          refine calVi (k := 0) cx hw hl.1 (c_X12_becomes h3) q_1363 k_X12_becomes rfl rfl rfl dX12_change_69 rfl (Nat.le_of_ble_eq_true rfl) ⟨Nat.le_of_ble_eq_true rfl, Nat.le_of_ble_eq_true rfl⟩ ⟨Nat.le_refl _, Nat.le_refl _⟩ (fun H locs hw => ?_)
          refine lv_goto (tgt := 76) hx hb dX12_change_72 (by decide) ?_
          have hf := Option.some.inj hf
          subst hf
          exact hR _ _ _ _ _ _ hw rfl ⟨rfl, rfl⟩ dX12_change_76
  clear hf
  have hf := hj1
  clear hj1
  refine lv_icmp_ne (tgt := 10) hx hb dX12_change_2 (by decide) (fun hc => ?_) (fun hc => ?_)
  · have hf := ifF hf hc
    refine lv_iload_n hx hb dX12_change_10 rfl (lv_at hl 2 rfl) ?_
    refine lv_iconst (v := 3) hx hb dX12_change_11 (by decide) ?_
    refine lv_icmp_ne (tgt := 19) hx hb dX12_change_12 (by decide) (fun hc => ?_) (fun hc => ?_)
    · have hf := ifF hf hc
      refine lv_iload_n hx hb dX12_change_19 rfl (lv_at hl 2 rfl) ?_
      refine lv_iconst (v := 4) hx hb dX12_change_20 (by decide) ?_
      refine lv_icmp_ne (tgt := 28) hx hb dX12_change_21 (by decide) (fun hc => ?_) (fun hc => ?_)
      · have hf := ifF hf hc
        refine lv_bipush (v := 9) hx hb dX12_change_28 (by decide) ?_
        subst hf
        exact wj1 _ _ _ hw (lv_sub hl [0, 1, 2, 3] rfl)
      · have hf := ifT hf hc
        refine lv_iconst (v := 1) hx hb dX12_change_24 (by decide) ?_
        refine lv_goto (tgt := 30) hx hb dX12_change_25 (by decide) ?_
        subst hf
        exact wj1 _ _ _ hw (lv_sub hl [0, 1, 2, 3] rfl)
    · have hf := ifT hf hc
      refine lv_iconst (v := 5) hx hb dX12_change_15 (by decide) ?_
      refine lv_goto (tgt := 30) hx hb dX12_change_16 (by decide) ?_
      subst hf
      exact wj1 _ _ _ hw (lv_sub hl [0, 1, 2, 3] rfl)
  · have hf := ifT hf hc
    refine lv_bipush (v := 99) hx hb dX12_change_5 (by decide) ?_
    refine lv_goto (tgt := 30) hx hb dX12_change_7 (by decide) ?_
    subst hf
    exact wj1 _ _ _ hw (lv_sub hl [0, 1, 2, 3] rfl)
theorem dX12_remake_0 : decode cX12_remake 0 = .ok (.aload_n 0, 1) := by decide +kernel
theorem dX12_remake_1 : decode cX12_remake 1 = .ok (.iload_n 1, 1) := by decide +kernel
theorem dX12_remake_2 : decode cX12_remake 2 = .ok (.invokevirtual 231, 3) := by decide +kernel
theorem dX12_remake_5 : decode cX12_remake 5 = .ok (.ifCond .eq 26, 3) := by decide +kernel
theorem dX12_remake_8 : decode cX12_remake 8 = .ok (.iload_n 2, 1) := by decide +kernel
theorem dX12_remake_9 : decode cX12_remake 9 = .ok (.iconst 1, 1) := by decide +kernel
theorem dX12_remake_10 : decode cX12_remake 10 = .ok (.iconst 5, 1) := by decide +kernel
theorem dX12_remake_11 : decode cX12_remake 11 = .ok (.invokestatic 71, 3) := by decide +kernel
theorem dX12_remake_14 : decode cX12_remake 14 = .ok (.ifCond .eq 17, 3) := by decide +kernel
theorem dX12_remake_17 : decode cX12_remake 17 = .ok (.aload_n 0, 1) := by decide +kernel
theorem dX12_remake_18 : decode cX12_remake 18 = .ok (.bipush 35, 2) := by decide +kernel
theorem dX12_remake_20 : decode cX12_remake 20 = .ok (.iconst 5, 1) := by decide +kernel
theorem dX12_remake_21 : decode cX12_remake 21 = .ok (.iload_n 1, 1) := by decide +kernel
theorem dX12_remake_22 : decode cX12_remake 22 = .ok (.imul, 1) := by decide +kernel
theorem dX12_remake_23 : decode cX12_remake 23 = .ok (.iadd, 1) := by decide +kernel
theorem dX12_remake_24 : decode cX12_remake 24 = .ok (.iload_n 2, 1) := by decide +kernel
theorem dX12_remake_25 : decode cX12_remake 25 = .ok (.invokevirtual 234, 3) := by decide +kernel
theorem dX12_remake_28 : decode cX12_remake 28 = .ok (.goto 4, 3) := by decide +kernel
theorem dX12_remake_31 : decode cX12_remake 31 = .ok (.iconst (-1), 1) := by decide +kernel
theorem dX12_remake_32 : decode cX12_remake 32 = .ok (.ireturn, 1) := by decide +kernel
theorem k_X12_remake : MV yX12_remake cX12_remake 3 (some .int) 2 := ⟨q_1368, q_1369, q_14, q_1370, ⟨by decide, by decide, by decide +kernel⟩⟩
theorem c_X12_remake {res : Int32 × (Nat → Int32)} (hf : X12_remake x_s v1 v2 = some res) : MC l E0 D t yX12_remake cX12_remake 3 (some .int) 3 0 0 [.ref (a 0), .int v1, .int v2] (mW a t x_s x_kept x_laid x_isKept x_pile x_tape x_taped x_letters x_at x_begun x_token x_value x_opened x_steps x_code0 x_read x_saved x_plan x_bestPlan x_most x_many x_few x_everRight x_lagThen x_shadedThen x_firstFit x_rows x_rowMany x_sorts x_sizes x_number x_holds x_heldOne x_trace x_traced x_own x_isParted) (Qi res.1 (mW a t res.2 x_kept x_laid x_isKept x_pile x_tape x_taped x_letters x_at x_begun x_token x_value x_opened x_steps x_code0 x_read x_saved x_plan x_bestPlan x_most x_many x_few x_everRight x_lagThen x_shadedThen x_firstFit x_rows x_rowMany x_sorts x_sizes x_number x_holds x_heldOne x_trace x_traced x_own x_isParted)) := by
  unfold X12_remake at hf
  refine MC.ofI pn_X12 (Nat.le_of_ble_eq_true rfl) ?_
  intro p e s m args below meth c A Q ls cx hR hw hl
  have hx := cx.1
  have hb := cx.2.1
  have hl : lv_has ls 3 [(0, .ref (a 0)), (1, .int v1), (2, .int v2)] := hl
  refine lv_aload_n hx hb dX12_remake_0 rfl (lv_at hl 0 rfl) ?_
  refine lv_iload_n hx hb dX12_remake_1 rfl (lv_at hl 1 rfl) ?_
  refine calVi (k := 0) cx hw hl.1 (c_X12_isDial rfl) q_1296 k_X12_isDial rfl rfl rfl dX12_remake_2 rfl (Nat.le_of_ble_eq_true rfl) ⟨Nat.le_of_ble_eq_true rfl, Nat.le_of_ble_eq_true rfl⟩ ⟨Nat.le_refl _, Nat.le_refl _⟩ (fun H locs hw => ?_)
  refine lv_if_eq (tgt := 31) hx hb dX12_remake_5 (by decide) (fun hc => ?_) (fun hc => ?_)
  · have hf := ifT hf hc
    refine lv_iconst (v := (-1)) hx hb dX12_remake_31 (by decide) ?_
    have hf := Option.some.inj hf
    subst hf
    exact hR _ _ _ _ _ _ hw rfl ⟨rfl, rfl⟩ dX12_remake_32
  · have hf := ifF hf hc
    refine lv_iload_n hx hb dX12_remake_8 rfl (lv_at hl 2 rfl) ?_
    refine lv_iconst (v := 1) hx hb dX12_remake_9 (by decide) ?_
    refine lv_iconst (v := 5) hx hb dX12_remake_10 (by decide) ?_
    refine calSi cx hw hl.1 (c_X12_in1 rfl) q_1214 k_X12_in1 rfl dX12_remake_11 rfl (Nat.le_of_ble_eq_true rfl) ⟨Nat.le_of_ble_eq_true rfl, Nat.le_of_ble_eq_true rfl⟩ ⟨Nat.le_refl _, Nat.le_refl _⟩ (fun H locs hw => ?_)
    refine lv_if_eq (tgt := 31) hx hb dX12_remake_14 (by decide) (fun hc => ?_) (fun hc => ?_)
    · have hf := ifT hf hc
      refine lv_iconst (v := (-1)) hx hb dX12_remake_31 (by decide) ?_
      have hf := Option.some.inj hf
      subst hf
      exact hR _ _ _ _ _ _ hw rfl ⟨rfl, rfl⟩ dX12_remake_32
    · have hf := ifF hf hc
      refine lv_aload_n hx hb dX12_remake_17 rfl (lv_at hl 0 rfl) ?_
      refine lv_bipush (v := 35) hx hb dX12_remake_18 (by decide) ?_
      refine lv_iconst (v := 5) hx hb dX12_remake_20 (by decide) ?_
      refine lv_iload_n hx hb dX12_remake_21 rfl (lv_at hl 1 rfl) ?_
      refine lv_imul hx hb dX12_remake_22 ?_
      refine lv_iadd hx hb dX12_remake_23 ?_
      refine lv_iload_n hx hb dX12_remake_24 rfl (lv_at hl 2 rfl) ?_
      obtain ⟨r1, h2, hf⟩ := bnS hf
      refine calVi (k := 0) cx hw hl.1 (c_X12_becomes h2) q_1363 k_X12_becomes rfl rfl rfl dX12_remake_25 rfl (Nat.le_of_ble_eq_true rfl) ⟨Nat.le_of_ble_eq_true rfl, Nat.le_of_ble_eq_true rfl⟩ ⟨Nat.le_refl _, Nat.le_refl _⟩ (fun H locs hw => ?_)
      refine lv_goto (tgt := 32) hx hb dX12_remake_28 (by decide) ?_
      have hf := Option.some.inj hf
      subst hf
      exact hR _ _ _ _ _ _ hw rfl ⟨rfl, rfl⟩ dX12_remake_32
theorem dX12_sky_0 : decode cX12_sky 0 = .ok (.iload_n 1, 1) := by decide +kernel
theorem dX12_sky_1 : decode cX12_sky 1 = .ok (.iconst 0, 1) := by decide +kernel
theorem dX12_sky_2 : decode cX12_sky 2 = .ok (.bipush 15, 2) := by decide +kernel
theorem dX12_sky_4 : decode cX12_sky 4 = .ok (.invokestatic 71, 3) := by decide +kernel
theorem dX12_sky_7 : decode cX12_sky 7 = .ok (.ifCond .eq 25, 3) := by decide +kernel
theorem dX12_sky_10 : decode cX12_sky 10 = .ok (.iload_n 2, 1) := by decide +kernel
theorem dX12_sky_11 : decode cX12_sky 11 = .ok (.iconst 0, 1) := by decide +kernel
theorem dX12_sky_12 : decode cX12_sky 12 = .ok (.bipush 15, 2) := by decide +kernel
theorem dX12_sky_14 : decode cX12_sky 14 = .ok (.invokestatic 71, 3) := by decide +kernel
theorem dX12_sky_17 : decode cX12_sky 17 = .ok (.ifCond .eq 15, 3) := by decide +kernel
theorem dX12_sky_20 : decode cX12_sky 20 = .ok (.aload_n 0, 1) := by decide +kernel
theorem dX12_sky_21 : decode cX12_sky 21 = .ok (.bipush 7, 2) := by decide +kernel
theorem dX12_sky_23 : decode cX12_sky 23 = .ok (.iload_n 1, 1) := by decide +kernel
theorem dX12_sky_24 : decode cX12_sky 24 = .ok (.iadd, 1) := by decide +kernel
theorem dX12_sky_25 : decode cX12_sky 25 = .ok (.iload_n 2, 1) := by decide +kernel
theorem dX12_sky_26 : decode cX12_sky 26 = .ok (.invokevirtual 234, 3) := by decide +kernel
theorem dX12_sky_29 : decode cX12_sky 29 = .ok (.goto 4, 3) := by decide +kernel
theorem dX12_sky_32 : decode cX12_sky 32 = .ok (.iconst (-1), 1) := by decide +kernel
theorem dX12_sky_33 : decode cX12_sky 33 = .ok (.ireturn, 1) := by decide +kernel
theorem k_X12_sky : MV yX12_sky cX12_sky 3 (some .int) 2 := ⟨q_1372, q_1373, q_14, q_1374, ⟨by decide, by decide, by decide +kernel⟩⟩
theorem c_X12_sky {res : Int32 × (Nat → Int32)} (hf : X12_sky x_s v1 v2 = some res) : MC l E0 D t yX12_sky cX12_sky 3 (some .int) 2 0 0 [.ref (a 0), .int v1, .int v2] (mW a t x_s x_kept x_laid x_isKept x_pile x_tape x_taped x_letters x_at x_begun x_token x_value x_opened x_steps x_code0 x_read x_saved x_plan x_bestPlan x_most x_many x_few x_everRight x_lagThen x_shadedThen x_firstFit x_rows x_rowMany x_sorts x_sizes x_number x_holds x_heldOne x_trace x_traced x_own x_isParted) (Qi res.1 (mW a t res.2 x_kept x_laid x_isKept x_pile x_tape x_taped x_letters x_at x_begun x_token x_value x_opened x_steps x_code0 x_read x_saved x_plan x_bestPlan x_most x_many x_few x_everRight x_lagThen x_shadedThen x_firstFit x_rows x_rowMany x_sorts x_sizes x_number x_holds x_heldOne x_trace x_traced x_own x_isParted)) := by
  unfold X12_sky at hf
  refine MC.ofI pn_X12 (Nat.le_of_ble_eq_true rfl) ?_
  intro p e s m args below meth c A Q ls cx hR hw hl
  have hx := cx.1
  have hb := cx.2.1
  have hl : lv_has ls 3 [(0, .ref (a 0)), (1, .int v1), (2, .int v2)] := hl
  refine lv_iload_n hx hb dX12_sky_0 rfl (lv_at hl 1 rfl) ?_
  refine lv_iconst (v := 0) hx hb dX12_sky_1 (by decide) ?_
  refine lv_bipush (v := 15) hx hb dX12_sky_2 (by decide) ?_
  refine calSi cx hw hl.1 (c_X12_in1 rfl) q_1214 k_X12_in1 rfl dX12_sky_4 rfl (Nat.le_of_ble_eq_true rfl) ⟨Nat.le_of_ble_eq_true rfl, Nat.le_of_ble_eq_true rfl⟩ ⟨Nat.le_refl _, Nat.le_refl _⟩ (fun H locs hw => ?_)
  refine lv_if_eq (tgt := 32) hx hb dX12_sky_7 (by decide) (fun hc => ?_) (fun hc => ?_)
  · have hf := ifT hf hc
    refine lv_iconst (v := (-1)) hx hb dX12_sky_32 (by decide) ?_
    have hf := Option.some.inj hf
    subst hf
    exact hR _ _ _ _ _ _ hw rfl ⟨rfl, rfl⟩ dX12_sky_33
  · have hf := ifF hf hc
    refine lv_iload_n hx hb dX12_sky_10 rfl (lv_at hl 2 rfl) ?_
    refine lv_iconst (v := 0) hx hb dX12_sky_11 (by decide) ?_
    refine lv_bipush (v := 15) hx hb dX12_sky_12 (by decide) ?_
    refine calSi cx hw hl.1 (c_X12_in1 rfl) q_1214 k_X12_in1 rfl dX12_sky_14 rfl (Nat.le_of_ble_eq_true rfl) ⟨Nat.le_of_ble_eq_true rfl, Nat.le_of_ble_eq_true rfl⟩ ⟨Nat.le_refl _, Nat.le_refl _⟩ (fun H locs hw => ?_)
    refine lv_if_eq (tgt := 32) hx hb dX12_sky_17 (by decide) (fun hc => ?_) (fun hc => ?_)
    · have hf := ifT hf hc
      refine lv_iconst (v := (-1)) hx hb dX12_sky_32 (by decide) ?_
      have hf := Option.some.inj hf
      subst hf
      exact hR _ _ _ _ _ _ hw rfl ⟨rfl, rfl⟩ dX12_sky_33
    · have hf := ifF hf hc
      refine lv_aload_n hx hb dX12_sky_20 rfl (lv_at hl 0 rfl) ?_
      refine lv_bipush (v := 7) hx hb dX12_sky_21 (by decide) ?_
      refine lv_iload_n hx hb dX12_sky_23 rfl (lv_at hl 1 rfl) ?_
      refine lv_iadd hx hb dX12_sky_24 ?_
      refine lv_iload_n hx hb dX12_sky_25 rfl (lv_at hl 2 rfl) ?_
      obtain ⟨r1, h2, hf⟩ := bnS hf
      refine calVi (k := 0) cx hw hl.1 (c_X12_becomes h2) q_1363 k_X12_becomes rfl rfl rfl dX12_sky_26 rfl (Nat.le_of_ble_eq_true rfl) ⟨Nat.le_of_ble_eq_true rfl, Nat.le_of_ble_eq_true rfl⟩ ⟨Nat.le_refl _, Nat.le_refl _⟩ (fun H locs hw => ?_)
      refine lv_goto (tgt := 33) hx hb dX12_sky_29 (by decide) ?_
      have hf := Option.some.inj hf
      subst hf
      exact hR _ _ _ _ _ _ hw rfl ⟨rfl, rfl⟩ dX12_sky_33
theorem dX12_spot_0 : decode cX12_spot 0 = .ok (.iload_n 1, 1) := by decide +kernel
theorem dX12_spot_1 : decode cX12_spot 1 = .ok (.invokestatic 228, 3) := by decide +kernel
theorem dX12_spot_4 : decode cX12_spot 4 = .ok (.ifCond .eq 40, 3) := by decide +kernel
theorem dX12_spot_7 : decode cX12_spot 7 = .ok (.iload_n 2, 1) := by decide +kernel
theorem dX12_spot_8 : decode cX12_spot 8 = .ok (.iconst 0, 1) := by decide +kernel
theorem dX12_spot_9 : decode cX12_spot 9 = .ok (.iconst 1, 1) := by decide +kernel
theorem dX12_spot_10 : decode cX12_spot 10 = .ok (.invokestatic 71, 3) := by decide +kernel
theorem dX12_spot_13 : decode cX12_spot 13 = .ok (.ifCond .eq 31, 3) := by decide +kernel
theorem dX12_spot_16 : decode cX12_spot 16 = .ok (.iload_n 3, 1) := by decide +kernel
theorem dX12_spot_17 : decode cX12_spot 17 = .ok (.invokestatic 225, 3) := by decide +kernel
theorem dX12_spot_20 : decode cX12_spot 20 = .ok (.ifCond .eq 24, 3) := by decide +kernel
theorem dX12_spot_23 : decode cX12_spot 23 = .ok (.aload_n 0, 1) := by decide +kernel
theorem dX12_spot_24 : decode cX12_spot 24 = .ok (.iload_n 2, 1) := by decide +kernel
theorem dX12_spot_25 : decode cX12_spot 25 = .ok (.ifCond .ne 8, 3) := by decide +kernel
theorem dX12_spot_28 : decode cX12_spot 28 = .ok (.bipush 23, 2) := by decide +kernel
theorem dX12_spot_30 : decode cX12_spot 30 = .ok (.goto 5, 3) := by decide +kernel
theorem dX12_spot_33 : decode cX12_spot 33 = .ok (.bipush 29, 2) := by decide +kernel
theorem dX12_spot_35 : decode cX12_spot 35 = .ok (.iload_n 1, 1) := by decide +kernel
theorem dX12_spot_36 : decode cX12_spot 36 = .ok (.iadd, 1) := by decide +kernel
theorem dX12_spot_37 : decode cX12_spot 37 = .ok (.iload_n 3, 1) := by decide +kernel
theorem dX12_spot_38 : decode cX12_spot 38 = .ok (.invokevirtual 234, 3) := by decide +kernel
theorem dX12_spot_41 : decode cX12_spot 41 = .ok (.goto 4, 3) := by decide +kernel
theorem dX12_spot_44 : decode cX12_spot 44 = .ok (.iconst (-1), 1) := by decide +kernel
theorem dX12_spot_45 : decode cX12_spot 45 = .ok (.ireturn, 1) := by decide +kernel
theorem k_X12_spot : MV yX12_spot cX12_spot 4 (some .int) 3 := ⟨q_1376, q_1377, q_14, q_1378, ⟨by decide, by decide, by decide +kernel⟩⟩
theorem c_X12_spot {res : Int32 × (Nat → Int32)} (hf : X12_spot x_s v1 v2 v3 = some res) : MC l E0 D t yX12_spot cX12_spot 4 (some .int) 3 0 0 [.ref (a 0), .int v1, .int v2, .int v3] (mW a t x_s x_kept x_laid x_isKept x_pile x_tape x_taped x_letters x_at x_begun x_token x_value x_opened x_steps x_code0 x_read x_saved x_plan x_bestPlan x_most x_many x_few x_everRight x_lagThen x_shadedThen x_firstFit x_rows x_rowMany x_sorts x_sizes x_number x_holds x_heldOne x_trace x_traced x_own x_isParted) (Qi res.1 (mW a t res.2 x_kept x_laid x_isKept x_pile x_tape x_taped x_letters x_at x_begun x_token x_value x_opened x_steps x_code0 x_read x_saved x_plan x_bestPlan x_most x_many x_few x_everRight x_lagThen x_shadedThen x_firstFit x_rows x_rowMany x_sorts x_sizes x_number x_holds x_heldOne x_trace x_traced x_own x_isParted)) := by
  unfold X12_spot at hf
  refine MC.ofI pn_X12 (Nat.le_of_ble_eq_true rfl) ?_
  intro p e s m args below meth c A Q ls cx hR hw hl
  have hx := cx.1
  have hb := cx.2.1
  have hl : lv_has ls 4 [(0, .ref (a 0)), (1, .int v1), (2, .int v2), (3, .int v3)] := hl
  refine lv_iload_n hx hb dX12_spot_0 rfl (lv_at hl 1 rfl) ?_
  refine calSi cx hw hl.1 (c_X12_isSpot rfl) q_1285 k_X12_isSpot rfl dX12_spot_1 rfl (Nat.le_of_ble_eq_true rfl) ⟨Nat.le_of_ble_eq_true rfl, Nat.le_of_ble_eq_true rfl⟩ ⟨Nat.le_refl _, Nat.le_refl _⟩ (fun H locs hw => ?_)
  refine lv_if_eq (tgt := 44) hx hb dX12_spot_4 (by decide) (fun hc => ?_) (fun hc => ?_)
  · have hf := ifT hf hc
    refine lv_iconst (v := (-1)) hx hb dX12_spot_44 (by decide) ?_
    have hf := Option.some.inj hf
    subst hf
    exact hR _ _ _ _ _ _ hw rfl ⟨rfl, rfl⟩ dX12_spot_45
  · have hf := ifF hf hc
    refine lv_iload_n hx hb dX12_spot_7 rfl (lv_at hl 2 rfl) ?_
    refine lv_iconst (v := 0) hx hb dX12_spot_8 (by decide) ?_
    refine lv_iconst (v := 1) hx hb dX12_spot_9 (by decide) ?_
    refine calSi cx hw hl.1 (c_X12_in1 rfl) q_1214 k_X12_in1 rfl dX12_spot_10 rfl (Nat.le_of_ble_eq_true rfl) ⟨Nat.le_of_ble_eq_true rfl, Nat.le_of_ble_eq_true rfl⟩ ⟨Nat.le_refl _, Nat.le_refl _⟩ (fun H locs hw => ?_)
    refine lv_if_eq (tgt := 44) hx hb dX12_spot_13 (by decide) (fun hc => ?_) (fun hc => ?_)
    · have hf := ifT hf hc
      refine lv_iconst (v := (-1)) hx hb dX12_spot_44 (by decide) ?_
      have hf := Option.some.inj hf
      subst hf
      exact hR _ _ _ _ _ _ hw rfl ⟨rfl, rfl⟩ dX12_spot_45
    · have hf := ifF hf hc
      refine lv_iload_n hx hb dX12_spot_16 rfl (lv_at hl 3 rfl) ?_
      refine calSi cx hw hl.1 (c_X12_isDigit rfl) q_1282 k_X12_isDigit rfl dX12_spot_17 rfl (Nat.le_of_ble_eq_true rfl) ⟨Nat.le_of_ble_eq_true rfl, Nat.le_of_ble_eq_true rfl⟩ ⟨Nat.le_refl _, Nat.le_refl _⟩ (fun H locs hw => ?_)
      refine lv_if_eq (tgt := 44) hx hb dX12_spot_20 (by decide) (fun hc => ?_) (fun hc => ?_)
      · have hf := ifT hf hc
        refine lv_iconst (v := (-1)) hx hb dX12_spot_44 (by decide) ?_
        have hf := Option.some.inj hf
        subst hf
        exact hR _ _ _ _ _ _ hw rfl ⟨rfl, rfl⟩ dX12_spot_45
      · have hf := ifF hf hc
        refine lv_aload_n hx hb dX12_spot_23 rfl (lv_at hl 0 rfl) ?_
        refine lv_iload_n hx hb dX12_spot_24 rfl (lv_at hl 2 rfl) ?_
        obtain ⟨j1, hj1, hf⟩ := pbS hf
        have wj1 : ∀ (H : Heap) (locs : List Loc) (ls : Array Slot), Wd D A s (mW a t x_s x_kept x_laid x_isKept x_pile x_tape x_taped x_letters x_at x_begun x_token x_value x_opened x_steps x_code0 x_read x_saved x_plan x_bestPlan x_most x_many x_few x_everRight x_lagThen x_shadedThen x_firstFit x_rows x_rowMany x_sorts x_sizes x_number x_holds x_heldOne x_trace x_traced x_own x_isParted) H locs → lv_has ls 4 [(0, .ref (a 0)), (1, .int v1), (2, .int v2), (3, .int v3)] → W p l e (rmz 3 0 0) s m args below meth c H locs 0 0 Q (F0 m 35 ls [.int j1, .ref (a 0)]) := by
          intro H locs ls hw hl
          refine lv_iload_n hx hb dX12_spot_35 rfl (lv_at hl 1 rfl) ?_
          refine lv_iadd hx hb dX12_spot_36 ?_
          refine lv_iload_n hx hb dX12_spot_37 rfl (lv_at hl 3 rfl) ?_
          obtain ⟨r2, h3, hf⟩ := bnS hf
          refine calVi (k := 0) cx hw hl.1 (c_X12_becomes h3) q_1363 k_X12_becomes rfl rfl rfl dX12_spot_38 rfl (Nat.le_of_ble_eq_true rfl) ⟨Nat.le_of_ble_eq_true rfl, Nat.le_of_ble_eq_true rfl⟩ ⟨Nat.le_refl _, Nat.le_refl _⟩ (fun H locs hw => ?_)
          refine lv_goto (tgt := 45) hx hb dX12_spot_41 (by decide) ?_
          have hf := Option.some.inj hf
          subst hf
          exact hR _ _ _ _ _ _ hw rfl ⟨rfl, rfl⟩ dX12_spot_45
        clear hf
        have hf := hj1
        clear hj1
        refine lv_if_ne (tgt := 33) hx hb dX12_spot_25 (by decide) (fun hc => ?_) (fun hc => ?_)
        · have hf := ifF hf hc
          refine lv_bipush (v := 29) hx hb dX12_spot_33 (by decide) ?_
          subst hf
          exact wj1 _ _ _ hw (lv_sub hl [0, 1, 2, 3] rfl)
        · have hf := ifT hf hc
          refine lv_bipush (v := 23) hx hb dX12_spot_28 (by decide) ?_
          refine lv_goto (tgt := 35) hx hb dX12_spot_30 (by decide) ?_
          subst hf
          exact wj1 _ _ _ hw (lv_sub hl [0, 1, 2, 3] rfl)
theorem dX12_spotOf_0 : decode cX12_spotOf 0 = .ok (.iload_n 1, 1) := by decide +kernel
theorem dX12_spotOf_1 : decode cX12_spotOf 1 = .ok (.invokestatic 228, 3) := by decide +kernel
theorem dX12_spotOf_4 : decode cX12_spotOf 4 = .ok (.ifCond .eq 12, 3) := by decide +kernel
theorem dX12_spotOf_7 : decode cX12_spotOf 7 = .ok (.iload_n 2, 1) := by decide +kernel
theorem dX12_spotOf_8 : decode cX12_spotOf 8 = .ok (.iconst 0, 1) := by decide +kernel
theorem dX12_spotOf_9 : decode cX12_spotOf 9 = .ok (.iconst 2, 1) := by decide +kernel
theorem dX12_spotOf_10 : decode cX12_spotOf 10 = .ok (.invokestatic 71, 3) := by decide +kernel
theorem dX12_spotOf_13 : decode cX12_spotOf 13 = .ok (.ifCond .ne 5, 3) := by decide +kernel
theorem dX12_spotOf_16 : decode cX12_spotOf 16 = .ok (.iconst (-1), 1) := by decide +kernel
theorem dX12_spotOf_17 : decode cX12_spotOf 17 = .ok (.ireturn, 1) := by decide +kernel
theorem dX12_spotOf_18 : decode cX12_spotOf 18 = .ok (.iload_n 2, 1) := by decide +kernel
theorem dX12_spotOf_19 : decode cX12_spotOf 19 = .ok (.iconst 2, 1) := by decide +kernel
theorem dX12_spotOf_20 : decode cX12_spotOf 20 = .ok (.if_icmp .ne 11, 3) := by decide +kernel
theorem dX12_spotOf_23 : decode cX12_spotOf 23 = .ok (.aload_n 0, 1) := by decide +kernel
theorem dX12_spotOf_24 : decode cX12_spotOf 24 = .ok (.iload_n 1, 1) := by decide +kernel
theorem dX12_spotOf_25 : decode cX12_spotOf 25 = .ok (.invokevirtual 94, 3) := by decide +kernel
theorem dX12_spotOf_28 : decode cX12_spotOf 28 = .ok (.goto 21, 3) := by decide +kernel
theorem dX12_spotOf_31 : decode cX12_spotOf 31 = .ok (.aload_n 0, 1) := by decide +kernel
theorem dX12_spotOf_32 : decode cX12_spotOf 32 = .ok (.getfield 9, 3) := by decide +kernel
theorem dX12_spotOf_35 : decode cX12_spotOf 35 = .ok (.iload_n 2, 1) := by decide +kernel
theorem dX12_spotOf_36 : decode cX12_spotOf 36 = .ok (.ifCond .ne 8, 3) := by decide +kernel
theorem dX12_spotOf_39 : decode cX12_spotOf 39 = .ok (.bipush 23, 2) := by decide +kernel
theorem dX12_spotOf_41 : decode cX12_spotOf 41 = .ok (.goto 5, 3) := by decide +kernel
theorem dX12_spotOf_44 : decode cX12_spotOf 44 = .ok (.bipush 29, 2) := by decide +kernel
theorem dX12_spotOf_46 : decode cX12_spotOf 46 = .ok (.iload_n 1, 1) := by decide +kernel
theorem dX12_spotOf_47 : decode cX12_spotOf 47 = .ok (.iadd, 1) := by decide +kernel
theorem dX12_spotOf_48 : decode cX12_spotOf 48 = .ok (.iaload, 1) := by decide +kernel
theorem dX12_spotOf_49 : decode cX12_spotOf 49 = .ok (.ireturn, 1) := by decide +kernel
theorem k_X12_spotOf : MV yX12_spotOf cX12_spotOf 3 (some .int) 2 := ⟨q_1380, q_1381, q_14, q_1382, ⟨by decide, by decide, by decide +kernel⟩⟩
theorem c_X12_spotOf {res : Int32} (hf : X12_spotOf n x_s v1 v2 = some res) : MC l E0 D t yX12_spotOf cX12_spotOf 3 (some .int) 4 0 0 [.ref (a 0), .int v1, .int v2] (mW a t x_s x_kept x_laid x_isKept x_pile x_tape x_taped x_letters x_at x_begun x_token x_value x_opened x_steps x_code0 x_read x_saved x_plan x_bestPlan x_most x_many x_few x_everRight x_lagThen x_shadedThen x_firstFit x_rows x_rowMany x_sorts x_sizes x_number x_holds x_heldOne x_trace x_traced x_own x_isParted) (Qi res (mW a t x_s x_kept x_laid x_isKept x_pile x_tape x_taped x_letters x_at x_begun x_token x_value x_opened x_steps x_code0 x_read x_saved x_plan x_bestPlan x_most x_many x_few x_everRight x_lagThen x_shadedThen x_firstFit x_rows x_rowMany x_sorts x_sizes x_number x_holds x_heldOne x_trace x_traced x_own x_isParted)) := by
  unfold X12_spotOf at hf
  refine MC.ofI pn_X12 (Nat.le_of_ble_eq_true rfl) ?_
  intro p e s m args below meth c A Q ls cx hR hw hl
  have hx := cx.1
  have hb := cx.2.1
  have hl : lv_has ls 3 [(0, .ref (a 0)), (1, .int v1), (2, .int v2)] := hl
  refine lv_iload_n hx hb dX12_spotOf_0 rfl (lv_at hl 1 rfl) ?_
  refine calSi cx hw hl.1 (c_X12_isSpot rfl) q_1285 k_X12_isSpot rfl dX12_spotOf_1 rfl (Nat.le_of_ble_eq_true rfl) ⟨Nat.le_of_ble_eq_true rfl, Nat.le_of_ble_eq_true rfl⟩ ⟨Nat.le_refl _, Nat.le_refl _⟩ (fun H locs hw => ?_)
  refine lv_if_eq (tgt := 16) hx hb dX12_spotOf_4 (by decide) (fun hc => ?_) (fun hc => ?_)
  · have hf := ifT hf hc
    refine lv_iconst (v := (-1)) hx hb dX12_spotOf_16 (by decide) ?_
    have hf := Option.some.inj hf
    subst hf
    exact hR _ _ _ _ _ _ hw rfl ⟨rfl, rfl⟩ dX12_spotOf_17
  · have hf := ifF hf hc
    refine lv_iload_n hx hb dX12_spotOf_7 rfl (lv_at hl 2 rfl) ?_
    refine lv_iconst (v := 0) hx hb dX12_spotOf_8 (by decide) ?_
    refine lv_iconst (v := 2) hx hb dX12_spotOf_9 (by decide) ?_
    refine calSi cx hw hl.1 (c_X12_in1 rfl) q_1214 k_X12_in1 rfl dX12_spotOf_10 rfl (Nat.le_of_ble_eq_true rfl) ⟨Nat.le_of_ble_eq_true rfl, Nat.le_of_ble_eq_true rfl⟩ ⟨Nat.le_refl _, Nat.le_refl _⟩ (fun H locs hw => ?_)
    refine lv_if_ne (tgt := 18) hx hb dX12_spotOf_13 (by decide) (fun hc => ?_) (fun hc => ?_)
    · have hf := ifF hf hc
      refine lv_iload_n hx hb dX12_spotOf_18 rfl (lv_at hl 2 rfl) ?_
      refine lv_iconst (v := 2) hx hb dX12_spotOf_19 (by decide) ?_
      refine lv_icmp_ne (tgt := 31) hx hb dX12_spotOf_20 (by decide) (fun hc => ?_) (fun hc => ?_)
      · have hf := ifF hf hc
        refine lv_aload_n hx hb dX12_spotOf_31 rfl (lv_at hl 0 rfl) ?_
        refine mg_s cx hw dX12_spotOf_32 ?_
        refine lv_iload_n hx hb dX12_spotOf_35 rfl (lv_at hl 2 rfl) ?_
        obtain ⟨j3, hj3, hf⟩ := pbS hf
        have wj3 : ∀ (H : Heap) (locs : List Loc) (ls : Array Slot), Wd D A s (mW a t x_s x_kept x_laid x_isKept x_pile x_tape x_taped x_letters x_at x_begun x_token x_value x_opened x_steps x_code0 x_read x_saved x_plan x_bestPlan x_most x_many x_few x_everRight x_lagThen x_shadedThen x_firstFit x_rows x_rowMany x_sorts x_sizes x_number x_holds x_heldOne x_trace x_traced x_own x_isParted) H locs → lv_has ls 3 [(0, .ref (a 0)), (1, .int v1), (2, .int v2)] → W p l e (rmz 4 0 0) s m args below meth c H locs 0 0 Q (F0 m 46 ls [.int j3, .ref (a 1)]) := by
          intro H locs ls hw hl
          refine lv_iload_n hx hb dX12_spotOf_46 rfl (lv_at hl 1 rfl) ?_
          refine lv_iadd hx hb dX12_spotOf_47 ?_
          obtain ⟨h4, hf⟩ := ckS hf
          refine ml_s (j := (j3 + v1).toNatClampNeg) cx hw (ib_in h4) rfl dX12_spotOf_48 ?_
          have hf := Option.some.inj hf
          subst hf
          exact hR _ _ _ _ _ _ hw rfl ⟨rfl, rfl⟩ dX12_spotOf_49
        clear hf
        have hf := hj3
        clear hj3
        refine lv_if_ne (tgt := 44) hx hb dX12_spotOf_36 (by decide) (fun hc => ?_) (fun hc => ?_)
        · have hf := ifF hf hc
          refine lv_bipush (v := 29) hx hb dX12_spotOf_44 (by decide) ?_
          subst hf
          exact wj3 _ _ _ hw (lv_sub hl [0, 1, 2] rfl)
        · have hf := ifT hf hc
          refine lv_bipush (v := 23) hx hb dX12_spotOf_39 (by decide) ?_
          refine lv_goto (tgt := 46) hx hb dX12_spotOf_41 (by decide) ?_
          subst hf
          exact wj3 _ _ _ hw (lv_sub hl [0, 1, 2] rfl)
      · have hf := ifT hf hc
        refine lv_aload_n hx hb dX12_spotOf_23 rfl (lv_at hl 0 rfl) ?_
        refine lv_iload_n hx hb dX12_spotOf_24 rfl (lv_at hl 1 rfl) ?_
        obtain ⟨r1, h2, hf⟩ := bnS hf
        refine calVi (k := 0) cx hw hl.1 (c_X12_shadeAt h2) q_1319 k_X12_shadeAt rfl rfl rfl dX12_spotOf_25 rfl (Nat.le_of_ble_eq_true rfl) ⟨Nat.le_of_ble_eq_true rfl, Nat.le_of_ble_eq_true rfl⟩ ⟨Nat.le_refl _, Nat.le_refl _⟩ (fun H locs hw => ?_)
        refine lv_goto (tgt := 49) hx hb dX12_spotOf_28 (by decide) ?_
        have hf := Option.some.inj hf
        subst hf
        exact hR _ _ _ _ _ _ hw rfl ⟨rfl, rfl⟩ dX12_spotOf_49
    · have hf := ifT hf hc
      refine lv_iconst (v := (-1)) hx hb dX12_spotOf_16 (by decide) ?_
      have hf := Option.some.inj hf
      subst hf
      exact hR _ _ _ _ _ _ hw rfl ⟨rfl, rfl⟩ dX12_spotOf_17
theorem dX12_ends_0 : decode cX12_ends 0 = .ok (.iload_n 1, 1) := by decide +kernel
theorem dX12_ends_1 : decode cX12_ends 1 = .ok (.iconst 1, 1) := by decide +kernel
theorem dX12_ends_2 : decode cX12_ends 2 = .ok (.bipush 16, 2) := by decide +kernel
theorem dX12_ends_4 : decode cX12_ends 4 = .ok (.invokestatic 71, 3) := by decide +kernel
theorem dX12_ends_7 : decode cX12_ends 7 = .ok (.ifCond .ne 7, 3) := by decide +kernel
theorem dX12_ends_10 : decode cX12_ends 10 = .ok (.iconst (-1), 1) := by decide +kernel
theorem dX12_ends_11 : decode cX12_ends 11 = .ok (.goto 24, 3) := by decide +kernel
theorem dX12_ends_14 : decode cX12_ends 14 = .ok (.iload_n 1, 1) := by decide +kernel
theorem dX12_ends_15 : decode cX12_ends 15 = .ok (.aload_n 0, 1) := by decide +kernel
theorem dX12_ends_16 : decode cX12_ends 16 = .ok (.getfield 9, 3) := by decide +kernel
theorem dX12_ends_19 : decode cX12_ends 19 = .ok (.iconst 0, 1) := by decide +kernel
theorem dX12_ends_20 : decode cX12_ends 20 = .ok (.iaload, 1) := by decide +kernel
theorem dX12_ends_21 : decode cX12_ends 21 = .ok (.if_icmp .ge 8, 3) := by decide +kernel
theorem dX12_ends_24 : decode cX12_ends 24 = .ok (.bipush (-4), 2) := by decide +kernel
theorem dX12_ends_26 : decode cX12_ends 26 = .ok (.goto 9, 3) := by decide +kernel
theorem dX12_ends_29 : decode cX12_ends 29 = .ok (.aload_n 0, 1) := by decide +kernel
theorem dX12_ends_30 : decode cX12_ends 30 = .ok (.iconst 1, 1) := by decide +kernel
theorem dX12_ends_31 : decode cX12_ends 31 = .ok (.iload_n 1, 1) := by decide +kernel
theorem dX12_ends_32 : decode cX12_ends 32 = .ok (.invokevirtual 234, 3) := by decide +kernel
theorem dX12_ends_35 : decode cX12_ends 35 = .ok (.ireturn, 1) := by decide +kernel
theorem k_X12_ends : MV yX12_ends cX12_ends 2 (some .int) 1 := ⟨q_1384, q_1385, q_14, q_1386, ⟨by decide, by decide, by decide +kernel⟩⟩
theorem c_X12_ends {res : Int32 × (Nat → Int32)} (hf : X12_ends x_s v1 = some res) : MC l E0 D t yX12_ends cX12_ends 2 (some .int) 2 0 0 [.ref (a 0), .int v1] (mW a t x_s x_kept x_laid x_isKept x_pile x_tape x_taped x_letters x_at x_begun x_token x_value x_opened x_steps x_code0 x_read x_saved x_plan x_bestPlan x_most x_many x_few x_everRight x_lagThen x_shadedThen x_firstFit x_rows x_rowMany x_sorts x_sizes x_number x_holds x_heldOne x_trace x_traced x_own x_isParted) (Qi res.1 (mW a t res.2 x_kept x_laid x_isKept x_pile x_tape x_taped x_letters x_at x_begun x_token x_value x_opened x_steps x_code0 x_read x_saved x_plan x_bestPlan x_most x_many x_few x_everRight x_lagThen x_shadedThen x_firstFit x_rows x_rowMany x_sorts x_sizes x_number x_holds x_heldOne x_trace x_traced x_own x_isParted)) := by
  unfold X12_ends at hf
  refine MC.ofI pn_X12 (Nat.le_of_ble_eq_true rfl) ?_
  intro p e s m args below meth c A Q ls cx hR hw hl
  have hx := cx.1
  have hb := cx.2.1
  have hl : lv_has ls 2 [(0, .ref (a 0)), (1, .int v1)] := hl
  refine lv_iload_n hx hb dX12_ends_0 rfl (lv_at hl 1 rfl) ?_
  refine lv_iconst (v := 1) hx hb dX12_ends_1 (by decide) ?_
  refine lv_bipush (v := 16) hx hb dX12_ends_2 (by decide) ?_
  refine calSi cx hw hl.1 (c_X12_in1 rfl) q_1214 k_X12_in1 rfl dX12_ends_4 rfl (Nat.le_of_ble_eq_true rfl) ⟨Nat.le_of_ble_eq_true rfl, Nat.le_of_ble_eq_true rfl⟩ ⟨Nat.le_refl _, Nat.le_refl _⟩ (fun H locs hw => ?_)
  refine lv_if_ne (tgt := 14) hx hb dX12_ends_7 (by decide) (fun hc => ?_) (fun hc => ?_)
  · have hf := ifF hf hc
    refine lv_iload_n hx hb dX12_ends_14 rfl (lv_at hl 1 rfl) ?_
    refine lv_aload_n hx hb dX12_ends_15 rfl (lv_at hl 0 rfl) ?_
    refine mg_s cx hw dX12_ends_16 ?_
    refine lv_iconst (v := 0) hx hb dX12_ends_19 (by decide) ?_
    refine ml_s (j := 0) cx hw (ib_in (by decide)) (by decide) dX12_ends_20 ?_
    refine lv_icmp_ge (tgt := 29) hx hb dX12_ends_21 (by decide) (fun hc => ?_) (fun hc => ?_)
    · have hf := ifT hf hc
      refine lv_aload_n hx hb dX12_ends_29 rfl (lv_at hl 0 rfl) ?_
      refine lv_iconst (v := 1) hx hb dX12_ends_30 (by decide) ?_
      refine lv_iload_n hx hb dX12_ends_31 rfl (lv_at hl 1 rfl) ?_
      obtain ⟨r1, h2, hf⟩ := bnS hf
      refine calVi (k := 0) cx hw hl.1 (c_X12_becomes h2) q_1363 k_X12_becomes rfl rfl rfl dX12_ends_32 rfl (Nat.le_of_ble_eq_true rfl) ⟨Nat.le_of_ble_eq_true rfl, Nat.le_of_ble_eq_true rfl⟩ ⟨Nat.le_refl _, Nat.le_refl _⟩ (fun H locs hw => ?_)
      have hf := Option.some.inj hf
      subst hf
      exact hR _ _ _ _ _ _ hw rfl ⟨rfl, rfl⟩ dX12_ends_35
    · have hf := ifF hf hc
      refine lv_bipush (v := (-4)) hx hb dX12_ends_24 (by decide) ?_
      refine lv_goto (tgt := 35) hx hb dX12_ends_26 (by decide) ?_
      have hf := Option.some.inj hf
      subst hf
      exact hR _ _ _ _ _ _ hw rfl ⟨rfl, rfl⟩ dX12_ends_35
  · have hf := ifT hf hc
    refine lv_iconst (v := (-1)) hx hb dX12_ends_10 (by decide) ?_
    refine lv_goto (tgt := 35) hx hb dX12_ends_11 (by decide) ?_
    have hf := Option.some.inj hf
    subst hf
    exact hR _ _ _ _ _ _ hw rfl ⟨rfl, rfl⟩ dX12_ends_35
theorem dX12_anew_0 : decode cX12_anew 0 = .ok (.aload_n 0, 1) := by decide +kernel
theorem dX12_anew_1 : decode cX12_anew 1 = .ok (.getfield 9, 3) := by decide +kernel
theorem dX12_anew_4 : decode cX12_anew 4 = .ok (.iconst 2, 1) := by decide +kernel
theorem dX12_anew_5 : decode cX12_anew 5 = .ok (.iconst 0, 1) := by decide +kernel
theorem dX12_anew_6 : decode cX12_anew 6 = .ok (.iastore, 1) := by decide +kernel
theorem dX12_anew_7 : decode cX12_anew 7 = .ok (.iconst 0, 1) := by decide +kernel
theorem dX12_anew_8 : decode cX12_anew 8 = .ok (.istore_n 1, 1) := by decide +kernel
theorem dX12_anew_9 : decode cX12_anew 9 = .ok (.iload_n 1, 1) := by decide +kernel
theorem dX12_anew_10 : decode cX12_anew 10 = .ok (.aload_n 0, 1) := by decide +kernel
theorem dX12_anew_11 : decode cX12_anew 11 = .ok (.getfield 9, 3) := by decide +kernel
theorem dX12_anew_14 : decode cX12_anew 14 = .ok (.iconst 4, 1) := by decide +kernel
theorem dX12_anew_15 : decode cX12_anew 15 = .ok (.iaload, 1) := by decide +kernel
theorem dX12_anew_16 : decode cX12_anew 16 = .ok (.if_icmp .ge 16, 3) := by decide +kernel
theorem dX12_anew_19 : decode cX12_anew 19 = .ok (.aload_n 0, 1) := by decide +kernel
theorem dX12_anew_20 : decode cX12_anew 20 = .ok (.iload_n 1, 1) := by decide +kernel
theorem dX12_anew_21 : decode cX12_anew 21 = .ok (.iconst 4, 1) := by decide +kernel
theorem dX12_anew_22 : decode cX12_anew 22 = .ok (.iconst 0, 1) := by decide +kernel
theorem dX12_anew_23 : decode cX12_anew 23 = .ok (.invokevirtual 197, 3) := by decide +kernel
theorem dX12_anew_26 : decode cX12_anew 26 = .ok (.iinc 1 1, 3) := by decide +kernel
theorem dX12_anew_29 : decode cX12_anew 29 = .ok (.goto (-20), 3) := by decide +kernel
theorem dX12_anew_32 : decode cX12_anew 32 = .ok (.aload_n 0, 1) := by decide +kernel
theorem dX12_anew_33 : decode cX12_anew 33 = .ok (.iconst 0, 1) := by decide +kernel
theorem dX12_anew_34 : decode cX12_anew 34 = .ok (.iconst 0, 1) := by decide +kernel
theorem dX12_anew_35 : decode cX12_anew 35 = .ok (.invokevirtual 234, 3) := by decide +kernel
theorem dX12_anew_38 : decode cX12_anew 38 = .ok (.ireturn, 1) := by decide +kernel
theorem k_X12_anew : MV yX12_anew cX12_anew 2 (some .int) 0 := ⟨q_1388, q_1389, q_14, q_1390, ⟨by decide, by decide, by decide +kernel⟩⟩
theorem c_X12_anew {res : Int32 × (Nat → Int32)} (hf : X12_anew n x_s = some res) : MC l E0 D t yX12_anew cX12_anew 2 (some .int) 2 0 0 [.ref (a 0)] (mW a t x_s x_kept x_laid x_isKept x_pile x_tape x_taped x_letters x_at x_begun x_token x_value x_opened x_steps x_code0 x_read x_saved x_plan x_bestPlan x_most x_many x_few x_everRight x_lagThen x_shadedThen x_firstFit x_rows x_rowMany x_sorts x_sizes x_number x_holds x_heldOne x_trace x_traced x_own x_isParted) (Qi res.1 (mW a t res.2 x_kept x_laid x_isKept x_pile x_tape x_taped x_letters x_at x_begun x_token x_value x_opened x_steps x_code0 x_read x_saved x_plan x_bestPlan x_most x_many x_few x_everRight x_lagThen x_shadedThen x_firstFit x_rows x_rowMany x_sorts x_sizes x_number x_holds x_heldOne x_trace x_traced x_own x_isParted)) := by
  unfold X12_anew at hf
  refine MC.ofI pn_X12 (Nat.le_of_ble_eq_true rfl) ?_
  intro p e s m args below meth c A Q ls cx hR hw hl
  have hx := cx.1
  have hb := cx.2.1
  have hl : lv_has ls 2 [(0, .ref (a 0))] := hl
  refine lv_aload_n hx hb dX12_anew_0 rfl (lv_at hl 0 rfl) ?_
  refine mg_s cx hw dX12_anew_1 ?_
  refine lv_iconst (v := 2) hx hb dX12_anew_4 (by decide) ?_
  refine lv_iconst (v := 0) hx hb dX12_anew_5 (by decide) ?_
  refine ms_s (j := 2) cx hw (ib_in (by decide)) (by decide) dX12_anew_6 (fun H locs hw => ?_)
  refine lv_iconst (v := 0) hx hb dX12_anew_7 (by decide) ?_
  refine lv_istore_n (lv' := [(1, .int (0 : Int32)), (0, .ref (a 0))]) hx hb dX12_anew_8 rfl hl (by decide) rfl (fun ls hl => ?_)
  obtain ⟨o3, ho3, hf⟩ := bnS hf
  have wL1 : ∀ (k : Nat) {v1 : Int32} {x_s : Nat → Int32} {H : Heap} {locs : List Loc} {ls : Array Slot} {o : Int32 × (Nat → Int32)}, X12_anew_L1 n k v1 x_s = some o → Wd D A s (mW a t x_s x_kept x_laid x_isKept x_pile x_tape x_taped x_letters x_at x_begun x_token x_value x_opened x_steps x_code0 x_read x_saved x_plan x_bestPlan x_most x_many x_few x_everRight x_lagThen x_shadedThen x_firstFit x_rows x_rowMany x_sorts x_sizes x_number x_holds x_heldOne x_trace x_traced x_own x_isParted) H locs → lv_has ls 2 [(0, .ref (a 0)), (1, .int v1)] → (∀ (H : Heap) (locs : List Loc) (ls : Array Slot), Wd D A s (mW a t o.2 x_kept x_laid x_isKept x_pile x_tape x_taped x_letters x_at x_begun x_token x_value x_opened x_steps x_code0 x_read x_saved x_plan x_bestPlan x_most x_many x_few x_everRight x_lagThen x_shadedThen x_firstFit x_rows x_rowMany x_sorts x_sizes x_number x_holds x_heldOne x_trace x_traced x_own x_isParted) H locs → lv_has ls 2 [(0, .ref (a 0)), (1, .int o.1)] → W p l e (rmz 2 0 0) s m args below meth c H locs 0 0 Q (F0 m 32 ls [])) → W p l e (rmz 2 0 0) s m args below meth c H locs 0 0 Q (F0 m 9 ls []) := by
    clear hf ho3 hw hl
    intro k
    induction k with
    | zero => intro v1 x_s H locs ls o hf hw hl kx; simp [X12_anew_L1] at hf
    | succ k ih =>
      intro v1 x_s H locs ls o hf hw hl kx
      rw [X12_anew_L1] at hf
      refine lv_iload_n hx hb dX12_anew_9 rfl (lv_at hl 1 rfl) ?_
      refine lv_aload_n hx hb dX12_anew_10 rfl (lv_at hl 0 rfl) ?_
      refine mg_s cx hw dX12_anew_11 ?_
      refine lv_iconst (v := 4) hx hb dX12_anew_14 (by decide) ?_
      refine ml_s (j := 4) cx hw (ib_in (by decide)) (by decide) dX12_anew_15 ?_
      refine lv_icmp_ge (tgt := 32) hx hb dX12_anew_16 (by decide) (fun hc => ?_) (fun hc => ?_)
      · have hf := ifT hf hc
        have hf := Option.some.inj hf
        subst hf
        exact kx _ _ _ hw (lv_sub hl [0, 1] rfl)
      · have hf := ifF hf hc
        refine lv_aload_n hx hb dX12_anew_19 rfl (lv_at hl 0 rfl) ?_
        refine lv_iload_n hx hb dX12_anew_20 rfl (lv_at hl 1 rfl) ?_
        refine lv_iconst (v := 4) hx hb dX12_anew_21 (by decide) ?_
        refine lv_iconst (v := 0) hx hb dX12_anew_22 (by decide) ?_
        obtain ⟨r1, h2, hf⟩ := bnS hf
        refine calVv (k := 0) cx hw hl.1 (c_X12_puts h2) q_1288 k_X12_puts rfl rfl rfl dX12_anew_23 rfl (Nat.le_of_ble_eq_true rfl) ⟨Nat.le_of_ble_eq_true rfl, Nat.le_of_ble_eq_true rfl⟩ ⟨Nat.le_refl _, Nat.le_refl _⟩ (fun H locs hw => ?_)
        refine lv_iinc (v := (v1 + (1 : Int32))) (lv' := [(1, .int (v1 + (1 : Int32))), (0, .ref (a 0))]) hx hb dX12_anew_26 hl (k := 1) rfl rfl (by decide) rfl (fun ls hl => ?_)
        refine lv_goto (tgt := 9) hx hb dX12_anew_29 (by decide) ?_
        exact ih hf hw (lv_sub hl [1, 0] rfl) kx
  refine wL1 n ho3 hw (lv_sub hl [1, 0] rfl) (fun H locs ls hw hl => ?_)
  clear wL1 ho3
  refine lv_aload_n hx hb dX12_anew_32 rfl (lv_at hl 0 rfl) ?_
  refine lv_iconst (v := 0) hx hb dX12_anew_33 (by decide) ?_
  refine lv_iconst (v := 0) hx hb dX12_anew_34 (by decide) ?_
  obtain ⟨r4, h5, hf⟩ := bnS hf
  refine calVi (k := 0) cx hw hl.1 (c_X12_becomes h5) q_1363 k_X12_becomes rfl rfl rfl dX12_anew_35 rfl (Nat.le_of_ble_eq_true rfl) ⟨Nat.le_of_ble_eq_true rfl, Nat.le_of_ble_eq_true rfl⟩ ⟨Nat.le_refl _, Nat.le_refl _⟩ (fun H locs hw => ?_)
  have hf := Option.some.inj hf
  subst hf
  exact hR _ _ _ _ _ _ hw rfl ⟨rfl, rfl⟩ dX12_anew_38
theorem dX12_those_0 : decode cX12_those 0 = .ok (.iconst 0, 1) := by decide +kernel
theorem dX12_those_1 : decode cX12_those 1 = .ok (.istore_n 2, 1) := by decide +kernel
theorem dX12_those_2 : decode cX12_those 2 = .ok (.iconst 0, 1) := by decide +kernel
theorem dX12_those_3 : decode cX12_those 3 = .ok (.istore_n 3, 1) := by decide +kernel
theorem dX12_those_4 : decode cX12_those 4 = .ok (.iload_n 3, 1) := by decide +kernel
theorem dX12_those_5 : decode cX12_those 5 = .ok (.aload_n 0, 1) := by decide +kernel
theorem dX12_those_6 : decode cX12_those 6 = .ok (.getfield 9, 3) := by decide +kernel
theorem dX12_those_9 : decode cX12_those 9 = .ok (.iconst 4, 1) := by decide +kernel
theorem dX12_those_10 : decode cX12_those 10 = .ok (.iaload, 1) := by decide +kernel
theorem dX12_those_11 : decode cX12_those 11 = .ok (.if_icmp .ge 28, 3) := by decide +kernel
theorem dX12_those_14 : decode cX12_those 14 = .ok (.iload_n 2, 1) := by decide +kernel
theorem dX12_those_15 : decode cX12_those 15 = .ok (.aload_n 0, 1) := by decide +kernel
theorem dX12_those_16 : decode cX12_those 16 = .ok (.iload_n 3, 1) := by decide +kernel
theorem dX12_those_17 : decode cX12_those 17 = .ok (.iload_n 1, 1) := by decide +kernel
theorem dX12_those_18 : decode cX12_those 18 = .ok (.invokevirtual 79, 3) := by decide +kernel
theorem dX12_those_21 : decode cX12_those 21 = .ok (.ifCond .le 9, 3) := by decide +kernel
theorem dX12_those_24 : decode cX12_those 24 = .ok (.iconst 1, 1) := by decide +kernel
theorem dX12_those_25 : decode cX12_those 25 = .ok (.iload_n 3, 1) := by decide +kernel
theorem dX12_those_26 : decode cX12_those 26 = .ok (.ishl, 1) := by decide +kernel
theorem dX12_those_27 : decode cX12_those 27 = .ok (.goto 4, 3) := by decide +kernel
theorem dX12_those_30 : decode cX12_those 30 = .ok (.iconst 0, 1) := by decide +kernel
theorem dX12_those_31 : decode cX12_those 31 = .ok (.ior, 1) := by decide +kernel
theorem dX12_those_32 : decode cX12_those 32 = .ok (.istore_n 2, 1) := by decide +kernel
theorem dX12_those_33 : decode cX12_those 33 = .ok (.iinc 3 1, 3) := by decide +kernel
theorem dX12_those_36 : decode cX12_those 36 = .ok (.goto (-32), 3) := by decide +kernel
theorem dX12_those_39 : decode cX12_those 39 = .ok (.iload_n 2, 1) := by decide +kernel
theorem dX12_those_40 : decode cX12_those 40 = .ok (.ireturn, 1) := by decide +kernel
theorem k_X12_those : MV yX12_those cX12_those 4 (some .int) 1 := ⟨q_1401, qs_59, q_14, q_1402, ⟨by decide, by decide, by decide +kernel⟩⟩
theorem c_X12_those {res : Int32} (hf : X12_those n x_s v1 = some res) : MC l E0 D t yX12_those cX12_those 4 (some .int) 2 0 0 [.ref (a 0), .int v1] (mW a t x_s x_kept x_laid x_isKept x_pile x_tape x_taped x_letters x_at x_begun x_token x_value x_opened x_steps x_code0 x_read x_saved x_plan x_bestPlan x_most x_many x_few x_everRight x_lagThen x_shadedThen x_firstFit x_rows x_rowMany x_sorts x_sizes x_number x_holds x_heldOne x_trace x_traced x_own x_isParted) (Qi res (mW a t x_s x_kept x_laid x_isKept x_pile x_tape x_taped x_letters x_at x_begun x_token x_value x_opened x_steps x_code0 x_read x_saved x_plan x_bestPlan x_most x_many x_few x_everRight x_lagThen x_shadedThen x_firstFit x_rows x_rowMany x_sorts x_sizes x_number x_holds x_heldOne x_trace x_traced x_own x_isParted)) := by
  unfold X12_those at hf
  refine MC.ofI pn_X12 (Nat.le_of_ble_eq_true rfl) ?_
  intro p e s m args below meth c A Q ls cx hR hw hl
  have hx := cx.1
  have hb := cx.2.1
  have hl : lv_has ls 4 [(0, .ref (a 0)), (1, .int v1)] := hl
  refine lv_iconst (v := 0) hx hb dX12_those_0 (by decide) ?_
  refine lv_istore_n (lv' := [(2, .int (0 : Int32)), (0, .ref (a 0)), (1, .int v1)]) hx hb dX12_those_1 rfl hl (by decide) rfl (fun ls hl => ?_)
  refine lv_iconst (v := 0) hx hb dX12_those_2 (by decide) ?_
  refine lv_istore_n (lv' := [(3, .int (0 : Int32)), (2, .int (0 : Int32)), (0, .ref (a 0)), (1, .int v1)]) hx hb dX12_those_3 rfl hl (by decide) rfl (fun ls hl => ?_)
  obtain ⟨o4, ho4, hf⟩ := bnS hf
  have wL1 : ∀ (k : Nat) {v1 : Int32} {v2 : Int32} {v3 : Int32} {H : Heap} {locs : List Loc} {ls : Array Slot} {o : Int32 × Int32}, X12_those_L1 n x_s v1 k v2 v3 = some o → Wd D A s (mW a t x_s x_kept x_laid x_isKept x_pile x_tape x_taped x_letters x_at x_begun x_token x_value x_opened x_steps x_code0 x_read x_saved x_plan x_bestPlan x_most x_many x_few x_everRight x_lagThen x_shadedThen x_firstFit x_rows x_rowMany x_sorts x_sizes x_number x_holds x_heldOne x_trace x_traced x_own x_isParted) H locs → lv_has ls 4 [(0, .ref (a 0)), (1, .int v1), (2, .int v2), (3, .int v3)] → (∀ (H : Heap) (locs : List Loc) (ls : Array Slot), Wd D A s (mW a t x_s x_kept x_laid x_isKept x_pile x_tape x_taped x_letters x_at x_begun x_token x_value x_opened x_steps x_code0 x_read x_saved x_plan x_bestPlan x_most x_many x_few x_everRight x_lagThen x_shadedThen x_firstFit x_rows x_rowMany x_sorts x_sizes x_number x_holds x_heldOne x_trace x_traced x_own x_isParted) H locs → lv_has ls 4 [(0, .ref (a 0)), (1, .int v1), (2, .int o.1), (3, .int o.2)] → W p l e (rmz 2 0 0) s m args below meth c H locs 0 0 Q (F0 m 39 ls [])) → W p l e (rmz 2 0 0) s m args below meth c H locs 0 0 Q (F0 m 4 ls []) := by
    clear hf ho4 hw hl
    intro k
    induction k with
    | zero => intro v1 v2 v3 H locs ls o hf hw hl kx; simp [X12_those_L1] at hf
    | succ k ih =>
      intro v1 v2 v3 H locs ls o hf hw hl kx
      rw [X12_those_L1] at hf
      refine lv_iload_n hx hb dX12_those_4 rfl (lv_at hl 3 rfl) ?_
      refine lv_aload_n hx hb dX12_those_5 rfl (lv_at hl 0 rfl) ?_
      refine mg_s cx hw dX12_those_6 ?_
      refine lv_iconst (v := 4) hx hb dX12_those_9 (by decide) ?_
      refine ml_s (j := 4) cx hw (ib_in (by decide)) (by decide) dX12_those_10 ?_
      refine lv_icmp_ge (tgt := 39) hx hb dX12_those_11 (by decide) (fun hc => ?_) (fun hc => ?_)
      · have hf := ifT hf hc
        have hf := Option.some.inj hf
        subst hf
        exact kx _ _ _ hw (lv_sub hl [0, 1, 2, 3] rfl)
      · have hf := ifF hf hc
        refine lv_iload_n hx hb dX12_those_14 rfl (lv_at hl 2 rfl) ?_
        refine lv_aload_n hx hb dX12_those_15 rfl (lv_at hl 0 rfl) ?_
        refine lv_iload_n hx hb dX12_those_16 rfl (lv_at hl 3 rfl) ?_
        refine lv_iload_n hx hb dX12_those_17 rfl (lv_at hl 1 rfl) ?_
        obtain ⟨r1, h2, hf⟩ := bnS hf
        refine calVi (k := 0) cx hw hl.1 (c_X12_get h2) q_1304 k_X12_get rfl rfl rfl dX12_those_18 rfl (Nat.le_of_ble_eq_true rfl) ⟨Nat.le_of_ble_eq_true rfl, Nat.le_of_ble_eq_true rfl⟩ ⟨Nat.le_refl _, Nat.le_refl _⟩ (fun H locs hw => ?_)
        obtain ⟨j3, hj3, hf⟩ := pbS hf
        have wj3 : ∀ (H : Heap) (locs : List Loc) (ls : Array Slot), Wd D A s (mW a t x_s x_kept x_laid x_isKept x_pile x_tape x_taped x_letters x_at x_begun x_token x_value x_opened x_steps x_code0 x_read x_saved x_plan x_bestPlan x_most x_many x_few x_everRight x_lagThen x_shadedThen x_firstFit x_rows x_rowMany x_sorts x_sizes x_number x_holds x_heldOne x_trace x_traced x_own x_isParted) H locs → lv_has ls 4 [(0, .ref (a 0)), (1, .int v1), (2, .int v2), (3, .int v3)] → W p l e (rmz 2 0 0) s m args below meth c H locs 0 0 Q (F0 m 31 ls [.int j3, .int v2]) := by
          intro H locs ls hw hl
          refine lv_ior hx hb dX12_those_31 ?_
          refine lv_istore_n (lv' := [(2, .int (v2 ||| j3)), (0, .ref (a 0)), (1, .int v1), (3, .int v3)]) hx hb dX12_those_32 rfl hl (by decide) rfl (fun ls hl => ?_)
          refine lv_iinc (v := (v3 + (1 : Int32))) (lv' := [(3, .int (v3 + (1 : Int32))), (2, .int (v2 ||| j3)), (0, .ref (a 0)), (1, .int v1)]) hx hb dX12_those_33 hl (k := 3) rfl rfl (by decide) rfl (fun ls hl => ?_)
          refine lv_goto (tgt := 4) hx hb dX12_those_36 (by decide) ?_
          exact ih hf hw (lv_sub hl [2, 3, 1, 0] rfl) kx
        clear hf
        have hf := hj3
        clear hj3
        refine lv_if_le (tgt := 30) hx hb dX12_those_21 (by decide) (fun hc => ?_) (fun hc => ?_)
        · have hf := ifT hf hc
          refine lv_iconst (v := 0) hx hb dX12_those_30 (by decide) ?_
          subst hf
          exact wj3 _ _ _ hw (lv_sub hl [0, 1, 2, 3] rfl)
        · have hf := ifF hf hc
          refine lv_iconst (v := 1) hx hb dX12_those_24 (by decide) ?_
          refine lv_iload_n hx hb dX12_those_25 rfl (lv_at hl 3 rfl) ?_
          refine lv_ishl hx hb dX12_those_26 ?_
          refine lv_goto (tgt := 31) hx hb dX12_those_27 (by decide) ?_
          subst hf
          exact wj3 _ _ _ hw (lv_sub hl [0, 1, 2, 3] rfl)
  refine wL1 n ho4 hw (lv_sub hl [2, 3, 1, 0] rfl) (fun H locs ls hw hl => ?_)
  clear wL1 ho4
  refine lv_iload_n hx hb dX12_those_39 rfl (lv_at hl 2 rfl) ?_
  have hf := Option.some.inj hf
  subst hf
  exact hR _ _ _ _ _ _ hw rfl ⟨rfl, rfl⟩ dX12_those_40
theorem dX12_state_0 : decode cX12_state 0 = .ok (.iload_n 1, 1) := by decide +kernel
theorem dX12_state_1 : decode cX12_state 1 = .ok (.tableswitch 93 0 6 #[43, 50, 57, 64, 77, 83, 88], 43) := by decide +kernel
theorem dX12_state_44 : decode cX12_state 44 = .ok (.aload_n 0, 1) := by decide +kernel
theorem dX12_state_45 : decode cX12_state 45 = .ok (.getfield 9, 3) := by decide +kernel
theorem dX12_state_48 : decode cX12_state 48 = .ok (.iconst 0, 1) := by decide +kernel
theorem dX12_state_49 : decode cX12_state 49 = .ok (.iaload, 1) := by decide +kernel
theorem dX12_state_50 : decode cX12_state 50 = .ok (.ireturn, 1) := by decide +kernel
theorem dX12_state_51 : decode cX12_state 51 = .ok (.aload_n 0, 1) := by decide +kernel
theorem dX12_state_52 : decode cX12_state 52 = .ok (.getfield 9, 3) := by decide +kernel
theorem dX12_state_55 : decode cX12_state 55 = .ok (.iconst 1, 1) := by decide +kernel
theorem dX12_state_56 : decode cX12_state 56 = .ok (.iaload, 1) := by decide +kernel
theorem dX12_state_57 : decode cX12_state 57 = .ok (.ireturn, 1) := by decide +kernel
theorem dX12_state_58 : decode cX12_state 58 = .ok (.aload_n 0, 1) := by decide +kernel
theorem dX12_state_59 : decode cX12_state 59 = .ok (.getfield 9, 3) := by decide +kernel
theorem dX12_state_62 : decode cX12_state 62 = .ok (.iconst 2, 1) := by decide +kernel
theorem dX12_state_63 : decode cX12_state 63 = .ok (.iaload, 1) := by decide +kernel
theorem dX12_state_64 : decode cX12_state 64 = .ok (.ireturn, 1) := by decide +kernel
theorem dX12_state_65 : decode cX12_state 65 = .ok (.aload_n 0, 1) := by decide +kernel
theorem dX12_state_66 : decode cX12_state 66 = .ok (.invokevirtual 237, 3) := by decide +kernel
theorem dX12_state_69 : decode cX12_state 69 = .ok (.ifCond .eq 7, 3) := by decide +kernel
theorem dX12_state_72 : decode cX12_state 72 = .ok (.iconst 1, 1) := by decide +kernel
theorem dX12_state_73 : decode cX12_state 73 = .ok (.goto 4, 3) := by decide +kernel
theorem dX12_state_76 : decode cX12_state 76 = .ok (.iconst 0, 1) := by decide +kernel
theorem dX12_state_77 : decode cX12_state 77 = .ok (.ireturn, 1) := by decide +kernel
theorem dX12_state_78 : decode cX12_state 78 = .ok (.aload_n 0, 1) := by decide +kernel
theorem dX12_state_79 : decode cX12_state 79 = .ok (.iconst 4, 1) := by decide +kernel
theorem dX12_state_80 : decode cX12_state 80 = .ok (.invokevirtual 240, 3) := by decide +kernel
theorem dX12_state_83 : decode cX12_state 83 = .ok (.ireturn, 1) := by decide +kernel
theorem dX12_state_84 : decode cX12_state 84 = .ok (.aload_n 0, 1) := by decide +kernel
theorem dX12_state_85 : decode cX12_state 85 = .ok (.invokevirtual 83, 3) := by decide +kernel
theorem dX12_state_88 : decode cX12_state 88 = .ok (.ireturn, 1) := by decide +kernel
theorem dX12_state_89 : decode cX12_state 89 = .ok (.aload_n 0, 1) := by decide +kernel
theorem dX12_state_90 : decode cX12_state 90 = .ok (.invokevirtual 216, 3) := by decide +kernel
theorem dX12_state_93 : decode cX12_state 93 = .ok (.ireturn, 1) := by decide +kernel
theorem dX12_state_94 : decode cX12_state 94 = .ok (.iconst (-1), 1) := by decide +kernel
theorem dX12_state_95 : decode cX12_state 95 = .ok (.ireturn, 1) := by decide +kernel
theorem k_X12_state : MV yX12_state cX12_state 2 (some .int) 1 := ⟨q_1392, q_1393, q_14, q_1394, ⟨by decide, by decide, by decide +kernel⟩⟩
theorem c_X12_state {res : Int32} (hf : X12_state n x_s v1 = some res) : MC l E0 D t yX12_state cX12_state 2 (some .int) 4 0 0 [.ref (a 0), .int v1] (mW a t x_s x_kept x_laid x_isKept x_pile x_tape x_taped x_letters x_at x_begun x_token x_value x_opened x_steps x_code0 x_read x_saved x_plan x_bestPlan x_most x_many x_few x_everRight x_lagThen x_shadedThen x_firstFit x_rows x_rowMany x_sorts x_sizes x_number x_holds x_heldOne x_trace x_traced x_own x_isParted) (Qi res (mW a t x_s x_kept x_laid x_isKept x_pile x_tape x_taped x_letters x_at x_begun x_token x_value x_opened x_steps x_code0 x_read x_saved x_plan x_bestPlan x_most x_many x_few x_everRight x_lagThen x_shadedThen x_firstFit x_rows x_rowMany x_sorts x_sizes x_number x_holds x_heldOne x_trace x_traced x_own x_isParted)) := by
  unfold X12_state at hf
  refine MC.ofI pn_X12 (Nat.le_of_ble_eq_true rfl) ?_
  intro p e s m args below meth c A Q ls cx hR hw hl
  have hx := cx.1
  have hb := cx.2.1
  have hl : lv_has ls 2 [(0, .ref (a 0)), (1, .int v1)] := hl
  refine lv_iload_n hx hb dX12_state_0 rfl (lv_at hl 1 rfl) ?_
  by_cases hc0 : v1 = (0 : Int32)
  · have hf := ifT hf hc0
    refine lv_tableIn (tgt := 44) hx hb dX12_state_1 (by rw [hc0]; decide) (by rw [hc0]; decide) (by rw [hc0]; rfl) (by decide) ?_
    refine lv_aload_n hx hb dX12_state_44 rfl (lv_at hl 0 rfl) ?_
    refine mg_s cx hw dX12_state_45 ?_
    refine lv_iconst (v := 0) hx hb dX12_state_48 (by decide) ?_
    refine ml_s (j := 0) cx hw (ib_in (by decide)) (by decide) dX12_state_49 ?_
    have hf := Option.some.inj hf
    subst hf
    exact hR _ _ _ _ _ _ hw rfl ⟨rfl, rfl⟩ dX12_state_50
  · have hf := ifF hf hc0
    by_cases hc1 : v1 = (1 : Int32)
    · have hf := ifT hf hc1
      refine lv_tableIn (tgt := 51) hx hb dX12_state_1 (by rw [hc1]; decide) (by rw [hc1]; decide) (by rw [hc1]; rfl) (by decide) ?_
      refine lv_aload_n hx hb dX12_state_51 rfl (lv_at hl 0 rfl) ?_
      refine mg_s cx hw dX12_state_52 ?_
      refine lv_iconst (v := 1) hx hb dX12_state_55 (by decide) ?_
      refine ml_s (j := 1) cx hw (ib_in (by decide)) (by decide) dX12_state_56 ?_
      have hf := Option.some.inj hf
      subst hf
      exact hR _ _ _ _ _ _ hw rfl ⟨rfl, rfl⟩ dX12_state_57
    · have hf := ifF hf hc1
      by_cases hc2 : v1 = (2 : Int32)
      · have hf := ifT hf hc2
        refine lv_tableIn (tgt := 58) hx hb dX12_state_1 (by rw [hc2]; decide) (by rw [hc2]; decide) (by rw [hc2]; rfl) (by decide) ?_
        refine lv_aload_n hx hb dX12_state_58 rfl (lv_at hl 0 rfl) ?_
        refine mg_s cx hw dX12_state_59 ?_
        refine lv_iconst (v := 2) hx hb dX12_state_62 (by decide) ?_
        refine ml_s (j := 2) cx hw (ib_in (by decide)) (by decide) dX12_state_63 ?_
        have hf := Option.some.inj hf
        subst hf
        exact hR _ _ _ _ _ _ hw rfl ⟨rfl, rfl⟩ dX12_state_64
      · have hf := ifF hf hc2
        by_cases hc3 : v1 = (3 : Int32)
        · have hf := ifT hf hc3
          refine lv_tableIn (tgt := 65) hx hb dX12_state_1 (by rw [hc3]; decide) (by rw [hc3]; decide) (by rw [hc3]; rfl) (by decide) ?_
          refine lv_aload_n hx hb dX12_state_65 rfl (lv_at hl 0 rfl) ?_
          refine calVi (k := 0) cx hw hl.1 (c_X12_isOver rfl) q_1395 k_X12_isOver rfl rfl rfl dX12_state_66 rfl (Nat.le_of_ble_eq_true rfl) ⟨Nat.le_of_ble_eq_true rfl, Nat.le_of_ble_eq_true rfl⟩ ⟨Nat.le_refl _, Nat.le_refl _⟩ (fun H locs hw => ?_)
          refine lv_if_eq (tgt := 76) hx hb dX12_state_69 (by decide) (fun hc => ?_) (fun hc => ?_)
          · have hf := ifT hf hc
            refine lv_iconst (v := 0) hx hb dX12_state_76 (by decide) ?_
            have hf := Option.some.inj hf
            subst hf
            exact hR _ _ _ _ _ _ hw rfl ⟨rfl, rfl⟩ dX12_state_77
          · have hf := ifF hf hc
            refine lv_iconst (v := 1) hx hb dX12_state_72 (by decide) ?_
            refine lv_goto (tgt := 77) hx hb dX12_state_73 (by decide) ?_
            have hf := Option.some.inj hf
            subst hf
            exact hR _ _ _ _ _ _ hw rfl ⟨rfl, rfl⟩ dX12_state_77
        · have hf := ifF hf hc3
          by_cases hc4 : v1 = (4 : Int32)
          · have hf := ifT hf hc4
            refine lv_tableIn (tgt := 78) hx hb dX12_state_1 (by rw [hc4]; decide) (by rw [hc4]; decide) (by rw [hc4]; rfl) (by decide) ?_
            refine lv_aload_n hx hb dX12_state_78 rfl (lv_at hl 0 rfl) ?_
            refine lv_iconst (v := 4) hx hb dX12_state_79 (by decide) ?_
            obtain ⟨r1, h2, hf⟩ := bnS hf
            refine calVi (k := 0) cx hw hl.1 (c_X12_those h2) q_1399 k_X12_those rfl rfl rfl dX12_state_80 rfl (Nat.le_of_ble_eq_true rfl) ⟨Nat.le_of_ble_eq_true rfl, Nat.le_of_ble_eq_true rfl⟩ ⟨Nat.le_refl _, Nat.le_refl _⟩ (fun H locs hw => ?_)
            have hf := Option.some.inj hf
            subst hf
            exact hR _ _ _ _ _ _ hw rfl ⟨rfl, rfl⟩ dX12_state_83
          · have hf := ifF hf hc4
            by_cases hc5 : v1 = (5 : Int32)
            · have hf := ifT hf hc5
              refine lv_tableIn (tgt := 84) hx hb dX12_state_1 (by rw [hc5]; decide) (by rw [hc5]; decide) (by rw [hc5]; rfl) (by decide) ?_
              refine lv_aload_n hx hb dX12_state_84 rfl (lv_at hl 0 rfl) ?_
              obtain ⟨r3, h4, hf⟩ := bnS hf
              refine calVi (k := 0) cx hw hl.1 (c_X12_skyNow h4) q_1308 k_X12_skyNow rfl rfl rfl dX12_state_85 rfl (Nat.le_of_ble_eq_true rfl) ⟨Nat.le_of_ble_eq_true rfl, Nat.le_of_ble_eq_true rfl⟩ ⟨Nat.le_refl _, Nat.le_refl _⟩ (fun H locs hw => ?_)
              have hf := Option.some.inj hf
              subst hf
              exact hR _ _ _ _ _ _ hw rfl ⟨rfl, rfl⟩ dX12_state_88
            · have hf := ifF hf hc5
              by_cases hc6 : v1 = (6 : Int32)
              · have hf := ifT hf hc6
                refine lv_tableIn (tgt := 89) hx hb dX12_state_1 (by rw [hc6]; decide) (by rw [hc6]; decide) (by rw [hc6]; rfl) (by decide) ?_
                refine lv_aload_n hx hb dX12_state_89 rfl (lv_at hl 0 rfl) ?_
                obtain ⟨r5, h6, hf⟩ := bnS hf
                refine calVi (k := 0) cx hw hl.1 (c_X12_pairsNow h6) q_1403 k_X12_pairsNow rfl rfl rfl dX12_state_90 rfl (Nat.le_of_ble_eq_true rfl) ⟨Nat.le_of_ble_eq_true rfl, Nat.le_of_ble_eq_true rfl⟩ ⟨Nat.le_refl _, Nat.le_refl _⟩ (fun H locs hw => ?_)
                have hf := Option.some.inj hf
                subst hf
                exact hR _ _ _ _ _ _ hw rfl ⟨rfl, rfl⟩ dX12_state_93
              · have hf := ifF hf hc6
                refine lv_tableOut (tgt := 94) hx hb dX12_state_1 (by have h0 := lv_neT hc0 (a := 0) (by decide); have h1 := lv_neT hc1 (a := 1) (by decide); have h2 := lv_neT hc2 (a := 2) (by decide); have h3 := lv_neT hc3 (a := 3) (by decide); have h4 := lv_neT hc4 (a := 4) (by decide); have h5 := lv_neT hc5 (a := 5) (by decide); have h6 := lv_neT hc6 (a := 6) (by decide); omega) (by decide) ?_
                refine lv_iconst (v := (-1)) hx hb dX12_state_94 (by decide) ?_
                have hf := Option.some.inj hf
                subst hf
                exact hR _ _ _ _ _ _ hw rfl ⟨rfl, rfl⟩ dX12_state_95
theorem dX12_chime_0 : decode cX12_chime 0 = .ok (.aload_n 0, 1) := by decide +kernel
theorem dX12_chime_1 : decode cX12_chime 1 = .ok (.invokevirtual 237, 3) := by decide +kernel
theorem dX12_chime_4 : decode cX12_chime 4 = .ok (.ifCond .eq 8, 3) := by decide +kernel
theorem dX12_chime_7 : decode cX12_chime 7 = .ok (.bipush (-4), 2) := by decide +kernel
theorem dX12_chime_9 : decode cX12_chime 9 = .ok (.goto 8, 3) := by decide +kernel
theorem dX12_chime_12 : decode cX12_chime 12 = .ok (.aload_n 0, 1) := by decide +kernel
theorem dX12_chime_13 : decode cX12_chime 13 = .ok (.iconst (-1), 1) := by decide +kernel
theorem dX12_chime_14 : decode cX12_chime 14 = .ok (.invokevirtual 243, 3) := by decide +kernel
theorem dX12_chime_17 : decode cX12_chime 17 = .ok (.ireturn, 1) := by decide +kernel
theorem k_X12_chime : MV yX12_chime cX12_chime 1 (some .int) 0 := ⟨q_1415, q_1416, q_14, q_1417, ⟨by decide, by decide, by decide +kernel⟩⟩
theorem c_X12_chime {res : Int32 × (Nat → Int32) × (Nat → Int32)} (hf : X12_chime n x_s x_pile = some res) : MC l E0 D t yX12_chime cX12_chime 1 (some .int) 8 0 0 [.ref (a 0)] (mW a t x_s x_kept x_laid x_isKept x_pile x_tape x_taped x_letters x_at x_begun x_token x_value x_opened x_steps x_code0 x_read x_saved x_plan x_bestPlan x_most x_many x_few x_everRight x_lagThen x_shadedThen x_firstFit x_rows x_rowMany x_sorts x_sizes x_number x_holds x_heldOne x_trace x_traced x_own x_isParted) (Qi res.1 (mW a t res.2.1 x_kept x_laid x_isKept res.2.2 x_tape x_taped x_letters x_at x_begun x_token x_value x_opened x_steps x_code0 x_read x_saved x_plan x_bestPlan x_most x_many x_few x_everRight x_lagThen x_shadedThen x_firstFit x_rows x_rowMany x_sorts x_sizes x_number x_holds x_heldOne x_trace x_traced x_own x_isParted)) := by
  unfold X12_chime at hf
  refine MC.ofI pn_X12 (Nat.le_of_ble_eq_true rfl) ?_
  intro p e s m args below meth c A Q ls cx hR hw hl
  have hx := cx.1
  have hb := cx.2.1
  have hl : lv_has ls 1 [(0, .ref (a 0))] := hl
  refine lv_aload_n hx hb dX12_chime_0 rfl (lv_at hl 0 rfl) ?_
  refine calVi (k := 0) cx hw hl.1 (c_X12_isOver rfl) q_1395 k_X12_isOver rfl rfl rfl dX12_chime_1 rfl (Nat.le_of_ble_eq_true rfl) ⟨Nat.le_of_ble_eq_true rfl, Nat.le_of_ble_eq_true rfl⟩ ⟨Nat.le_refl _, Nat.le_refl _⟩ (fun H locs hw => ?_)
  refine lv_if_eq (tgt := 12) hx hb dX12_chime_4 (by decide) (fun hc => ?_) (fun hc => ?_)
  · have hf := ifT hf hc
    refine lv_aload_n hx hb dX12_chime_12 rfl (lv_at hl 0 rfl) ?_
    refine lv_iconst (v := (-1)) hx hb dX12_chime_13 (by decide) ?_
    obtain ⟨r1, h2, hf⟩ := bnS hf
    refine calVi (k := 0) cx hw hl.1 (c_X12_goesBy h2) q_1418 k_X12_goesBy rfl rfl rfl dX12_chime_14 rfl (Nat.le_of_ble_eq_true rfl) ⟨Nat.le_of_ble_eq_true rfl, Nat.le_of_ble_eq_true rfl⟩ ⟨Nat.le_refl _, Nat.le_refl _⟩ (fun H locs hw => ?_)
    have hf := Option.some.inj hf
    subst hf
    exact hR _ _ _ _ _ _ hw rfl ⟨rfl, rfl⟩ dX12_chime_17
  · have hf := ifF hf hc
    refine lv_bipush (v := (-4)) hx hb dX12_chime_7 (by decide) ?_
    refine lv_goto (tgt := 17) hx hb dX12_chime_9 (by decide) ?_
    have hf := Option.some.inj hf
    subst hf
    exact hR _ _ _ _ _ _ hw rfl ⟨rfl, rfl⟩ dX12_chime_17
theorem dX12_restOf_0 : decode cX12_restOf 0 = .ok (.iconst 0, 1) := by decide +kernel
theorem dX12_restOf_1 : decode cX12_restOf 1 = .ok (.istore_n 2, 1) := by decide +kernel
theorem dX12_restOf_2 : decode cX12_restOf 2 = .ok (.iconst 0, 1) := by decide +kernel
theorem dX12_restOf_3 : decode cX12_restOf 3 = .ok (.istore_n 3, 1) := by decide +kernel
theorem dX12_restOf_4 : decode cX12_restOf 4 = .ok (.iload_n 3, 1) := by decide +kernel
theorem dX12_restOf_5 : decode cX12_restOf 5 = .ok (.iload_n 1, 1) := by decide +kernel
theorem dX12_restOf_6 : decode cX12_restOf 6 = .ok (.if_icmp .ge 24, 3) := by decide +kernel
theorem dX12_restOf_9 : decode cX12_restOf 9 = .ok (.aload_n 0, 1) := by decide +kernel
theorem dX12_restOf_10 : decode cX12_restOf 10 = .ok (.invokevirtual 237, 3) := by decide +kernel
theorem dX12_restOf_13 : decode cX12_restOf 13 = .ok (.ifCond .ne 17, 3) := by decide +kernel
theorem dX12_restOf_16 : decode cX12_restOf 16 = .ok (.iload_n 2, 1) := by decide +kernel
theorem dX12_restOf_17 : decode cX12_restOf 17 = .ok (.aload_n 0, 1) := by decide +kernel
theorem dX12_restOf_18 : decode cX12_restOf 18 = .ok (.iconst (-1), 1) := by decide +kernel
theorem dX12_restOf_19 : decode cX12_restOf 19 = .ok (.invokevirtual 243, 3) := by decide +kernel
theorem dX12_restOf_22 : decode cX12_restOf 22 = .ok (.iadd, 1) := by decide +kernel
theorem dX12_restOf_23 : decode cX12_restOf 23 = .ok (.istore_n 2, 1) := by decide +kernel
theorem dX12_restOf_24 : decode cX12_restOf 24 = .ok (.iinc 3 1, 3) := by decide +kernel
theorem dX12_restOf_27 : decode cX12_restOf 27 = .ok (.goto (-23), 3) := by decide +kernel
theorem dX12_restOf_30 : decode cX12_restOf 30 = .ok (.iload_n 2, 1) := by decide +kernel
theorem dX12_restOf_31 : decode cX12_restOf 31 = .ok (.ireturn, 1) := by decide +kernel
theorem k_X12_restOf : MV yX12_restOf cX12_restOf 4 (some .int) 1 := ⟨q_1451, qs_68, q_14, q_1452, ⟨by decide, by decide, by decide +kernel⟩⟩
theorem c_X12_restOf {res : Int32 × (Nat → Int32) × (Nat → Int32)} (hf : X12_restOf n x_s x_pile v1 = some res) : MC l E0 D t yX12_restOf cX12_restOf 4 (some .int) 8 0 0 [.ref (a 0), .int v1] (mW a t x_s x_kept x_laid x_isKept x_pile x_tape x_taped x_letters x_at x_begun x_token x_value x_opened x_steps x_code0 x_read x_saved x_plan x_bestPlan x_most x_many x_few x_everRight x_lagThen x_shadedThen x_firstFit x_rows x_rowMany x_sorts x_sizes x_number x_holds x_heldOne x_trace x_traced x_own x_isParted) (Qi res.1 (mW a t res.2.1 x_kept x_laid x_isKept res.2.2 x_tape x_taped x_letters x_at x_begun x_token x_value x_opened x_steps x_code0 x_read x_saved x_plan x_bestPlan x_most x_many x_few x_everRight x_lagThen x_shadedThen x_firstFit x_rows x_rowMany x_sorts x_sizes x_number x_holds x_heldOne x_trace x_traced x_own x_isParted)) := by
  unfold X12_restOf at hf
  refine MC.ofI pn_X12 (Nat.le_of_ble_eq_true rfl) ?_
  intro p e s m args below meth c A Q ls cx hR hw hl
  have hx := cx.1
  have hb := cx.2.1
  have hl : lv_has ls 4 [(0, .ref (a 0)), (1, .int v1)] := hl
  refine lv_iconst (v := 0) hx hb dX12_restOf_0 (by decide) ?_
  refine lv_istore_n (lv' := [(2, .int (0 : Int32)), (0, .ref (a 0)), (1, .int v1)]) hx hb dX12_restOf_1 rfl hl (by decide) rfl (fun ls hl => ?_)
  refine lv_iconst (v := 0) hx hb dX12_restOf_2 (by decide) ?_
  refine lv_istore_n (lv' := [(3, .int (0 : Int32)), (2, .int (0 : Int32)), (0, .ref (a 0)), (1, .int v1)]) hx hb dX12_restOf_3 rfl hl (by decide) rfl (fun ls hl => ?_)
  obtain ⟨o3, ho3, hf⟩ := bnS hf
  have wL1 : ∀ (k : Nat) {v1 : Int32} {v2 : Int32} {v3 : Int32} {x_s : Nat → Int32} {x_pile : Nat → Int32} {H : Heap} {locs : List Loc} {ls : Array Slot} {o : Int32 × Int32 × (Nat → Int32) × (Nat → Int32)}, X12_restOf_L1 n v1 k v2 v3 x_s x_pile = some o → Wd D A s (mW a t x_s x_kept x_laid x_isKept x_pile x_tape x_taped x_letters x_at x_begun x_token x_value x_opened x_steps x_code0 x_read x_saved x_plan x_bestPlan x_most x_many x_few x_everRight x_lagThen x_shadedThen x_firstFit x_rows x_rowMany x_sorts x_sizes x_number x_holds x_heldOne x_trace x_traced x_own x_isParted) H locs → lv_has ls 4 [(0, .ref (a 0)), (1, .int v1), (2, .int v2), (3, .int v3)] → (∀ (H : Heap) (locs : List Loc) (ls : Array Slot), Wd D A s (mW a t o.2.2.1 x_kept x_laid x_isKept o.2.2.2 x_tape x_taped x_letters x_at x_begun x_token x_value x_opened x_steps x_code0 x_read x_saved x_plan x_bestPlan x_most x_many x_few x_everRight x_lagThen x_shadedThen x_firstFit x_rows x_rowMany x_sorts x_sizes x_number x_holds x_heldOne x_trace x_traced x_own x_isParted) H locs → lv_has ls 4 [(0, .ref (a 0)), (1, .int v1), (2, .int o.1), (3, .int o.2.1)] → W p l e (rmz 8 0 0) s m args below meth c H locs 0 0 Q (F0 m 30 ls [])) → W p l e (rmz 8 0 0) s m args below meth c H locs 0 0 Q (F0 m 4 ls []) := by
    clear hf ho3 hw hl
    intro k
    induction k with
    | zero => intro v1 v2 v3 x_s x_pile H locs ls o hf hw hl kx; simp [X12_restOf_L1] at hf
    | succ k ih =>
      intro v1 v2 v3 x_s x_pile H locs ls o hf hw hl kx
      rw [X12_restOf_L1] at hf
      refine lv_iload_n hx hb dX12_restOf_4 rfl (lv_at hl 3 rfl) ?_
      refine lv_iload_n hx hb dX12_restOf_5 rfl (lv_at hl 1 rfl) ?_
      refine lv_icmp_ge (tgt := 30) hx hb dX12_restOf_6 (by decide) (fun hc => ?_) (fun hc => ?_)
      · have hf := ifT hf hc
        have hf := Option.some.inj hf
        subst hf
        exact kx _ _ _ hw (lv_sub hl [0, 1, 2, 3] rfl)
      · have hf := ifF hf hc
        refine lv_aload_n hx hb dX12_restOf_9 rfl (lv_at hl 0 rfl) ?_
        refine calVi (k := 0) cx hw hl.1 (c_X12_isOver rfl) q_1395 k_X12_isOver rfl rfl rfl dX12_restOf_10 rfl (Nat.le_of_ble_eq_true rfl) ⟨Nat.le_of_ble_eq_true rfl, Nat.le_of_ble_eq_true rfl⟩ ⟨Nat.le_refl _, Nat.le_refl _⟩ (fun H locs hw => ?_)
        refine lv_if_ne (tgt := 30) hx hb dX12_restOf_13 (by decide) (fun hc => ?_) (fun hc => ?_)
        · have hf := ifF hf hc
          have hf := Option.some.inj hf
          subst hf
          exact kx _ _ _ hw (lv_sub hl [0, 1, 2, 3] rfl)
        · have hf := ifT hf hc
          refine lv_iload_n hx hb dX12_restOf_16 rfl (lv_at hl 2 rfl) ?_
          refine lv_aload_n hx hb dX12_restOf_17 rfl (lv_at hl 0 rfl) ?_
          refine lv_iconst (v := (-1)) hx hb dX12_restOf_18 (by decide) ?_
          obtain ⟨r1, h2, hf⟩ := bnS hf
          refine calVi (k := 0) cx hw hl.1 (c_X12_goesBy h2) q_1418 k_X12_goesBy rfl rfl rfl dX12_restOf_19 rfl (Nat.le_of_ble_eq_true rfl) ⟨Nat.le_of_ble_eq_true rfl, Nat.le_of_ble_eq_true rfl⟩ ⟨Nat.le_refl _, Nat.le_refl _⟩ (fun H locs hw => ?_)
          refine lv_iadd hx hb dX12_restOf_22 ?_
          refine lv_istore_n (lv' := [(2, .int (v2 + r1.1)), (0, .ref (a 0)), (1, .int v1), (3, .int v3)]) hx hb dX12_restOf_23 rfl hl (by decide) rfl (fun ls hl => ?_)
          refine lv_iinc (v := (v3 + (1 : Int32))) (lv' := [(3, .int (v3 + (1 : Int32))), (2, .int (v2 + r1.1)), (0, .ref (a 0)), (1, .int v1)]) hx hb dX12_restOf_24 hl (k := 3) rfl rfl (by decide) rfl (fun ls hl => ?_)
          refine lv_goto (tgt := 4) hx hb dX12_restOf_27 (by decide) ?_
          exact ih hf hw (lv_sub hl [2, 3, 1, 0] rfl) kx
  refine wL1 n ho3 hw (lv_sub hl [2, 3, 1, 0] rfl) (fun H locs ls hw hl => ?_)
  clear wL1 ho3
  refine lv_iload_n hx hb dX12_restOf_30 rfl (lv_at hl 2 rfl) ?_
  have hf := Option.some.inj hf
  subst hf
  exact hR _ _ _ _ _ _ hw rfl ⟨rfl, rfl⟩ dX12_restOf_31
theorem dX12_on_0 : decode cX12_on 0 = .ok (.iload_n 1, 1) := by decide +kernel
theorem dX12_on_1 : decode cX12_on 1 = .ok (.iconst 0, 1) := by decide +kernel
theorem dX12_on_2 : decode cX12_on 2 = .ok (.bipush 16, 2) := by decide +kernel
theorem dX12_on_4 : decode cX12_on 4 = .ok (.invokestatic 71, 3) := by decide +kernel
theorem dX12_on_7 : decode cX12_on 7 = .ok (.ifCond .ne 5, 3) := by decide +kernel
theorem dX12_on_10 : decode cX12_on 10 = .ok (.iconst (-1), 1) := by decide +kernel
theorem dX12_on_11 : decode cX12_on 11 = .ok (.ireturn, 1) := by decide +kernel
theorem dX12_on_12 : decode cX12_on 12 = .ok (.aload_n 0, 1) := by decide +kernel
theorem dX12_on_13 : decode cX12_on 13 = .ok (.invokevirtual 246, 3) := by decide +kernel
theorem dX12_on_16 : decode cX12_on 16 = .ok (.aload_n 0, 1) := by decide +kernel
theorem dX12_on_17 : decode cX12_on 17 = .ok (.iload_n 1, 1) := by decide +kernel
theorem dX12_on_18 : decode cX12_on 18 = .ok (.invokevirtual 249, 3) := by decide +kernel
theorem dX12_on_21 : decode cX12_on 21 = .ok (.istore_n 2, 1) := by decide +kernel
theorem dX12_on_22 : decode cX12_on 22 = .ok (.aload_n 0, 1) := by decide +kernel
theorem dX12_on_23 : decode cX12_on 23 = .ok (.invokevirtual 252, 3) := by decide +kernel
theorem dX12_on_26 : decode cX12_on 26 = .ok (.iload_n 2, 1) := by decide +kernel
theorem dX12_on_27 : decode cX12_on 27 = .ok (.ireturn, 1) := by decide +kernel
theorem k_X12_on : MV yX12_on cX12_on 3 (some .int) 1 := ⟨q_1442, q_1443, q_14, q_1444, ⟨by decide, by decide, by decide +kernel⟩⟩
theorem c_X12_on {res : Int32 × (Nat → Int32) × (Nat → Int32) × (Nat → Int32)} (hf : X12_on n x_s x_laid x_pile v1 = some res) : MC l E0 D t yX12_on cX12_on 3 (some .int) 9 0 0 [.ref (a 0), .int v1] (mW a t x_s x_kept x_laid x_isKept x_pile x_tape x_taped x_letters x_at x_begun x_token x_value x_opened x_steps x_code0 x_read x_saved x_plan x_bestPlan x_most x_many x_few x_everRight x_lagThen x_shadedThen x_firstFit x_rows x_rowMany x_sorts x_sizes x_number x_holds x_heldOne x_trace x_traced x_own x_isParted) (Qi res.1 (mW a t res.2.1 x_kept res.2.2.1 x_isKept res.2.2.2 x_tape x_taped x_letters x_at x_begun x_token x_value x_opened x_steps x_code0 x_read x_saved x_plan x_bestPlan x_most x_many x_few x_everRight x_lagThen x_shadedThen x_firstFit x_rows x_rowMany x_sorts x_sizes x_number x_holds x_heldOne x_trace x_traced x_own x_isParted)) := by
  unfold X12_on at hf
  refine MC.ofI pn_X12 (Nat.le_of_ble_eq_true rfl) ?_
  intro p e s m args below meth c A Q ls cx hR hw hl
  have hx := cx.1
  have hb := cx.2.1
  have hl : lv_has ls 3 [(0, .ref (a 0)), (1, .int v1)] := hl
  refine lv_iload_n hx hb dX12_on_0 rfl (lv_at hl 1 rfl) ?_
  refine lv_iconst (v := 0) hx hb dX12_on_1 (by decide) ?_
  refine lv_bipush (v := 16) hx hb dX12_on_2 (by decide) ?_
  refine calSi cx hw hl.1 (c_X12_in1 rfl) q_1214 k_X12_in1 rfl dX12_on_4 rfl (Nat.le_of_ble_eq_true rfl) ⟨Nat.le_of_ble_eq_true rfl, Nat.le_of_ble_eq_true rfl⟩ ⟨Nat.le_refl _, Nat.le_refl _⟩ (fun H locs hw => ?_)
  refine lv_if_ne (tgt := 12) hx hb dX12_on_7 (by decide) (fun hc => ?_) (fun hc => ?_)
  · have hf := ifF hf hc
    refine lv_aload_n hx hb dX12_on_12 rfl (lv_at hl 0 rfl) ?_
    obtain ⟨r1, h2, hf⟩ := bnS hf
    refine calVv (k := 0) cx hw hl.1 (c_X12_layDown h2) q_1445 k_X12_layDown rfl rfl rfl dX12_on_13 rfl (Nat.le_of_ble_eq_true rfl) ⟨Nat.le_of_ble_eq_true rfl, Nat.le_of_ble_eq_true rfl⟩ ⟨Nat.le_refl _, Nat.le_refl _⟩ (fun H locs hw => ?_)
    refine lv_aload_n hx hb dX12_on_16 rfl (lv_at hl 0 rfl) ?_
    refine lv_iload_n hx hb dX12_on_17 rfl (lv_at hl 1 rfl) ?_
    obtain ⟨r3, h4, hf⟩ := bnS hf
    refine calVi (k := 0) cx hw hl.1 (c_X12_restOf h4) q_1449 k_X12_restOf rfl rfl rfl dX12_on_18 rfl (Nat.le_of_ble_eq_true rfl) ⟨Nat.le_of_ble_eq_true rfl, Nat.le_of_ble_eq_true rfl⟩ ⟨Nat.le_refl _, Nat.le_refl _⟩ (fun H locs hw => ?_)
    refine lv_istore_n (lv' := [(2, .int r3.1), (0, .ref (a 0)), (1, .int v1)]) hx hb dX12_on_21 rfl hl (by decide) rfl (fun ls hl => ?_)
    refine lv_aload_n hx hb dX12_on_22 rfl (lv_at hl 1 rfl) ?_
    obtain ⟨r5, h6, hf⟩ := bnS hf
    refine calVv (k := 0) cx hw hl.1 (c_X12_layBack h6) q_1453 k_X12_layBack rfl rfl rfl dX12_on_23 rfl (Nat.le_of_ble_eq_true rfl) ⟨Nat.le_of_ble_eq_true rfl, Nat.le_of_ble_eq_true rfl⟩ ⟨Nat.le_refl _, Nat.le_refl _⟩ (fun H locs hw => ?_)
    refine lv_iload_n hx hb dX12_on_26 rfl (lv_at hl 0 rfl) ?_
    have hf := Option.some.inj hf
    subst hf
    exact hR _ _ _ _ _ _ hw rfl ⟨rfl, rfl⟩ dX12_on_27
  · have hf := ifT hf hc
    refine lv_iconst (v := (-1)) hx hb dX12_on_10 (by decide) ?_
    have hf := Option.some.inj hf
    subst hf
    exact hR _ _ _ _ _ _ hw rfl ⟨rfl, rfl⟩ dX12_on_11
theorem dX12_when_0 : decode cX12_when 0 = .ok (.aload_n 0, 1) := by decide +kernel
theorem dX12_when_1 : decode cX12_when 1 = .ok (.iload_n 1, 1) := by decide +kernel
theorem dX12_when_2 : decode cX12_when 2 = .ok (.invokevirtual 231, 3) := by decide +kernel
theorem dX12_when_5 : decode cX12_when 5 = .ok (.ifCond .ne 5, 3) := by decide +kernel
theorem dX12_when_8 : decode cX12_when 8 = .ok (.iconst (-1), 1) := by decide +kernel
theorem dX12_when_9 : decode cX12_when 9 = .ok (.ireturn, 1) := by decide +kernel
theorem dX12_when_10 : decode cX12_when 10 = .ok (.aload_n 0, 1) := by decide +kernel
theorem dX12_when_11 : decode cX12_when 11 = .ok (.invokevirtual 246, 3) := by decide +kernel
theorem dX12_when_14 : decode cX12_when 14 = .ok (.bipush (-3), 2) := by decide +kernel
theorem dX12_when_16 : decode cX12_when 16 = .ok (.istore_n 2, 1) := by decide +kernel
theorem dX12_when_17 : decode cX12_when 17 = .ok (.aload_n 0, 1) := by decide +kernel
theorem dX12_when_18 : decode cX12_when 18 = .ok (.iload_n 1, 1) := by decide +kernel
theorem dX12_when_19 : decode cX12_when 19 = .ok (.iconst 4, 1) := by decide +kernel
theorem dX12_when_20 : decode cX12_when 20 = .ok (.invokevirtual 79, 3) := by decide +kernel
theorem dX12_when_23 : decode cX12_when 23 = .ok (.ifCond .ne 7, 3) := by decide +kernel
theorem dX12_when_26 : decode cX12_when 26 = .ok (.iconst 1, 1) := by decide +kernel
theorem dX12_when_27 : decode cX12_when 27 = .ok (.goto 4, 3) := by decide +kernel
theorem dX12_when_30 : decode cX12_when 30 = .ok (.iconst 0, 1) := by decide +kernel
theorem dX12_when_31 : decode cX12_when 31 = .ok (.istore_n 3, 1) := by decide +kernel
theorem dX12_when_32 : decode cX12_when 32 = .ok (.iload_n 3, 1) := by decide +kernel
theorem dX12_when_33 : decode cX12_when 33 = .ok (.ifCond .eq 58, 3) := by decide +kernel
theorem dX12_when_36 : decode cX12_when 36 = .ok (.aload_n 0, 1) := by decide +kernel
theorem dX12_when_37 : decode cX12_when 37 = .ok (.invokevirtual 237, 3) := by decide +kernel
theorem dX12_when_40 : decode cX12_when 40 = .ok (.ifCond .ne 51, 3) := by decide +kernel
theorem dX12_when_43 : decode cX12_when 43 = .ok (.aload_n 0, 1) := by decide +kernel
theorem dX12_when_44 : decode cX12_when 44 = .ok (.iconst (-1), 1) := by decide +kernel
theorem dX12_when_45 : decode cX12_when 45 = .ok (.invokevirtual 243, 3) := by decide +kernel
theorem dX12_when_48 : decode cX12_when 48 = .ok (.istore 4, 2) := by decide +kernel
theorem dX12_when_50 : decode cX12_when 50 = .ok (.aload_n 0, 1) := by decide +kernel
theorem dX12_when_51 : decode cX12_when 51 = .ok (.iload_n 1, 1) := by decide +kernel
theorem dX12_when_52 : decode cX12_when 52 = .ok (.iconst 4, 1) := by decide +kernel
theorem dX12_when_53 : decode cX12_when 53 = .ok (.invokevirtual 79, 3) := by decide +kernel
theorem dX12_when_56 : decode cX12_when 56 = .ok (.ifCond .ne 7, 3) := by decide +kernel
theorem dX12_when_59 : decode cX12_when 59 = .ok (.iconst 1, 1) := by decide +kernel
theorem dX12_when_60 : decode cX12_when 60 = .ok (.goto 4, 3) := by decide +kernel
theorem dX12_when_63 : decode cX12_when 63 = .ok (.iconst 0, 1) := by decide +kernel
theorem dX12_when_64 : decode cX12_when 64 = .ok (.istore_n 3, 1) := by decide +kernel
theorem dX12_when_65 : decode cX12_when 65 = .ok (.iload_n 3, 1) := by decide +kernel
theorem dX12_when_66 : decode cX12_when 66 = .ok (.ifCond .ne 8, 3) := by decide +kernel
theorem dX12_when_69 : decode cX12_when 69 = .ok (.iload 4, 2) := by decide +kernel
theorem dX12_when_71 : decode cX12_when 71 = .ok (.ifCond .ge 8, 3) := by decide +kernel
theorem dX12_when_74 : decode cX12_when 74 = .ok (.bipush (-3), 2) := by decide +kernel
theorem dX12_when_76 : decode cX12_when 76 = .ok (.goto 11, 3) := by decide +kernel
theorem dX12_when_79 : decode cX12_when 79 = .ok (.aload_n 0, 1) := by decide +kernel
theorem dX12_when_80 : decode cX12_when 80 = .ok (.getfield 9, 3) := by decide +kernel
theorem dX12_when_83 : decode cX12_when 83 = .ok (.iconst 0, 1) := by decide +kernel
theorem dX12_when_84 : decode cX12_when 84 = .ok (.iaload, 1) := by decide +kernel
theorem dX12_when_85 : decode cX12_when 85 = .ok (.iconst 1, 1) := by decide +kernel
theorem dX12_when_86 : decode cX12_when 86 = .ok (.isub, 1) := by decide +kernel
theorem dX12_when_87 : decode cX12_when 87 = .ok (.istore_n 2, 1) := by decide +kernel
theorem dX12_when_88 : decode cX12_when 88 = .ok (.goto (-56), 3) := by decide +kernel
theorem dX12_when_91 : decode cX12_when 91 = .ok (.aload_n 0, 1) := by decide +kernel
theorem dX12_when_92 : decode cX12_when 92 = .ok (.invokevirtual 252, 3) := by decide +kernel
theorem dX12_when_95 : decode cX12_when 95 = .ok (.iload_n 2, 1) := by decide +kernel
theorem dX12_when_96 : decode cX12_when 96 = .ok (.ireturn, 1) := by decide +kernel
theorem k_X12_when : MV yX12_when cX12_when 5 (some .int) 1 := ⟨q_1458, q_1459, q_14, q_1460, ⟨by decide, by decide, by decide +kernel⟩⟩
theorem c_X12_when {res : Int32 × (Nat → Int32) × (Nat → Int32) × (Nat → Int32)} (hf : X12_when n x_s x_laid x_pile v1 = some res) : MC l E0 D t yX12_when cX12_when 5 (some .int) 8 0 0 [.ref (a 0), .int v1] (mW a t x_s x_kept x_laid x_isKept x_pile x_tape x_taped x_letters x_at x_begun x_token x_value x_opened x_steps x_code0 x_read x_saved x_plan x_bestPlan x_most x_many x_few x_everRight x_lagThen x_shadedThen x_firstFit x_rows x_rowMany x_sorts x_sizes x_number x_holds x_heldOne x_trace x_traced x_own x_isParted) (Qi res.1 (mW a t res.2.1 x_kept res.2.2.1 x_isKept res.2.2.2 x_tape x_taped x_letters x_at x_begun x_token x_value x_opened x_steps x_code0 x_read x_saved x_plan x_bestPlan x_most x_many x_few x_everRight x_lagThen x_shadedThen x_firstFit x_rows x_rowMany x_sorts x_sizes x_number x_holds x_heldOne x_trace x_traced x_own x_isParted)) := by
  unfold X12_when at hf
  refine MC.ofI pn_X12 (Nat.le_of_ble_eq_true rfl) ?_
  intro p e s m args below meth c A Q ls cx hR hw hl
  have hx := cx.1
  have hb := cx.2.1
  have hl : lv_has ls 5 [(0, .ref (a 0)), (1, .int v1)] := hl
  refine lv_aload_n hx hb dX12_when_0 rfl (lv_at hl 0 rfl) ?_
  refine lv_iload_n hx hb dX12_when_1 rfl (lv_at hl 1 rfl) ?_
  refine calVi (k := 0) cx hw hl.1 (c_X12_isDial rfl) q_1296 k_X12_isDial rfl rfl rfl dX12_when_2 rfl (Nat.le_of_ble_eq_true rfl) ⟨Nat.le_of_ble_eq_true rfl, Nat.le_of_ble_eq_true rfl⟩ ⟨Nat.le_refl _, Nat.le_refl _⟩ (fun H locs hw => ?_)
  refine lv_if_ne (tgt := 10) hx hb dX12_when_5 (by decide) (fun hc => ?_) (fun hc => ?_)
  · have hf := ifF hf hc
    refine lv_aload_n hx hb dX12_when_10 rfl (lv_at hl 0 rfl) ?_
    obtain ⟨r1, h2, hf⟩ := bnS hf
    refine calVv (k := 0) cx hw hl.1 (c_X12_layDown h2) q_1445 k_X12_layDown rfl rfl rfl dX12_when_11 rfl (Nat.le_of_ble_eq_true rfl) ⟨Nat.le_of_ble_eq_true rfl, Nat.le_of_ble_eq_true rfl⟩ ⟨Nat.le_refl _, Nat.le_refl _⟩ (fun H locs hw => ?_)
    refine lv_bipush (v := (-3)) hx hb dX12_when_14 (by decide) ?_
    refine lv_istore_n (lv' := [(2, .int (-3 : Int32)), (0, .ref (a 0)), (1, .int v1)]) hx hb dX12_when_16 rfl hl (by decide) rfl (fun ls hl => ?_)
    refine lv_aload_n hx hb dX12_when_17 rfl (lv_at hl 1 rfl) ?_
    refine lv_iload_n hx hb dX12_when_18 rfl (lv_at hl 2 rfl) ?_
    refine lv_iconst (v := 4) hx hb dX12_when_19 (by decide) ?_
    obtain ⟨r3, h4, hf⟩ := bnS hf
    refine calVi (k := 0) cx hw hl.1 (c_X12_get h4) q_1304 k_X12_get rfl rfl rfl dX12_when_20 rfl (Nat.le_of_ble_eq_true rfl) ⟨Nat.le_of_ble_eq_true rfl, Nat.le_of_ble_eq_true rfl⟩ ⟨Nat.le_refl _, Nat.le_refl _⟩ (fun H locs hw => ?_)
    obtain ⟨j5, hj5, hf⟩ := pbS hf
    have wj5 : ∀ (H : Heap) (locs : List Loc) (ls : Array Slot), Wd D A s (mW a t x_s x_kept r1 x_isKept x_pile x_tape x_taped x_letters x_at x_begun x_token x_value x_opened x_steps x_code0 x_read x_saved x_plan x_bestPlan x_most x_many x_few x_everRight x_lagThen x_shadedThen x_firstFit x_rows x_rowMany x_sorts x_sizes x_number x_holds x_heldOne x_trace x_traced x_own x_isParted) H locs → lv_has ls 5 [(0, .ref (a 0)), (1, .int v1), (2, .int (-3 : Int32))] → W p l e (rmz 8 0 0) s m args below meth c H locs 0 0 Q (F0 m 31 ls [.int j5]) := by
      intro H locs ls hw hl
      refine lv_istore_n (lv' := [(3, .int j5), (0, .ref (a 0)), (1, .int v1), (2, .int (-3 : Int32))]) hx hb dX12_when_31 rfl hl (by decide) rfl (fun ls hl => ?_)
      obtain ⟨o12, ho12, hf⟩ := bnS hf
      have wL1 : ∀ (k : Nat) {v1 : Int32} {v2 : Int32} {v3 : Int32} {x_s : Nat → Int32} {x_laid : Nat → Int32} {x_pile : Nat → Int32} {H : Heap} {locs : List Loc} {ls : Array Slot} {o : Int32 × Int32 × (Nat → Int32) × (Nat → Int32)}, X12_when_L1 n v1 k v2 v3 x_s x_pile = some o → Wd D A s (mW a t x_s x_kept x_laid x_isKept x_pile x_tape x_taped x_letters x_at x_begun x_token x_value x_opened x_steps x_code0 x_read x_saved x_plan x_bestPlan x_most x_many x_few x_everRight x_lagThen x_shadedThen x_firstFit x_rows x_rowMany x_sorts x_sizes x_number x_holds x_heldOne x_trace x_traced x_own x_isParted) H locs → lv_has ls 5 [(0, .ref (a 0)), (1, .int v1), (2, .int v2), (3, .int v3)] → (∀ (H : Heap) (locs : List Loc) (ls : Array Slot), Wd D A s (mW a t o.2.2.1 x_kept x_laid x_isKept o.2.2.2 x_tape x_taped x_letters x_at x_begun x_token x_value x_opened x_steps x_code0 x_read x_saved x_plan x_bestPlan x_most x_many x_few x_everRight x_lagThen x_shadedThen x_firstFit x_rows x_rowMany x_sorts x_sizes x_number x_holds x_heldOne x_trace x_traced x_own x_isParted) H locs → lv_has ls 5 [(0, .ref (a 0)), (1, .int v1), (2, .int o.1), (3, .int o.2.1)] → W p l e (rmz 8 0 0) s m args below meth c H locs 0 0 Q (F0 m 91 ls [])) → W p l e (rmz 8 0 0) s m args below meth c H locs 0 0 Q (F0 m 32 ls []) := by
        clear hf ho12 hw hl
        intro k
        induction k with
        | zero => intro v1 v2 v3 x_s x_laid x_pile H locs ls o hf hw hl kx; simp [X12_when_L1] at hf
        | succ k ih =>
          intro v1 v2 v3 x_s x_laid x_pile H locs ls o hf hw hl kx
          rw [X12_when_L1] at hf
          refine lv_iload_n hx hb dX12_when_32 rfl (lv_at hl 3 rfl) ?_
          refine lv_if_eq (tgt := 91) hx hb dX12_when_33 (by decide) (fun hc => ?_) (fun hc => ?_)
          · have hf := ifT hf hc
            have hf := Option.some.inj hf
            subst hf
            exact kx _ _ _ hw (lv_sub hl [0, 1, 2, 3] rfl)
          · have hf := ifF hf hc
            refine lv_aload_n hx hb dX12_when_36 rfl (lv_at hl 0 rfl) ?_
            refine calVi (k := 0) cx hw hl.1 (c_X12_isOver rfl) q_1395 k_X12_isOver rfl rfl rfl dX12_when_37 rfl (Nat.le_of_ble_eq_true rfl) ⟨Nat.le_of_ble_eq_true rfl, Nat.le_of_ble_eq_true rfl⟩ ⟨Nat.le_refl _, Nat.le_refl _⟩ (fun H locs hw => ?_)
            refine lv_if_ne (tgt := 91) hx hb dX12_when_40 (by decide) (fun hc => ?_) (fun hc => ?_)
            · have hf := ifF hf hc
              have hf := Option.some.inj hf
              subst hf
              exact kx _ _ _ hw (lv_sub hl [0, 1, 2, 3] rfl)
            · have hf := ifT hf hc
              refine lv_aload_n hx hb dX12_when_43 rfl (lv_at hl 0 rfl) ?_
              refine lv_iconst (v := (-1)) hx hb dX12_when_44 (by decide) ?_
              obtain ⟨r6, h7, hf⟩ := bnS hf
              refine calVi (k := 0) cx hw hl.1 (c_X12_goesBy h7) q_1418 k_X12_goesBy rfl rfl rfl dX12_when_45 rfl (Nat.le_of_ble_eq_true rfl) ⟨Nat.le_of_ble_eq_true rfl, Nat.le_of_ble_eq_true rfl⟩ ⟨Nat.le_refl _, Nat.le_refl _⟩ (fun H locs hw => ?_)
              refine lv_istore (lv' := [(4, .int r6.1), (0, .ref (a 0)), (1, .int v1), (2, .int v2), (3, .int v3)]) hx hb dX12_when_48 hl (by decide) rfl (fun ls hl => ?_)
              refine lv_aload_n hx hb dX12_when_50 rfl (lv_at hl 1 rfl) ?_
              refine lv_iload_n hx hb dX12_when_51 rfl (lv_at hl 2 rfl) ?_
              refine lv_iconst (v := 4) hx hb dX12_when_52 (by decide) ?_
              obtain ⟨r8, h9, hf⟩ := bnS hf
              refine calVi (k := 0) cx hw hl.1 (c_X12_get h9) q_1304 k_X12_get rfl rfl rfl dX12_when_53 rfl (Nat.le_of_ble_eq_true rfl) ⟨Nat.le_of_ble_eq_true rfl, Nat.le_of_ble_eq_true rfl⟩ ⟨Nat.le_refl _, Nat.le_refl _⟩ (fun H locs hw => ?_)
              obtain ⟨j10, hj10, hf⟩ := pbS hf
              have wj10 : ∀ (H : Heap) (locs : List Loc) (ls : Array Slot), Wd D A s (mW a t r6.2.1 x_kept x_laid x_isKept r6.2.2 x_tape x_taped x_letters x_at x_begun x_token x_value x_opened x_steps x_code0 x_read x_saved x_plan x_bestPlan x_most x_many x_few x_everRight x_lagThen x_shadedThen x_firstFit x_rows x_rowMany x_sorts x_sizes x_number x_holds x_heldOne x_trace x_traced x_own x_isParted) H locs → lv_has ls 5 [(0, .ref (a 0)), (1, .int v1), (2, .int v2), (3, .int v3), (4, .int r6.1)] → W p l e (rmz 8 0 0) s m args below meth c H locs 0 0 Q (F0 m 64 ls [.int j10]) := by
                intro H locs ls hw hl
                refine lv_istore_n (lv' := [(3, .int j10), (0, .ref (a 0)), (1, .int v1), (2, .int v2), (4, .int r6.1)]) hx hb dX12_when_64 rfl hl (by decide) rfl (fun ls hl => ?_)
                refine lv_iload_n hx hb dX12_when_65 rfl (lv_at hl 0 rfl) ?_
                obtain ⟨j11, hj11, hf⟩ := pbS hf
                have wj11 : ∀ (H : Heap) (locs : List Loc) (ls : Array Slot), Wd D A s (mW a t r6.2.1 x_kept x_laid x_isKept r6.2.2 x_tape x_taped x_letters x_at x_begun x_token x_value x_opened x_steps x_code0 x_read x_saved x_plan x_bestPlan x_most x_many x_few x_everRight x_lagThen x_shadedThen x_firstFit x_rows x_rowMany x_sorts x_sizes x_number x_holds x_heldOne x_trace x_traced x_own x_isParted) H locs → lv_has ls 5 [(0, .ref (a 0)), (1, .int v1), (2, .int v2), (3, .int j10), (4, .int r6.1)] → W p l e (rmz 8 0 0) s m args below meth c H locs 0 0 Q (F0 m 87 ls [.int j11]) := by
                  intro H locs ls hw hl
                  refine lv_istore_n (lv' := [(2, .int j11), (0, .ref (a 0)), (1, .int v1), (3, .int j10), (4, .int r6.1)]) hx hb dX12_when_87 rfl hl (by decide) rfl (fun ls hl => ?_)
                  refine lv_goto (tgt := 32) hx hb dX12_when_88 (by decide) ?_
                  exact ih hf hw (lv_sub hl [1, 2, 0, 3] rfl) kx
                clear hf
                have hf := hj11
                clear hj11
                refine lv_if_ne (tgt := 74) hx hb dX12_when_66 (by decide) (fun hc => ?_) (fun hc => ?_)
                · have hf := ifF hf hc
                  refine lv_bipush (v := (-3)) hx hb dX12_when_74 (by decide) ?_
                  refine lv_goto (tgt := 87) hx hb dX12_when_76 (by decide) ?_
                  subst hf
                  exact wj11 _ _ _ hw (lv_sub hl [1, 2, 3, 0, 4] rfl)
                · have hf := ifT hf hc
                  refine lv_iload hx hb dX12_when_69 (lv_at hl 4 rfl) ?_
                  refine lv_if_ge (tgt := 79) hx hb dX12_when_71 (by decide) (fun hc => ?_) (fun hc => ?_)
                  · have hf := ifT hf hc
                    refine lv_aload_n hx hb dX12_when_79 rfl (lv_at hl 1 rfl) ?_
                    refine mg_s cx hw dX12_when_80 ?_
                    refine lv_iconst (v := 0) hx hb dX12_when_83 (by decide) ?_
                    refine ml_s (j := 0) cx hw (ib_in (by decide)) (by decide) dX12_when_84 ?_
                    refine lv_iconst (v := 1) hx hb dX12_when_85 (by decide) ?_
                    refine lv_isub hx hb dX12_when_86 ?_
                    subst hf
                    exact wj11 _ _ _ hw (lv_sub hl [1, 2, 3, 0, 4] rfl)
                  · have hf := ifF hf hc
                    refine lv_bipush (v := (-3)) hx hb dX12_when_74 (by decide) ?_
                    refine lv_goto (tgt := 87) hx hb dX12_when_76 (by decide) ?_
                    subst hf
                    exact wj11 _ _ _ hw (lv_sub hl [1, 2, 3, 0, 4] rfl)
              clear hf
              have hf := hj10
              clear hj10
              refine lv_if_ne (tgt := 63) hx hb dX12_when_56 (by decide) (fun hc => ?_) (fun hc => ?_)
              · have hf := ifF hf hc
                refine lv_iconst (v := 0) hx hb dX12_when_63 (by decide) ?_
                subst hf
                exact wj10 _ _ _ hw (lv_sub hl [1, 2, 3, 4, 0] rfl)
              · have hf := ifT hf hc
                refine lv_iconst (v := 1) hx hb dX12_when_59 (by decide) ?_
                refine lv_goto (tgt := 64) hx hb dX12_when_60 (by decide) ?_
                subst hf
                exact wj10 _ _ _ hw (lv_sub hl [1, 2, 3, 4, 0] rfl)
      refine wL1 n ho12 hw (lv_sub hl [1, 2, 3, 0] rfl) (fun H locs ls hw hl => ?_)
      clear wL1 ho12
      refine lv_aload_n hx hb dX12_when_91 rfl (lv_at hl 0 rfl) ?_
      obtain ⟨r13, h14, hf⟩ := bnS hf
      refine calVv (k := 0) cx hw hl.1 (c_X12_layBack h14) q_1453 k_X12_layBack rfl rfl rfl dX12_when_92 rfl (Nat.le_of_ble_eq_true rfl) ⟨Nat.le_of_ble_eq_true rfl, Nat.le_of_ble_eq_true rfl⟩ ⟨Nat.le_refl _, Nat.le_refl _⟩ (fun H locs hw => ?_)
      refine lv_iload_n hx hb dX12_when_95 rfl (lv_at hl 2 rfl) ?_
      have hf := Option.some.inj hf
      subst hf
      exact hR _ _ _ _ _ _ hw rfl ⟨rfl, rfl⟩ dX12_when_96
    clear hf
    have hf := hj5
    clear hj5
    refine lv_if_ne (tgt := 30) hx hb dX12_when_23 (by decide) (fun hc => ?_) (fun hc => ?_)
    · have hf := ifF hf hc
      refine lv_iconst (v := 0) hx hb dX12_when_30 (by decide) ?_
      subst hf
      exact wj5 _ _ _ hw (lv_sub hl [1, 2, 0] rfl)
    · have hf := ifT hf hc
      refine lv_iconst (v := 1) hx hb dX12_when_26 (by decide) ?_
      refine lv_goto (tgt := 31) hx hb dX12_when_27 (by decide) ?_
      subst hf
      exact wj5 _ _ _ hw (lv_sub hl [1, 2, 0] rfl)
  · have hf := ifT hf hc
    refine lv_iconst (v := (-1)) hx hb dX12_when_8 (by decide) ?_
    have hf := Option.some.inj hf
    subst hf
    exact hR _ _ _ _ _ _ hw rfl ⟨rfl, rfl⟩ dX12_when_9
theorem dX12_bestFor_0 : decode cX12_bestFor 0 = .ok (.aload_n 0, 1) := by decide +kernel
theorem dX12_bestFor_1 : decode cX12_bestFor 1 = .ok (.iload_n 1, 1) := by decide +kernel
theorem dX12_bestFor_2 : decode cX12_bestFor 2 = .ok (.invokevirtual 231, 3) := by decide +kernel
theorem dX12_bestFor_5 : decode cX12_bestFor 5 = .ok (.ifCond .ne 5, 3) := by decide +kernel
theorem dX12_bestFor_8 : decode cX12_bestFor 8 = .ok (.iconst (-1), 1) := by decide +kernel
theorem dX12_bestFor_9 : decode cX12_bestFor 9 = .ok (.ireturn, 1) := by decide +kernel
theorem dX12_bestFor_10 : decode cX12_bestFor 10 = .ok (.iconst 0, 1) := by decide +kernel
theorem dX12_bestFor_11 : decode cX12_bestFor 11 = .ok (.istore 4, 2) := by decide +kernel
theorem dX12_bestFor_13 : decode cX12_bestFor 13 = .ok (.iconst (-1), 1) := by decide +kernel
theorem dX12_bestFor_14 : decode cX12_bestFor 14 = .ok (.istore 5, 2) := by decide +kernel
theorem dX12_bestFor_16 : decode cX12_bestFor 16 = .ok (.aload_n 0, 1) := by decide +kernel
theorem dX12_bestFor_17 : decode cX12_bestFor 17 = .ok (.invokevirtual 246, 3) := by decide +kernel
theorem dX12_bestFor_20 : decode cX12_bestFor 20 = .ok (.iconst 0, 1) := by decide +kernel
theorem dX12_bestFor_21 : decode cX12_bestFor 21 = .ok (.istore 6, 2) := by decide +kernel
theorem dX12_bestFor_23 : decode cX12_bestFor 23 = .ok (.iload 6, 2) := by decide +kernel
theorem dX12_bestFor_25 : decode cX12_bestFor 25 = .ok (.iload_n 3, 1) := by decide +kernel
theorem dX12_bestFor_26 : decode cX12_bestFor 26 = .ok (.if_icmp .gt 61, 3) := by decide +kernel
theorem dX12_bestFor_29 : decode cX12_bestFor 29 = .ok (.aload_n 0, 1) := by decide +kernel
theorem dX12_bestFor_30 : decode cX12_bestFor 30 = .ok (.iload_n 1, 1) := by decide +kernel
theorem dX12_bestFor_31 : decode cX12_bestFor 31 = .ok (.iload_n 2, 1) := by decide +kernel
theorem dX12_bestFor_32 : decode cX12_bestFor 32 = .ok (.iload 6, 2) := by decide +kernel
theorem dX12_bestFor_34 : decode cX12_bestFor 34 = .ok (.invokevirtual 197, 3) := by decide +kernel
theorem dX12_bestFor_37 : decode cX12_bestFor 37 = .ok (.aload_n 0, 1) := by decide +kernel
theorem dX12_bestFor_38 : decode cX12_bestFor 38 = .ok (.bipush 16, 2) := by decide +kernel
theorem dX12_bestFor_40 : decode cX12_bestFor 40 = .ok (.invokevirtual 249, 3) := by decide +kernel
theorem dX12_bestFor_43 : decode cX12_bestFor 43 = .ok (.istore 7, 2) := by decide +kernel
theorem dX12_bestFor_45 : decode cX12_bestFor 45 = .ok (.iload 7, 2) := by decide +kernel
theorem dX12_bestFor_47 : decode cX12_bestFor 47 = .ok (.iload 5, 2) := by decide +kernel
theorem dX12_bestFor_49 : decode cX12_bestFor 49 = .ok (.if_icmp .le 8, 3) := by decide +kernel
theorem dX12_bestFor_52 : decode cX12_bestFor 52 = .ok (.iload 6, 2) := by decide +kernel
theorem dX12_bestFor_54 : decode cX12_bestFor 54 = .ok (.goto 5, 3) := by decide +kernel
theorem dX12_bestFor_57 : decode cX12_bestFor 57 = .ok (.iload 4, 2) := by decide +kernel
theorem dX12_bestFor_59 : decode cX12_bestFor 59 = .ok (.istore 4, 2) := by decide +kernel
theorem dX12_bestFor_61 : decode cX12_bestFor 61 = .ok (.iload 7, 2) := by decide +kernel
theorem dX12_bestFor_63 : decode cX12_bestFor 63 = .ok (.iload 5, 2) := by decide +kernel
theorem dX12_bestFor_65 : decode cX12_bestFor 65 = .ok (.if_icmp .le 8, 3) := by decide +kernel
theorem dX12_bestFor_68 : decode cX12_bestFor 68 = .ok (.iload 7, 2) := by decide +kernel
theorem dX12_bestFor_70 : decode cX12_bestFor 70 = .ok (.goto 5, 3) := by decide +kernel
theorem dX12_bestFor_73 : decode cX12_bestFor 73 = .ok (.iload 5, 2) := by decide +kernel
theorem dX12_bestFor_75 : decode cX12_bestFor 75 = .ok (.istore 5, 2) := by decide +kernel
theorem dX12_bestFor_77 : decode cX12_bestFor 77 = .ok (.aload_n 0, 1) := by decide +kernel
theorem dX12_bestFor_78 : decode cX12_bestFor 78 = .ok (.invokevirtual 252, 3) := by decide +kernel
theorem dX12_bestFor_81 : decode cX12_bestFor 81 = .ok (.iinc 6 1, 3) := by decide +kernel
theorem dX12_bestFor_84 : decode cX12_bestFor 84 = .ok (.goto (-61), 3) := by decide +kernel
theorem dX12_bestFor_87 : decode cX12_bestFor 87 = .ok (.iload 4, 2) := by decide +kernel
theorem dX12_bestFor_89 : decode cX12_bestFor 89 = .ok (.ireturn, 1) := by decide +kernel
theorem k_X12_bestFor : MV yX12_bestFor cX12_bestFor 8 (some .int) 3 := ⟨q_1467, qs_70, q_14, q_1468, ⟨by decide, by decide, by decide +kernel⟩⟩
theorem c_X12_bestFor {res : Int32 × (Nat → Int32) × (Nat → Int32) × (Nat → Int32)} (hf : X12_bestFor n x_s x_laid x_pile v1 v2 v3 = some res) : MC l E0 D t yX12_bestFor cX12_bestFor 8 (some .int) 9 0 0 [.ref (a 0), .int v1, .int v2, .int v3] (mW a t x_s x_kept x_laid x_isKept x_pile x_tape x_taped x_letters x_at x_begun x_token x_value x_opened x_steps x_code0 x_read x_saved x_plan x_bestPlan x_most x_many x_few x_everRight x_lagThen x_shadedThen x_firstFit x_rows x_rowMany x_sorts x_sizes x_number x_holds x_heldOne x_trace x_traced x_own x_isParted) (Qi res.1 (mW a t res.2.1 x_kept res.2.2.1 x_isKept res.2.2.2 x_tape x_taped x_letters x_at x_begun x_token x_value x_opened x_steps x_code0 x_read x_saved x_plan x_bestPlan x_most x_many x_few x_everRight x_lagThen x_shadedThen x_firstFit x_rows x_rowMany x_sorts x_sizes x_number x_holds x_heldOne x_trace x_traced x_own x_isParted)) := by
  unfold X12_bestFor at hf
  refine MC.ofI pn_X12 (Nat.le_of_ble_eq_true rfl) ?_
  intro p e s m args below meth c A Q ls cx hR hw hl
  have hx := cx.1
  have hb := cx.2.1
  have hl : lv_has ls 8 [(0, .ref (a 0)), (1, .int v1), (2, .int v2), (3, .int v3)] := hl
  refine lv_aload_n hx hb dX12_bestFor_0 rfl (lv_at hl 0 rfl) ?_
  refine lv_iload_n hx hb dX12_bestFor_1 rfl (lv_at hl 1 rfl) ?_
  refine calVi (k := 0) cx hw hl.1 (c_X12_isDial rfl) q_1296 k_X12_isDial rfl rfl rfl dX12_bestFor_2 rfl (Nat.le_of_ble_eq_true rfl) ⟨Nat.le_of_ble_eq_true rfl, Nat.le_of_ble_eq_true rfl⟩ ⟨Nat.le_refl _, Nat.le_refl _⟩ (fun H locs hw => ?_)
  refine lv_if_ne (tgt := 10) hx hb dX12_bestFor_5 (by decide) (fun hc => ?_) (fun hc => ?_)
  · have hf := ifF hf hc
    refine lv_iconst (v := 0) hx hb dX12_bestFor_10 (by decide) ?_
    refine lv_istore (lv' := [(4, .int (0 : Int32)), (0, .ref (a 0)), (1, .int v1), (2, .int v2), (3, .int v3)]) hx hb dX12_bestFor_11 hl (by decide) rfl (fun ls hl => ?_)
    refine lv_iconst (v := (-1)) hx hb dX12_bestFor_13 (by decide) ?_
    refine lv_istore (lv' := [(5, .int (-1 : Int32)), (4, .int (0 : Int32)), (0, .ref (a 0)), (1, .int v1), (2, .int v2), (3, .int v3)]) hx hb dX12_bestFor_14 hl (by decide) rfl (fun ls hl => ?_)
    refine lv_aload_n hx hb dX12_bestFor_16 rfl (lv_at hl 2 rfl) ?_
    obtain ⟨r1, h2, hf⟩ := bnS hf
    refine calVv (k := 0) cx hw hl.1 (c_X12_layDown h2) q_1445 k_X12_layDown rfl rfl rfl dX12_bestFor_17 rfl (Nat.le_of_ble_eq_true rfl) ⟨Nat.le_of_ble_eq_true rfl, Nat.le_of_ble_eq_true rfl⟩ ⟨Nat.le_refl _, Nat.le_refl _⟩ (fun H locs hw => ?_)
    refine lv_iconst (v := 0) hx hb dX12_bestFor_20 (by decide) ?_
    refine lv_istore (lv' := [(6, .int (0 : Int32)), (5, .int (-1 : Int32)), (4, .int (0 : Int32)), (0, .ref (a 0)), (1, .int v1), (2, .int v2), (3, .int v3)]) hx hb dX12_bestFor_21 hl (by decide) rfl (fun ls hl => ?_)
    obtain ⟨o11, ho11, hf⟩ := bnS hf
    have wL1 : ∀ (k : Nat) {v1 : Int32} {v2 : Int32} {v3 : Int32} {v4 : Int32} {v5 : Int32} {v6 : Int32} {x_s : Nat → Int32} {x_laid : Nat → Int32} {x_pile : Nat → Int32} {H : Heap} {locs : List Loc} {ls : Array Slot} {o : Int32 × Int32 × Int32 × (Nat → Int32) × (Nat → Int32)}, X12_bestFor_L1 n x_laid v1 v2 v3 k v4 v5 v6 x_s x_pile = some o → Wd D A s (mW a t x_s x_kept x_laid x_isKept x_pile x_tape x_taped x_letters x_at x_begun x_token x_value x_opened x_steps x_code0 x_read x_saved x_plan x_bestPlan x_most x_many x_few x_everRight x_lagThen x_shadedThen x_firstFit x_rows x_rowMany x_sorts x_sizes x_number x_holds x_heldOne x_trace x_traced x_own x_isParted) H locs → lv_has ls 8 [(0, .ref (a 0)), (1, .int v1), (2, .int v2), (3, .int v3), (4, .int v4), (5, .int v5), (6, .int v6)] → (∀ (H : Heap) (locs : List Loc) (ls : Array Slot), Wd D A s (mW a t o.2.2.2.1 x_kept x_laid x_isKept o.2.2.2.2 x_tape x_taped x_letters x_at x_begun x_token x_value x_opened x_steps x_code0 x_read x_saved x_plan x_bestPlan x_most x_many x_few x_everRight x_lagThen x_shadedThen x_firstFit x_rows x_rowMany x_sorts x_sizes x_number x_holds x_heldOne x_trace x_traced x_own x_isParted) H locs → lv_has ls 8 [(0, .ref (a 0)), (1, .int v1), (2, .int v2), (3, .int v3), (4, .int o.1), (5, .int o.2.1), (6, .int o.2.2.1)] → W p l e (rmz 9 0 0) s m args below meth c H locs 0 0 Q (F0 m 87 ls [])) → W p l e (rmz 9 0 0) s m args below meth c H locs 0 0 Q (F0 m 23 ls []) := by
      clear hf ho11 hw hl
      intro k
      induction k with
      | zero => intro v1 v2 v3 v4 v5 v6 x_s x_laid x_pile H locs ls o hf hw hl kx; simp [X12_bestFor_L1] at hf
      | succ k ih =>
        intro v1 v2 v3 v4 v5 v6 x_s x_laid x_pile H locs ls o hf hw hl kx
        rw [X12_bestFor_L1] at hf
        refine lv_iload hx hb dX12_bestFor_23 (lv_at hl 6 rfl) ?_
        refine lv_iload_n hx hb dX12_bestFor_25 rfl (lv_at hl 3 rfl) ?_
        refine lv_icmp_gt (tgt := 87) hx hb dX12_bestFor_26 (by decide) (fun hc => ?_) (fun hc => ?_)
        · have hf := ifT hf hc
          have hf := Option.some.inj hf
          subst hf
          exact kx _ _ _ hw (lv_sub hl [0, 1, 2, 3, 4, 5, 6] rfl)
        · have hf := ifF hf hc
          refine lv_aload_n hx hb dX12_bestFor_29 rfl (lv_at hl 0 rfl) ?_
          refine lv_iload_n hx hb dX12_bestFor_30 rfl (lv_at hl 1 rfl) ?_
          refine lv_iload_n hx hb dX12_bestFor_31 rfl (lv_at hl 2 rfl) ?_
          refine lv_iload hx hb dX12_bestFor_32 (lv_at hl 6 rfl) ?_
          obtain ⟨r3, h4, hf⟩ := bnS hf
          refine calVv (k := 0) cx hw hl.1 (c_X12_puts h4) q_1288 k_X12_puts rfl rfl rfl dX12_bestFor_34 rfl (Nat.le_of_ble_eq_true rfl) ⟨Nat.le_of_ble_eq_true rfl, Nat.le_of_ble_eq_true rfl⟩ ⟨Nat.le_refl _, Nat.le_refl _⟩ (fun H locs hw => ?_)
          refine lv_aload_n hx hb dX12_bestFor_37 rfl (lv_at hl 0 rfl) ?_
          refine lv_bipush (v := 16) hx hb dX12_bestFor_38 (by decide) ?_
          obtain ⟨r5, h6, hf⟩ := bnS hf
          refine calVi (k := 0) cx hw hl.1 (c_X12_restOf h6) q_1449 k_X12_restOf rfl rfl rfl dX12_bestFor_40 rfl (Nat.le_of_ble_eq_true rfl) ⟨Nat.le_of_ble_eq_true rfl, Nat.le_of_ble_eq_true rfl⟩ ⟨Nat.le_refl _, Nat.le_refl _⟩ (fun H locs hw => ?_)
          refine lv_istore (lv' := [(7, .int r5.1), (0, .ref (a 0)), (1, .int v1), (2, .int v2), (3, .int v3), (4, .int v4), (5, .int v5), (6, .int v6)]) hx hb dX12_bestFor_43 hl (by decide) rfl (fun ls hl => ?_)
          refine lv_iload hx hb dX12_bestFor_45 (lv_at hl 0 rfl) ?_
          refine lv_iload hx hb dX12_bestFor_47 (lv_at hl 6 rfl) ?_
          obtain ⟨j7, hj7, hf⟩ := pbS hf
          have wj7 : ∀ (H : Heap) (locs : List Loc) (ls : Array Slot), Wd D A s (mW a t r5.2.1 x_kept x_laid x_isKept r5.2.2 x_tape x_taped x_letters x_at x_begun x_token x_value x_opened x_steps x_code0 x_read x_saved x_plan x_bestPlan x_most x_many x_few x_everRight x_lagThen x_shadedThen x_firstFit x_rows x_rowMany x_sorts x_sizes x_number x_holds x_heldOne x_trace x_traced x_own x_isParted) H locs → lv_has ls 8 [(0, .ref (a 0)), (1, .int v1), (2, .int v2), (3, .int v3), (4, .int v4), (5, .int v5), (6, .int v6), (7, .int r5.1)] → W p l e (rmz 9 0 0) s m args below meth c H locs 0 0 Q (F0 m 59 ls [.int j7]) := by
            intro H locs ls hw hl
            refine lv_istore (lv' := [(4, .int j7), (0, .ref (a 0)), (1, .int v1), (2, .int v2), (3, .int v3), (5, .int v5), (6, .int v6), (7, .int r5.1)]) hx hb dX12_bestFor_59 hl (by decide) rfl (fun ls hl => ?_)
            refine lv_iload hx hb dX12_bestFor_61 (lv_at hl 7 rfl) ?_
            refine lv_iload hx hb dX12_bestFor_63 (lv_at hl 5 rfl) ?_
            obtain ⟨j8, hj8, hf⟩ := pbS hf
            have wj8 : ∀ (H : Heap) (locs : List Loc) (ls : Array Slot), Wd D A s (mW a t r5.2.1 x_kept x_laid x_isKept r5.2.2 x_tape x_taped x_letters x_at x_begun x_token x_value x_opened x_steps x_code0 x_read x_saved x_plan x_bestPlan x_most x_many x_few x_everRight x_lagThen x_shadedThen x_firstFit x_rows x_rowMany x_sorts x_sizes x_number x_holds x_heldOne x_trace x_traced x_own x_isParted) H locs → lv_has ls 8 [(0, .ref (a 0)), (1, .int v1), (2, .int v2), (3, .int v3), (4, .int j7), (5, .int v5), (6, .int v6), (7, .int r5.1)] → W p l e (rmz 9 0 0) s m args below meth c H locs 0 0 Q (F0 m 75 ls [.int j8]) := by
              intro H locs ls hw hl
              refine lv_istore (lv' := [(5, .int j8), (0, .ref (a 0)), (1, .int v1), (2, .int v2), (3, .int v3), (4, .int j7), (6, .int v6), (7, .int r5.1)]) hx hb dX12_bestFor_75 hl (by decide) rfl (fun ls hl => ?_)
              refine lv_aload_n hx hb dX12_bestFor_77 rfl (lv_at hl 1 rfl) ?_
              obtain ⟨r9, h10, hf⟩ := bnS hf
              refine calVv (k := 0) cx hw hl.1 (c_X12_layBack h10) q_1453 k_X12_layBack rfl rfl rfl dX12_bestFor_78 rfl (Nat.le_of_ble_eq_true rfl) ⟨Nat.le_of_ble_eq_true rfl, Nat.le_of_ble_eq_true rfl⟩ ⟨Nat.le_refl _, Nat.le_refl _⟩ (fun H locs hw => ?_)
              refine lv_iinc (v := (v6 + (1 : Int32))) (lv' := [(6, .int (v6 + (1 : Int32))), (5, .int j8), (0, .ref (a 0)), (1, .int v1), (2, .int v2), (3, .int v3), (4, .int j7), (7, .int r5.1)]) hx hb dX12_bestFor_81 hl (k := 6) rfl rfl (by decide) rfl (fun ls hl => ?_)
              refine lv_goto (tgt := 23) hx hb dX12_bestFor_84 (by decide) ?_
              exact ih hf hw (lv_sub hl [2, 3, 4, 5, 6, 1, 0] rfl) kx
            clear hf
            have hf := hj8
            clear hj8
            refine lv_icmp_le (tgt := 73) hx hb dX12_bestFor_65 (by decide) (fun hc => ?_) (fun hc => ?_)
            · have hf := ifT hf hc
              refine lv_iload hx hb dX12_bestFor_73 (lv_at hl 5 rfl) ?_
              subst hf
              exact wj8 _ _ _ hw (lv_sub hl [1, 2, 3, 4, 0, 5, 6, 7] rfl)
            · have hf := ifF hf hc
              refine lv_iload hx hb dX12_bestFor_68 (lv_at hl 7 rfl) ?_
              refine lv_goto (tgt := 75) hx hb dX12_bestFor_70 (by decide) ?_
              subst hf
              exact wj8 _ _ _ hw (lv_sub hl [1, 2, 3, 4, 0, 5, 6, 7] rfl)
          clear hf
          have hf := hj7
          clear hj7
          refine lv_icmp_le (tgt := 57) hx hb dX12_bestFor_49 (by decide) (fun hc => ?_) (fun hc => ?_)
          · have hf := ifT hf hc
            refine lv_iload hx hb dX12_bestFor_57 (lv_at hl 5 rfl) ?_
            subst hf
            exact wj7 _ _ _ hw (lv_sub hl [1, 2, 3, 4, 5, 6, 7, 0] rfl)
          · have hf := ifF hf hc
            refine lv_iload hx hb dX12_bestFor_52 (lv_at hl 7 rfl) ?_
            refine lv_goto (tgt := 59) hx hb dX12_bestFor_54 (by decide) ?_
            subst hf
            exact wj7 _ _ _ hw (lv_sub hl [1, 2, 3, 4, 5, 6, 7, 0] rfl)
    refine wL1 n ho11 hw (lv_sub hl [3, 4, 5, 6, 2, 1, 0] rfl) (fun H locs ls hw hl => ?_)
    clear wL1 ho11
    refine lv_iload hx hb dX12_bestFor_87 (lv_at hl 4 rfl) ?_
    have hf := Option.some.inj hf
    subst hf
    exact hR _ _ _ _ _ _ hw rfl ⟨rfl, rfl⟩ dX12_bestFor_89
  · have hf := ifT hf hc
    refine lv_iconst (v := (-1)) hx hb dX12_bestFor_8 (by decide) ?_
    have hf := Option.some.inj hf
    subst hf
    exact hR _ _ _ _ _ _ hw rfl ⟨rfl, rfl⟩ dX12_bestFor_9
end MW3
