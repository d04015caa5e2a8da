section MW5
variable {l : Launch} {D : va_G} {t : Nat → ClassId} {a : Nat → Nat} {n : Nat} {x_s : Nat → Int32} {x_kept : Nat → Int32} {x_laid : Nat → Int32} {x_isKept : Int32} {x_pile : Nat → Int32} {x_tape : Nat → Int32} {x_taped : Int32} {x_letters : Nat → Int32} {x_at : Int32} {x_begun : Int32} {x_token : Int32} {x_value : Int32} {x_opened : Int32} {x_steps : Int32} {x_code0 : Nat → Int32} {x_read : Nat → Int32} {x_saved : Nat → Int32} {x_plan : Nat → Int32} {x_bestPlan : Nat → Int32} {x_most : Int32} {x_many : Int32} {x_few : Int32} {x_everRight : Int32} {x_lagThen : Nat → Int32} {x_shadedThen : Nat → Int32} {x_firstFit : Int32} {x_rows : Nat → Int32} {x_rowMany : Int32} {x_sorts : Nat → Int32} {x_sizes : Nat → Int32} {x_number : Nat → Int32} {x_holds : Nat → Int32} {x_heldOne : Nat → Int32} {x_trace : Nat → Int32} {x_traced : Int32} {x_own : Int32} {x_isParted : Int32} {v0 v1 v2 v3 v4 v5 : Int32}
theorem dX12_isSet_0 : decode cX12_isSet 0 = .ok (.iload_n 1, 1) := by decide +kernel
theorem dX12_isSet_1 : decode cX12_isSet 1 = .ok (.iconst 0, 1) := by decide +kernel
theorem dX12_isSet_2 : decode cX12_isSet 2 = .ok (.iconst 1, 1) := by decide +kernel
theorem dX12_isSet_3 : decode cX12_isSet 3 = .ok (.aload_n 0, 1) := by decide +kernel
theorem dX12_isSet_4 : decode cX12_isSet 4 = .ok (.getfield 9, 3) := by decide +kernel
theorem dX12_isSet_7 : decode cX12_isSet 7 = .ok (.iconst 4, 1) := by decide +kernel
theorem dX12_isSet_8 : decode cX12_isSet 8 = .ok (.iaload, 1) := by decide +kernel
theorem dX12_isSet_9 : decode cX12_isSet 9 = .ok (.ishl, 1) := by decide +kernel
theorem dX12_isSet_10 : decode cX12_isSet 10 = .ok (.iconst 1, 1) := by decide +kernel
theorem dX12_isSet_11 : decode cX12_isSet 11 = .ok (.isub, 1) := by decide +kernel
theorem dX12_isSet_12 : decode cX12_isSet 12 = .ok (.invokestatic 71, 3) := by decide +kernel
theorem dX12_isSet_15 : decode cX12_isSet 15 = .ok (.ireturn, 1) := by decide +kernel
theorem k_X12_isSet : MV yX12_isSet cX12_isSet 2 (some .boolean) 1 := ⟨q_1542, qs_79, q_14, q_1543, ⟨by decide, by decide, by decide +kernel⟩⟩
theorem c_X12_isSet {res : Int32} (hf : X12_isSet x_s v1 = res) : MC l E0 D t yX12_isSet cX12_isSet 2 (some .boolean) 2 0 0 [.ref (a 0), .int v1] (mW a t x_s x_kept x_laid x_isKept x_pile x_tape x_taped x_letters x_at x_begun x_token x_value x_opened x_steps x_code0 x_read x_saved x_plan x_bestPlan x_most x_many x_few x_everRight x_lagThen x_shadedThen x_firstFit x_rows x_rowMany x_sorts x_sizes x_number x_holds x_heldOne x_trace x_traced x_own x_isParted) (Qi res (mW a t x_s x_kept x_laid x_isKept x_pile x_tape x_taped x_letters x_at x_begun x_token x_value x_opened x_steps x_code0 x_read x_saved x_plan x_bestPlan x_most x_many x_few x_everRight x_lagThen x_shadedThen x_firstFit x_rows x_rowMany x_sorts x_sizes x_number x_holds x_heldOne x_trace x_traced x_own x_isParted)) := by
  unfold X12_isSet at hf
  refine MC.ofI pn_X12 (Nat.le_of_ble_eq_true rfl) ?_
  intro p e s m args below meth c A Q ls cx hR hw hl
  have hx := cx.1
  have hb := cx.2.1
  have hl : lv_has ls 2 [(0, .ref (a 0)), (1, .int v1)] := hl
  refine lv_iload_n hx hb dX12_isSet_0 rfl (lv_at hl 1 rfl) ?_
  refine lv_iconst (v := 0) hx hb dX12_isSet_1 (by decide) ?_
  refine lv_iconst (v := 1) hx hb dX12_isSet_2 (by decide) ?_
  refine lv_aload_n hx hb dX12_isSet_3 rfl (lv_at hl 0 rfl) ?_
  refine mg_s cx hw dX12_isSet_4 ?_
  refine lv_iconst (v := 4) hx hb dX12_isSet_7 (by decide) ?_
  refine ml_s (j := 4) cx hw (ib_in (by decide)) (by decide) dX12_isSet_8 ?_
  refine lv_ishl hx hb dX12_isSet_9 ?_
  refine lv_iconst (v := 1) hx hb dX12_isSet_10 (by decide) ?_
  refine lv_isub hx hb dX12_isSet_11 ?_
  refine calSi cx hw hl.1 (c_X12_in1 rfl) q_1214 k_X12_in1 rfl dX12_isSet_12 rfl (Nat.le_of_ble_eq_true rfl) ⟨Nat.le_of_ble_eq_true rfl, Nat.le_of_ble_eq_true rfl⟩ ⟨Nat.le_refl _, Nat.le_refl _⟩ (fun H locs hw => ?_)
  subst hf
  exact hR _ _ _ _ _ _ hw (nb (b_X12_in1 _ _ _)) ⟨rfl, rfl⟩ dX12_isSet_15
theorem b_X12_isSet (x_s : Nat → Int32) (v1 : Int32) : X12_isSet x_s v1 = 0 ∨ X12_isSet x_s v1 = 1 := by unfold X12_isSet; repeat (first | exact Or.inl rfl | exact Or.inr rfl | apply b_X12_in1 | split)
theorem dX12_order_0 : decode cX12_order 0 = .ok (.iload_n 1, 1) := by decide +kernel
theorem dX12_order_1 : decode cX12_order 1 = .ok (.invokestatic 293, 3) := by decide +kernel
theorem dX12_order_4 : decode cX12_order 4 = .ok (.ifCond .eq 11, 3) := by decide +kernel
theorem dX12_order_7 : decode cX12_order 7 = .ok (.aload_n 0, 1) := by decide +kernel
theorem dX12_order_8 : decode cX12_order 8 = .ok (.iload_n 2, 1) := by decide +kernel
theorem dX12_order_9 : decode cX12_order 9 = .ok (.invokevirtual 300, 3) := by decide +kernel
theorem dX12_order_12 : decode cX12_order 12 = .ok (.ifCond .ne 5, 3) := by decide +kernel
theorem dX12_order_15 : decode cX12_order 15 = .ok (.iconst (-1), 1) := by decide +kernel
theorem dX12_order_16 : decode cX12_order 16 = .ok (.ireturn, 1) := by decide +kernel
theorem dX12_order_17 : decode cX12_order 17 = .ok (.aload_n 0, 1) := by decide +kernel
theorem dX12_order_18 : decode cX12_order 18 = .ok (.iload_n 1, 1) := by decide +kernel
theorem dX12_order_19 : decode cX12_order 19 = .ok (.iload_n 2, 1) := by decide +kernel
theorem dX12_order_20 : decode cX12_order 20 = .ok (.invokevirtual 296, 3) := by decide +kernel
theorem dX12_order_23 : decode cX12_order 23 = .ok (.aload_n 0, 1) := by decide +kernel
theorem dX12_order_24 : decode cX12_order 24 = .ok (.getfield 270, 3) := by decide +kernel
theorem dX12_order_27 : decode cX12_order 27 = .ok (.iconst 4, 1) := by decide +kernel
theorem dX12_order_28 : decode cX12_order 28 = .ok (.if_icmp .le 8, 3) := by decide +kernel
theorem dX12_order_31 : decode cX12_order 31 = .ok (.bipush (-3), 2) := by decide +kernel
theorem dX12_order_33 : decode cX12_order 33 = .ok (.goto 7, 3) := by decide +kernel
theorem dX12_order_36 : decode cX12_order 36 = .ok (.aload_n 0, 1) := by decide +kernel
theorem dX12_order_37 : decode cX12_order 37 = .ok (.getfield 270, 3) := by decide +kernel
theorem dX12_order_40 : decode cX12_order 40 = .ok (.ireturn, 1) := by decide +kernel
theorem k_X12_order : MV yX12_order cX12_order 3 (some .int) 2 := ⟨q_1537, q_1538, q_14, q_1539, ⟨by decide, by decide, by decide +kernel⟩⟩
theorem c_X12_order {res : Int32 × (Nat → Int32) × (Nat → Int32) × (Nat → Int32) × (Nat → Int32) × (Nat → Int32) × Int32 × Int32 × Int32 × Int32} (hf : X12_order n x_s x_pile x_saved x_plan x_bestPlan x_most x_many x_few x_everRight v1 v2 = some res) : MC l E0 D t yX12_order cX12_order 3 (some .int) 34 0 0 [.ref (a 0), .int v1, .int v2] (mW a t x_s x_kept x_laid x_isKept x_pile x_tape x_taped x_letters x_at x_begun x_token x_value x_opened x_steps x_code0 x_read x_saved x_plan x_bestPlan x_most x_many x_few x_everRight x_lagThen x_shadedThen x_firstFit x_rows x_rowMany x_sorts x_sizes x_number x_holds x_heldOne x_trace x_traced x_own x_isParted) (Qi res.1 (mW a t res.2.1 x_kept x_laid x_isKept res.2.2.1 x_tape x_taped x_letters x_at x_begun x_token x_value x_opened x_steps x_code0 x_read res.2.2.2.1 res.2.2.2.2.1 res.2.2.2.2.2.1 res.2.2.2.2.2.2.1 res.2.2.2.2.2.2.2.1 res.2.2.2.2.2.2.2.2.1 res.2.2.2.2.2.2.2.2.2 x_lagThen x_shadedThen x_firstFit x_rows x_rowMany x_sorts x_sizes x_number x_holds x_heldOne x_trace x_traced x_own x_isParted)) := by
  unfold X12_order at hf
  refine MC.ofI pn_X12 (Nat.le_of_ble_eq_true rfl) ?_
  intro p e s m args below meth c A Q ls cx hR hw hl
  have hx := cx.1
  have hb := cx.2.1
  have hl : lv_has ls 3 [(0, .ref (a 0)), (1, .int v1), (2, .int v2)] := hl
  refine lv_iload_n hx hb dX12_order_0 rfl (lv_at hl 1 rfl) ?_
  refine calSi cx hw hl.1 (c_X12_isPlan rfl) q_1501 k_X12_isPlan rfl dX12_order_1 rfl (Nat.le_of_ble_eq_true rfl) ⟨Nat.le_of_ble_eq_true rfl, Nat.le_of_ble_eq_true rfl⟩ ⟨Nat.le_refl _, Nat.le_refl _⟩ (fun H locs hw => ?_)
  refine lv_if_eq (tgt := 15) hx hb dX12_order_4 (by decide) (fun hc => ?_) (fun hc => ?_)
  · have hf := ifT hf hc
    refine lv_iconst (v := (-1)) hx hb dX12_order_15 (by decide) ?_
    have hf := Option.some.inj hf
    subst hf
    exact hR _ _ _ _ _ _ hw rfl ⟨rfl, rfl⟩ dX12_order_16
  · have hf := ifF hf hc
    refine lv_aload_n hx hb dX12_order_7 rfl (lv_at hl 0 rfl) ?_
    refine lv_iload_n hx hb dX12_order_8 rfl (lv_at hl 2 rfl) ?_
    refine calVi (k := 0) cx hw hl.1 (c_X12_isSet rfl) q_1540 k_X12_isSet rfl rfl rfl dX12_order_9 rfl (Nat.le_of_ble_eq_true rfl) ⟨Nat.le_of_ble_eq_true rfl, Nat.le_of_ble_eq_true rfl⟩ ⟨Nat.le_refl _, Nat.le_refl _⟩ (fun H locs hw => ?_)
    refine lv_if_ne (tgt := 17) hx hb dX12_order_12 (by decide) (fun hc => ?_) (fun hc => ?_)
    · have hf := ifF hf hc
      refine lv_aload_n hx hb dX12_order_17 rfl (lv_at hl 0 rfl) ?_
      refine lv_iload_n hx hb dX12_order_18 rfl (lv_at hl 1 rfl) ?_
      refine lv_iload_n hx hb dX12_order_19 rfl (lv_at hl 2 rfl) ?_
      obtain ⟨r1, h2, hf⟩ := bnS hf
      refine calVv (k := 0) cx hw hl.1 (c_X12_triesAll h2) q_1504 k_X12_triesAll rfl rfl rfl dX12_order_20 rfl (Nat.le_of_ble_eq_true rfl) ⟨Nat.le_of_ble_eq_true rfl, Nat.le_of_ble_eq_true rfl⟩ ⟨Nat.le_refl _, Nat.le_refl _⟩ (fun H locs hw => ?_)
      refine lv_aload_n hx hb dX12_order_23 rfl (lv_at hl 0 rfl) ?_
      refine mg_few cx hw dX12_order_24 ?_
      refine lv_iconst (v := 4) hx hb dX12_order_27 (by decide) ?_
      refine lv_icmp_le (tgt := 36) hx hb dX12_order_28 (by decide) (fun hc => ?_) (fun hc => ?_)
      · have hf := ifT hf hc
        refine lv_aload_n hx hb dX12_order_36 rfl (lv_at hl 0 rfl) ?_
        refine mg_few cx hw dX12_order_37 ?_
        have hf := Option.some.inj hf
        subst hf
        exact hR _ _ _ _ _ _ hw rfl ⟨rfl, rfl⟩ dX12_order_40
      · have hf := ifF hf hc
        refine lv_bipush (v := (-3)) hx hb dX12_order_31 (by decide) ?_
        refine lv_goto (tgt := 40) hx hb dX12_order_33 (by decide) ?_
        have hf := Option.some.inj hf
        subst hf
        exact hR _ _ _ _ _ _ hw rfl ⟨rfl, rfl⟩ dX12_order_40
    · have hf := ifT hf hc
      refine lv_iconst (v := (-1)) hx hb dX12_order_15 (by decide) ?_
      have hf := Option.some.inj hf
      subst hf
      exact hR _ _ _ _ _ _ hw rfl ⟨rfl, rfl⟩ dX12_order_16
theorem dX12_bars_0 : decode cX12_bars 0 = .ok (.iload_n 1, 1) := by decide +kernel
theorem dX12_bars_1 : decode cX12_bars 1 = .ok (.invokestatic 293, 3) := by decide +kernel
theorem dX12_bars_4 : decode cX12_bars 4 = .ok (.ifCond .eq 11, 3) := by decide +kernel
theorem dX12_bars_7 : decode cX12_bars 7 = .ok (.aload_n 0, 1) := by decide +kernel
theorem dX12_bars_8 : decode cX12_bars 8 = .ok (.iload_n 2, 1) := by decide +kernel
theorem dX12_bars_9 : decode cX12_bars 9 = .ok (.invokevirtual 300, 3) := by decide +kernel
theorem dX12_bars_12 : decode cX12_bars 12 = .ok (.ifCond .ne 5, 3) := by decide +kernel
theorem dX12_bars_15 : decode cX12_bars 15 = .ok (.iconst (-1), 1) := by decide +kernel
theorem dX12_bars_16 : decode cX12_bars 16 = .ok (.ireturn, 1) := by decide +kernel
theorem dX12_bars_17 : decode cX12_bars 17 = .ok (.aload_n 0, 1) := by decide +kernel
theorem dX12_bars_18 : decode cX12_bars 18 = .ok (.iload_n 1, 1) := by decide +kernel
theorem dX12_bars_19 : decode cX12_bars 19 = .ok (.iload_n 2, 1) := by decide +kernel
theorem dX12_bars_20 : decode cX12_bars 20 = .ok (.invokevirtual 296, 3) := by decide +kernel
theorem dX12_bars_23 : decode cX12_bars 23 = .ok (.iload_n 2, 1) := by decide +kernel
theorem dX12_bars_24 : decode cX12_bars 24 = .ok (.aload_n 0, 1) := by decide +kernel
theorem dX12_bars_25 : decode cX12_bars 25 = .ok (.getfield 273, 3) := by decide +kernel
theorem dX12_bars_28 : decode cX12_bars 28 = .ok (.iconst (-1), 1) := by decide +kernel
theorem dX12_bars_29 : decode cX12_bars 29 = .ok (.ixor, 1) := by decide +kernel
theorem dX12_bars_30 : decode cX12_bars 30 = .ok (.iand, 1) := by decide +kernel
theorem dX12_bars_31 : decode cX12_bars 31 = .ok (.istore_n 3, 1) := by decide +kernel
theorem dX12_bars_32 : decode cX12_bars 32 = .ok (.iconst 0, 1) := by decide +kernel
theorem dX12_bars_33 : decode cX12_bars 33 = .ok (.istore 4, 2) := by decide +kernel
theorem dX12_bars_35 : decode cX12_bars 35 = .ok (.iload 4, 2) := by decide +kernel
theorem dX12_bars_37 : decode cX12_bars 37 = .ok (.aload_n 0, 1) := by decide +kernel
theorem dX12_bars_38 : decode cX12_bars 38 = .ok (.getfield 9, 3) := by decide +kernel
theorem dX12_bars_41 : decode cX12_bars 41 = .ok (.iconst 4, 1) := by decide +kernel
theorem dX12_bars_42 : decode cX12_bars 42 = .ok (.iaload, 1) := by decide +kernel
theorem dX12_bars_43 : decode cX12_bars 43 = .ok (.if_icmp .ge 18, 3) := by decide +kernel
theorem dX12_bars_46 : decode cX12_bars 46 = .ok (.iload_n 3, 1) := by decide +kernel
theorem dX12_bars_47 : decode cX12_bars 47 = .ok (.iload 4, 2) := by decide +kernel
theorem dX12_bars_49 : decode cX12_bars 49 = .ok (.ishr, 1) := by decide +kernel
theorem dX12_bars_50 : decode cX12_bars 50 = .ok (.iconst 1, 1) := by decide +kernel
theorem dX12_bars_51 : decode cX12_bars 51 = .ok (.iand, 1) := by decide +kernel
theorem dX12_bars_52 : decode cX12_bars 52 = .ok (.ifCond .ne 9, 3) := by decide +kernel
theorem dX12_bars_55 : decode cX12_bars 55 = .ok (.iinc 4 1, 3) := by decide +kernel
theorem dX12_bars_58 : decode cX12_bars 58 = .ok (.goto (-23), 3) := by decide +kernel
theorem dX12_bars_61 : decode cX12_bars 61 = .ok (.iload 4, 2) := by decide +kernel
theorem dX12_bars_63 : decode cX12_bars 63 = .ok (.aload_n 0, 1) := by decide +kernel
theorem dX12_bars_64 : decode cX12_bars 64 = .ok (.getfield 9, 3) := by decide +kernel
theorem dX12_bars_67 : decode cX12_bars 67 = .ok (.iconst 4, 1) := by decide +kernel
theorem dX12_bars_68 : decode cX12_bars 68 = .ok (.iaload, 1) := by decide +kernel
theorem dX12_bars_69 : decode cX12_bars 69 = .ok (.if_icmp .ge 8, 3) := by decide +kernel
theorem dX12_bars_72 : decode cX12_bars 72 = .ok (.iload 4, 2) := by decide +kernel
theorem dX12_bars_74 : decode cX12_bars 74 = .ok (.goto 5, 3) := by decide +kernel
theorem dX12_bars_77 : decode cX12_bars 77 = .ok (.bipush (-3), 2) := by decide +kernel
theorem dX12_bars_79 : decode cX12_bars 79 = .ok (.ireturn, 1) := by decide +kernel
theorem k_X12_bars : MV yX12_bars cX12_bars 5 (some .int) 2 := ⟨q_1545, q_1546, q_14, q_1547, ⟨by decide, by decide, by decide +kernel⟩⟩
theorem c_X12_bars {res : Int32 × (Nat → Int32) × (Nat → Int32) × (Nat → Int32) × (Nat → Int32) × (Nat → Int32) × Int32 × Int32 × Int32 × Int32} (hf : X12_bars n x_s x_pile x_saved x_plan x_bestPlan x_most x_many x_few x_everRight v1 v2 = some res) : MC l E0 D t yX12_bars cX12_bars 5 (some .int) 34 0 0 [.ref (a 0), .int v1, .int v2] (mW a t x_s x_kept x_laid x_isKept x_pile x_tape x_taped x_letters x_at x_begun x_token x_value x_opened x_steps x_code0 x_read x_saved x_plan x_bestPlan x_most x_many x_few x_everRight x_lagThen x_shadedThen x_firstFit x_rows x_rowMany x_sorts x_sizes x_number x_holds x_heldOne x_trace x_traced x_own x_isParted) (Qi res.1 (mW a t res.2.1 x_kept x_laid x_isKept res.2.2.1 x_tape x_taped x_letters x_at x_begun x_token x_value x_opened x_steps x_code0 x_read res.2.2.2.1 res.2.2.2.2.1 res.2.2.2.2.2.1 res.2.2.2.2.2.2.1 res.2.2.2.2.2.2.2.1 res.2.2.2.2.2.2.2.2.1 res.2.2.2.2.2.2.2.2.2 x_lagThen x_shadedThen x_firstFit x_rows x_rowMany x_sorts x_sizes x_number x_holds x_heldOne x_trace x_traced x_own x_isParted)) := by
  unfold X12_bars at hf
  refine MC.ofI pn_X12 (Nat.le_of_ble_eq_true rfl) ?_
  intro p e s m args below meth c A Q ls cx hR hw hl
  have hx := cx.1
  have hb := cx.2.1
  have hl : lv_has ls 5 [(0, .ref (a 0)), (1, .int v1), (2, .int v2)] := hl
  refine lv_iload_n hx hb dX12_bars_0 rfl (lv_at hl 1 rfl) ?_
  refine calSi cx hw hl.1 (c_X12_isPlan rfl) q_1501 k_X12_isPlan rfl dX12_bars_1 rfl (Nat.le_of_ble_eq_true rfl) ⟨Nat.le_of_ble_eq_true rfl, Nat.le_of_ble_eq_true rfl⟩ ⟨Nat.le_refl _, Nat.le_refl _⟩ (fun H locs hw => ?_)
  refine lv_if_eq (tgt := 15) hx hb dX12_bars_4 (by decide) (fun hc => ?_) (fun hc => ?_)
  · have hf := ifT hf hc
    refine lv_iconst (v := (-1)) hx hb dX12_bars_15 (by decide) ?_
    have hf := Option.some.inj hf
    subst hf
    exact hR _ _ _ _ _ _ hw rfl ⟨rfl, rfl⟩ dX12_bars_16
  · have hf := ifF hf hc
    refine lv_aload_n hx hb dX12_bars_7 rfl (lv_at hl 0 rfl) ?_
    refine lv_iload_n hx hb dX12_bars_8 rfl (lv_at hl 2 rfl) ?_
    refine calVi (k := 0) cx hw hl.1 (c_X12_isSet rfl) q_1540 k_X12_isSet rfl rfl rfl dX12_bars_9 rfl (Nat.le_of_ble_eq_true rfl) ⟨Nat.le_of_ble_eq_true rfl, Nat.le_of_ble_eq_true rfl⟩ ⟨Nat.le_refl _, Nat.le_refl _⟩ (fun H locs hw => ?_)
    refine lv_if_ne (tgt := 17) hx hb dX12_bars_12 (by decide) (fun hc => ?_) (fun hc => ?_)
    · have hf := ifF hf hc
      refine lv_aload_n hx hb dX12_bars_17 rfl (lv_at hl 0 rfl) ?_
      refine lv_iload_n hx hb dX12_bars_18 rfl (lv_at hl 1 rfl) ?_
      refine lv_iload_n hx hb dX12_bars_19 rfl (lv_at hl 2 rfl) ?_
      obtain ⟨r1, h2, hf⟩ := bnS hf
      refine calVv (k := 0) cx hw hl.1 (c_X12_triesAll h2) q_1504 k_X12_triesAll rfl rfl rfl dX12_bars_20 rfl (Nat.le_of_ble_eq_true rfl) ⟨Nat.le_of_ble_eq_true rfl, Nat.le_of_ble_eq_true rfl⟩ ⟨Nat.le_refl _, Nat.le_refl _⟩ (fun H locs hw => ?_)
      refine lv_iload_n hx hb dX12_bars_23 rfl (lv_at hl 2 rfl) ?_
      refine lv_aload_n hx hb dX12_bars_24 rfl (lv_at hl 0 rfl) ?_
      refine mg_everRight cx hw dX12_bars_25 ?_
      refine lv_iconst (v := (-1)) hx hb dX12_bars_28 (by decide) ?_
      refine lv_ixor hx hb dX12_bars_29 ?_
      refine lv_iand hx hb dX12_bars_30 ?_
      refine lv_istore_n (lv' := [(3, .int (v2 &&& (r1.2.2.2.2.2.2.2.2 ^^^ (-1 : Int32)))), (0, .ref (a 0)), (1, .int v1), (2, .int v2)]) hx hb dX12_bars_31 rfl hl (by decide) rfl (fun ls hl => ?_)
      refine lv_iconst (v := 0) hx hb dX12_bars_32 (by decide) ?_
      refine lv_istore (lv' := [(4, .int (0 : Int32)), (3, .int (v2 &&& (r1.2.2.2.2.2.2.2.2 ^^^ (-1 : Int32)))), (0, .ref (a 0)), (1, .int v1), (2, .int v2)]) hx hb dX12_bars_33 hl (by decide) rfl (fun ls hl => ?_)
      obtain ⟨o3, ho3, hf⟩ := bnS hf
      have wL1 : ∀ (k : Nat) {v1 : Int32} {v2 : Int32} {v3 : Int32} {v4 : Int32} {x_s : Nat → Int32} {x_pile : Nat → Int32} {x_saved : Nat → Int32} {x_plan : Nat → Int32} {x_bestPlan : Nat → Int32} {x_most : Int32} {x_many : Int32} {x_few : Int32} {x_everRight : Int32} {H : Heap} {locs : List Loc} {ls : Array Slot} {o : Int32}, X12_bars_L1 n x_s v3 k v4 = some o → Wd D A s (mW a t x_s x_kept x_laid x_isKept x_pile x_tape x_taped x_letters x_at x_begun x_token x_value x_opened x_steps x_code0 x_read x_saved x_plan x_bestPlan x_most x_many x_few x_everRight x_lagThen x_shadedThen x_firstFit x_rows x_rowMany x_sorts x_sizes x_number x_holds x_heldOne x_trace x_traced x_own x_isParted) H locs → lv_has ls 5 [(0, .ref (a 0)), (1, .int v1), (2, .int v2), (3, .int v3), (4, .int v4)] → (∀ (H : Heap) (locs : List Loc) (ls : Array Slot), Wd D A s (mW a t x_s x_kept x_laid x_isKept x_pile x_tape x_taped x_letters x_at x_begun x_token x_value x_opened x_steps x_code0 x_read x_saved x_plan x_bestPlan x_most x_many x_few x_everRight x_lagThen x_shadedThen x_firstFit x_rows x_rowMany x_sorts x_sizes x_number x_holds x_heldOne x_trace x_traced x_own x_isParted) H locs → lv_has ls 5 [(0, .ref (a 0)), (1, .int v1), (2, .int v2), (3, .int v3), (4, .int o)] → W p l e (rmz 34 0 0) s m args below meth c H locs 0 0 Q (F0 m 61 ls [])) → W p l e (rmz 34 0 0) s m args below meth c H locs 0 0 Q (F0 m 35 ls []) := by
        clear hf ho3 hw hl
        intro k
        induction k with
        | zero => intro v1 v2 v3 v4 x_s x_pile x_saved x_plan x_bestPlan x_most x_many x_few x_everRight H locs ls o hf hw hl kx; simp [X12_bars_L1] at hf
        | succ k ih =>
          intro v1 v2 v3 v4 x_s x_pile x_saved x_plan x_bestPlan x_most x_many x_few x_everRight H locs ls o hf hw hl kx
          rw [X12_bars_L1] at hf
          refine lv_iload hx hb dX12_bars_35 (lv_at hl 4 rfl) ?_
          refine lv_aload_n hx hb dX12_bars_37 rfl (lv_at hl 0 rfl) ?_
          refine mg_s cx hw dX12_bars_38 ?_
          refine lv_iconst (v := 4) hx hb dX12_bars_41 (by decide) ?_
          refine ml_s (j := 4) cx hw (ib_in (by decide)) (by decide) dX12_bars_42 ?_
          refine lv_icmp_ge (tgt := 61) hx hb dX12_bars_43 (by decide) (fun hc => ?_) (fun hc => ?_)
          · have hf := ifT hf hc
            have hf := Option.some.inj hf
            subst hf
            exact kx _ _ _ hw (lv_sub hl [0, 1, 2, 3, 4] rfl)
          · have hf := ifF hf hc
            refine lv_iload_n hx hb dX12_bars_46 rfl (lv_at hl 3 rfl) ?_
            refine lv_iload hx hb dX12_bars_47 (lv_at hl 4 rfl) ?_
            refine lv_ishr hx hb dX12_bars_49 ?_
            refine lv_iconst (v := 1) hx hb dX12_bars_50 (by decide) ?_
            refine lv_iand hx hb dX12_bars_51 ?_
            refine lv_if_ne (tgt := 61) hx hb dX12_bars_52 (by decide) (fun hc => ?_) (fun hc => ?_)
            · have hf := ifF hf hc
              have hf := Option.some.inj hf
              subst hf
              exact kx _ _ _ hw (lv_sub hl [0, 1, 2, 3, 4] rfl)
            · have hf := ifT hf hc
              refine lv_iinc (v := (v4 + (1 : Int32))) (lv' := [(4, .int (v4 + (1 : Int32))), (0, .ref (a 0)), (1, .int v1), (2, .int v2), (3, .int v3)]) hx hb dX12_bars_55 hl (k := 4) rfl rfl (by decide) rfl (fun ls hl => ?_)
              refine lv_goto (tgt := 35) hx hb dX12_bars_58 (by decide) ?_
              exact ih hf hw (lv_sub hl [1, 2, 3, 4, 0] rfl) kx
      refine wL1 n ho3 hw (lv_sub hl [2, 3, 4, 1, 0] rfl) (fun H locs ls hw hl => ?_)
      clear wL1 ho3
      refine lv_iload hx hb dX12_bars_61 (lv_at hl 4 rfl) ?_
      refine lv_aload_n hx hb dX12_bars_63 rfl (lv_at hl 0 rfl) ?_
      refine mg_s cx hw dX12_bars_64 ?_
      refine lv_iconst (v := 4) hx hb dX12_bars_67 (by decide) ?_
      refine ml_s (j := 4) cx hw (ib_in (by decide)) (by decide) dX12_bars_68 ?_
      refine lv_icmp_ge (tgt := 77) hx hb dX12_bars_69 (by decide) (fun hc => ?_) (fun hc => ?_)
      · have hf := ifT hf hc
        refine lv_bipush (v := (-3)) hx hb dX12_bars_77 (by decide) ?_
        have hf := Option.some.inj hf
        subst hf
        exact hR _ _ _ _ _ _ hw rfl ⟨rfl, rfl⟩ dX12_bars_79
      · have hf := ifF hf hc
        refine lv_iload hx hb dX12_bars_72 (lv_at hl 4 rfl) ?_
        refine lv_goto (tgt := 79) hx hb dX12_bars_74 (by decide) ?_
        have hf := Option.some.inj hf
        subst hf
        exact hR _ _ _ _ _ _ hw rfl ⟨rfl, rfl⟩ dX12_bars_79
    · have hf := ifT hf hc
      refine lv_iconst (v := (-1)) hx hb dX12_bars_15 (by decide) ?_
      have hf := Option.some.inj hf
      subst hf
      exact hR _ _ _ _ _ _ hw rfl ⟨rfl, rfl⟩ dX12_bars_16
theorem dX12_playedFrom_0 : decode cX12_playedFrom 0 = .ok (.iload_n 1, 1) := by decide +kernel
theorem dX12_playedFrom_1 : decode cX12_playedFrom 1 = .ok (.iload_n 2, 1) := by decide +kernel
theorem dX12_playedFrom_2 : decode cX12_playedFrom 2 = .ok (.if_icmp .ne 5, 3) := by decide +kernel
theorem dX12_playedFrom_5 : decode cX12_playedFrom 5 = .ok (.iconst 0, 1) := by decide +kernel
theorem dX12_playedFrom_6 : decode cX12_playedFrom 6 = .ok (.ireturn, 1) := by decide +kernel
theorem dX12_playedFrom_7 : decode cX12_playedFrom 7 = .ok (.aload_n 0, 1) := by decide +kernel
theorem dX12_playedFrom_8 : decode cX12_playedFrom 8 = .ok (.iload_n 1, 1) := by decide +kernel
theorem dX12_playedFrom_9 : decode cX12_playedFrom 9 = .ok (.invokevirtual 280, 3) := by decide +kernel
theorem dX12_playedFrom_12 : decode cX12_playedFrom 12 = .ok (.iconst 0, 1) := by decide +kernel
theorem dX12_playedFrom_13 : decode cX12_playedFrom 13 = .ok (.istore_n 3, 1) := by decide +kernel
theorem dX12_playedFrom_14 : decode cX12_playedFrom 14 = .ok (.iconst (-1), 1) := by decide +kernel
theorem dX12_playedFrom_15 : decode cX12_playedFrom 15 = .ok (.istore 4, 2) := by decide +kernel
theorem dX12_playedFrom_17 : decode cX12_playedFrom 17 = .ok (.iconst 0, 1) := by decide +kernel
theorem dX12_playedFrom_18 : decode cX12_playedFrom 18 = .ok (.istore 5, 2) := by decide +kernel
theorem dX12_playedFrom_20 : decode cX12_playedFrom 20 = .ok (.iload 5, 2) := by decide +kernel
theorem dX12_playedFrom_22 : decode cX12_playedFrom 22 = .ok (.aload_n 0, 1) := by decide +kernel
theorem dX12_playedFrom_23 : decode cX12_playedFrom 23 = .ok (.getfield 9, 3) := by decide +kernel
theorem dX12_playedFrom_26 : decode cX12_playedFrom 26 = .ok (.iconst 4, 1) := by decide +kernel
theorem dX12_playedFrom_27 : decode cX12_playedFrom 27 = .ok (.iaload, 1) := by decide +kernel
theorem dX12_playedFrom_28 : decode cX12_playedFrom 28 = .ok (.if_icmp .gt 94, 3) := by decide +kernel
theorem dX12_playedFrom_31 : decode cX12_playedFrom 31 = .ok (.aload_n 0, 1) := by decide +kernel
theorem dX12_playedFrom_32 : decode cX12_playedFrom 32 = .ok (.iload 5, 2) := by decide +kernel
theorem dX12_playedFrom_34 : decode cX12_playedFrom 34 = .ok (.invokevirtual 243, 3) := by decide +kernel
theorem dX12_playedFrom_37 : decode cX12_playedFrom 37 = .ok (.istore 6, 2) := by decide +kernel
theorem dX12_playedFrom_39 : decode cX12_playedFrom 39 = .ok (.iload 6, 2) := by decide +kernel
theorem dX12_playedFrom_41 : decode cX12_playedFrom 41 = .ok (.aload_n 0, 1) := by decide +kernel
theorem dX12_playedFrom_42 : decode cX12_playedFrom 42 = .ok (.iload_n 1, 1) := by decide +kernel
theorem dX12_playedFrom_43 : decode cX12_playedFrom 43 = .ok (.iconst 1, 1) := by decide +kernel
theorem dX12_playedFrom_44 : decode cX12_playedFrom 44 = .ok (.iadd, 1) := by decide +kernel
theorem dX12_playedFrom_45 : decode cX12_playedFrom 45 = .ok (.iload_n 2, 1) := by decide +kernel
theorem dX12_playedFrom_46 : decode cX12_playedFrom 46 = .ok (.invokevirtual 303, 3) := by decide +kernel
theorem dX12_playedFrom_49 : decode cX12_playedFrom 49 = .ok (.iadd, 1) := by decide +kernel
theorem dX12_playedFrom_50 : decode cX12_playedFrom 50 = .ok (.istore 7, 2) := by decide +kernel
theorem dX12_playedFrom_52 : decode cX12_playedFrom 52 = .ok (.aload_n 0, 1) := by decide +kernel
theorem dX12_playedFrom_53 : decode cX12_playedFrom 53 = .ok (.iload_n 1, 1) := by decide +kernel
theorem dX12_playedFrom_54 : decode cX12_playedFrom 54 = .ok (.invokevirtual 287, 3) := by decide +kernel
theorem dX12_playedFrom_57 : decode cX12_playedFrom 57 = .ok (.iload 4, 2) := by decide +kernel
theorem dX12_playedFrom_59 : decode cX12_playedFrom 59 = .ok (.ifCond .lt 24, 3) := by decide +kernel
theorem dX12_playedFrom_62 : decode cX12_playedFrom 62 = .ok (.iload_n 1, 1) := by decide +kernel
theorem dX12_playedFrom_63 : decode cX12_playedFrom 63 = .ok (.iconst 2, 1) := by decide +kernel
theorem dX12_playedFrom_64 : decode cX12_playedFrom 64 = .ok (.irem, 1) := by decide +kernel
theorem dX12_playedFrom_65 : decode cX12_playedFrom 65 = .ok (.ifCond .ne 12, 3) := by decide +kernel
theorem dX12_playedFrom_68 : decode cX12_playedFrom 68 = .ok (.iload 7, 2) := by decide +kernel
theorem dX12_playedFrom_70 : decode cX12_playedFrom 70 = .ok (.iload_n 3, 1) := by decide +kernel
theorem dX12_playedFrom_71 : decode cX12_playedFrom 71 = .ok (.if_icmp .le 16, 3) := by decide +kernel
theorem dX12_playedFrom_74 : decode cX12_playedFrom 74 = .ok (.goto 9, 3) := by decide +kernel
theorem dX12_playedFrom_77 : decode cX12_playedFrom 77 = .ok (.iload 7, 2) := by decide +kernel
theorem dX12_playedFrom_79 : decode cX12_playedFrom 79 = .ok (.iload_n 3, 1) := by decide +kernel
theorem dX12_playedFrom_80 : decode cX12_playedFrom 80 = .ok (.if_icmp .ge 7, 3) := by decide +kernel
theorem dX12_playedFrom_83 : decode cX12_playedFrom 83 = .ok (.iconst 1, 1) := by decide +kernel
theorem dX12_playedFrom_84 : decode cX12_playedFrom 84 = .ok (.goto 4, 3) := by decide +kernel
theorem dX12_playedFrom_87 : decode cX12_playedFrom 87 = .ok (.iconst 0, 1) := by decide +kernel
theorem dX12_playedFrom_88 : decode cX12_playedFrom 88 = .ok (.istore 8, 2) := by decide +kernel
theorem dX12_playedFrom_90 : decode cX12_playedFrom 90 = .ok (.iload 8, 2) := by decide +kernel
theorem dX12_playedFrom_92 : decode cX12_playedFrom 92 = .ok (.ifCond .eq 8, 3) := by decide +kernel
theorem dX12_playedFrom_95 : decode cX12_playedFrom 95 = .ok (.iload 5, 2) := by decide +kernel
theorem dX12_playedFrom_97 : decode cX12_playedFrom 97 = .ok (.goto 5, 3) := by decide +kernel
theorem dX12_playedFrom_100 : decode cX12_playedFrom 100 = .ok (.iload 4, 2) := by decide +kernel
theorem dX12_playedFrom_102 : decode cX12_playedFrom 102 = .ok (.istore 4, 2) := by decide +kernel
theorem dX12_playedFrom_104 : decode cX12_playedFrom 104 = .ok (.iload 8, 2) := by decide +kernel
theorem dX12_playedFrom_106 : decode cX12_playedFrom 106 = .ok (.ifCond .eq 8, 3) := by decide +kernel
theorem dX12_playedFrom_109 : decode cX12_playedFrom 109 = .ok (.iload 7, 2) := by decide +kernel
theorem dX12_playedFrom_111 : decode cX12_playedFrom 111 = .ok (.goto 4, 3) := by decide +kernel
theorem dX12_playedFrom_114 : decode cX12_playedFrom 114 = .ok (.iload_n 3, 1) := by decide +kernel
theorem dX12_playedFrom_115 : decode cX12_playedFrom 115 = .ok (.istore_n 3, 1) := by decide +kernel
theorem dX12_playedFrom_116 : decode cX12_playedFrom 116 = .ok (.iinc 5 1, 3) := by decide +kernel
theorem dX12_playedFrom_119 : decode cX12_playedFrom 119 = .ok (.goto (-99), 3) := by decide +kernel
theorem dX12_playedFrom_122 : decode cX12_playedFrom 122 = .ok (.aload_n 0, 1) := by decide +kernel
theorem dX12_playedFrom_123 : decode cX12_playedFrom 123 = .ok (.getfield 38, 3) := by decide +kernel
theorem dX12_playedFrom_126 : decode cX12_playedFrom 126 = .ok (.iload_n 1, 1) := by decide +kernel
theorem dX12_playedFrom_127 : decode cX12_playedFrom 127 = .ok (.iload 4, 2) := by decide +kernel
theorem dX12_playedFrom_129 : decode cX12_playedFrom 129 = .ok (.iastore, 1) := by decide +kernel
theorem dX12_playedFrom_130 : decode cX12_playedFrom 130 = .ok (.iload_n 3, 1) := by decide +kernel
theorem dX12_playedFrom_131 : decode cX12_playedFrom 131 = .ok (.ireturn, 1) := by decide +kernel
theorem k_X12_playedFrom : MV yX12_playedFrom cX12_playedFrom 9 (some .int) 2 := ⟨q_1554, qs_80, q_14, q_1555, ⟨by decide, by decide, by decide +kernel⟩⟩
theorem cb_X12_playedFrom {F : (Nat → Int32) → (Nat → Int32) → (Nat → Int32) → (Nat → Int32) → Int32 → Int32 → Option (Int32 × (Nat → Int32) × (Nat → Int32) × (Nat → Int32) × (Nat → Int32))} {d : Nat} (hF0 : ∀ {x_s : Nat → Int32} {x_kept : Nat → Int32} {x_laid : Nat → Int32} {x_isKept : Int32} {x_pile : Nat → Int32} {x_tape : Nat → Int32} {x_taped : Int32} {x_letters : Nat → Int32} {x_at : Int32} {x_begun : Int32} {x_token : Int32} {x_value : Int32} {x_opened : Int32} {x_steps : Int32} {x_code0 : Nat → Int32} {x_read : Nat → Int32} {x_saved : Nat → Int32} {x_plan : Nat → Int32} {x_bestPlan : Nat → Int32} {x_most : Int32} {x_many : Int32} {x_few : Int32} {x_everRight : Int32} {x_lagThen : Nat → Int32} {x_shadedThen : Nat → Int32} {x_firstFit : Int32} {x_rows : Nat → Int32} {x_rowMany : Int32} {x_sorts : Nat → Int32} {x_sizes : Nat → Int32} {x_number : Nat → Int32} {x_holds : Nat → Int32} {x_heldOne : Nat → Int32} {x_trace : Nat → Int32} {x_traced : Int32} {x_own : Int32} {x_isParted : Int32} {v1 : Int32} {v2 : Int32} {res : Int32 × (Nat → Int32) × (Nat → Int32) × (Nat → Int32) × (Nat → Int32)}, F x_s x_pile x_saved x_plan v1 v2 = some res → MC l E0 D t yX12_playedFrom cX12_playedFrom 9 (some .int) (8 + 4 * d) 0 0 [.ref (a 0), .int v1, .int v2] (mW a t x_s x_kept x_laid x_isKept x_pile x_tape x_taped x_letters x_at x_begun x_token x_value x_opened x_steps x_code0 x_read x_saved x_plan x_bestPlan x_most x_many x_few x_everRight x_lagThen x_shadedThen x_firstFit x_rows x_rowMany x_sorts x_sizes x_number x_holds x_heldOne x_trace x_traced x_own x_isParted) (Qi res.1 (mW a t res.2.1 x_kept x_laid x_isKept res.2.2.1 x_tape x_taped x_letters x_at x_begun x_token x_value x_opened x_steps x_code0 x_read res.2.2.2.1 res.2.2.2.2 x_bestPlan x_most x_many x_few x_everRight x_lagThen x_shadedThen x_firstFit x_rows x_rowMany x_sorts x_sizes x_number x_holds x_heldOne x_trace x_traced x_own x_isParted))) {res : Int32 × (Nat → Int32) × (Nat → Int32) × (Nat → Int32) × (Nat → Int32)} (hf : X12_playedFrom_b n F x_s x_pile x_saved x_plan v1 v2 = some res) : MC l E0 D t yX12_playedFrom cX12_playedFrom 9 (some .int) (8 + 4 * (d + 1)) 0 0 [.ref (a 0), .int v1, .int v2] (mW a t x_s x_kept x_laid x_isKept x_pile x_tape x_taped x_letters x_at x_begun x_token x_value x_opened x_steps x_code0 x_read x_saved x_plan x_bestPlan x_most x_many x_few x_everRight x_lagThen x_shadedThen x_firstFit x_rows x_rowMany x_sorts x_sizes x_number x_holds x_heldOne x_trace x_traced x_own x_isParted) (Qi res.1 (mW a t res.2.1 x_kept x_laid x_isKept res.2.2.1 x_tape x_taped x_letters x_at x_begun x_token x_value x_opened x_steps x_code0 x_read res.2.2.2.1 res.2.2.2.2 x_bestPlan x_most x_many x_few x_everRight x_lagThen x_shadedThen x_firstFit x_rows x_rowMany x_sorts x_sizes x_number x_holds x_heldOne x_trace x_traced x_own x_isParted)) := by
  unfold X12_playedFrom_b at hf
  refine MC.ofI pn_X12 (Nat.le_of_ble_eq_true rfl) ?_
  intro p e s m args below meth c A Q ls cx hR hw hl
  have hx := cx.1
  have hb := cx.2.1
  have hl : lv_has ls 9 [(0, .ref (a 0)), (1, .int v1), (2, .int v2)] := hl
  refine lv_iload_n hx hb dX12_playedFrom_0 rfl (lv_at hl 1 rfl) ?_
  refine lv_iload_n hx hb dX12_playedFrom_1 rfl (lv_at hl 2 rfl) ?_
  refine lv_icmp_ne (tgt := 7) hx hb dX12_playedFrom_2 (by decide) (fun hc => ?_) (fun hc => ?_)
  · have hf := ifF hf hc
    refine lv_aload_n hx hb dX12_playedFrom_7 rfl (lv_at hl 0 rfl) ?_
    refine lv_iload_n hx hb dX12_playedFrom_8 rfl (lv_at hl 1 rfl) ?_
    obtain ⟨r1, h2, hf⟩ := bnS hf
    refine calVv (k := 0) cx hw hl.1 (c_X12_saves h2) q_1520 k_X12_saves rfl rfl rfl dX12_playedFrom_9 rfl (Nat.le_of_ble_eq_true rfl) ⟨by show _ ≤ 8 + 4 * (d + 1); omega, by show _ ≤ 64 * (8 + 4 * (d + 1)); omega⟩ ⟨Nat.le_refl _, Nat.le_refl _⟩ (fun H locs hw => ?_)
    refine lv_iconst (v := 0) hx hb dX12_playedFrom_12 (by decide) ?_
    refine lv_istore_n (lv' := [(3, .int (0 : Int32)), (0, .ref (a 0)), (1, .int v1), (2, .int v2)]) hx hb dX12_playedFrom_13 rfl hl (by decide) rfl (fun ls hl => ?_)
    refine lv_iconst (v := (-1)) hx hb dX12_playedFrom_14 (by decide) ?_
    refine lv_istore (lv' := [(4, .int (-1 : Int32)), (3, .int (0 : Int32)), (0, .ref (a 0)), (1, .int v1), (2, .int v2)]) hx hb dX12_playedFrom_15 hl (by decide) rfl (fun ls hl => ?_)
    refine lv_iconst (v := 0) hx hb dX12_playedFrom_17 (by decide) ?_
    refine lv_istore (lv' := [(5, .int (0 : Int32)), (4, .int (-1 : Int32)), (3, .int (0 : Int32)), (0, .ref (a 0)), (1, .int v1), (2, .int v2)]) hx hb dX12_playedFrom_18 hl (by decide) rfl (fun ls hl => ?_)
    obtain ⟨o14, ho14, hf⟩ := bnS hf
    have wL1 : ∀ (k : Nat) {v1 : Int32} {v2 : Int32} {v3 : Int32} {v4 : Int32} {v5 : Int32} {x_s : Nat → Int32} {x_pile : Nat → Int32} {x_saved : Nat → Int32} {x_plan : Nat → Int32} {H : Heap} {locs : List Loc} {ls : Array Slot} {o : Int32 × Int32 × Int32 × (Nat → Int32) × (Nat → Int32) × (Nat → Int32) × (Nat → Int32)}, X12_playedFrom_L1 n F v1 v2 k v3 v4 v5 x_s x_pile x_saved x_plan = some o → Wd D A s (mW a t x_s x_kept x_laid x_isKept x_pile x_tape x_taped x_letters x_at x_begun x_token x_value x_opened x_steps x_code0 x_read x_saved x_plan x_bestPlan x_most x_many x_few x_everRight x_lagThen x_shadedThen x_firstFit x_rows x_rowMany x_sorts x_sizes x_number x_holds x_heldOne x_trace x_traced x_own x_isParted) H locs → lv_has ls 9 [(0, .ref (a 0)), (1, .int v1), (2, .int v2), (3, .int v3), (4, .int v4), (5, .int v5)] → (∀ (H : Heap) (locs : List Loc) (ls : Array Slot), Wd D A s (mW a t o.2.2.2.1 x_kept x_laid x_isKept o.2.2.2.2.1 x_tape x_taped x_letters x_at x_begun x_token x_value x_opened x_steps x_code0 x_read o.2.2.2.2.2.1 o.2.2.2.2.2.2 x_bestPlan x_most x_many x_few x_everRight x_lagThen x_shadedThen x_firstFit x_rows x_rowMany x_sorts x_sizes x_number x_holds x_heldOne x_trace x_traced x_own x_isParted) H locs → lv_has ls 9 [(0, .ref (a 0)), (1, .int v1), (2, .int v2), (3, .int o.1), (4, .int o.2.1), (5, .int o.2.2.1)] → W p l e (rmz (8 + 4 * (d + 1)) 0 0) s m args below meth c H locs 0 0 Q (F0 m 122 ls [])) → W p l e (rmz (8 + 4 * (d + 1)) 0 0) s m args below meth c H locs 0 0 Q (F0 m 20 ls []) := by
      clear hf ho14 hw hl
      intro k
      induction k with
      | zero => intro v1 v2 v3 v4 v5 x_s x_pile x_saved x_plan H locs ls o hf hw hl kx; simp [X12_playedFrom_L1] at hf
      | succ k ih =>
        intro v1 v2 v3 v4 v5 x_s x_pile x_saved x_plan H locs ls o hf hw hl kx
        rw [X12_playedFrom_L1] at hf
        refine lv_iload hx hb dX12_playedFrom_20 (lv_at hl 5 rfl) ?_
        refine lv_aload_n hx hb dX12_playedFrom_22 rfl (lv_at hl 0 rfl) ?_
        refine mg_s cx hw dX12_playedFrom_23 ?_
        refine lv_iconst (v := 4) hx hb dX12_playedFrom_26 (by decide) ?_
        refine ml_s (j := 4) cx hw (ib_in (by decide)) (by decide) dX12_playedFrom_27 ?_
        refine lv_icmp_gt (tgt := 122) hx hb dX12_playedFrom_28 (by decide) (fun hc => ?_) (fun hc => ?_)
        · have hf := ifT hf hc
          have hf := Option.some.inj hf
          subst hf
          exact kx _ _ _ hw (lv_sub hl [0, 1, 2, 3, 4, 5] rfl)
        · have hf := ifF hf hc
          refine lv_aload_n hx hb dX12_playedFrom_31 rfl (lv_at hl 0 rfl) ?_
          refine lv_iload hx hb dX12_playedFrom_32 (lv_at hl 5 rfl) ?_
          obtain ⟨r3, h4, hf⟩ := bnS hf
          refine calVi (k := 0) cx hw hl.1 (c_X12_goesBy h4) q_1418 k_X12_goesBy rfl rfl rfl dX12_playedFrom_34 rfl (Nat.le_of_ble_eq_true rfl) ⟨by show _ ≤ 8 + 4 * (d + 1); omega, by show _ ≤ 64 * (8 + 4 * (d + 1)); omega⟩ ⟨Nat.le_refl _, Nat.le_refl _⟩ (fun H locs hw => ?_)
          refine lv_istore (lv' := [(6, .int r3.1), (0, .ref (a 0)), (1, .int v1), (2, .int v2), (3, .int v3), (4, .int v4), (5, .int v5)]) hx hb dX12_playedFrom_37 hl (by decide) rfl (fun ls hl => ?_)
          refine lv_iload hx hb dX12_playedFrom_39 (lv_at hl 0 rfl) ?_
          refine lv_aload_n hx hb dX12_playedFrom_41 rfl (lv_at hl 1 rfl) ?_
          refine lv_iload_n hx hb dX12_playedFrom_42 rfl (lv_at hl 2 rfl) ?_
          refine lv_iconst (v := 1) hx hb dX12_playedFrom_43 (by decide) ?_
          refine lv_iadd hx hb dX12_playedFrom_44 ?_
          refine lv_iload_n hx hb dX12_playedFrom_45 rfl (lv_at hl 3 rfl) ?_
          obtain ⟨r5, h6, hf⟩ := bnS hf
          refine calVi (k := 0) cx hw hl.1 (hF0 h6) q_1552 k_X12_playedFrom rfl rfl rfl dX12_playedFrom_46 rfl (Nat.le_of_ble_eq_true rfl) ⟨by show _ ≤ 8 + 4 * (d + 1); omega, by show _ ≤ 64 * (8 + 4 * (d + 1)); omega⟩ ⟨Nat.le_refl _, Nat.le_refl _⟩ (fun H locs hw => ?_)
          refine lv_iadd hx hb dX12_playedFrom_49 ?_
          refine lv_istore (lv' := [(7, .int (r3.1 + r5.1)), (6, .int r3.1), (0, .ref (a 0)), (1, .int v1), (2, .int v2), (3, .int v3), (4, .int v4), (5, .int v5)]) hx hb dX12_playedFrom_50 hl (by decide) rfl (fun ls hl => ?_)
          refine lv_aload_n hx hb dX12_playedFrom_52 rfl (lv_at hl 2 rfl) ?_
          refine lv_iload_n hx hb dX12_playedFrom_53 rfl (lv_at hl 3 rfl) ?_
          obtain ⟨r7, h8, hf⟩ := bnS hf
          refine calVv (k := 0) cx hw hl.1 (c_X12_restores h8) q_1524 k_X12_restores rfl rfl rfl dX12_playedFrom_54 rfl (Nat.le_of_ble_eq_true rfl) ⟨by show _ ≤ 8 + 4 * (d + 1); omega, by show _ ≤ 64 * (8 + 4 * (d + 1)); omega⟩ ⟨Nat.le_refl _, Nat.le_refl _⟩ (fun H locs hw => ?_)
          refine lv_iload hx hb dX12_playedFrom_57 (lv_at hl 6 rfl) ?_
          obtain ⟨j11, hj11, hf⟩ := bnS hf
          have wj11 : ∀ (H : Heap) (locs : List Loc) (ls : Array Slot), Wd D A s (mW a t r7 x_kept x_laid x_isKept r5.2.2.1 x_tape x_taped x_letters x_at x_begun x_token x_value x_opened x_steps x_code0 x_read r5.2.2.2.1 r5.2.2.2.2 x_bestPlan x_most x_many x_few x_everRight x_lagThen x_shadedThen x_firstFit x_rows x_rowMany x_sorts x_sizes x_number x_holds x_heldOne x_trace x_traced x_own x_isParted) H locs → lv_has ls 9 [(0, .ref (a 0)), (1, .int v1), (2, .int v2), (3, .int v3), (4, .int v4), (5, .int v5), (6, .int r3.1), (7, .int (r3.1 + r5.1))] → W p l e (rmz (8 + 4 * (d + 1)) 0 0) s m args below meth c H locs 0 0 Q (F0 m 88 ls [.int j11]) := by
            intro H locs ls hw hl
            refine lv_istore (lv' := [(8, .int j11), (0, .ref (a 0)), (1, .int v1), (2, .int v2), (3, .int v3), (4, .int v4), (5, .int v5), (6, .int r3.1), (7, .int (r3.1 + r5.1))]) hx hb dX12_playedFrom_88 hl (by decide) rfl (fun ls hl => ?_)
            refine lv_iload hx hb dX12_playedFrom_90 (lv_at hl 0 rfl) ?_
            obtain ⟨j12, hj12, hf⟩ := pbS hf
            have wj12 : ∀ (H : Heap) (locs : List Loc) (ls : Array Slot), Wd D A s (mW a t r7 x_kept x_laid x_isKept r5.2.2.1 x_tape x_taped x_letters x_at x_begun x_token x_value x_opened x_steps x_code0 x_read r5.2.2.2.1 r5.2.2.2.2 x_bestPlan x_most x_many x_few x_everRight x_lagThen x_shadedThen x_firstFit x_rows x_rowMany x_sorts x_sizes x_number x_holds x_heldOne x_trace x_traced x_own x_isParted) H locs → lv_has ls 9 [(0, .ref (a 0)), (1, .int v1), (2, .int v2), (3, .int v3), (4, .int v4), (5, .int v5), (6, .int r3.1), (7, .int (r3.1 + r5.1)), (8, .int j11)] → W p l e (rmz (8 + 4 * (d + 1)) 0 0) s m args below meth c H locs 0 0 Q (F0 m 102 ls [.int j12]) := by
              intro H locs ls hw hl
              refine lv_istore (lv' := [(4, .int j12), (0, .ref (a 0)), (1, .int v1), (2, .int v2), (3, .int v3), (5, .int v5), (6, .int r3.1), (7, .int (r3.1 + r5.1)), (8, .int j11)]) hx hb dX12_playedFrom_102 hl (by decide) rfl (fun ls hl => ?_)
              refine lv_iload hx hb dX12_playedFrom_104 (lv_at hl 8 rfl) ?_
              obtain ⟨j13, hj13, hf⟩ := pbS hf
              have wj13 : ∀ (H : Heap) (locs : List Loc) (ls : Array Slot), Wd D A s (mW a t r7 x_kept x_laid x_isKept r5.2.2.1 x_tape x_taped x_letters x_at x_begun x_token x_value x_opened x_steps x_code0 x_read r5.2.2.2.1 r5.2.2.2.2 x_bestPlan x_most x_many x_few x_everRight x_lagThen x_shadedThen x_firstFit x_rows x_rowMany x_sorts x_sizes x_number x_holds x_heldOne x_trace x_traced x_own x_isParted) H locs → lv_has ls 9 [(0, .ref (a 0)), (1, .int v1), (2, .int v2), (3, .int v3), (4, .int j12), (5, .int v5), (6, .int r3.1), (7, .int (r3.1 + r5.1)), (8, .int j11)] → W p l e (rmz (8 + 4 * (d + 1)) 0 0) s m args below meth c H locs 0 0 Q (F0 m 115 ls [.int j13]) := by
                intro H locs ls hw hl
                refine lv_istore_n (lv' := [(3, .int j13), (0, .ref (a 0)), (1, .int v1), (2, .int v2), (4, .int j12), (5, .int v5), (6, .int r3.1), (7, .int (r3.1 + r5.1)), (8, .int j11)]) hx hb dX12_playedFrom_115 rfl hl (by decide) rfl (fun ls hl => ?_)
                refine lv_iinc (v := (v5 + (1 : Int32))) (lv' := [(5, .int (v5 + (1 : Int32))), (3, .int j13), (0, .ref (a 0)), (1, .int v1), (2, .int v2), (4, .int j12), (6, .int r3.1), (7, .int (r3.1 + r5.1)), (8, .int j11)]) hx hb dX12_playedFrom_116 hl (k := 5) rfl rfl (by decide) rfl (fun ls hl => ?_)
                refine lv_goto (tgt := 20) hx hb dX12_playedFrom_119 (by decide) ?_
                exact ih hf hw (lv_sub hl [2, 3, 4, 1, 5, 0] rfl) kx
              clear hf
              have hf := hj13
              clear hj13
              refine lv_if_eq (tgt := 114) hx hb dX12_playedFrom_106 (by decide) (fun hc => ?_) (fun hc => ?_)
              · have hf := ifT hf hc
                refine lv_iload_n hx hb dX12_playedFrom_114 rfl (lv_at hl 4 rfl) ?_
                subst hf
                exact wj13 _ _ _ hw (lv_sub hl [1, 2, 3, 4, 0, 5, 6, 7, 8] rfl)
              · have hf := ifF hf hc
                refine lv_iload hx hb dX12_playedFrom_109 (lv_at hl 7 rfl) ?_
                refine lv_goto (tgt := 115) hx hb dX12_playedFrom_111 (by decide) ?_
                subst hf
                exact wj13 _ _ _ hw (lv_sub hl [1, 2, 3, 4, 0, 5, 6, 7, 8] rfl)
            clear hf
            have hf := hj12
            clear hj12
            refine lv_if_eq (tgt := 100) hx hb dX12_playedFrom_92 (by decide) (fun hc => ?_) (fun hc => ?_)
            · have hf := ifT hf hc
              refine lv_iload hx hb dX12_playedFrom_100 (lv_at hl 5 rfl) ?_
              subst hf
              exact wj12 _ _ _ hw (lv_sub hl [1, 2, 3, 4, 5, 6, 7, 8, 0] rfl)
            · have hf := ifF hf hc
              refine lv_iload hx hb dX12_playedFrom_95 (lv_at hl 6 rfl) ?_
              refine lv_goto (tgt := 102) hx hb dX12_playedFrom_97 (by decide) ?_
              subst hf
              exact wj12 _ _ _ hw (lv_sub hl [1, 2, 3, 4, 5, 6, 7, 8, 0] rfl)
          clear hf
          have hf := hj11
          clear hj11
          refine lv_if_lt (tgt := 83) hx hb dX12_playedFrom_59 (by decide) (fun hc => ?_) (fun hc => ?_)
          · have hf := ifT hf hc
            refine lv_iconst (v := 1) hx hb dX12_playedFrom_83 (by decide) ?_
            refine lv_goto (tgt := 88) hx hb dX12_playedFrom_84 (by decide) ?_
            have hf := Option.some.inj hf
            subst hf
            exact wj11 _ _ _ hw (lv_sub hl [2, 3, 4, 5, 6, 7, 1, 0] rfl)
          · have hf := ifF hf hc
            refine lv_iload_n hx hb dX12_playedFrom_62 rfl (lv_at hl 3 rfl) ?_
            refine lv_iconst (v := 2) hx hb dX12_playedFrom_63 (by decide) ?_
            refine lv_irem hx hb dX12_playedFrom_64 (by decide) ?_
            obtain ⟨J10, hJ10, hf⟩ := jnS hf
            have wj10 : ∀ (j10 : Unit) (H : Heap) (locs : List Loc) (ls : Array Slot), J10 j10 = some j11 → Wd D A s (mW a t r7 x_kept x_laid x_isKept r5.2.2.1 x_tape x_taped x_letters x_at x_begun x_token x_value x_opened x_steps x_code0 x_read r5.2.2.2.1 r5.2.2.2.2 x_bestPlan x_most x_many x_few x_everRight x_lagThen x_shadedThen x_firstFit x_rows x_rowMany x_sorts x_sizes x_number x_holds x_heldOne x_trace x_traced x_own x_isParted) H locs → lv_has ls 9 [(0, .ref (a 0)), (1, .int v1), (2, .int v2), (3, .int v3), (4, .int v4), (5, .int v5), (6, .int r3.1), (7, .int (r3.1 + r5.1))] → W p l e (rmz (8 + 4 * (d + 1)) 0 0) s m args below meth c H locs 0 0 Q (F0 m 87 ls []) := by
              intro j10 H locs ls hf hw hl
              have hf := hJ10 _ hf
              refine lv_iconst (v := 0) hx hb dX12_playedFrom_87 (by decide) ?_
              have hf := Option.some.inj hf
              subst hf
              exact wj11 _ _ _ hw (lv_sub hl [0, 1, 2, 3, 4, 5, 6, 7] rfl)
            clear hJ10
            obtain ⟨J9, hJ9, hf⟩ := jnS hf
            have wj9 : ∀ (j9 : Unit) (H : Heap) (locs : List Loc) (ls : Array Slot), J9 j9 = some j11 → Wd D A s (mW a t r7 x_kept x_laid x_isKept r5.2.2.1 x_tape x_taped x_letters x_at x_begun x_token x_value x_opened x_steps x_code0 x_read r5.2.2.2.1 r5.2.2.2.2 x_bestPlan x_most x_many x_few x_everRight x_lagThen x_shadedThen x_firstFit x_rows x_rowMany x_sorts x_sizes x_number x_holds x_heldOne x_trace x_traced x_own x_isParted) H locs → lv_has ls 9 [(0, .ref (a 0)), (1, .int v1), (2, .int v2), (3, .int v3), (4, .int v4), (5, .int v5), (6, .int r3.1), (7, .int (r3.1 + r5.1))] → W p l e (rmz (8 + 4 * (d + 1)) 0 0) s m args below meth c H locs 0 0 Q (F0 m 83 ls []) := by
              intro j9 H locs ls hf hw hl
              have hf := hJ9 _ hf
              refine lv_iconst (v := 1) hx hb dX12_playedFrom_83 (by decide) ?_
              refine lv_goto (tgt := 88) hx hb dX12_playedFrom_84 (by decide) ?_
              have hf := Option.some.inj hf
              subst hf
              exact wj11 _ _ _ hw (lv_sub hl [0, 1, 2, 3, 4, 5, 6, 7] rfl)
            clear hJ9
            refine lv_if_ne (tgt := 77) hx hb dX12_playedFrom_65 (by decide) (fun hc => ?_) (fun hc => ?_)
            · have hf := ifF hf hc
              refine lv_iload hx hb dX12_playedFrom_77 (lv_at hl 0 rfl) ?_
              refine lv_iload_n hx hb dX12_playedFrom_79 rfl (lv_at hl 5 rfl) ?_
              refine lv_icmp_ge (tgt := 87) hx hb dX12_playedFrom_80 (by decide) (fun hc => ?_) (fun hc => ?_)
              · have hf := ifT hf hc
                exact wj10 _ _ _ _ hf hw (lv_sub hl [2, 3, 4, 5, 6, 7, 1, 0] rfl)
              · have hf := ifF hf hc
                exact wj9 _ _ _ _ hf hw (lv_sub hl [2, 3, 4, 5, 6, 7, 1, 0] rfl)
            · have hf := ifT hf hc
              refine lv_iload hx hb dX12_playedFrom_68 (lv_at hl 0 rfl) ?_
              refine lv_iload_n hx hb dX12_playedFrom_70 rfl (lv_at hl 5 rfl) ?_
              refine lv_icmp_le (tgt := 87) hx hb dX12_playedFrom_71 (by decide) (fun hc => ?_) (fun hc => ?_)
              · have hf := ifT hf hc
                exact wj10 _ _ _ _ hf hw (lv_sub hl [2, 3, 4, 5, 6, 7, 1, 0] rfl)
              · have hf := ifF hf hc
                refine lv_goto (tgt := 83) hx hb dX12_playedFrom_74 (by decide) ?_
                exact wj9 _ _ _ _ hf hw (lv_sub hl [2, 3, 4, 5, 6, 7, 1, 0] rfl)
    refine wL1 n ho14 hw (lv_sub hl [3, 4, 5, 2, 1, 0] rfl) (fun H locs ls hw hl => ?_)
    clear wL1 ho14
    refine lv_aload_n hx hb dX12_playedFrom_122 rfl (lv_at hl 0 rfl) ?_
    refine mg_plan cx hw dX12_playedFrom_123 ?_
    refine lv_iload_n hx hb dX12_playedFrom_126 rfl (lv_at hl 1 rfl) ?_
    refine lv_iload hx hb dX12_playedFrom_127 (lv_at hl 4 rfl) ?_
    obtain ⟨h15, hf⟩ := ckS hf
    refine ms_plan (j := v1.toNatClampNeg) cx hw (ib_in h15) rfl dX12_playedFrom_129 (fun H locs hw => ?_)
    refine lv_iload_n hx hb dX12_playedFrom_130 rfl (lv_at hl 3 rfl) ?_
    have hf := Option.some.inj hf
    subst hf
    exact hR _ _ _ _ _ _ hw rfl ⟨rfl, rfl⟩ dX12_playedFrom_131
  · have hf := ifT hf hc
    refine lv_iconst (v := 0) hx hb dX12_playedFrom_5 (by decide) ?_
    have hf := Option.some.inj hf
    subst hf
    exact hR _ _ _ _ _ _ hw rfl ⟨rfl, rfl⟩ dX12_playedFrom_6
theorem c_X12_playedFrom : ∀ {d : Nat} {x_s : Nat → Int32} {x_kept : Nat → Int32} {x_laid : Nat → Int32} {x_isKept : Int32} {x_pile : Nat → Int32} {x_tape : Nat → Int32} {x_taped : Int32} {x_letters : Nat → Int32} {x_at : Int32} {x_begun : Int32} {x_token : Int32} {x_value : Int32} {x_opened : Int32} {x_steps : Int32} {x_code0 : Nat → Int32} {x_read : Nat → Int32} {x_saved : Nat → Int32} {x_plan : Nat → Int32} {x_bestPlan : Nat → Int32} {x_most : Int32} {x_many : Int32} {x_few : Int32} {x_everRight : Int32} {x_lagThen : Nat → Int32} {x_shadedThen : Nat → Int32} {x_firstFit : Int32} {x_rows : Nat → Int32} {x_rowMany : Int32} {x_sorts : Nat → Int32} {x_sizes : Nat → Int32} {x_number : Nat → Int32} {x_holds : Nat → Int32} {x_heldOne : Nat → Int32} {x_trace : Nat → Int32} {x_traced : Int32} {x_own : Int32} {x_isParted : Int32} {v1 : Int32} {v2 : Int32} {res : Int32 × (Nat → Int32) × (Nat → Int32) × (Nat → Int32) × (Nat → Int32)} (hf : X12_playedFrom n d x_s x_pile x_saved x_plan v1 v2 = some res), MC l E0 D t yX12_playedFrom cX12_playedFrom 9 (some .int) (8 + 4 * d) 0 0 [.ref (a 0), .int v1, .int v2] (mW a t x_s x_kept x_laid x_isKept x_pile x_tape x_taped x_letters x_at x_begun x_token x_value x_opened x_steps x_code0 x_read x_saved x_plan x_bestPlan x_most x_many x_few x_everRight x_lagThen x_shadedThen x_firstFit x_rows x_rowMany x_sorts x_sizes x_number x_holds x_heldOne x_trace x_traced x_own x_isParted) (Qi res.1 (mW a t res.2.1 x_kept x_laid x_isKept res.2.2.1 x_tape x_taped x_letters x_at x_begun x_token x_value x_opened x_steps x_code0 x_read res.2.2.2.1 res.2.2.2.2 x_bestPlan x_most x_many x_few x_everRight x_lagThen x_shadedThen x_firstFit x_rows x_rowMany x_sorts x_sizes x_number x_holds x_heldOne x_trace x_traced x_own x_isParted)) := by
  intro d
  induction d with
  | zero => intros; rename_i hf; simp [X12_playedFrom] at hf
  | succ d ih => intros; rename_i hf; rw [X12_playedFrom] at hf; exact cb_X12_playedFrom (fun h => ih h) hf
theorem dX12_game_0 : decode cX12_game 0 = .ok (.iload_n 1, 1) := by decide +kernel
theorem dX12_game_1 : decode cX12_game 1 = .ok (.iconst 1, 1) := by decide +kernel
theorem dX12_game_2 : decode cX12_game 2 = .ok (.iconst 4, 1) := by decide +kernel
theorem dX12_game_3 : decode cX12_game 3 = .ok (.invokestatic 71, 3) := by decide +kernel
theorem dX12_game_6 : decode cX12_game 6 = .ok (.ifCond .eq 16, 3) := by decide +kernel
theorem dX12_game_9 : decode cX12_game 9 = .ok (.aload_n 0, 1) := by decide +kernel
theorem dX12_game_10 : decode cX12_game 10 = .ok (.iconst 0, 1) := by decide +kernel
theorem dX12_game_11 : decode cX12_game 11 = .ok (.aload_n 0, 1) := by decide +kernel
theorem dX12_game_12 : decode cX12_game 12 = .ok (.iload_n 1, 1) := by decide +kernel
theorem dX12_game_13 : decode cX12_game 13 = .ok (.invokevirtual 290, 3) := by decide +kernel
theorem dX12_game_16 : decode cX12_game 16 = .ok (.invokevirtual 303, 3) := by decide +kernel
theorem dX12_game_19 : decode cX12_game 19 = .ok (.goto 4, 3) := by decide +kernel
theorem dX12_game_22 : decode cX12_game 22 = .ok (.iconst (-1), 1) := by decide +kernel
theorem dX12_game_23 : decode cX12_game 23 = .ok (.ireturn, 1) := by decide +kernel
theorem k_X12_game : MV yX12_game cX12_game 2 (some .int) 1 := ⟨q_1549, q_1550, q_14, q_1551, ⟨by decide, by decide, by decide +kernel⟩⟩
theorem c_X12_game {res : Int32 × (Nat → Int32) × (Nat → Int32) × (Nat → Int32) × (Nat → Int32)} (hf : X12_game n x_s x_pile x_saved x_plan v1 = some res) : MC l E0 D t yX12_game cX12_game 2 (some .int) 33 0 0 [.ref (a 0), .int v1] (mW a t x_s x_kept x_laid x_isKept x_pile x_tape x_taped x_letters x_at x_begun x_token x_value x_opened x_steps x_code0 x_read x_saved x_plan x_bestPlan x_most x_many x_few x_everRight x_lagThen x_shadedThen x_firstFit x_rows x_rowMany x_sorts x_sizes x_number x_holds x_heldOne x_trace x_traced x_own x_isParted) (Qi res.1 (mW a t res.2.1 x_kept x_laid x_isKept res.2.2.1 x_tape x_taped x_letters x_at x_begun x_token x_value x_opened x_steps x_code0 x_read res.2.2.2.1 res.2.2.2.2 x_bestPlan x_most x_many x_few x_everRight x_lagThen x_shadedThen x_firstFit x_rows x_rowMany x_sorts x_sizes x_number x_holds x_heldOne x_trace x_traced x_own x_isParted)) := by
  unfold X12_game at hf
  refine MC.ofI pn_X12 (Nat.le_of_ble_eq_true rfl) ?_
  intro p e s m args below meth c A Q ls cx hR hw hl
  have hx := cx.1
  have hb := cx.2.1
  have hl : lv_has ls 2 [(0, .ref (a 0)), (1, .int v1)] := hl
  refine lv_iload_n hx hb dX12_game_0 rfl (lv_at hl 1 rfl) ?_
  refine lv_iconst (v := 1) hx hb dX12_game_1 (by decide) ?_
  refine lv_iconst (v := 4) hx hb dX12_game_2 (by decide) ?_
  refine calSi cx hw hl.1 (c_X12_in1 rfl) q_1214 k_X12_in1 rfl dX12_game_3 rfl (Nat.le_of_ble_eq_true rfl) ⟨Nat.le_of_ble_eq_true rfl, Nat.le_of_ble_eq_true rfl⟩ ⟨Nat.le_refl _, Nat.le_refl _⟩ (fun H locs hw => ?_)
  refine lv_if_eq (tgt := 22) hx hb dX12_game_6 (by decide) (fun hc => ?_) (fun hc => ?_)
  · have hf := ifT hf hc
    refine lv_iconst (v := (-1)) hx hb dX12_game_22 (by decide) ?_
    have hf := Option.some.inj hf
    subst hf
    exact hR _ _ _ _ _ _ hw rfl ⟨rfl, rfl⟩ dX12_game_23
  · have hf := ifF hf hc
    refine lv_aload_n hx hb dX12_game_9 rfl (lv_at hl 0 rfl) ?_
    refine lv_iconst (v := 0) hx hb dX12_game_10 (by decide) ?_
    refine lv_aload_n hx hb dX12_game_11 rfl (lv_at hl 0 rfl) ?_
    refine lv_iload_n hx hb dX12_game_12 rfl (lv_at hl 1 rfl) ?_
    refine calVi (k := 0) cx hw hl.1 (c_X12_daysOf rfl) q_1508 k_X12_daysOf rfl rfl rfl dX12_game_13 rfl (Nat.le_of_ble_eq_true rfl) ⟨Nat.le_of_ble_eq_true rfl, Nat.le_of_ble_eq_true rfl⟩ ⟨Nat.le_refl _, Nat.le_refl _⟩ (fun H locs hw => ?_)
    obtain ⟨r1, h2, hf⟩ := bnS hf
    refine calVi (k := 0) cx hw hl.1 (c_X12_playedFrom h2) q_1552 k_X12_playedFrom rfl rfl rfl dX12_game_16 rfl (Nat.le_of_ble_eq_true rfl) ⟨Nat.le_of_ble_eq_true rfl, Nat.le_of_ble_eq_true rfl⟩ ⟨Nat.le_refl _, Nat.le_refl _⟩ (fun H locs hw => ?_)
    refine lv_goto (tgt := 23) hx hb dX12_game_19 (by decide) ?_
    have hf := Option.some.inj hf
    subst hf
    exact hR _ _ _ _ _ _ hw rfl ⟨rfl, rfl⟩ dX12_game_23
theorem dX12_play_0 : decode cX12_play 0 = .ok (.iload_n 1, 1) := by decide +kernel
theorem dX12_play_1 : decode cX12_play 1 = .ok (.iconst 1, 1) := by decide +kernel
theorem dX12_play_2 : decode cX12_play 2 = .ok (.iconst 4, 1) := by decide +kernel
theorem dX12_play_3 : decode cX12_play 3 = .ok (.invokestatic 71, 3) := by decide +kernel
theorem dX12_play_6 : decode cX12_play 6 = .ok (.ifCond .ne 5, 3) := by decide +kernel
theorem dX12_play_9 : decode cX12_play 9 = .ok (.iconst (-1), 1) := by decide +kernel
theorem dX12_play_10 : decode cX12_play 10 = .ok (.ireturn, 1) := by decide +kernel
theorem dX12_play_11 : decode cX12_play 11 = .ok (.aload_n 0, 1) := by decide +kernel
theorem dX12_play_12 : decode cX12_play 12 = .ok (.invokevirtual 237, 3) := by decide +kernel
theorem dX12_play_15 : decode cX12_play 15 = .ok (.ifCond .eq 6, 3) := by decide +kernel
theorem dX12_play_18 : decode cX12_play 18 = .ok (.bipush (-3), 2) := by decide +kernel
theorem dX12_play_20 : decode cX12_play 20 = .ok (.ireturn, 1) := by decide +kernel
theorem dX12_play_21 : decode cX12_play 21 = .ok (.aload_n 0, 1) := by decide +kernel
theorem dX12_play_22 : decode cX12_play 22 = .ok (.iconst 0, 1) := by decide +kernel
theorem dX12_play_23 : decode cX12_play 23 = .ok (.aload_n 0, 1) := by decide +kernel
theorem dX12_play_24 : decode cX12_play 24 = .ok (.iload_n 1, 1) := by decide +kernel
theorem dX12_play_25 : decode cX12_play 25 = .ok (.invokevirtual 290, 3) := by decide +kernel
theorem dX12_play_28 : decode cX12_play 28 = .ok (.invokevirtual 303, 3) := by decide +kernel
theorem dX12_play_31 : decode cX12_play 31 = .ok (.istore_n 2, 1) := by decide +kernel
theorem dX12_play_32 : decode cX12_play 32 = .ok (.iload_n 2, 1) := by decide +kernel
theorem dX12_play_33 : decode cX12_play 33 = .ok (.ifCond .ge 8, 3) := by decide +kernel
theorem dX12_play_36 : decode cX12_play 36 = .ok (.bipush (-3), 2) := by decide +kernel
theorem dX12_play_38 : decode cX12_play 38 = .ok (.goto 9, 3) := by decide +kernel
theorem dX12_play_41 : decode cX12_play 41 = .ok (.aload_n 0, 1) := by decide +kernel
theorem dX12_play_42 : decode cX12_play 42 = .ok (.getfield 38, 3) := by decide +kernel
theorem dX12_play_45 : decode cX12_play 45 = .ok (.iconst 0, 1) := by decide +kernel
theorem dX12_play_46 : decode cX12_play 46 = .ok (.iaload, 1) := by decide +kernel
theorem dX12_play_47 : decode cX12_play 47 = .ok (.ireturn, 1) := by decide +kernel
theorem k_X12_play : MV yX12_play cX12_play 3 (some .int) 1 := ⟨q_1557, q_1558, q_14, q_1559, ⟨by decide, by decide, by decide +kernel⟩⟩
theorem c_X12_play {res : Int32 × (Nat → Int32) × (Nat → Int32) × (Nat → Int32) × (Nat → Int32)} (hf : X12_play n x_s x_pile x_saved x_plan v1 = some res) : MC l E0 D t yX12_play cX12_play 3 (some .int) 33 0 0 [.ref (a 0), .int v1] (mW a t x_s x_kept x_laid x_isKept x_pile x_tape x_taped x_letters x_at x_begun x_token x_value x_opened x_steps x_code0 x_read x_saved x_plan x_bestPlan x_most x_many x_few x_everRight x_lagThen x_shadedThen x_firstFit x_rows x_rowMany x_sorts x_sizes x_number x_holds x_heldOne x_trace x_traced x_own x_isParted) (Qi res.1 (mW a t res.2.1 x_kept x_laid x_isKept res.2.2.1 x_tape x_taped x_letters x_at x_begun x_token x_value x_opened x_steps x_code0 x_read res.2.2.2.1 res.2.2.2.2 x_bestPlan x_most x_many x_few x_everRight x_lagThen x_shadedThen x_firstFit x_rows x_rowMany x_sorts x_sizes x_number x_holds x_heldOne x_trace x_traced x_own x_isParted)) := by
  unfold X12_play at hf
  refine MC.ofI pn_X12 (Nat.le_of_ble_eq_true rfl) ?_
  intro p e s m args below meth c A Q ls cx hR hw hl
  have hx := cx.1
  have hb := cx.2.1
  have hl : lv_has ls 3 [(0, .ref (a 0)), (1, .int v1)] := hl
  refine lv_iload_n hx hb dX12_play_0 rfl (lv_at hl 1 rfl) ?_
  refine lv_iconst (v := 1) hx hb dX12_play_1 (by decide) ?_
  refine lv_iconst (v := 4) hx hb dX12_play_2 (by decide) ?_
  refine calSi cx hw hl.1 (c_X12_in1 rfl) q_1214 k_X12_in1 rfl dX12_play_3 rfl (Nat.le_of_ble_eq_true rfl) ⟨Nat.le_of_ble_eq_true rfl, Nat.le_of_ble_eq_true rfl⟩ ⟨Nat.le_refl _, Nat.le_refl _⟩ (fun H locs hw => ?_)
  refine lv_if_ne (tgt := 11) hx hb dX12_play_6 (by decide) (fun hc => ?_) (fun hc => ?_)
  · have hf := ifF hf hc
    refine lv_aload_n hx hb dX12_play_11 rfl (lv_at hl 0 rfl) ?_
    refine calVi (k := 0) cx hw hl.1 (c_X12_isOver rfl) q_1395 k_X12_isOver rfl rfl rfl dX12_play_12 rfl (Nat.le_of_ble_eq_true rfl) ⟨Nat.le_of_ble_eq_true rfl, Nat.le_of_ble_eq_true rfl⟩ ⟨Nat.le_refl _, Nat.le_refl _⟩ (fun H locs hw => ?_)
    refine lv_if_eq (tgt := 21) hx hb dX12_play_15 (by decide) (fun hc => ?_) (fun hc => ?_)
    · have hf := ifT hf hc
      refine lv_aload_n hx hb dX12_play_21 rfl (lv_at hl 0 rfl) ?_
      refine lv_iconst (v := 0) hx hb dX12_play_22 (by decide) ?_
      refine lv_aload_n hx hb dX12_play_23 rfl (lv_at hl 0 rfl) ?_
      refine lv_iload_n hx hb dX12_play_24 rfl (lv_at hl 1 rfl) ?_
      refine calVi (k := 0) cx hw hl.1 (c_X12_daysOf rfl) q_1508 k_X12_daysOf rfl rfl rfl dX12_play_25 rfl (Nat.le_of_ble_eq_true rfl) ⟨Nat.le_of_ble_eq_true rfl, Nat.le_of_ble_eq_true rfl⟩ ⟨Nat.le_refl _, Nat.le_refl _⟩ (fun H locs hw => ?_)
      obtain ⟨r1, h2, hf⟩ := bnS hf
      refine calVi (k := 0) cx hw hl.1 (c_X12_playedFrom h2) q_1552 k_X12_playedFrom rfl rfl rfl dX12_play_28 rfl (Nat.le_of_ble_eq_true rfl) ⟨Nat.le_of_ble_eq_true rfl, Nat.le_of_ble_eq_true rfl⟩ ⟨Nat.le_refl _, Nat.le_refl _⟩ (fun H locs hw => ?_)
      refine lv_istore_n (lv' := [(2, .int r1.1), (0, .ref (a 0)), (1, .int v1)]) hx hb dX12_play_31 rfl hl (by decide) rfl (fun ls hl => ?_)
      refine lv_iload_n hx hb dX12_play_32 rfl (lv_at hl 0 rfl) ?_
      refine lv_if_ge (tgt := 41) hx hb dX12_play_33 (by decide) (fun hc => ?_) (fun hc => ?_)
      · have hf := ifT hf hc
        refine lv_aload_n hx hb dX12_play_41 rfl (lv_at hl 1 rfl) ?_
        refine mg_plan cx hw dX12_play_42 ?_
        refine lv_iconst (v := 0) hx hb dX12_play_45 (by decide) ?_
        refine ml_plan (j := 0) cx hw (ib_in (by decide)) (by decide) dX12_play_46 ?_
        have hf := Option.some.inj hf
        subst hf
        exact hR _ _ _ _ _ _ hw rfl ⟨rfl, rfl⟩ dX12_play_47
      · have hf := ifF hf hc
        refine lv_bipush (v := (-3)) hx hb dX12_play_36 (by decide) ?_
        refine lv_goto (tgt := 47) hx hb dX12_play_38 (by decide) ?_
        have hf := Option.some.inj hf
        subst hf
        exact hR _ _ _ _ _ _ hw rfl ⟨rfl, rfl⟩ dX12_play_47
    · have hf := ifF hf hc
      refine lv_bipush (v := (-3)) hx hb dX12_play_18 (by decide) ?_
      have hf := Option.some.inj hf
      subst hf
      exact hR _ _ _ _ _ _ hw rfl ⟨rfl, rfl⟩ dX12_play_20
  · have hf := ifT hf hc
    refine lv_iconst (v := (-1)) hx hb dX12_play_9 (by decide) ?_
    have hf := Option.some.inj hf
    subst hf
    exact hR _ _ _ _ _ _ hw rfl ⟨rfl, rfl⟩ dX12_play_10
theorem dX12_report_0 : decode cX12_report 0 = .ok (.bipush 99, 2) := by decide +kernel
theorem dX12_report_2 : decode cX12_report 2 = .ok (.istore 5, 2) := by decide +kernel
theorem dX12_report_4 : decode cX12_report 4 = .ok (.iload_n 1, 1) := by decide +kernel
theorem dX12_report_5 : decode cX12_report 5 = .ok (.iconst 0, 1) := by decide +kernel
theorem dX12_report_6 : decode cX12_report 6 = .ok (.bipush 15, 2) := by decide +kernel
theorem dX12_report_8 : decode cX12_report 8 = .ok (.invokestatic 71, 3) := by decide +kernel
theorem dX12_report_11 : decode cX12_report 11 = .ok (.ifCond .eq 33, 3) := by decide +kernel
theorem dX12_report_14 : decode cX12_report 14 = .ok (.iload_n 2, 1) := by decide +kernel
theorem dX12_report_15 : decode cX12_report 15 = .ok (.iconst 0, 1) := by decide +kernel
theorem dX12_report_16 : decode cX12_report 16 = .ok (.iconst 1, 1) := by decide +kernel
theorem dX12_report_17 : decode cX12_report 17 = .ok (.invokestatic 71, 3) := by decide +kernel
theorem dX12_report_20 : decode cX12_report 20 = .ok (.ifCond .eq 24, 3) := by decide +kernel
theorem dX12_report_23 : decode cX12_report 23 = .ok (.iload_n 3, 1) := by decide +kernel
theorem dX12_report_24 : decode cX12_report 24 = .ok (.iconst 0, 1) := by decide +kernel
theorem dX12_report_25 : decode cX12_report 25 = .ok (.iload 5, 2) := by decide +kernel
theorem dX12_report_27 : decode cX12_report 27 = .ok (.invokestatic 71, 3) := by decide +kernel
theorem dX12_report_30 : decode cX12_report 30 = .ok (.ifCond .eq 14, 3) := by decide +kernel
theorem dX12_report_33 : decode cX12_report 33 = .ok (.iload 4, 2) := by decide +kernel
theorem dX12_report_35 : decode cX12_report 35 = .ok (.iload_n 3, 1) := by decide +kernel
theorem dX12_report_36 : decode cX12_report 36 = .ok (.iload 5, 2) := by decide +kernel
theorem dX12_report_38 : decode cX12_report 38 = .ok (.invokestatic 71, 3) := by decide +kernel
theorem dX12_report_41 : decode cX12_report 41 = .ok (.ifCond .ne 5, 3) := by decide +kernel
theorem dX12_report_44 : decode cX12_report 44 = .ok (.iconst (-1), 1) := by decide +kernel
theorem dX12_report_45 : decode cX12_report 45 = .ok (.ireturn, 1) := by decide +kernel
theorem dX12_report_46 : decode cX12_report 46 = .ok (.aload_n 0, 1) := by decide +kernel
theorem dX12_report_47 : decode cX12_report 47 = .ok (.getfield 9, 3) := by decide +kernel
theorem dX12_report_50 : decode cX12_report 50 = .ok (.bipush 6, 2) := by decide +kernel
theorem dX12_report_52 : decode cX12_report 52 = .ok (.iaload, 1) := by decide +kernel
theorem dX12_report_53 : decode cX12_report 53 = .ok (.bipush 6, 2) := by decide +kernel
theorem dX12_report_55 : decode cX12_report 55 = .ok (.if_icmp .ne 6, 3) := by decide +kernel
theorem dX12_report_58 : decode cX12_report 58 = .ok (.bipush (-2), 2) := by decide +kernel
theorem dX12_report_60 : decode cX12_report 60 = .ok (.ireturn, 1) := by decide +kernel
theorem dX12_report_61 : decode cX12_report 61 = .ok (.bipush 65, 2) := by decide +kernel
theorem dX12_report_63 : decode cX12_report 63 = .ok (.iconst 4, 1) := by decide +kernel
theorem dX12_report_64 : decode cX12_report 64 = .ok (.aload_n 0, 1) := by decide +kernel
theorem dX12_report_65 : decode cX12_report 65 = .ok (.getfield 9, 3) := by decide +kernel
theorem dX12_report_68 : decode cX12_report 68 = .ok (.bipush 6, 2) := by decide +kernel
theorem dX12_report_70 : decode cX12_report 70 = .ok (.iaload, 1) := by decide +kernel
theorem dX12_report_71 : decode cX12_report 71 = .ok (.imul, 1) := by decide +kernel
theorem dX12_report_72 : decode cX12_report 72 = .ok (.iadd, 1) := by decide +kernel
theorem dX12_report_73 : decode cX12_report 73 = .ok (.istore 6, 2) := by decide +kernel
theorem dX12_report_75 : decode cX12_report 75 = .ok (.aload_n 0, 1) := by decide +kernel
theorem dX12_report_76 : decode cX12_report 76 = .ok (.getfield 9, 3) := by decide +kernel
theorem dX12_report_79 : decode cX12_report 79 = .ok (.iload 6, 2) := by decide +kernel
theorem dX12_report_81 : decode cX12_report 81 = .ok (.iload_n 1, 1) := by decide +kernel
theorem dX12_report_82 : decode cX12_report 82 = .ok (.iastore, 1) := by decide +kernel
theorem dX12_report_83 : decode cX12_report 83 = .ok (.aload_n 0, 1) := by decide +kernel
theorem dX12_report_84 : decode cX12_report 84 = .ok (.getfield 9, 3) := by decide +kernel
theorem dX12_report_87 : decode cX12_report 87 = .ok (.iload 6, 2) := by decide +kernel
theorem dX12_report_89 : decode cX12_report 89 = .ok (.iconst 1, 1) := by decide +kernel
theorem dX12_report_90 : decode cX12_report 90 = .ok (.iadd, 1) := by decide +kernel
theorem dX12_report_91 : decode cX12_report 91 = .ok (.iload_n 2, 1) := by decide +kernel
theorem dX12_report_92 : decode cX12_report 92 = .ok (.iastore, 1) := by decide +kernel
theorem dX12_report_93 : decode cX12_report 93 = .ok (.aload_n 0, 1) := by decide +kernel
theorem dX12_report_94 : decode cX12_report 94 = .ok (.getfield 9, 3) := by decide +kernel
theorem dX12_report_97 : decode cX12_report 97 = .ok (.iload 6, 2) := by decide +kernel
theorem dX12_report_99 : decode cX12_report 99 = .ok (.iconst 2, 1) := by decide +kernel
theorem dX12_report_100 : decode cX12_report 100 = .ok (.iadd, 1) := by decide +kernel
theorem dX12_report_101 : decode cX12_report 101 = .ok (.iload_n 3, 1) := by decide +kernel
theorem dX12_report_102 : decode cX12_report 102 = .ok (.iastore, 1) := by decide +kernel
theorem dX12_report_103 : decode cX12_report 103 = .ok (.aload_n 0, 1) := by decide +kernel
theorem dX12_report_104 : decode cX12_report 104 = .ok (.getfield 9, 3) := by decide +kernel
theorem dX12_report_107 : decode cX12_report 107 = .ok (.iload 6, 2) := by decide +kernel
theorem dX12_report_109 : decode cX12_report 109 = .ok (.iconst 3, 1) := by decide +kernel
theorem dX12_report_110 : decode cX12_report 110 = .ok (.iadd, 1) := by decide +kernel
theorem dX12_report_111 : decode cX12_report 111 = .ok (.iload 4, 2) := by decide +kernel
theorem dX12_report_113 : decode cX12_report 113 = .ok (.iastore, 1) := by decide +kernel
theorem dX12_report_114 : decode cX12_report 114 = .ok (.aload_n 0, 1) := by decide +kernel
theorem dX12_report_115 : decode cX12_report 115 = .ok (.getfield 9, 3) := by decide +kernel
theorem dX12_report_118 : decode cX12_report 118 = .ok (.bipush 6, 2) := by decide +kernel
theorem dX12_report_120 : decode cX12_report 120 = .ok (.dup2, 1) := by decide +kernel
theorem dX12_report_121 : decode cX12_report 121 = .ok (.iaload, 1) := by decide +kernel
theorem dX12_report_122 : decode cX12_report 122 = .ok (.iconst 1, 1) := by decide +kernel
theorem dX12_report_123 : decode cX12_report 123 = .ok (.iadd, 1) := by decide +kernel
theorem dX12_report_124 : decode cX12_report 124 = .ok (.iastore, 1) := by decide +kernel
theorem dX12_report_125 : decode cX12_report 125 = .ok (.aload_n 0, 1) := by decide +kernel
theorem dX12_report_126 : decode cX12_report 126 = .ok (.getfield 9, 3) := by decide +kernel
theorem dX12_report_129 : decode cX12_report 129 = .ok (.bipush 6, 2) := by decide +kernel
theorem dX12_report_131 : decode cX12_report 131 = .ok (.iaload, 1) := by decide +kernel
theorem dX12_report_132 : decode cX12_report 132 = .ok (.iconst 1, 1) := by decide +kernel
theorem dX12_report_133 : decode cX12_report 133 = .ok (.isub, 1) := by decide +kernel
theorem dX12_report_134 : decode cX12_report 134 = .ok (.ireturn, 1) := by decide +kernel
theorem k_X12_report : MV yX12_report cX12_report 7 (some .int) 4 := ⟨q_1561, q_1562, q_14, q_1563, ⟨by decide, by decide, by decide +kernel⟩⟩
theorem c_X12_report {res : Int32 × (Nat → Int32)} (hf : X12_report x_s v1 v2 v3 v4 = some res) : MC l E0 D t yX12_report cX12_report 7 (some .int) 2 0 0 [.ref (a 0), .int v1, .int v2, .int v3, .int v4] (mW a t x_s x_kept x_laid x_isKept x_pile x_tape x_taped x_letters x_at x_begun x_token x_value x_opened x_steps x_code0 x_read x_saved x_plan x_bestPlan x_most x_many x_few x_everRight x_lagThen x_shadedThen x_firstFit x_rows x_rowMany x_sorts x_sizes x_number x_holds x_heldOne x_trace x_traced x_own x_isParted) (Qi res.1 (mW a t res.2 x_kept x_laid x_isKept x_pile x_tape x_taped x_letters x_at x_begun x_token x_value x_opened x_steps x_code0 x_read x_saved x_plan x_bestPlan x_most x_many x_few x_everRight x_lagThen x_shadedThen x_firstFit x_rows x_rowMany x_sorts x_sizes x_number x_holds x_heldOne x_trace x_traced x_own x_isParted)) := by
  unfold X12_report at hf
  refine MC.ofI pn_X12 (Nat.le_of_ble_eq_true rfl) ?_
  intro p e s m args below meth c A Q ls cx hR hw hl
  have hx := cx.1
  have hb := cx.2.1
  have hl : lv_has ls 7 [(0, .ref (a 0)), (1, .int v1), (2, .int v2), (3, .int v3), (4, .int v4)] := hl
  refine lv_bipush (v := 99) hx hb dX12_report_0 (by decide) ?_
  refine lv_istore (lv' := [(5, .int (99 : Int32)), (0, .ref (a 0)), (1, .int v1), (2, .int v2), (3, .int v3), (4, .int v4)]) hx hb dX12_report_2 hl (by decide) rfl (fun ls hl => ?_)
  refine lv_iload_n hx hb dX12_report_4 rfl (lv_at hl 2 rfl) ?_
  refine lv_iconst (v := 0) hx hb dX12_report_5 (by decide) ?_
  refine lv_bipush (v := 15) hx hb dX12_report_6 (by decide) ?_
  refine calSi cx hw hl.1 (c_X12_in1 rfl) q_1214 k_X12_in1 rfl dX12_report_8 rfl (Nat.le_of_ble_eq_true rfl) ⟨Nat.le_of_ble_eq_true rfl, Nat.le_of_ble_eq_true rfl⟩ ⟨Nat.le_refl _, Nat.le_refl _⟩ (fun H locs hw => ?_)
  refine lv_if_eq (tgt := 44) hx hb dX12_report_11 (by decide) (fun hc => ?_) (fun hc => ?_)
  · have hf := ifT hf hc
    refine lv_iconst (v := (-1)) hx hb dX12_report_44 (by decide) ?_
    have hf := Option.some.inj hf
    subst hf
    exact hR _ _ _ _ _ _ hw rfl ⟨rfl, rfl⟩ dX12_report_45
  · have hf := ifF hf hc
    refine lv_iload_n hx hb dX12_report_14 rfl (lv_at hl 3 rfl) ?_
    refine lv_iconst (v := 0) hx hb dX12_report_15 (by decide) ?_
    refine lv_iconst (v := 1) hx hb dX12_report_16 (by decide) ?_
    refine calSi cx hw hl.1 (c_X12_in1 rfl) q_1214 k_X12_in1 rfl dX12_report_17 rfl (Nat.le_of_ble_eq_true rfl) ⟨Nat.le_of_ble_eq_true rfl, Nat.le_of_ble_eq_true rfl⟩ ⟨Nat.le_refl _, Nat.le_refl _⟩ (fun H locs hw => ?_)
    refine lv_if_eq (tgt := 44) hx hb dX12_report_20 (by decide) (fun hc => ?_) (fun hc => ?_)
    · have hf := ifT hf hc
      refine lv_iconst (v := (-1)) hx hb dX12_report_44 (by decide) ?_
      have hf := Option.some.inj hf
      subst hf
      exact hR _ _ _ _ _ _ hw rfl ⟨rfl, rfl⟩ dX12_report_45
    · have hf := ifF hf hc
      refine lv_iload_n hx hb dX12_report_23 rfl (lv_at hl 4 rfl) ?_
      refine lv_iconst (v := 0) hx hb dX12_report_24 (by decide) ?_
      refine lv_iload hx hb dX12_report_25 (lv_at hl 0 rfl) ?_
      refine calSi cx hw hl.1 (c_X12_in1 rfl) q_1214 k_X12_in1 rfl dX12_report_27 rfl (Nat.le_of_ble_eq_true rfl) ⟨Nat.le_of_ble_eq_true rfl, Nat.le_of_ble_eq_true rfl⟩ ⟨Nat.le_refl _, Nat.le_refl _⟩ (fun H locs hw => ?_)
      refine lv_if_eq (tgt := 44) hx hb dX12_report_30 (by decide) (fun hc => ?_) (fun hc => ?_)
      · have hf := ifT hf hc
        refine lv_iconst (v := (-1)) hx hb dX12_report_44 (by decide) ?_
        have hf := Option.some.inj hf
        subst hf
        exact hR _ _ _ _ _ _ hw rfl ⟨rfl, rfl⟩ dX12_report_45
      · have hf := ifF hf hc
        refine lv_iload hx hb dX12_report_33 (lv_at hl 5 rfl) ?_
        refine lv_iload_n hx hb dX12_report_35 rfl (lv_at hl 4 rfl) ?_
        refine lv_iload hx hb dX12_report_36 (lv_at hl 0 rfl) ?_
        refine calSi cx hw hl.1 (c_X12_in1 rfl) q_1214 k_X12_in1 rfl dX12_report_38 rfl (Nat.le_of_ble_eq_true rfl) ⟨Nat.le_of_ble_eq_true rfl, Nat.le_of_ble_eq_true rfl⟩ ⟨Nat.le_refl _, Nat.le_refl _⟩ (fun H locs hw => ?_)
        refine lv_if_ne (tgt := 46) hx hb dX12_report_41 (by decide) (fun hc => ?_) (fun hc => ?_)
        · have hf := ifF hf hc
          refine lv_aload_n hx hb dX12_report_46 rfl (lv_at hl 1 rfl) ?_
          refine mg_s cx hw dX12_report_47 ?_
          refine lv_bipush (v := 6) hx hb dX12_report_50 (by decide) ?_
          refine ml_s (j := 6) cx hw (ib_in (by decide)) (by decide) dX12_report_52 ?_
          refine lv_bipush (v := 6) hx hb dX12_report_53 (by decide) ?_
          refine lv_icmp_ne (tgt := 61) hx hb dX12_report_55 (by decide) (fun hc => ?_) (fun hc => ?_)
          · have hf := ifF hf hc
            refine lv_bipush (v := 65) hx hb dX12_report_61 (by decide) ?_
            refine lv_iconst (v := 4) hx hb dX12_report_63 (by decide) ?_
            refine lv_aload_n hx hb dX12_report_64 rfl (lv_at hl 1 rfl) ?_
            refine mg_s cx hw dX12_report_65 ?_
            refine lv_bipush (v := 6) hx hb dX12_report_68 (by decide) ?_
            refine ml_s (j := 6) cx hw (ib_in (by decide)) (by decide) dX12_report_70 ?_
            refine lv_imul hx hb dX12_report_71 ?_
            refine lv_iadd hx hb dX12_report_72 ?_
            refine lv_istore (lv' := [(6, .int ((65 : Int32) + ((4 : Int32) * (x_s 6)))), (5, .int (99 : Int32)), (0, .ref (a 0)), (1, .int v1), (2, .int v2), (3, .int v3), (4, .int v4)]) hx hb dX12_report_73 hl (by decide) rfl (fun ls hl => ?_)
            refine lv_aload_n hx hb dX12_report_75 rfl (lv_at hl 2 rfl) ?_
            refine mg_s cx hw dX12_report_76 ?_
            refine lv_iload hx hb dX12_report_79 (lv_at hl 0 rfl) ?_
            refine lv_iload_n hx hb dX12_report_81 rfl (lv_at hl 3 rfl) ?_
            obtain ⟨h1, hf⟩ := ckS hf
            refine ms_s (j := ((65 : Int32) + ((4 : Int32) * (x_s 6))).toNatClampNeg) cx hw (ib_in h1) rfl dX12_report_82 (fun H locs hw => ?_)
            refine lv_aload_n hx hb dX12_report_83 rfl (lv_at hl 2 rfl) ?_
            refine mg_s cx hw dX12_report_84 ?_
            refine lv_iload hx hb dX12_report_87 (lv_at hl 0 rfl) ?_
            refine lv_iconst (v := 1) hx hb dX12_report_89 (by decide) ?_
            refine lv_iadd hx hb dX12_report_90 ?_
            refine lv_iload_n hx hb dX12_report_91 rfl (lv_at hl 4 rfl) ?_
            obtain ⟨h2, hf⟩ := ckS hf
            refine ms_s (j := (((65 : Int32) + ((4 : Int32) * (x_s 6))) + (1 : Int32)).toNatClampNeg) cx hw (ib_in h2) rfl dX12_report_92 (fun H locs hw => ?_)
            refine lv_aload_n hx hb dX12_report_93 rfl (lv_at hl 2 rfl) ?_
            refine mg_s cx hw dX12_report_94 ?_
            refine lv_iload hx hb dX12_report_97 (lv_at hl 0 rfl) ?_
            refine lv_iconst (v := 2) hx hb dX12_report_99 (by decide) ?_
            refine lv_iadd hx hb dX12_report_100 ?_
            refine lv_iload_n hx hb dX12_report_101 rfl (lv_at hl 5 rfl) ?_
            obtain ⟨h3, hf⟩ := ckS hf
            refine ms_s (j := (((65 : Int32) + ((4 : Int32) * (x_s 6))) + (2 : Int32)).toNatClampNeg) cx hw (ib_in h3) rfl dX12_report_102 (fun H locs hw => ?_)
            refine lv_aload_n hx hb dX12_report_103 rfl (lv_at hl 2 rfl) ?_
            refine mg_s cx hw dX12_report_104 ?_
            refine lv_iload hx hb dX12_report_107 (lv_at hl 0 rfl) ?_
            refine lv_iconst (v := 3) hx hb dX12_report_109 (by decide) ?_
            refine lv_iadd hx hb dX12_report_110 ?_
            refine lv_iload hx hb dX12_report_111 (lv_at hl 6 rfl) ?_
            obtain ⟨h4, hf⟩ := ckS hf
            refine ms_s (j := (((65 : Int32) + ((4 : Int32) * (x_s 6))) + (3 : Int32)).toNatClampNeg) cx hw (ib_in h4) rfl dX12_report_113 (fun H locs hw => ?_)
            refine lv_aload_n hx hb dX12_report_114 rfl (lv_at hl 2 rfl) ?_
            refine mg_s cx hw dX12_report_115 ?_
            refine lv_bipush (v := 6) hx hb dX12_report_118 (by decide) ?_
            refine lv_dup2_11 hx hb dX12_report_120 rfl rfl ?_
            refine ml_s (j := 6) cx hw (ib_in (by decide)) (by decide) dX12_report_121 ?_
            refine lv_iconst (v := 1) hx hb dX12_report_122 (by decide) ?_
            refine lv_iadd hx hb dX12_report_123 ?_
            refine ms_s (j := 6) cx hw (ib_in (by decide)) (by decide) dX12_report_124 (fun H locs hw => ?_)
            refine lv_aload_n hx hb dX12_report_125 rfl (lv_at hl 2 rfl) ?_
            refine mg_s cx hw dX12_report_126 ?_
            refine lv_bipush (v := 6) hx hb dX12_report_129 (by decide) ?_
            refine ml_s (j := 6) cx hw (ib_in (by decide)) (by decide) dX12_report_131 ?_
            refine lv_iconst (v := 1) hx hb dX12_report_132 (by decide) ?_
            refine lv_isub hx hb dX12_report_133 ?_
            have hf := Option.some.inj hf
            subst hf
            exact hR _ _ _ _ _ _ hw rfl ⟨rfl, rfl⟩ dX12_report_134
          · have hf := ifT hf hc
            refine lv_bipush (v := (-2)) hx hb dX12_report_58 (by decide) ?_
            have hf := Option.some.inj hf
            subst hf
            exact hR _ _ _ _ _ _ hw rfl ⟨rfl, rfl⟩ dX12_report_60
        · have hf := ifT hf hc
          refine lv_iconst (v := (-1)) hx hb dX12_report_44 (by decide) ?_
          have hf := Option.some.inj hf
          subst hf
          exact hR _ _ _ _ _ _ hw rfl ⟨rfl, rfl⟩ dX12_report_45
theorem dX12_forget_0 : decode cX12_forget 0 = .ok (.aload_n 0, 1) := by decide +kernel
theorem dX12_forget_1 : decode cX12_forget 1 = .ok (.bipush 6, 2) := by decide +kernel
theorem dX12_forget_3 : decode cX12_forget 3 = .ok (.iconst 0, 1) := by decide +kernel
theorem dX12_forget_4 : decode cX12_forget 4 = .ok (.invokevirtual 234, 3) := by decide +kernel
theorem dX12_forget_7 : decode cX12_forget 7 = .ok (.ireturn, 1) := by decide +kernel
theorem k_X12_forget : MV yX12_forget cX12_forget 1 (some .int) 0 := ⟨q_1565, q_1566, q_14, q_1567, ⟨by decide, by decide, by decide +kernel⟩⟩
theorem c_X12_forget {res : Int32 × (Nat → Int32)} (hf : X12_forget x_s = some res) : MC l E0 D t yX12_forget cX12_forget 1 (some .int) 2 0 0 [.ref (a 0)] (mW a t x_s x_kept x_laid x_isKept x_pile x_tape x_taped x_letters x_at x_begun x_token x_value x_opened x_steps x_code0 x_read x_saved x_plan x_bestPlan x_most x_many x_few x_everRight x_lagThen x_shadedThen x_firstFit x_rows x_rowMany x_sorts x_sizes x_number x_holds x_heldOne x_trace x_traced x_own x_isParted) (Qi res.1 (mW a t res.2 x_kept x_laid x_isKept x_pile x_tape x_taped x_letters x_at x_begun x_token x_value x_opened x_steps x_code0 x_read x_saved x_plan x_bestPlan x_most x_many x_few x_everRight x_lagThen x_shadedThen x_firstFit x_rows x_rowMany x_sorts x_sizes x_number x_holds x_heldOne x_trace x_traced x_own x_isParted)) := by
  unfold X12_forget at hf
  refine MC.ofI pn_X12 (Nat.le_of_ble_eq_true rfl) ?_
  intro p e s m args below meth c A Q ls cx hR hw hl
  have hx := cx.1
  have hb := cx.2.1
  have hl : lv_has ls 1 [(0, .ref (a 0))] := hl
  refine lv_aload_n hx hb dX12_forget_0 rfl (lv_at hl 0 rfl) ?_
  refine lv_bipush (v := 6) hx hb dX12_forget_1 (by decide) ?_
  refine lv_iconst (v := 0) hx hb dX12_forget_3 (by decide) ?_
  obtain ⟨r1, h2, hf⟩ := bnS hf
  refine calVi (k := 0) cx hw hl.1 (c_X12_becomes h2) q_1363 k_X12_becomes rfl rfl rfl dX12_forget_4 rfl (Nat.le_of_ble_eq_true rfl) ⟨Nat.le_of_ble_eq_true rfl, Nat.le_of_ble_eq_true rfl⟩ ⟨Nat.le_refl _, Nat.le_refl _⟩ (fun H locs hw => ?_)
  have hf := Option.some.inj hf
  subst hf
  exact hR _ _ _ _ _ _ hw rfl ⟨rfl, rfl⟩ dX12_forget_7
theorem dX12_tellsLone_0 : decode cX12_tellsLone 0 = .ok (.iload_n 3, 1) := by decide +kernel
theorem dX12_tellsLone_1 : decode cX12_tellsLone 1 = .ok (.istore 4, 2) := by decide +kernel
theorem dX12_tellsLone_3 : decode cX12_tellsLone 3 = .ok (.iconst 0, 1) := by decide +kernel
theorem dX12_tellsLone_4 : decode cX12_tellsLone 4 = .ok (.istore 5, 2) := by decide +kernel
theorem dX12_tellsLone_6 : decode cX12_tellsLone 6 = .ok (.iconst 0, 1) := by decide +kernel
theorem dX12_tellsLone_7 : decode cX12_tellsLone 7 = .ok (.istore 6, 2) := by decide +kernel
theorem dX12_tellsLone_9 : decode cX12_tellsLone 9 = .ok (.iload 6, 2) := by decide +kernel
theorem dX12_tellsLone_11 : decode cX12_tellsLone 11 = .ok (.bipush 16, 2) := by decide +kernel
theorem dX12_tellsLone_13 : decode cX12_tellsLone 13 = .ok (.if_icmp .ge 78, 3) := by decide +kernel
theorem dX12_tellsLone_16 : decode cX12_tellsLone 16 = .ok (.aload_n 0, 1) := by decide +kernel
theorem dX12_tellsLone_17 : decode cX12_tellsLone 17 = .ok (.getfield 44, 3) := by decide +kernel
theorem dX12_tellsLone_20 : decode cX12_tellsLone 20 = .ok (.iload 6, 2) := by decide +kernel
theorem dX12_tellsLone_22 : decode cX12_tellsLone 22 = .ok (.iload 4, 2) := by decide +kernel
theorem dX12_tellsLone_24 : decode cX12_tellsLone 24 = .ok (.iastore, 1) := by decide +kernel
theorem dX12_tellsLone_25 : decode cX12_tellsLone 25 = .ok (.aload_n 0, 1) := by decide +kernel
theorem dX12_tellsLone_26 : decode cX12_tellsLone 26 = .ok (.getfield 47, 3) := by decide +kernel
theorem dX12_tellsLone_29 : decode cX12_tellsLone 29 = .ok (.iload 6, 2) := by decide +kernel
theorem dX12_tellsLone_31 : decode cX12_tellsLone 31 = .ok (.iload 5, 2) := by decide +kernel
theorem dX12_tellsLone_33 : decode cX12_tellsLone 33 = .ok (.iastore, 1) := by decide +kernel
theorem dX12_tellsLone_34 : decode cX12_tellsLone 34 = .ok (.aload_n 0, 1) := by decide +kernel
theorem dX12_tellsLone_35 : decode cX12_tellsLone 35 = .ok (.getfield 9, 3) := by decide +kernel
theorem dX12_tellsLone_38 : decode cX12_tellsLone 38 = .ok (.bipush 7, 2) := by decide +kernel
theorem dX12_tellsLone_40 : decode cX12_tellsLone 40 = .ok (.iload 6, 2) := by decide +kernel
theorem dX12_tellsLone_42 : decode cX12_tellsLone 42 = .ok (.iadd, 1) := by decide +kernel
theorem dX12_tellsLone_43 : decode cX12_tellsLone 43 = .ok (.iaload, 1) := by decide +kernel
theorem dX12_tellsLone_44 : decode cX12_tellsLone 44 = .ok (.istore 7, 2) := by decide +kernel
theorem dX12_tellsLone_46 : decode cX12_tellsLone 46 = .ok (.iload 5, 2) := by decide +kernel
theorem dX12_tellsLone_48 : decode cX12_tellsLone 48 = .ok (.iload_n 1, 1) := by decide +kernel
theorem dX12_tellsLone_49 : decode cX12_tellsLone 49 = .ok (.iload 7, 2) := by decide +kernel
theorem dX12_tellsLone_51 : decode cX12_tellsLone 51 = .ok (.iconst 4, 1) := by decide +kernel
theorem dX12_tellsLone_52 : decode cX12_tellsLone 52 = .ok (.idiv, 1) := by decide +kernel
theorem dX12_tellsLone_53 : decode cX12_tellsLone 53 = .ok (.iload 6, 2) := by decide +kernel
theorem dX12_tellsLone_55 : decode cX12_tellsLone 55 = .ok (.invokestatic 87, 3) := by decide +kernel
theorem dX12_tellsLone_58 : decode cX12_tellsLone 58 = .ok (.iadd, 1) := by decide +kernel
theorem dX12_tellsLone_59 : decode cX12_tellsLone 59 = .ok (.bipush 99, 2) := by decide +kernel
theorem dX12_tellsLone_61 : decode cX12_tellsLone 61 = .ok (.invokestatic 222, 3) := by decide +kernel
theorem dX12_tellsLone_64 : decode cX12_tellsLone 64 = .ok (.istore 5, 2) := by decide +kernel
theorem dX12_tellsLone_66 : decode cX12_tellsLone 66 = .ok (.iload 4, 2) := by decide +kernel
theorem dX12_tellsLone_68 : decode cX12_tellsLone 68 = .ok (.iload_n 1, 1) := by decide +kernel
theorem dX12_tellsLone_69 : decode cX12_tellsLone 69 = .ok (.iload_n 2, 1) := by decide +kernel
theorem dX12_tellsLone_70 : decode cX12_tellsLone 70 = .ok (.iload 7, 2) := by decide +kernel
theorem dX12_tellsLone_72 : decode cX12_tellsLone 72 = .ok (.iconst 4, 1) := by decide +kernel
theorem dX12_tellsLone_73 : decode cX12_tellsLone 73 = .ok (.irem, 1) := by decide +kernel
theorem dX12_tellsLone_74 : decode cX12_tellsLone 74 = .ok (.invokestatic 97, 3) := by decide +kernel
theorem dX12_tellsLone_77 : decode cX12_tellsLone 77 = .ok (.iadd, 1) := by decide +kernel
theorem dX12_tellsLone_78 : decode cX12_tellsLone 78 = .ok (.bipush 99, 2) := by decide +kernel
theorem dX12_tellsLone_80 : decode cX12_tellsLone 80 = .ok (.invokestatic 222, 3) := by decide +kernel
theorem dX12_tellsLone_83 : decode cX12_tellsLone 83 = .ok (.istore 4, 2) := by decide +kernel
theorem dX12_tellsLone_85 : decode cX12_tellsLone 85 = .ok (.iinc 6 1, 3) := by decide +kernel
theorem dX12_tellsLone_88 : decode cX12_tellsLone 88 = .ok (.goto (-79), 3) := by decide +kernel
theorem dX12_tellsLone_91 : decode cX12_tellsLone 91 = .ok (.return_, 1) := by decide +kernel
theorem k_X12_tellsLone : MV yX12_tellsLone cX12_tellsLone 8 none 3 := ⟨q_1578, qs_82, q_14, q_1579, ⟨by decide, by decide, by decide +kernel⟩⟩
theorem c_X12_tellsLone {res : (Nat → Int32) × (Nat → Int32)} (hf : X12_tellsLone n x_s x_lagThen x_shadedThen v1 v2 v3 = some res) : MC l E0 D t yX12_tellsLone cX12_tellsLone 8 none 2 0 0 [.ref (a 0), .int v1, .int v2, .int v3] (mW a t x_s x_kept x_laid x_isKept x_pile x_tape x_taped x_letters x_at x_begun x_token x_value x_opened x_steps x_code0 x_read x_saved x_plan x_bestPlan x_most x_many x_few x_everRight x_lagThen x_shadedThen x_firstFit x_rows x_rowMany x_sorts x_sizes x_number x_holds x_heldOne x_trace x_traced x_own x_isParted) (Qn (mW a t x_s x_kept x_laid x_isKept x_pile x_tape x_taped x_letters x_at x_begun x_token x_value x_opened x_steps x_code0 x_read x_saved x_plan x_bestPlan x_most x_many x_few x_everRight res.1 res.2 x_firstFit x_rows x_rowMany x_sorts x_sizes x_number x_holds x_heldOne x_trace x_traced x_own x_isParted)) := by
  unfold X12_tellsLone at hf
  refine MC.ofV pn_X12 (Nat.le_of_ble_eq_true rfl) ?_
  intro p e s m args below meth c A Q ls cx hR hw hl
  have hx := cx.1
  have hb := cx.2.1
  have hl : lv_has ls 8 [(0, .ref (a 0)), (1, .int v1), (2, .int v2), (3, .int v3)] := hl
  refine lv_iload_n hx hb dX12_tellsLone_0 rfl (lv_at hl 3 rfl) ?_
  refine lv_istore (lv' := [(4, .int v3), (0, .ref (a 0)), (1, .int v1), (2, .int v2), (3, .int v3)]) hx hb dX12_tellsLone_1 hl (by decide) rfl (fun ls hl => ?_)
  refine lv_iconst (v := 0) hx hb dX12_tellsLone_3 (by decide) ?_
  refine lv_istore (lv' := [(5, .int (0 : Int32)), (4, .int v3), (0, .ref (a 0)), (1, .int v1), (2, .int v2), (3, .int v3)]) hx hb dX12_tellsLone_4 hl (by decide) rfl (fun ls hl => ?_)
  refine lv_iconst (v := 0) hx hb dX12_tellsLone_6 (by decide) ?_
  refine lv_istore (lv' := [(6, .int (0 : Int32)), (5, .int (0 : Int32)), (4, .int v3), (0, .ref (a 0)), (1, .int v1), (2, .int v2), (3, .int v3)]) hx hb dX12_tellsLone_7 hl (by decide) rfl (fun ls hl => ?_)
  obtain ⟨o4, ho4, hf⟩ := bnS hf
  have wL1 : ∀ (k : Nat) {v1 : Int32} {v2 : Int32} {v3 : Int32} {v4 : Int32} {v5 : Int32} {v6 : Int32} {x_lagThen : Nat → Int32} {x_shadedThen : Nat → Int32} {H : Heap} {locs : List Loc} {ls : Array Slot} {o : Int32 × Int32 × Int32 × (Nat → Int32) × (Nat → Int32)}, X12_tellsLone_L1 n x_s v1 v2 k v4 v5 v6 x_lagThen x_shadedThen = some o → Wd D A s (mW a t x_s x_kept x_laid x_isKept x_pile x_tape x_taped x_letters x_at x_begun x_token x_value x_opened x_steps x_code0 x_read x_saved x_plan x_bestPlan x_most x_many x_few x_everRight x_lagThen x_shadedThen x_firstFit x_rows x_rowMany x_sorts x_sizes x_number x_holds x_heldOne x_trace x_traced x_own x_isParted) H locs → lv_has ls 8 [(0, .ref (a 0)), (1, .int v1), (2, .int v2), (3, .int v3), (4, .int v4), (5, .int v5), (6, .int v6)] → (∀ (H : Heap) (locs : List Loc) (ls : Array Slot), Wd D A s (mW a t x_s x_kept x_laid x_isKept x_pile x_tape x_taped x_letters x_at x_begun x_token x_value x_opened x_steps x_code0 x_read x_saved x_plan x_bestPlan x_most x_many x_few x_everRight o.2.2.2.1 o.2.2.2.2 x_firstFit x_rows x_rowMany x_sorts x_sizes x_number x_holds x_heldOne x_trace x_traced x_own x_isParted) H locs → lv_has ls 8 [(0, .ref (a 0)), (1, .int v1), (2, .int v2), (3, .int v3), (4, .int o.1), (5, .int o.2.1), (6, .int o.2.2.1)] → W p l e (rmz 2 0 0) s m args below meth c H locs 0 0 Q (F0 m 91 ls [])) → W p l e (rmz 2 0 0) s m args below meth c H locs 0 0 Q (F0 m 9 ls []) := by
    clear hf ho4 hw hl
    intro k
    induction k with
    | zero => intro v1 v2 v3 v4 v5 v6 x_lagThen x_shadedThen H locs ls o hf hw hl kx; simp [X12_tellsLone_L1] at hf
    | succ k ih =>
      intro v1 v2 v3 v4 v5 v6 x_lagThen x_shadedThen H locs ls o hf hw hl kx
      rw [X12_tellsLone_L1] at hf
      refine lv_iload hx hb dX12_tellsLone_9 (lv_at hl 6 rfl) ?_
      refine lv_bipush (v := 16) hx hb dX12_tellsLone_11 (by decide) ?_
      refine lv_icmp_ge (tgt := 91) hx hb dX12_tellsLone_13 (by decide) (fun hc => ?_) (fun hc => ?_)
      · have hf := ifT hf hc
        have hf := Option.some.inj hf
        subst hf
        exact kx _ _ _ hw (lv_sub hl [0, 1, 2, 3, 4, 5, 6] rfl)
      · have hf := ifF hf hc
        refine lv_aload_n hx hb dX12_tellsLone_16 rfl (lv_at hl 0 rfl) ?_
        refine mg_lagThen cx hw dX12_tellsLone_17 ?_
        refine lv_iload hx hb dX12_tellsLone_20 (lv_at hl 6 rfl) ?_
        refine lv_iload hx hb dX12_tellsLone_22 (lv_at hl 4 rfl) ?_
        obtain ⟨h1, hf⟩ := ckS hf
        refine ms_lagThen (j := v6.toNatClampNeg) cx hw (ib_in h1) rfl dX12_tellsLone_24 (fun H locs hw => ?_)
        refine lv_aload_n hx hb dX12_tellsLone_25 rfl (lv_at hl 0 rfl) ?_
        refine mg_shadedThen cx hw dX12_tellsLone_26 ?_
        refine lv_iload hx hb dX12_tellsLone_29 (lv_at hl 6 rfl) ?_
        refine lv_iload hx hb dX12_tellsLone_31 (lv_at hl 5 rfl) ?_
        obtain ⟨h2, hf⟩ := ckS hf
        refine ms_shadedThen (j := v6.toNatClampNeg) cx hw (ib_in h2) rfl dX12_tellsLone_33 (fun H locs hw => ?_)
        refine lv_aload_n hx hb dX12_tellsLone_34 rfl (lv_at hl 0 rfl) ?_
        refine mg_s cx hw dX12_tellsLone_35 ?_
        refine lv_bipush (v := 7) hx hb dX12_tellsLone_38 (by decide) ?_
        refine lv_iload hx hb dX12_tellsLone_40 (lv_at hl 6 rfl) ?_
        refine lv_iadd hx hb dX12_tellsLone_42 ?_
        obtain ⟨h3, hf⟩ := ckS hf
        refine ml_s (j := ((7 : Int32) + v6).toNatClampNeg) cx hw (ib_in h3) rfl dX12_tellsLone_43 ?_
        refine lv_istore (lv' := [(7, .int (x_s (((7 : Int32) + v6).toNatClampNeg))), (0, .ref (a 0)), (1, .int v1), (2, .int v2), (3, .int v3), (4, .int v4), (5, .int v5), (6, .int v6)]) hx hb dX12_tellsLone_44 hl (by decide) rfl (fun ls hl => ?_)
        refine lv_iload hx hb dX12_tellsLone_46 (lv_at hl 6 rfl) ?_
        refine lv_iload_n hx hb dX12_tellsLone_48 rfl (lv_at hl 2 rfl) ?_
        refine lv_iload hx hb dX12_tellsLone_49 (lv_at hl 0 rfl) ?_
        refine lv_iconst (v := 4) hx hb dX12_tellsLone_51 (by decide) ?_
        refine lv_idiv hx hb dX12_tellsLone_52 (by decide) ?_
        refine lv_iload hx hb dX12_tellsLone_53 (lv_at hl 7 rfl) ?_
        refine calSi cx hw hl.1 (c_X12_shadesBy rfl) q_1312 k_X12_shadesBy rfl dX12_tellsLone_55 rfl (Nat.le_of_ble_eq_true rfl) ⟨Nat.le_of_ble_eq_true rfl, Nat.le_of_ble_eq_true rfl⟩ ⟨Nat.le_refl _, Nat.le_refl _⟩ (fun H locs hw => ?_)
        refine lv_iadd hx hb dX12_tellsLone_58 ?_
        refine lv_bipush (v := 99) hx hb dX12_tellsLone_59 (by decide) ?_
        refine calSi cx hw hl.1 (c_X12_held rfl) q_1438 k_X12_held rfl dX12_tellsLone_61 rfl (Nat.le_of_ble_eq_true rfl) ⟨Nat.le_of_ble_eq_true rfl, Nat.le_of_ble_eq_true rfl⟩ ⟨Nat.le_refl _, Nat.le_refl _⟩ (fun H locs hw => ?_)
        refine lv_istore (lv' := [(5, .int (X12_held (v5 + (X12_shadesBy v1 ((x_s (((7 : Int32) + v6).toNatClampNeg)) / (4 : Int32)) v6)) (99 : Int32))), (7, .int (x_s (((7 : Int32) + v6).toNatClampNeg))), (0, .ref (a 0)), (1, .int v1), (2, .int v2), (3, .int v3), (4, .int v4), (6, .int v6)]) hx hb dX12_tellsLone_64 hl (by decide) rfl (fun ls hl => ?_)
        refine lv_iload hx hb dX12_tellsLone_66 (lv_at hl 6 rfl) ?_
        refine lv_iload_n hx hb dX12_tellsLone_68 rfl (lv_at hl 3 rfl) ?_
        refine lv_iload_n hx hb dX12_tellsLone_69 rfl (lv_at hl 4 rfl) ?_
        refine lv_iload hx hb dX12_tellsLone_70 (lv_at hl 1 rfl) ?_
        refine lv_iconst (v := 4) hx hb dX12_tellsLone_72 (by decide) ?_
        refine lv_irem hx hb dX12_tellsLone_73 (by decide) ?_
        refine calSi cx hw hl.1 (c_X12_slipsBy rfl) q_1323 k_X12_slipsBy rfl dX12_tellsLone_74 rfl (Nat.le_of_ble_eq_true rfl) ⟨Nat.le_of_ble_eq_true rfl, Nat.le_of_ble_eq_true rfl⟩ ⟨Nat.le_refl _, Nat.le_refl _⟩ (fun H locs hw => ?_)
        refine lv_iadd hx hb dX12_tellsLone_77 ?_
        refine lv_bipush (v := 99) hx hb dX12_tellsLone_78 (by decide) ?_
        refine calSi cx hw hl.1 (c_X12_held rfl) q_1438 k_X12_held rfl dX12_tellsLone_80 rfl (Nat.le_of_ble_eq_true rfl) ⟨Nat.le_of_ble_eq_true rfl, Nat.le_of_ble_eq_true rfl⟩ ⟨Nat.le_refl _, Nat.le_refl _⟩ (fun H locs hw => ?_)
        refine lv_istore (lv' := [(4, .int (X12_held (v4 + (X12_slipsBy v1 v2 (irm (x_s (((7 : Int32) + v6).toNatClampNeg)) (4 : Int32)))) (99 : Int32))), (5, .int (X12_held (v5 + (X12_shadesBy v1 ((x_s (((7 : Int32) + v6).toNatClampNeg)) / (4 : Int32)) v6)) (99 : Int32))), (7, .int (x_s (((7 : Int32) + v6).toNatClampNeg))), (0, .ref (a 0)), (1, .int v1), (2, .int v2), (3, .int v3), (6, .int v6)]) hx hb dX12_tellsLone_83 hl (by decide) rfl (fun ls hl => ?_)
        refine lv_iinc (v := (v6 + (1 : Int32))) (lv' := [(6, .int (v6 + (1 : Int32))), (4, .int (X12_held (v4 + (X12_slipsBy v1 v2 (irm (x_s (((7 : Int32) + v6).toNatClampNeg)) (4 : Int32)))) (99 : Int32))), (5, .int (X12_held (v5 + (X12_shadesBy v1 ((x_s (((7 : Int32) + v6).toNatClampNeg)) / (4 : Int32)) v6)) (99 : Int32))), (7, .int (x_s (((7 : Int32) + v6).toNatClampNeg))), (0, .ref (a 0)), (1, .int v1), (2, .int v2), (3, .int v3)]) hx hb dX12_tellsLone_85 hl (k := 7) rfl rfl (by decide) rfl (fun ls hl => ?_)
        refine lv_goto (tgt := 9) hx hb dX12_tellsLone_88 (by decide) ?_
        exact ih hf hw (lv_sub hl [4, 5, 6, 7, 1, 2, 0] rfl) kx
  refine wL1 n ho4 hw (lv_sub hl [3, 4, 5, 6, 2, 1, 0] rfl) (fun H locs ls hw hl => ?_)
  clear wL1 ho4
  have hf := Option.some.inj hf
  subst hf
  exact hR _ _ _ _ _ hw ⟨rfl, rfl⟩ dX12_tellsLone_91
theorem dX12_isSo_0 : decode cX12_isSo 0 = .ok (.bipush 65, 2) := by decide +kernel
theorem dX12_isSo_2 : decode cX12_isSo 2 = .ok (.iconst 4, 1) := by decide +kernel
theorem dX12_isSo_3 : decode cX12_isSo 3 = .ok (.iload_n 1, 1) := by decide +kernel
theorem dX12_isSo_4 : decode cX12_isSo 4 = .ok (.imul, 1) := by decide +kernel
theorem dX12_isSo_5 : decode cX12_isSo 5 = .ok (.iadd, 1) := by decide +kernel
theorem dX12_isSo_6 : decode cX12_isSo 6 = .ok (.istore_n 2, 1) := by decide +kernel
theorem dX12_isSo_7 : decode cX12_isSo 7 = .ok (.aload_n 0, 1) := by decide +kernel
theorem dX12_isSo_8 : decode cX12_isSo 8 = .ok (.getfield 9, 3) := by decide +kernel
theorem dX12_isSo_11 : decode cX12_isSo 11 = .ok (.iload_n 2, 1) := by decide +kernel
theorem dX12_isSo_12 : decode cX12_isSo 12 = .ok (.iconst 1, 1) := by decide +kernel
theorem dX12_isSo_13 : decode cX12_isSo 13 = .ok (.iadd, 1) := by decide +kernel
theorem dX12_isSo_14 : decode cX12_isSo 14 = .ok (.iaload, 1) := by decide +kernel
theorem dX12_isSo_15 : decode cX12_isSo 15 = .ok (.ifCond .ne 17, 3) := by decide +kernel
theorem dX12_isSo_18 : decode cX12_isSo 18 = .ok (.aload_n 0, 1) := by decide +kernel
theorem dX12_isSo_19 : decode cX12_isSo 19 = .ok (.getfield 44, 3) := by decide +kernel
theorem dX12_isSo_22 : decode cX12_isSo 22 = .ok (.aload_n 0, 1) := by decide +kernel
theorem dX12_isSo_23 : decode cX12_isSo 23 = .ok (.getfield 9, 3) := by decide +kernel
theorem dX12_isSo_26 : decode cX12_isSo 26 = .ok (.iload_n 2, 1) := by decide +kernel
theorem dX12_isSo_27 : decode cX12_isSo 27 = .ok (.iaload, 1) := by decide +kernel
theorem dX12_isSo_28 : decode cX12_isSo 28 = .ok (.iaload, 1) := by decide +kernel
theorem dX12_isSo_29 : decode cX12_isSo 29 = .ok (.goto 14, 3) := by decide +kernel
theorem dX12_isSo_32 : decode cX12_isSo 32 = .ok (.aload_n 0, 1) := by decide +kernel
theorem dX12_isSo_33 : decode cX12_isSo 33 = .ok (.getfield 47, 3) := by decide +kernel
theorem dX12_isSo_36 : decode cX12_isSo 36 = .ok (.aload_n 0, 1) := by decide +kernel
theorem dX12_isSo_37 : decode cX12_isSo 37 = .ok (.getfield 9, 3) := by decide +kernel
theorem dX12_isSo_40 : decode cX12_isSo 40 = .ok (.iload_n 2, 1) := by decide +kernel
theorem dX12_isSo_41 : decode cX12_isSo 41 = .ok (.iaload, 1) := by decide +kernel
theorem dX12_isSo_42 : decode cX12_isSo 42 = .ok (.iaload, 1) := by decide +kernel
theorem dX12_isSo_43 : decode cX12_isSo 43 = .ok (.aload_n 0, 1) := by decide +kernel
theorem dX12_isSo_44 : decode cX12_isSo 44 = .ok (.getfield 9, 3) := by decide +kernel
theorem dX12_isSo_47 : decode cX12_isSo 47 = .ok (.iload_n 2, 1) := by decide +kernel
theorem dX12_isSo_48 : decode cX12_isSo 48 = .ok (.iconst 2, 1) := by decide +kernel
theorem dX12_isSo_49 : decode cX12_isSo 49 = .ok (.iadd, 1) := by decide +kernel
theorem dX12_isSo_50 : decode cX12_isSo 50 = .ok (.iaload, 1) := by decide +kernel
theorem dX12_isSo_51 : decode cX12_isSo 51 = .ok (.aload_n 0, 1) := by decide +kernel
theorem dX12_isSo_52 : decode cX12_isSo 52 = .ok (.getfield 9, 3) := by decide +kernel
theorem dX12_isSo_55 : decode cX12_isSo 55 = .ok (.iload_n 2, 1) := by decide +kernel
theorem dX12_isSo_56 : decode cX12_isSo 56 = .ok (.iconst 3, 1) := by decide +kernel
theorem dX12_isSo_57 : decode cX12_isSo 57 = .ok (.iadd, 1) := by decide +kernel
theorem dX12_isSo_58 : decode cX12_isSo 58 = .ok (.iaload, 1) := by decide +kernel
theorem dX12_isSo_59 : decode cX12_isSo 59 = .ok (.invokestatic 71, 3) := by decide +kernel
theorem dX12_isSo_62 : decode cX12_isSo 62 = .ok (.ireturn, 1) := by decide +kernel
theorem k_X12_isSo : MV yX12_isSo cX12_isSo 3 (some .boolean) 1 := ⟨q_1582, qs_83, q_14, q_1583, ⟨by decide, by decide, by decide +kernel⟩⟩
theorem c_X12_isSo {res : Int32} (hf : X12_isSo x_s x_lagThen x_shadedThen v1 = some res) : MC l E0 D t yX12_isSo cX12_isSo 3 (some .boolean) 2 0 0 [.ref (a 0), .int v1] (mW a t x_s x_kept x_laid x_isKept x_pile x_tape x_taped x_letters x_at x_begun x_token x_value x_opened x_steps x_code0 x_read x_saved x_plan x_bestPlan x_most x_many x_few x_everRight x_lagThen x_shadedThen x_firstFit x_rows x_rowMany x_sorts x_sizes x_number x_holds x_heldOne x_trace x_traced x_own x_isParted) (Qi res (mW a t x_s x_kept x_laid x_isKept x_pile x_tape x_taped x_letters x_at x_begun x_token x_value x_opened x_steps x_code0 x_read x_saved x_plan x_bestPlan x_most x_many x_few x_everRight x_lagThen x_shadedThen x_firstFit x_rows x_rowMany x_sorts x_sizes x_number x_holds x_heldOne x_trace x_traced x_own x_isParted)) := by
  unfold X12_isSo at hf
  refine MC.ofI pn_X12 (Nat.le_of_ble_eq_true rfl) ?_
  intro p e s m args below meth c A Q ls cx hR hw hl
  have hx := cx.1
  have hb := cx.2.1
  have hl : lv_has ls 3 [(0, .ref (a 0)), (1, .int v1)] := hl
  refine lv_bipush (v := 65) hx hb dX12_isSo_0 (by decide) ?_
  refine lv_iconst (v := 4) hx hb dX12_isSo_2 (by decide) ?_
  refine lv_iload_n hx hb dX12_isSo_3 rfl (lv_at hl 1 rfl) ?_
  refine lv_imul hx hb dX12_isSo_4 ?_
  refine lv_iadd hx hb dX12_isSo_5 ?_
  refine lv_istore_n (lv' := [(2, .int ((65 : Int32) + ((4 : Int32) * v1))), (0, .ref (a 0)), (1, .int v1)]) hx hb dX12_isSo_6 rfl hl (by decide) rfl (fun ls hl => ?_)
  refine lv_aload_n hx hb dX12_isSo_7 rfl (lv_at hl 1 rfl) ?_
  refine mg_s cx hw dX12_isSo_8 ?_
  refine lv_iload_n hx hb dX12_isSo_11 rfl (lv_at hl 0 rfl) ?_
  refine lv_iconst (v := 1) hx hb dX12_isSo_12 (by decide) ?_
  refine lv_iadd hx hb dX12_isSo_13 ?_
  obtain ⟨h1, hf⟩ := ckS hf
  refine ml_s (j := (((65 : Int32) + ((4 : Int32) * v1)) + (1 : Int32)).toNatClampNeg) cx hw (ib_in h1) rfl dX12_isSo_14 ?_
  obtain ⟨j6, hj6, hf⟩ := bnS hf
  have wj6 : ∀ (H : Heap) (locs : List Loc) (ls : Array Slot), Wd D A s (mW a t x_s x_kept x_laid x_isKept x_pile x_tape x_taped x_letters x_at x_begun x_token x_value x_opened x_steps x_code0 x_read x_saved x_plan x_bestPlan x_most x_many x_few x_everRight x_lagThen x_shadedThen x_firstFit x_rows x_rowMany x_sorts x_sizes x_number x_holds x_heldOne x_trace x_traced x_own x_isParted) H locs → lv_has ls 3 [(0, .ref (a 0)), (1, .int v1), (2, .int ((65 : Int32) + ((4 : Int32) * v1)))] → W p l e (rmz 2 0 0) s m args below meth c H locs 0 0 Q (F0 m 43 ls [.int j6]) := by
    intro H locs ls hw hl
    refine lv_aload_n hx hb dX12_isSo_43 rfl (lv_at hl 0 rfl) ?_
    refine mg_s cx hw dX12_isSo_44 ?_
    refine lv_iload_n hx hb dX12_isSo_47 rfl (lv_at hl 2 rfl) ?_
    refine lv_iconst (v := 2) hx hb dX12_isSo_48 (by decide) ?_
    refine lv_iadd hx hb dX12_isSo_49 ?_
    obtain ⟨h7, hf⟩ := ckS hf
    refine ml_s (j := (((65 : Int32) + ((4 : Int32) * v1)) + (2 : Int32)).toNatClampNeg) cx hw (ib_in h7) rfl dX12_isSo_50 ?_
    refine lv_aload_n hx hb dX12_isSo_51 rfl (lv_at hl 0 rfl) ?_
    refine mg_s cx hw dX12_isSo_52 ?_
    refine lv_iload_n hx hb dX12_isSo_55 rfl (lv_at hl 2 rfl) ?_
    refine lv_iconst (v := 3) hx hb dX12_isSo_56 (by decide) ?_
    refine lv_iadd hx hb dX12_isSo_57 ?_
    obtain ⟨h8, hf⟩ := ckS hf
    refine ml_s (j := (((65 : Int32) + ((4 : Int32) * v1)) + (3 : Int32)).toNatClampNeg) cx hw (ib_in h8) rfl dX12_isSo_58 ?_
    refine calSi cx hw hl.1 (c_X12_in1 rfl) q_1214 k_X12_in1 rfl dX12_isSo_59 rfl (Nat.le_of_ble_eq_true rfl) ⟨Nat.le_of_ble_eq_true rfl, Nat.le_of_ble_eq_true rfl⟩ ⟨Nat.le_refl _, Nat.le_refl _⟩ (fun H locs hw => ?_)
    have hf := Option.some.inj hf
    subst hf
    exact hR _ _ _ _ _ _ hw (nb (b_X12_in1 _ _ _)) ⟨rfl, rfl⟩ dX12_isSo_62
  clear hf
  have hf := hj6
  clear hj6
  refine lv_if_ne (tgt := 32) hx hb dX12_isSo_15 (by decide) (fun hc => ?_) (fun hc => ?_)
  · have hf := ifF hf hc
    refine lv_aload_n hx hb dX12_isSo_32 rfl (lv_at hl 1 rfl) ?_
    refine mg_shadedThen cx hw dX12_isSo_33 ?_
    refine lv_aload_n hx hb dX12_isSo_36 rfl (lv_at hl 1 rfl) ?_
    refine mg_s cx hw dX12_isSo_37 ?_
    refine lv_iload_n hx hb dX12_isSo_40 rfl (lv_at hl 0 rfl) ?_
    obtain ⟨h4, hf⟩ := ckS hf
    refine ml_s (j := ((65 : Int32) + ((4 : Int32) * v1)).toNatClampNeg) cx hw (ib_in h4) rfl dX12_isSo_41 ?_
    obtain ⟨h5, hf⟩ := ckS hf
    refine ml_shadedThen (j := (x_s (((65 : Int32) + ((4 : Int32) * v1)).toNatClampNeg)).toNatClampNeg) cx hw (ib_in h5) rfl dX12_isSo_42 ?_
    have hf := Option.some.inj hf
    subst hf
    exact wj6 _ _ _ hw (lv_sub hl [1, 2, 0] rfl)
  · have hf := ifT hf hc
    refine lv_aload_n hx hb dX12_isSo_18 rfl (lv_at hl 1 rfl) ?_
    refine mg_lagThen cx hw dX12_isSo_19 ?_
    refine lv_aload_n hx hb dX12_isSo_22 rfl (lv_at hl 1 rfl) ?_
    refine mg_s cx hw dX12_isSo_23 ?_
    refine lv_iload_n hx hb dX12_isSo_26 rfl (lv_at hl 0 rfl) ?_
    obtain ⟨h2, hf⟩ := ckS hf
    refine ml_s (j := ((65 : Int32) + ((4 : Int32) * v1)).toNatClampNeg) cx hw (ib_in h2) rfl dX12_isSo_27 ?_
    obtain ⟨h3, hf⟩ := ckS hf
    refine ml_lagThen (j := (x_s (((65 : Int32) + ((4 : Int32) * v1)).toNatClampNeg)).toNatClampNeg) cx hw (ib_in h3) rfl dX12_isSo_28 ?_
    refine lv_goto (tgt := 43) hx hb dX12_isSo_29 (by decide) ?_
    have hf := Option.some.inj hf
    subst hf
    exact wj6 _ _ _ hw (lv_sub hl [1, 2, 0] rfl)
theorem dX12_fitting_0 : decode cX12_fitting 0 = .ok (.iconst 0, 1) := by decide +kernel
theorem dX12_fitting_1 : decode cX12_fitting 1 = .ok (.istore_n 2, 1) := by decide +kernel
theorem dX12_fitting_2 : decode cX12_fitting 2 = .ok (.aload_n 0, 1) := by decide +kernel
theorem dX12_fitting_3 : decode cX12_fitting 3 = .ok (.iconst (-1), 1) := by decide +kernel
theorem dX12_fitting_4 : decode cX12_fitting 4 = .ok (.putfield 306, 3) := by decide +kernel
theorem dX12_fitting_7 : decode cX12_fitting 7 = .ok (.iconst 0, 1) := by decide +kernel
theorem dX12_fitting_8 : decode cX12_fitting 8 = .ok (.istore_n 3, 1) := by decide +kernel
theorem dX12_fitting_9 : decode cX12_fitting 9 = .ok (.iload_n 3, 1) := by decide +kernel
theorem dX12_fitting_10 : decode cX12_fitting 10 = .ok (.sipush 500, 3) := by decide +kernel
theorem dX12_fitting_13 : decode cX12_fitting 13 = .ok (.if_icmp .ge 121, 3) := by decide +kernel
theorem dX12_fitting_16 : decode cX12_fitting 16 = .ok (.aload_n 0, 1) := by decide +kernel
theorem dX12_fitting_17 : decode cX12_fitting 17 = .ok (.iconst 1, 1) := by decide +kernel
theorem dX12_fitting_18 : decode cX12_fitting 18 = .ok (.iload_n 3, 1) := by decide +kernel
theorem dX12_fitting_19 : decode cX12_fitting 19 = .ok (.bipush 100, 2) := by decide +kernel
theorem dX12_fitting_21 : decode cX12_fitting 21 = .ok (.idiv, 1) := by decide +kernel
theorem dX12_fitting_22 : decode cX12_fitting 22 = .ok (.iadd, 1) := by decide +kernel
theorem dX12_fitting_23 : decode cX12_fitting 23 = .ok (.iload_n 3, 1) := by decide +kernel
theorem dX12_fitting_24 : decode cX12_fitting 24 = .ok (.bipush 10, 2) := by decide +kernel
theorem dX12_fitting_26 : decode cX12_fitting 26 = .ok (.idiv, 1) := by decide +kernel
theorem dX12_fitting_27 : decode cX12_fitting 27 = .ok (.bipush 10, 2) := by decide +kernel
theorem dX12_fitting_29 : decode cX12_fitting 29 = .ok (.irem, 1) := by decide +kernel
theorem dX12_fitting_30 : decode cX12_fitting 30 = .ok (.bipush 10, 2) := by decide +kernel
theorem dX12_fitting_32 : decode cX12_fitting 32 = .ok (.iload_n 3, 1) := by decide +kernel
theorem dX12_fitting_33 : decode cX12_fitting 33 = .ok (.bipush 10, 2) := by decide +kernel
theorem dX12_fitting_35 : decode cX12_fitting 35 = .ok (.irem, 1) := by decide +kernel
theorem dX12_fitting_36 : decode cX12_fitting 36 = .ok (.imul, 1) := by decide +kernel
theorem dX12_fitting_37 : decode cX12_fitting 37 = .ok (.invokevirtual 309, 3) := by decide +kernel
theorem dX12_fitting_40 : decode cX12_fitting 40 = .ok (.iconst 1, 1) := by decide +kernel
theorem dX12_fitting_41 : decode cX12_fitting 41 = .ok (.istore 4, 2) := by decide +kernel
theorem dX12_fitting_43 : decode cX12_fitting 43 = .ok (.iconst 0, 1) := by decide +kernel
theorem dX12_fitting_44 : decode cX12_fitting 44 = .ok (.istore 5, 2) := by decide +kernel
theorem dX12_fitting_46 : decode cX12_fitting 46 = .ok (.iload 5, 2) := by decide +kernel
theorem dX12_fitting_48 : decode cX12_fitting 48 = .ok (.aload_n 0, 1) := by decide +kernel
theorem dX12_fitting_49 : decode cX12_fitting 49 = .ok (.getfield 9, 3) := by decide +kernel
theorem dX12_fitting_52 : decode cX12_fitting 52 = .ok (.bipush 6, 2) := by decide +kernel
theorem dX12_fitting_54 : decode cX12_fitting 54 = .ok (.iaload, 1) := by decide +kernel
theorem dX12_fitting_55 : decode cX12_fitting 55 = .ok (.if_icmp .ge 36, 3) := by decide +kernel
theorem dX12_fitting_58 : decode cX12_fitting 58 = .ok (.iload 4, 2) := by decide +kernel
theorem dX12_fitting_60 : decode cX12_fitting 60 = .ok (.ifCond .eq 31, 3) := by decide +kernel
theorem dX12_fitting_63 : decode cX12_fitting 63 = .ok (.iload 5, 2) := by decide +kernel
theorem dX12_fitting_65 : decode cX12_fitting 65 = .ok (.iload_n 1, 1) := by decide +kernel
theorem dX12_fitting_66 : decode cX12_fitting 66 = .ok (.if_icmp .eq 12, 3) := by decide +kernel
theorem dX12_fitting_69 : decode cX12_fitting 69 = .ok (.aload_n 0, 1) := by decide +kernel
theorem dX12_fitting_70 : decode cX12_fitting 70 = .ok (.iload 5, 2) := by decide +kernel
theorem dX12_fitting_72 : decode cX12_fitting 72 = .ok (.invokevirtual 312, 3) := by decide +kernel
theorem dX12_fitting_75 : decode cX12_fitting 75 = .ok (.ifCond .eq 7, 3) := by decide +kernel
theorem dX12_fitting_78 : decode cX12_fitting 78 = .ok (.iconst 1, 1) := by decide +kernel
theorem dX12_fitting_79 : decode cX12_fitting 79 = .ok (.goto 4, 3) := by decide +kernel
theorem dX12_fitting_82 : decode cX12_fitting 82 = .ok (.iconst 0, 1) := by decide +kernel
theorem dX12_fitting_83 : decode cX12_fitting 83 = .ok (.istore 4, 2) := by decide +kernel
theorem dX12_fitting_85 : decode cX12_fitting 85 = .ok (.iinc 5 1, 3) := by decide +kernel
theorem dX12_fitting_88 : decode cX12_fitting 88 = .ok (.goto (-42), 3) := by decide +kernel
theorem dX12_fitting_91 : decode cX12_fitting 91 = .ok (.iload_n 2, 1) := by decide +kernel
theorem dX12_fitting_92 : decode cX12_fitting 92 = .ok (.iload 4, 2) := by decide +kernel
theorem dX12_fitting_94 : decode cX12_fitting 94 = .ok (.ifCond .eq 7, 3) := by decide +kernel
theorem dX12_fitting_97 : decode cX12_fitting 97 = .ok (.iconst 1, 1) := by decide +kernel
theorem dX12_fitting_98 : decode cX12_fitting 98 = .ok (.goto 4, 3) := by decide +kernel
theorem dX12_fitting_101 : decode cX12_fitting 101 = .ok (.iconst 0, 1) := by decide +kernel
theorem dX12_fitting_102 : decode cX12_fitting 102 = .ok (.iadd, 1) := by decide +kernel
theorem dX12_fitting_103 : decode cX12_fitting 103 = .ok (.istore_n 2, 1) := by decide +kernel
theorem dX12_fitting_104 : decode cX12_fitting 104 = .ok (.aload_n 0, 1) := by decide +kernel
theorem dX12_fitting_105 : decode cX12_fitting 105 = .ok (.iload 4, 2) := by decide +kernel
theorem dX12_fitting_107 : decode cX12_fitting 107 = .ok (.ifCond .eq 14, 3) := by decide +kernel
theorem dX12_fitting_110 : decode cX12_fitting 110 = .ok (.aload_n 0, 1) := by decide +kernel
theorem dX12_fitting_111 : decode cX12_fitting 111 = .ok (.getfield 306, 3) := by decide +kernel
theorem dX12_fitting_114 : decode cX12_fitting 114 = .ok (.ifCond .ge 7, 3) := by decide +kernel
theorem dX12_fitting_117 : decode cX12_fitting 117 = .ok (.iload_n 3, 1) := by decide +kernel
theorem dX12_fitting_118 : decode cX12_fitting 118 = .ok (.goto 7, 3) := by decide +kernel
theorem dX12_fitting_121 : decode cX12_fitting 121 = .ok (.aload_n 0, 1) := by decide +kernel
theorem dX12_fitting_122 : decode cX12_fitting 122 = .ok (.getfield 306, 3) := by decide +kernel
theorem dX12_fitting_125 : decode cX12_fitting 125 = .ok (.putfield 306, 3) := by decide +kernel
theorem dX12_fitting_128 : decode cX12_fitting 128 = .ok (.iinc 3 1, 3) := by decide +kernel
theorem dX12_fitting_131 : decode cX12_fitting 131 = .ok (.goto (-122), 3) := by decide +kernel
theorem dX12_fitting_134 : decode cX12_fitting 134 = .ok (.iload_n 2, 1) := by decide +kernel
theorem dX12_fitting_135 : decode cX12_fitting 135 = .ok (.ireturn, 1) := by decide +kernel
theorem k_X12_fitting : MV yX12_fitting cX12_fitting 6 (some .int) 1 := ⟨q_1574, qs_81, q_14, q_1575, ⟨by decide, by decide, by decide +kernel⟩⟩
theorem c_X12_fitting {res : Int32 × (Nat → Int32) × (Nat → Int32) × Int32} (hf : X12_fitting n x_s x_lagThen x_shadedThen v1 = some res) : MC l E0 D t yX12_fitting cX12_fitting 6 (some .int) 3 0 0 [.ref (a 0), .int v1] (mW a t x_s x_kept x_laid x_isKept x_pile x_tape x_taped x_letters x_at x_begun x_token x_value x_opened x_steps x_code0 x_read x_saved x_plan x_bestPlan x_most x_many x_few x_everRight x_lagThen x_shadedThen x_firstFit x_rows x_rowMany x_sorts x_sizes x_number x_holds x_heldOne x_trace x_traced x_own x_isParted) (Qi res.1 (mW a t x_s x_kept x_laid x_isKept x_pile x_tape x_taped x_letters x_at x_begun x_token x_value x_opened x_steps x_code0 x_read x_saved x_plan x_bestPlan x_most x_many x_few x_everRight res.2.1 res.2.2.1 res.2.2.2 x_rows x_rowMany x_sorts x_sizes x_number x_holds x_heldOne x_trace x_traced x_own x_isParted)) := by
  unfold X12_fitting at hf
  refine MC.ofI pn_X12 (Nat.le_of_ble_eq_true rfl) ?_
  intro p e s m args below meth c A Q ls cx hR hw hl
  have hx := cx.1
  have hb := cx.2.1
  have hl : lv_has ls 6 [(0, .ref (a 0)), (1, .int v1)] := hl
  refine lv_iconst (v := 0) hx hb dX12_fitting_0 (by decide) ?_
  refine lv_istore_n (lv' := [(2, .int (0 : Int32)), (0, .ref (a 0)), (1, .int v1)]) hx hb dX12_fitting_1 rfl hl (by decide) rfl (fun ls hl => ?_)
  refine lv_aload_n hx hb dX12_fitting_2 rfl (lv_at hl 1 rfl) ?_
  refine lv_iconst (v := (-1)) hx hb dX12_fitting_3 (by decide) ?_
  refine mp_firstFit cx hw dX12_fitting_4 (fun H locs hw => ?_)
  refine lv_iconst (v := 0) hx hb dX12_fitting_7 (by decide) ?_
  refine lv_istore_n (lv' := [(3, .int (0 : Int32)), (2, .int (0 : Int32)), (0, .ref (a 0)), (1, .int v1)]) hx hb dX12_fitting_8 rfl hl (by decide) rfl (fun ls hl => ?_)
  obtain ⟨o9, ho9, hf⟩ := bnS hf
  have wL1 : ∀ (k : Nat) {v1 : Int32} {v2 : Int32} {v3 : Int32} {x_lagThen : Nat → Int32} {x_shadedThen : Nat → Int32} {x_firstFit : Int32} {H : Heap} {locs : List Loc} {ls : Array Slot} {o : Int32 × Int32 × (Nat → Int32) × (Nat → Int32) × Int32}, X12_fitting_L1 n x_s v1 k v2 v3 x_lagThen x_shadedThen x_firstFit = some o → Wd D A s (mW a t x_s x_kept x_laid x_isKept x_pile x_tape x_taped x_letters x_at x_begun x_token x_value x_opened x_steps x_code0 x_read x_saved x_plan x_bestPlan x_most x_many x_few x_everRight x_lagThen x_shadedThen x_firstFit x_rows x_rowMany x_sorts x_sizes x_number x_holds x_heldOne x_trace x_traced x_own x_isParted) H locs → lv_has ls 6 [(0, .ref (a 0)), (1, .int v1), (2, .int v2), (3, .int v3)] → (∀ (H : Heap) (locs : List Loc) (ls : Array Slot), Wd D A s (mW a t x_s x_kept x_laid x_isKept x_pile x_tape x_taped x_letters x_at x_begun x_token x_value x_opened x_steps x_code0 x_read x_saved x_plan x_bestPlan x_most x_many x_few x_everRight o.2.2.1 o.2.2.2.1 o.2.2.2.2 x_rows x_rowMany x_sorts x_sizes x_number x_holds x_heldOne x_trace x_traced x_own x_isParted) H locs → lv_has ls 6 [(0, .ref (a 0)), (1, .int v1), (2, .int o.1), (3, .int o.2.1)] → W p l e (rmz 3 0 0) s m args below meth c H locs 0 0 Q (F0 m 134 ls [])) → W p l e (rmz 3 0 0) s m args below meth c H locs 0 0 Q (F0 m 9 ls []) := by
    clear hf ho9 hw hl
    intro k
    induction k with
    | zero => intro v1 v2 v3 x_lagThen x_shadedThen x_firstFit H locs ls o hf hw hl kx; simp [X12_fitting_L1] at hf
    | succ k ih =>
      intro v1 v2 v3 x_lagThen x_shadedThen x_firstFit H locs ls o hf hw hl kx
      rw [X12_fitting_L1] at hf
      refine lv_iload_n hx hb dX12_fitting_9 rfl (lv_at hl 3 rfl) ?_
      refine lv_sipush (v := 500) hx hb dX12_fitting_10 (by decide) ?_
      refine lv_icmp_ge (tgt := 134) hx hb dX12_fitting_13 (by decide) (fun hc => ?_) (fun hc => ?_)
      · have hf := ifT hf hc
        have hf := Option.some.inj hf
        subst hf
        exact kx _ _ _ hw (lv_sub hl [0, 1, 2, 3] rfl)
      · have hf := ifF hf hc
        refine lv_aload_n hx hb dX12_fitting_16 rfl (lv_at hl 0 rfl) ?_
        refine lv_iconst (v := 1) hx hb dX12_fitting_17 (by decide) ?_
        refine lv_iload_n hx hb dX12_fitting_18 rfl (lv_at hl 3 rfl) ?_
        refine lv_bipush (v := 100) hx hb dX12_fitting_19 (by decide) ?_
        refine lv_idiv hx hb dX12_fitting_21 (by decide) ?_
        refine lv_iadd hx hb dX12_fitting_22 ?_
        refine lv_iload_n hx hb dX12_fitting_23 rfl (lv_at hl 3 rfl) ?_
        refine lv_bipush (v := 10) hx hb dX12_fitting_24 (by decide) ?_
        refine lv_idiv hx hb dX12_fitting_26 (by decide) ?_
        refine lv_bipush (v := 10) hx hb dX12_fitting_27 (by decide) ?_
        refine lv_irem hx hb dX12_fitting_29 (by decide) ?_
        refine lv_bipush (v := 10) hx hb dX12_fitting_30 (by decide) ?_
        refine lv_iload_n hx hb dX12_fitting_32 rfl (lv_at hl 3 rfl) ?_
        refine lv_bipush (v := 10) hx hb dX12_fitting_33 (by decide) ?_
        refine lv_irem hx hb dX12_fitting_35 (by decide) ?_
        refine lv_imul hx hb dX12_fitting_36 ?_
        obtain ⟨r1, h2, hf⟩ := bnS hf
        refine calVv (k := 0) cx hw hl.1 (c_X12_tellsLone h2) q_1576 k_X12_tellsLone rfl rfl rfl dX12_fitting_37 rfl (Nat.le_of_ble_eq_true rfl) ⟨Nat.le_of_ble_eq_true rfl, Nat.le_of_ble_eq_true rfl⟩ ⟨Nat.le_refl _, Nat.le_refl _⟩ (fun H locs hw => ?_)
        refine lv_iconst (v := 1) hx hb dX12_fitting_40 (by decide) ?_
        refine lv_istore (lv' := [(4, .int (1 : Int32)), (0, .ref (a 0)), (1, .int v1), (2, .int v2), (3, .int v3)]) hx hb dX12_fitting_41 hl (by decide) rfl (fun ls hl => ?_)
        refine lv_iconst (v := 0) hx hb dX12_fitting_43 (by decide) ?_
        refine lv_istore (lv' := [(5, .int (0 : Int32)), (4, .int (1 : Int32)), (0, .ref (a 0)), (1, .int v1), (2, .int v2), (3, .int v3)]) hx hb dX12_fitting_44 hl (by decide) rfl (fun ls hl => ?_)
        obtain ⟨o6, ho6, hf⟩ := bnS hf
        have wL2 : ∀ (k : Nat) {v1 : Int32} {v2 : Int32} {v3 : Int32} {v4 : Int32} {v5 : Int32} {x_lagThen : Nat → Int32} {x_shadedThen : Nat → Int32} {H : Heap} {locs : List Loc} {ls : Array Slot} {o : Int32 × Int32}, X12_fitting_L2 n x_s x_lagThen x_shadedThen v1 k v4 v5 = some o → Wd D A s (mW a t x_s x_kept x_laid x_isKept x_pile x_tape x_taped x_letters x_at x_begun x_token x_value x_opened x_steps x_code0 x_read x_saved x_plan x_bestPlan x_most x_many x_few x_everRight x_lagThen x_shadedThen x_firstFit x_rows x_rowMany x_sorts x_sizes x_number x_holds x_heldOne x_trace x_traced x_own x_isParted) H locs → lv_has ls 6 [(0, .ref (a 0)), (1, .int v1), (2, .int v2), (3, .int v3), (4, .int v4), (5, .int v5)] → (∀ (H : Heap) (locs : List Loc) (ls : Array Slot), Wd D A s (mW a t x_s x_kept x_laid x_isKept x_pile x_tape x_taped x_letters x_at x_begun x_token x_value x_opened x_steps x_code0 x_read x_saved x_plan x_bestPlan x_most x_many x_few x_everRight x_lagThen x_shadedThen x_firstFit x_rows x_rowMany x_sorts x_sizes x_number x_holds x_heldOne x_trace x_traced x_own x_isParted) H locs → lv_has ls 6 [(0, .ref (a 0)), (1, .int v1), (2, .int v2), (3, .int v3), (4, .int o.1), (5, .int o.2)] → W p l e (rmz 3 0 0) s m args below meth c H locs 0 0 Q (F0 m 91 ls [])) → W p l e (rmz 3 0 0) s m args below meth c H locs 0 0 Q (F0 m 46 ls []) := by
          clear hf ho6 hw hl
          intro k
          induction k with
          | zero => intro v1 v2 v3 v4 v5 x_lagThen x_shadedThen H locs ls o hf hw hl kx; simp [X12_fitting_L2] at hf
          | succ k ih =>
            intro v1 v2 v3 v4 v5 x_lagThen x_shadedThen H locs ls o hf hw hl kx
            rw [X12_fitting_L2] at hf
            refine lv_iload hx hb dX12_fitting_46 (lv_at hl 5 rfl) ?_
            refine lv_aload_n hx hb dX12_fitting_48 rfl (lv_at hl 0 rfl) ?_
            refine mg_s cx hw dX12_fitting_49 ?_
            refine lv_bipush (v := 6) hx hb dX12_fitting_52 (by decide) ?_
            refine ml_s (j := 6) cx hw (ib_in (by decide)) (by decide) dX12_fitting_54 ?_
            refine lv_icmp_ge (tgt := 91) hx hb dX12_fitting_55 (by decide) (fun hc => ?_) (fun hc => ?_)
            · have hf := ifT hf hc
              have hf := Option.some.inj hf
              subst hf
              exact kx _ _ _ hw (lv_sub hl [0, 1, 2, 3, 4, 5] rfl)
            · have hf := ifF hf hc
              refine lv_iload hx hb dX12_fitting_58 (lv_at hl 4 rfl) ?_
              refine lv_if_eq (tgt := 91) hx hb dX12_fitting_60 (by decide) (fun hc => ?_) (fun hc => ?_)
              · have hf := ifT hf hc
                have hf := Option.some.inj hf
                subst hf
                exact kx _ _ _ hw (lv_sub hl [0, 1, 2, 3, 4, 5] rfl)
              · have hf := ifF hf hc
                refine lv_iload hx hb dX12_fitting_63 (lv_at hl 5 rfl) ?_
                refine lv_iload_n hx hb dX12_fitting_65 rfl (lv_at hl 1 rfl) ?_
                obtain ⟨j5, hj5, hf⟩ := bnS hf
                have wj5 : ∀ (H : Heap) (locs : List Loc) (ls : Array Slot), Wd D A s (mW a t x_s x_kept x_laid x_isKept x_pile x_tape x_taped x_letters x_at x_begun x_token x_value x_opened x_steps x_code0 x_read x_saved x_plan x_bestPlan x_most x_many x_few x_everRight x_lagThen x_shadedThen x_firstFit x_rows x_rowMany x_sorts x_sizes x_number x_holds x_heldOne x_trace x_traced x_own x_isParted) H locs → lv_has ls 6 [(0, .ref (a 0)), (1, .int v1), (2, .int v2), (3, .int v3), (4, .int v4), (5, .int v5)] → W p l e (rmz 3 0 0) s m args below meth c H locs 0 0 Q (F0 m 83 ls [.int j5]) := by
                  intro H locs ls hw hl
                  refine lv_istore (lv' := [(4, .int j5), (0, .ref (a 0)), (1, .int v1), (2, .int v2), (3, .int v3), (5, .int v5)]) hx hb dX12_fitting_83 hl (by decide) rfl (fun ls hl => ?_)
                  refine lv_iinc (v := (v5 + (1 : Int32))) (lv' := [(5, .int (v5 + (1 : Int32))), (4, .int j5), (0, .ref (a 0)), (1, .int v1), (2, .int v2), (3, .int v3)]) hx hb dX12_fitting_85 hl (k := 5) rfl rfl (by decide) rfl (fun ls hl => ?_)
                  refine lv_goto (tgt := 46) hx hb dX12_fitting_88 (by decide) ?_
                  exact ih hf hw (lv_sub hl [2, 3, 4, 5, 1, 0] rfl) kx
                clear hf
                have hf := hj5
                clear hj5
                refine lv_icmp_eq (tgt := 78) hx hb dX12_fitting_66 (by decide) (fun hc => ?_) (fun hc => ?_)
                · have hf := ifT hf hc
                  refine lv_iconst (v := 1) hx hb dX12_fitting_78 (by decide) ?_
                  refine lv_goto (tgt := 83) hx hb dX12_fitting_79 (by decide) ?_
                  have hf := Option.some.inj hf
                  subst hf
                  exact wj5 _ _ _ hw (lv_sub hl [0, 1, 2, 3, 4, 5] rfl)
                · have hf := ifF hf hc
                  refine lv_aload_n hx hb dX12_fitting_69 rfl (lv_at hl 0 rfl) ?_
                  refine lv_iload hx hb dX12_fitting_70 (lv_at hl 5 rfl) ?_
                  obtain ⟨r3, h4, hf⟩ := bnS hf
                  refine calVi (k := 0) cx hw hl.1 (c_X12_isSo h4) q_1580 k_X12_isSo rfl rfl rfl dX12_fitting_72 rfl (Nat.le_of_ble_eq_true rfl) ⟨Nat.le_of_ble_eq_true rfl, Nat.le_of_ble_eq_true rfl⟩ ⟨Nat.le_refl _, Nat.le_refl _⟩ (fun H locs hw => ?_)
                  refine lv_if_eq (tgt := 82) hx hb dX12_fitting_75 (by decide) (fun hc => ?_) (fun hc => ?_)
                  · have hf := ifT hf hc
                    refine lv_iconst (v := 0) hx hb dX12_fitting_82 (by decide) ?_
                    have hf := Option.some.inj hf
                    subst hf
                    exact wj5 _ _ _ hw (lv_sub hl [0, 1, 2, 3, 4, 5] rfl)
                  · have hf := ifF hf hc
                    refine lv_iconst (v := 1) hx hb dX12_fitting_78 (by decide) ?_
                    refine lv_goto (tgt := 83) hx hb dX12_fitting_79 (by decide) ?_
                    have hf := Option.some.inj hf
                    subst hf
                    exact wj5 _ _ _ hw (lv_sub hl [0, 1, 2, 3, 4, 5] rfl)
        refine wL2 n ho6 hw (lv_sub hl [2, 3, 4, 5, 1, 0] rfl) (fun H locs ls hw hl => ?_)
        clear wL2 ho6
        refine lv_iload_n hx hb dX12_fitting_91 rfl (lv_at hl 2 rfl) ?_
        refine lv_iload hx hb dX12_fitting_92 (lv_at hl 4 rfl) ?_
        obtain ⟨j7, hj7, hf⟩ := pbS hf
        have wj7 : ∀ (H : Heap) (locs : List Loc) (ls : Array Slot), Wd D A s (mW a t x_s x_kept x_laid x_isKept x_pile x_tape x_taped x_letters x_at x_begun x_token x_value x_opened x_steps x_code0 x_read x_saved x_plan x_bestPlan x_most x_many x_few x_everRight r1.1 r1.2 x_firstFit x_rows x_rowMany x_sorts x_sizes x_number x_holds x_heldOne x_trace x_traced x_own x_isParted) H locs → lv_has ls 6 [(0, .ref (a 0)), (1, .int v1), (2, .int v2), (3, .int v3), (4, .int o6.1), (5, .int o6.2)] → W p l e (rmz 3 0 0) s m args below meth c H locs 0 0 Q (F0 m 102 ls [.int j7, .int v2]) := by
          intro H locs ls hw hl
          refine lv_iadd hx hb dX12_fitting_102 ?_
          refine lv_istore_n (lv' := [(2, .int (v2 + j7)), (0, .ref (a 0)), (1, .int v1), (3, .int v3), (4, .int o6.1), (5, .int o6.2)]) hx hb dX12_fitting_103 rfl hl (by decide) rfl (fun ls hl => ?_)
          refine lv_aload_n hx hb dX12_fitting_104 rfl (lv_at hl 1 rfl) ?_
          refine lv_iload hx hb dX12_fitting_105 (lv_at hl 4 rfl) ?_
          obtain ⟨j8, hj8, hf⟩ := pbS hf
          have wj8 : ∀ (H : Heap) (locs : List Loc) (ls : Array Slot), Wd D A s (mW a t x_s x_kept x_laid x_isKept x_pile x_tape x_taped x_letters x_at x_begun x_token x_value x_opened x_steps x_code0 x_read x_saved x_plan x_bestPlan x_most x_many x_few x_everRight r1.1 r1.2 x_firstFit x_rows x_rowMany x_sorts x_sizes x_number x_holds x_heldOne x_trace x_traced x_own x_isParted) H locs → lv_has ls 6 [(0, .ref (a 0)), (1, .int v1), (2, .int (v2 + j7)), (3, .int v3), (4, .int o6.1), (5, .int o6.2)] → W p l e (rmz 3 0 0) s m args below meth c H locs 0 0 Q (F0 m 125 ls [.int j8, .ref (a 0)]) := by
            intro H locs ls hw hl
            refine mp_firstFit cx hw dX12_fitting_125 (fun H locs hw => ?_)
            refine lv_iinc (v := (v3 + (1 : Int32))) (lv' := [(3, .int (v3 + (1 : Int32))), (0, .ref (a 0)), (1, .int v1), (2, .int (v2 + j7)), (4, .int o6.1), (5, .int o6.2)]) hx hb dX12_fitting_128 hl (k := 3) rfl rfl (by decide) rfl (fun ls hl => ?_)
            refine lv_goto (tgt := 9) hx hb dX12_fitting_131 (by decide) ?_
            exact ih hf hw (lv_sub hl [1, 2, 3, 0] rfl) kx
          clear hf
          have hf := hj8
          clear hj8
          refine lv_if_eq (tgt := 121) hx hb dX12_fitting_107 (by decide) (fun hc => ?_) (fun hc => ?_)
          · have hf := ifT hf hc
            refine lv_aload_n hx hb dX12_fitting_121 rfl (lv_at hl 1 rfl) ?_
            refine mg_firstFit cx hw dX12_fitting_122 ?_
            subst hf
            exact wj8 _ _ _ hw (lv_sub hl [1, 2, 0, 3, 4, 5] rfl)
          · have hf := ifF hf hc
            refine lv_aload_n hx hb dX12_fitting_110 rfl (lv_at hl 1 rfl) ?_
            refine mg_firstFit cx hw dX12_fitting_111 ?_
            refine lv_if_ge (tgt := 121) hx hb dX12_fitting_114 (by decide) (fun hc => ?_) (fun hc => ?_)
            · have hf := ifT hf hc
              refine lv_aload_n hx hb dX12_fitting_121 rfl (lv_at hl 1 rfl) ?_
              refine mg_firstFit cx hw dX12_fitting_122 ?_
              subst hf
              exact wj8 _ _ _ hw (lv_sub hl [1, 2, 0, 3, 4, 5] rfl)
            · have hf := ifF hf hc
              refine lv_iload_n hx hb dX12_fitting_117 rfl (lv_at hl 3 rfl) ?_
              refine lv_goto (tgt := 125) hx hb dX12_fitting_118 (by decide) ?_
              subst hf
              exact wj8 _ _ _ hw (lv_sub hl [1, 2, 0, 3, 4, 5] rfl)
        clear hf
        have hf := hj7
        clear hj7
        refine lv_if_eq (tgt := 101) hx hb dX12_fitting_94 (by decide) (fun hc => ?_) (fun hc => ?_)
        · have hf := ifT hf hc
          refine lv_iconst (v := 0) hx hb dX12_fitting_101 (by decide) ?_
          subst hf
          exact wj7 _ _ _ hw (lv_sub hl [0, 1, 2, 3, 4, 5] rfl)
        · have hf := ifF hf hc
          refine lv_iconst (v := 1) hx hb dX12_fitting_97 (by decide) ?_
          refine lv_goto (tgt := 102) hx hb dX12_fitting_98 (by decide) ?_
          subst hf
          exact wj7 _ _ _ hw (lv_sub hl [0, 1, 2, 3, 4, 5] rfl)
  refine wL1 n ho9 hw (lv_sub hl [2, 3, 1, 0] rfl) (fun H locs ls hw hl => ?_)
  clear wL1 ho9
  refine lv_iload_n hx hb dX12_fitting_134 rfl (lv_at hl 2 rfl) ?_
  have hf := Option.some.inj hf
  subst hf
  exact hR _ _ _ _ _ _ hw rfl ⟨rfl, rfl⟩ dX12_fitting_135
theorem dX12_lone_0 : decode cX12_lone 0 = .ok (.iload_n 1, 1) := by decide +kernel
theorem dX12_lone_1 : decode cX12_lone 1 = .ok (.iconst 0, 1) := by decide +kernel
theorem dX12_lone_2 : decode cX12_lone 2 = .ok (.iconst 3, 1) := by decide +kernel
theorem dX12_lone_3 : decode cX12_lone 3 = .ok (.invokestatic 71, 3) := by decide +kernel
theorem dX12_lone_6 : decode cX12_lone 6 = .ok (.ifCond .ne 5, 3) := by decide +kernel
theorem dX12_lone_9 : decode cX12_lone 9 = .ok (.iconst (-1), 1) := by decide +kernel
theorem dX12_lone_10 : decode cX12_lone 10 = .ok (.ireturn, 1) := by decide +kernel
theorem dX12_lone_11 : decode cX12_lone 11 = .ok (.aload_n 0, 1) := by decide +kernel
theorem dX12_lone_12 : decode cX12_lone 12 = .ok (.iconst (-1), 1) := by decide +kernel
theorem dX12_lone_13 : decode cX12_lone 13 = .ok (.invokevirtual 315, 3) := by decide +kernel
theorem dX12_lone_16 : decode cX12_lone 16 = .ok (.istore_n 2, 1) := by decide +kernel
theorem dX12_lone_17 : decode cX12_lone 17 = .ok (.iload_n 1, 1) := by decide +kernel
theorem dX12_lone_18 : decode cX12_lone 18 = .ok (.ifCond .le 10, 3) := by decide +kernel
theorem dX12_lone_21 : decode cX12_lone 21 = .ok (.iload_n 2, 1) := by decide +kernel
theorem dX12_lone_22 : decode cX12_lone 22 = .ok (.ifCond .ne 6, 3) := by decide +kernel
theorem dX12_lone_25 : decode cX12_lone 25 = .ok (.bipush (-3), 2) := by decide +kernel
theorem dX12_lone_27 : decode cX12_lone 27 = .ok (.ireturn, 1) := by decide +kernel
theorem dX12_lone_28 : decode cX12_lone 28 = .ok (.iload_n 1, 1) := by decide +kernel
theorem dX12_lone_29 : decode cX12_lone 29 = .ok (.ifCond .ne 7, 3) := by decide +kernel
theorem dX12_lone_32 : decode cX12_lone 32 = .ok (.iload_n 2, 1) := by decide +kernel
theorem dX12_lone_33 : decode cX12_lone 33 = .ok (.goto 48, 3) := by decide +kernel
theorem dX12_lone_36 : decode cX12_lone 36 = .ok (.iload_n 1, 1) := by decide +kernel
theorem dX12_lone_37 : decode cX12_lone 37 = .ok (.iconst 1, 1) := by decide +kernel
theorem dX12_lone_38 : decode cX12_lone 38 = .ok (.if_icmp .ne 15, 3) := by decide +kernel
theorem dX12_lone_41 : decode cX12_lone 41 = .ok (.iconst 1, 1) := by decide +kernel
theorem dX12_lone_42 : decode cX12_lone 42 = .ok (.aload_n 0, 1) := by decide +kernel
theorem dX12_lone_43 : decode cX12_lone 43 = .ok (.getfield 306, 3) := by decide +kernel
theorem dX12_lone_46 : decode cX12_lone 46 = .ok (.bipush 100, 2) := by decide +kernel
theorem dX12_lone_48 : decode cX12_lone 48 = .ok (.idiv, 1) := by decide +kernel
theorem dX12_lone_49 : decode cX12_lone 49 = .ok (.iadd, 1) := by decide +kernel
theorem dX12_lone_50 : decode cX12_lone 50 = .ok (.goto 31, 3) := by decide +kernel
theorem dX12_lone_53 : decode cX12_lone 53 = .ok (.iload_n 1, 1) := by decide +kernel
theorem dX12_lone_54 : decode cX12_lone 54 = .ok (.iconst 2, 1) := by decide +kernel
theorem dX12_lone_55 : decode cX12_lone 55 = .ok (.if_icmp .ne 16, 3) := by decide +kernel
theorem dX12_lone_58 : decode cX12_lone 58 = .ok (.aload_n 0, 1) := by decide +kernel
theorem dX12_lone_59 : decode cX12_lone 59 = .ok (.getfield 306, 3) := by decide +kernel
theorem dX12_lone_62 : decode cX12_lone 62 = .ok (.bipush 10, 2) := by decide +kernel
theorem dX12_lone_64 : decode cX12_lone 64 = .ok (.idiv, 1) := by decide +kernel
theorem dX12_lone_65 : decode cX12_lone 65 = .ok (.bipush 10, 2) := by decide +kernel
theorem dX12_lone_67 : decode cX12_lone 67 = .ok (.irem, 1) := by decide +kernel
theorem dX12_lone_68 : decode cX12_lone 68 = .ok (.goto 13, 3) := by decide +kernel
theorem dX12_lone_71 : decode cX12_lone 71 = .ok (.bipush 10, 2) := by decide +kernel
theorem dX12_lone_73 : decode cX12_lone 73 = .ok (.aload_n 0, 1) := by decide +kernel
theorem dX12_lone_74 : decode cX12_lone 74 = .ok (.getfield 306, 3) := by decide +kernel
theorem dX12_lone_77 : decode cX12_lone 77 = .ok (.bipush 10, 2) := by decide +kernel
theorem dX12_lone_79 : decode cX12_lone 79 = .ok (.irem, 1) := by decide +kernel
theorem dX12_lone_80 : decode cX12_lone 80 = .ok (.imul, 1) := by decide +kernel
theorem dX12_lone_81 : decode cX12_lone 81 = .ok (.ireturn, 1) := by decide +kernel
theorem k_X12_lone : MV yX12_lone cX12_lone 3 (some .int) 1 := ⟨q_1569, q_1570, q_14, q_1571, ⟨by decide, by decide, by decide +kernel⟩⟩
theorem c_X12_lone {res : Int32 × (Nat → Int32) × (Nat → Int32) × Int32} (hf : X12_lone n x_s x_lagThen x_shadedThen x_firstFit v1 = some res) : MC l E0 D t yX12_lone cX12_lone 3 (some .int) 4 0 0 [.ref (a 0), .int v1] (mW a t x_s x_kept x_laid x_isKept x_pile x_tape x_taped x_letters x_at x_begun x_token x_value x_opened x_steps x_code0 x_read x_saved x_plan x_bestPlan x_most x_many x_few x_everRight x_lagThen x_shadedThen x_firstFit x_rows x_rowMany x_sorts x_sizes x_number x_holds x_heldOne x_trace x_traced x_own x_isParted) (Qi res.1 (mW a t x_s x_kept x_laid x_isKept x_pile x_tape x_taped x_letters x_at x_begun x_token x_value x_opened x_steps x_code0 x_read x_saved x_plan x_bestPlan x_most x_many x_few x_everRight res.2.1 res.2.2.1 res.2.2.2 x_rows x_rowMany x_sorts x_sizes x_number x_holds x_heldOne x_trace x_traced x_own x_isParted)) := by
  unfold X12_lone at hf
  refine MC.ofI pn_X12 (Nat.le_of_ble_eq_true rfl) ?_
  intro p e s m args below meth c A Q ls cx hR hw hl
  have hx := cx.1
  have hb := cx.2.1
  have hl : lv_has ls 3 [(0, .ref (a 0)), (1, .int v1)] := hl
  refine lv_iload_n hx hb dX12_lone_0 rfl (lv_at hl 1 rfl) ?_
  refine lv_iconst (v := 0) hx hb dX12_lone_1 (by decide) ?_
  refine lv_iconst (v := 3) hx hb dX12_lone_2 (by decide) ?_
  refine calSi cx hw hl.1 (c_X12_in1 rfl) q_1214 k_X12_in1 rfl dX12_lone_3 rfl (Nat.le_of_ble_eq_true rfl) ⟨Nat.le_of_ble_eq_true rfl, Nat.le_of_ble_eq_true rfl⟩ ⟨Nat.le_refl _, Nat.le_refl _⟩ (fun H locs hw => ?_)
  refine lv_if_ne (tgt := 11) hx hb dX12_lone_6 (by decide) (fun hc => ?_) (fun hc => ?_)
  · have hf := ifF hf hc
    refine lv_aload_n hx hb dX12_lone_11 rfl (lv_at hl 0 rfl) ?_
    refine lv_iconst (v := (-1)) hx hb dX12_lone_12 (by decide) ?_
    obtain ⟨r1, h2, hf⟩ := bnS hf
    refine calVi (k := 0) cx hw hl.1 (c_X12_fitting h2) q_1572 k_X12_fitting rfl rfl rfl dX12_lone_13 rfl (Nat.le_of_ble_eq_true rfl) ⟨Nat.le_of_ble_eq_true rfl, Nat.le_of_ble_eq_true rfl⟩ ⟨Nat.le_refl _, Nat.le_refl _⟩ (fun H locs hw => ?_)
    refine lv_istore_n (lv' := [(2, .int r1.1), (0, .ref (a 0)), (1, .int v1)]) hx hb dX12_lone_16 rfl hl (by decide) rfl (fun ls hl => ?_)
    refine lv_iload_n hx hb dX12_lone_17 rfl (lv_at hl 2 rfl) ?_
    obtain ⟨J3, hJ3, hf⟩ := jnS hf
    have wj3 : ∀ (j3 : Unit) (H : Heap) (locs : List Loc) (ls : Array Slot), J3 j3 = some res → Wd D A s (mW a t x_s x_kept x_laid x_isKept x_pile x_tape x_taped x_letters x_at x_begun x_token x_value x_opened x_steps x_code0 x_read x_saved x_plan x_bestPlan x_most x_many x_few x_everRight r1.2.1 r1.2.2.1 r1.2.2.2 x_rows x_rowMany x_sorts x_sizes x_number x_holds x_heldOne x_trace x_traced x_own x_isParted) H locs → lv_has ls 3 [(0, .ref (a 0)), (1, .int v1), (2, .int r1.1)] → W p l e (rmz 4 0 0) s m args below meth c H locs 0 0 Q (F0 m 28 ls []) := by
      intro j3 H locs ls hf hw hl
      have hf := hJ3 _ hf
      refine lv_iload_n hx hb dX12_lone_28 rfl (lv_at hl 1 rfl) ?_
      refine lv_if_ne (tgt := 36) hx hb dX12_lone_29 (by decide) (fun hc => ?_) (fun hc => ?_)
      · have hf := ifF hf hc
        refine lv_iload_n hx hb dX12_lone_36 rfl (lv_at hl 1 rfl) ?_
        refine lv_iconst (v := 1) hx hb dX12_lone_37 (by decide) ?_
        refine lv_icmp_ne (tgt := 53) hx hb dX12_lone_38 (by decide) (fun hc => ?_) (fun hc => ?_)
        · have hf := ifF hf hc
          refine lv_iload_n hx hb dX12_lone_53 rfl (lv_at hl 1 rfl) ?_
          refine lv_iconst (v := 2) hx hb dX12_lone_54 (by decide) ?_
          refine lv_icmp_ne (tgt := 71) hx hb dX12_lone_55 (by decide) (fun hc => ?_) (fun hc => ?_)
          · have hf := ifF hf hc
            refine lv_bipush (v := 10) hx hb dX12_lone_71 (by decide) ?_
            refine lv_aload_n hx hb dX12_lone_73 rfl (lv_at hl 0 rfl) ?_
            refine mg_firstFit cx hw dX12_lone_74 ?_
            refine lv_bipush (v := 10) hx hb dX12_lone_77 (by decide) ?_
            refine lv_irem hx hb dX12_lone_79 (by decide) ?_
            refine lv_imul hx hb dX12_lone_80 ?_
            have hf := Option.some.inj hf
            subst hf
            exact hR _ _ _ _ _ _ hw rfl ⟨rfl, rfl⟩ dX12_lone_81
          · have hf := ifT hf hc
            refine lv_aload_n hx hb dX12_lone_58 rfl (lv_at hl 0 rfl) ?_
            refine mg_firstFit cx hw dX12_lone_59 ?_
            refine lv_bipush (v := 10) hx hb dX12_lone_62 (by decide) ?_
            refine lv_idiv hx hb dX12_lone_64 (by decide) ?_
            refine lv_bipush (v := 10) hx hb dX12_lone_65 (by decide) ?_
            refine lv_irem hx hb dX12_lone_67 (by decide) ?_
            refine lv_goto (tgt := 81) hx hb dX12_lone_68 (by decide) ?_
            have hf := Option.some.inj hf
            subst hf
            exact hR _ _ _ _ _ _ hw rfl ⟨rfl, rfl⟩ dX12_lone_81
        · have hf := ifT hf hc
          refine lv_iconst (v := 1) hx hb dX12_lone_41 (by decide) ?_
          refine lv_aload_n hx hb dX12_lone_42 rfl (lv_at hl 0 rfl) ?_
          refine mg_firstFit cx hw dX12_lone_43 ?_
          refine lv_bipush (v := 100) hx hb dX12_lone_46 (by decide) ?_
          refine lv_idiv hx hb dX12_lone_48 (by decide) ?_
          refine lv_iadd hx hb dX12_lone_49 ?_
          refine lv_goto (tgt := 81) hx hb dX12_lone_50 (by decide) ?_
          have hf := Option.some.inj hf
          subst hf
          exact hR _ _ _ _ _ _ hw rfl ⟨rfl, rfl⟩ dX12_lone_81
      · have hf := ifT hf hc
        refine lv_iload_n hx hb dX12_lone_32 rfl (lv_at hl 2 rfl) ?_
        refine lv_goto (tgt := 81) hx hb dX12_lone_33 (by decide) ?_
        have hf := Option.some.inj hf
        subst hf
        exact hR _ _ _ _ _ _ hw rfl ⟨rfl, rfl⟩ dX12_lone_81
    clear hJ3
    refine lv_if_le (tgt := 28) hx hb dX12_lone_18 (by decide) (fun hc => ?_) (fun hc => ?_)
    · have hf := ifT hf hc
      exact wj3 _ _ _ _ hf hw (lv_sub hl [1, 2, 0] rfl)
    · have hf := ifF hf hc
      refine lv_iload_n hx hb dX12_lone_21 rfl (lv_at hl 0 rfl) ?_
      refine lv_if_ne (tgt := 28) hx hb dX12_lone_22 (by decide) (fun hc => ?_) (fun hc => ?_)
      · have hf := ifF hf hc
        exact wj3 _ _ _ _ hf hw (lv_sub hl [1, 2, 0] rfl)
      · have hf := ifT hf hc
        refine lv_bipush (v := (-3)) hx hb dX12_lone_25 (by decide) ?_
        have hf := Option.some.inj hf
        subst hf
        exact hR _ _ _ _ _ _ hw rfl ⟨rfl, rfl⟩ dX12_lone_27
  · have hf := ifT hf hc
    refine lv_iconst (v := (-1)) hx hb dX12_lone_9 (by decide) ?_
    have hf := Option.some.inj hf
    subst hf
    exact hR _ _ _ _ _ _ hw rfl ⟨rfl, rfl⟩ dX12_lone_10
theorem dX12_liar_0 : decode cX12_liar 0 = .ok (.aload_n 0, 1) := by decide +kernel
theorem dX12_liar_1 : decode cX12_liar 1 = .ok (.iconst (-1), 1) := by decide +kernel
theorem dX12_liar_2 : decode cX12_liar 2 = .ok (.invokevirtual 315, 3) := by decide +kernel
theorem dX12_liar_5 : decode cX12_liar 5 = .ok (.ifCond .le 6, 3) := by decide +kernel
theorem dX12_liar_8 : decode cX12_liar 8 = .ok (.bipush (-3), 2) := by decide +kernel
theorem dX12_liar_10 : decode cX12_liar 10 = .ok (.ireturn, 1) := by decide +kernel
theorem dX12_liar_11 : decode cX12_liar 11 = .ok (.iconst 0, 1) := by decide +kernel
theorem dX12_liar_12 : decode cX12_liar 12 = .ok (.istore_n 1, 1) := by decide +kernel
theorem dX12_liar_13 : decode cX12_liar 13 = .ok (.iload_n 1, 1) := by decide +kernel
theorem dX12_liar_14 : decode cX12_liar 14 = .ok (.aload_n 0, 1) := by decide +kernel
theorem dX12_liar_15 : decode cX12_liar 15 = .ok (.getfield 9, 3) := by decide +kernel
theorem dX12_liar_18 : decode cX12_liar 18 = .ok (.bipush 6, 2) := by decide +kernel
theorem dX12_liar_20 : decode cX12_liar 20 = .ok (.iaload, 1) := by decide +kernel
theorem dX12_liar_21 : decode cX12_liar 21 = .ok (.if_icmp .ge 19, 3) := by decide +kernel
theorem dX12_liar_24 : decode cX12_liar 24 = .ok (.aload_n 0, 1) := by decide +kernel
theorem dX12_liar_25 : decode cX12_liar 25 = .ok (.iload_n 1, 1) := by decide +kernel
theorem dX12_liar_26 : decode cX12_liar 26 = .ok (.invokevirtual 315, 3) := by decide +kernel
theorem dX12_liar_29 : decode cX12_liar 29 = .ok (.ifCond .le 5, 3) := by decide +kernel
theorem dX12_liar_32 : decode cX12_liar 32 = .ok (.iload_n 1, 1) := by decide +kernel
theorem dX12_liar_33 : decode cX12_liar 33 = .ok (.ireturn, 1) := by decide +kernel
theorem dX12_liar_34 : decode cX12_liar 34 = .ok (.iinc 1 1, 3) := by decide +kernel
theorem dX12_liar_37 : decode cX12_liar 37 = .ok (.goto (-24), 3) := by decide +kernel
theorem dX12_liar_40 : decode cX12_liar 40 = .ok (.bipush (-3), 2) := by decide +kernel
theorem dX12_liar_42 : decode cX12_liar 42 = .ok (.ireturn, 1) := by decide +kernel
theorem k_X12_liar : MV yX12_liar cX12_liar 2 (some .int) 0 := ⟨q_1585, q_1586, q_14, q_1587, ⟨by decide, by decide, by decide +kernel⟩⟩
theorem c_X12_liar {res : Int32 × (Nat → Int32) × (Nat → Int32) × Int32} (hf : X12_liar n x_s x_lagThen x_shadedThen = some res) : MC l E0 D t yX12_liar cX12_liar 2 (some .int) 4 0 0 [.ref (a 0)] (mW a t x_s x_kept x_laid x_isKept x_pile x_tape x_taped x_letters x_at x_begun x_token x_value x_opened x_steps x_code0 x_read x_saved x_plan x_bestPlan x_most x_many x_few x_everRight x_lagThen x_shadedThen x_firstFit x_rows x_rowMany x_sorts x_sizes x_number x_holds x_heldOne x_trace x_traced x_own x_isParted) (Qi res.1 (mW a t x_s x_kept x_laid x_isKept x_pile x_tape x_taped x_letters x_at x_begun x_token x_value x_opened x_steps x_code0 x_read x_saved x_plan x_bestPlan x_most x_many x_few x_everRight res.2.1 res.2.2.1 res.2.2.2 x_rows x_rowMany x_sorts x_sizes x_number x_holds x_heldOne x_trace x_traced x_own x_isParted)) := by
  unfold X12_liar at hf
  refine MC.ofI pn_X12 (Nat.le_of_ble_eq_true rfl) ?_
  intro p e s m args below meth c A Q ls cx hR hw hl
  have hx := cx.1
  have hb := cx.2.1
  have hl : lv_has ls 2 [(0, .ref (a 0))] := hl
  refine lv_aload_n hx hb dX12_liar_0 rfl (lv_at hl 0 rfl) ?_
  refine lv_iconst (v := (-1)) hx hb dX12_liar_1 (by decide) ?_
  obtain ⟨r1, h2, hf⟩ := bnS hf
  refine calVi (k := 0) cx hw hl.1 (c_X12_fitting h2) q_1572 k_X12_fitting rfl rfl rfl dX12_liar_2 rfl (Nat.le_of_ble_eq_true rfl) ⟨Nat.le_of_ble_eq_true rfl, Nat.le_of_ble_eq_true rfl⟩ ⟨Nat.le_refl _, Nat.le_refl _⟩ (fun H locs hw => ?_)
  refine lv_if_le (tgt := 11) hx hb dX12_liar_5 (by decide) (fun hc => ?_) (fun hc => ?_)
  · have hf := ifT hf hc
    refine lv_iconst (v := 0) hx hb dX12_liar_11 (by decide) ?_
    refine lv_istore_n (lv' := [(1, .int (0 : Int32)), (0, .ref (a 0))]) hx hb dX12_liar_12 rfl hl (by decide) rfl (fun ls hl => ?_)
    obtain ⟨K1, hK1, hf⟩ := jnS hf
    have kx1 : ∀ (o5 : Int32 × (Nat → Int32) × (Nat → Int32) × Int32) (H : Heap) (locs : List Loc) (ls : Array Slot), K1 o5 = some res → Wd D A s (mW a t x_s x_kept x_laid x_isKept x_pile x_tape x_taped x_letters x_at x_begun x_token x_value x_opened x_steps x_code0 x_read x_saved x_plan x_bestPlan x_most x_many x_few x_everRight o5.2.1 o5.2.2.1 o5.2.2.2 x_rows x_rowMany x_sorts x_sizes x_number x_holds x_heldOne x_trace x_traced x_own x_isParted) H locs → lv_has ls 2 [(0, .ref (a 0)), (1, .int o5.1)] → W p l e (rmz 4 0 0) s m args below meth c H locs 0 0 Q (F0 m 40 ls []) := by
      intro o5 H locs ls hf hw hl
      have hf := hK1 _ hf
      refine lv_bipush (v := (-3)) hx hb dX12_liar_40 (by decide) ?_
      have hf := Option.some.inj hf
      subst hf
      exact hR _ _ _ _ _ _ hw rfl ⟨rfl, rfl⟩ dX12_liar_42
    have wL1 : ∀ (k : Nat) {v1 : Int32} {x_lagThen : Nat → Int32} {x_shadedThen : Nat → Int32} {x_firstFit : Int32} {H : Heap} {locs : List Loc} {ls : Array Slot}, X12_liar_L1 n x_s K1 k v1 x_lagThen x_shadedThen x_firstFit = some res → Wd D A s (mW a t x_s x_kept x_laid x_isKept x_pile x_tape x_taped x_letters x_at x_begun x_token x_value x_opened x_steps x_code0 x_read x_saved x_plan x_bestPlan x_most x_many x_few x_everRight x_lagThen x_shadedThen x_firstFit x_rows x_rowMany x_sorts x_sizes x_number x_holds x_heldOne x_trace x_traced x_own x_isParted) H locs → lv_has ls 2 [(0, .ref (a 0)), (1, .int v1)] → (∀ (o : Int32 × (Nat → Int32) × (Nat → Int32) × Int32) (H : Heap) (locs : List Loc) (ls : Array Slot), K1 o = some res → Wd D A s (mW a t x_s x_kept x_laid x_isKept x_pile x_tape x_taped x_letters x_at x_begun x_token x_value x_opened x_steps x_code0 x_read x_saved x_plan x_bestPlan x_most x_many x_few x_everRight o.2.1 o.2.2.1 o.2.2.2 x_rows x_rowMany x_sorts x_sizes x_number x_holds x_heldOne x_trace x_traced x_own x_isParted) H locs → lv_has ls 2 [(0, .ref (a 0)), (1, .int o.1)] → W p l e (rmz 4 0 0) s m args below meth c H locs 0 0 Q (F0 m 40 ls [])) → W p l e (rmz 4 0 0) s m args below meth c H locs 0 0 Q (F0 m 13 ls []) := by
      clear hf hw hl hK1 kx1
      intro k
      induction k with
      | zero => intro v1 x_lagThen x_shadedThen x_firstFit H locs ls hf hw hl kx; simp [X12_liar_L1] at hf
      | succ k ih =>
        intro v1 x_lagThen x_shadedThen x_firstFit H locs ls hf hw hl kx
        rw [X12_liar_L1] at hf
        refine lv_iload_n hx hb dX12_liar_13 rfl (lv_at hl 1 rfl) ?_
        refine lv_aload_n hx hb dX12_liar_14 rfl (lv_at hl 0 rfl) ?_
        refine mg_s cx hw dX12_liar_15 ?_
        refine lv_bipush (v := 6) hx hb dX12_liar_18 (by decide) ?_
        refine ml_s (j := 6) cx hw (ib_in (by decide)) (by decide) dX12_liar_20 ?_
        refine lv_icmp_ge (tgt := 40) hx hb dX12_liar_21 (by decide) (fun hc => ?_) (fun hc => ?_)
        · have hf := ifT hf hc
          exact kx _ _ _ _ hf hw (lv_sub hl [0, 1] rfl)
        · have hf := ifF hf hc
          refine lv_aload_n hx hb dX12_liar_24 rfl (lv_at hl 0 rfl) ?_
          refine lv_iload_n hx hb dX12_liar_25 rfl (lv_at hl 1 rfl) ?_
          obtain ⟨r3, h4, hf⟩ := bnS hf
          refine calVi (k := 0) cx hw hl.1 (c_X12_fitting h4) q_1572 k_X12_fitting rfl rfl rfl dX12_liar_26 rfl (Nat.le_of_ble_eq_true rfl) ⟨Nat.le_of_ble_eq_true rfl, Nat.le_of_ble_eq_true rfl⟩ ⟨Nat.le_refl _, Nat.le_refl _⟩ (fun H locs hw => ?_)
          refine lv_if_le (tgt := 34) hx hb dX12_liar_29 (by decide) (fun hc => ?_) (fun hc => ?_)
          · have hf := ifT hf hc
            refine lv_iinc (v := (v1 + (1 : Int32))) (lv' := [(1, .int (v1 + (1 : Int32))), (0, .ref (a 0))]) hx hb dX12_liar_34 hl (k := 1) rfl rfl (by decide) rfl (fun ls hl => ?_)
            refine lv_goto (tgt := 13) hx hb dX12_liar_37 (by decide) ?_
            exact ih hf hw (lv_sub hl [1, 0] rfl) kx
          · have hf := ifF hf hc
            refine lv_iload_n hx hb dX12_liar_32 rfl (lv_at hl 1 rfl) ?_
            have hf := Option.some.inj hf
            subst hf
            exact hR _ _ _ _ _ _ hw rfl ⟨rfl, rfl⟩ dX12_liar_33
    exact wL1 n hf hw (lv_sub hl [1, 0] rfl) kx1
  · have hf := ifF hf hc
    refine lv_bipush (v := (-3)) hx hb dX12_liar_8 (by decide) ?_
    have hf := Option.some.inj hf
    subst hf
    exact hR _ _ _ _ _ _ hw rfl ⟨rfl, rfl⟩ dX12_liar_10
theorem dX12_seed_0 : decode cX12_seed 0 = .ok (.aload_n 0, 1) := by decide +kernel
theorem dX12_seed_1 : decode cX12_seed 1 = .ok (.iconst 3, 1) := by decide +kernel
theorem dX12_seed_2 : decode cX12_seed 2 = .ok (.iload_n 1, 1) := by decide +kernel
theorem dX12_seed_3 : decode cX12_seed 3 = .ok (.invokevirtual 234, 3) := by decide +kernel
theorem dX12_seed_6 : decode cX12_seed 6 = .ok (.ireturn, 1) := by decide +kernel
theorem k_X12_seed : MV yX12_seed cX12_seed 2 (some .int) 1 := ⟨q_1589, q_1590, q_14, q_1591, ⟨by decide, by decide, by decide +kernel⟩⟩
theorem c_X12_seed {res : Int32 × (Nat → Int32)} (hf : X12_seed x_s v1 = some res) : MC l E0 D t yX12_seed cX12_seed 2 (some .int) 2 0 0 [.ref (a 0), .int v1] (mW a t x_s x_kept x_laid x_isKept x_pile x_tape x_taped x_letters x_at x_begun x_token x_value x_opened x_steps x_code0 x_read x_saved x_plan x_bestPlan x_most x_many x_few x_everRight x_lagThen x_shadedThen x_firstFit x_rows x_rowMany x_sorts x_sizes x_number x_holds x_heldOne x_trace x_traced x_own x_isParted) (Qi res.1 (mW a t res.2 x_kept x_laid x_isKept x_pile x_tape x_taped x_letters x_at x_begun x_token x_value x_opened x_steps x_code0 x_read x_saved x_plan x_bestPlan x_most x_many x_few x_everRight x_lagThen x_shadedThen x_firstFit x_rows x_rowMany x_sorts x_sizes x_number x_holds x_heldOne x_trace x_traced x_own x_isParted)) := by
  unfold X12_seed at hf
  refine MC.ofI pn_X12 (Nat.le_of_ble_eq_true rfl) ?_
  intro p e s m args below meth c A Q ls cx hR hw hl
  have hx := cx.1
  have hb := cx.2.1
  have hl : lv_has ls 2 [(0, .ref (a 0)), (1, .int v1)] := hl
  refine lv_aload_n hx hb dX12_seed_0 rfl (lv_at hl 0 rfl) ?_
  refine lv_iconst (v := 3) hx hb dX12_seed_1 (by decide) ?_
  refine lv_iload_n hx hb dX12_seed_2 rfl (lv_at hl 1 rfl) ?_
  obtain ⟨r1, h2, hf⟩ := bnS hf
  refine calVi (k := 0) cx hw hl.1 (c_X12_becomes h2) q_1363 k_X12_becomes rfl rfl rfl dX12_seed_3 rfl (Nat.le_of_ble_eq_true rfl) ⟨Nat.le_of_ble_eq_true rfl, Nat.le_of_ble_eq_true rfl⟩ ⟨Nat.le_refl _, Nat.le_refl _⟩ (fun H locs hw => ?_)
  have hf := Option.some.inj hf
  subst hf
  exact hR _ _ _ _ _ _ hw rfl ⟨rfl, rfl⟩ dX12_seed_6
theorem dX12_byLot_0 : decode cX12_byLot 0 = .ok (.aload_n 0, 1) := by decide +kernel
theorem dX12_byLot_1 : decode cX12_byLot 1 = .ok (.getfield 9, 3) := by decide +kernel
theorem dX12_byLot_4 : decode cX12_byLot 4 = .ok (.iconst 3, 1) := by decide +kernel
theorem dX12_byLot_5 : decode cX12_byLot 5 = .ok (.aload_n 0, 1) := by decide +kernel
theorem dX12_byLot_6 : decode cX12_byLot 6 = .ok (.getfield 9, 3) := by decide +kernel
theorem dX12_byLot_9 : decode cX12_byLot 9 = .ok (.iconst 3, 1) := by decide +kernel
theorem dX12_byLot_10 : decode cX12_byLot 10 = .ok (.iaload, 1) := by decide +kernel
theorem dX12_byLot_11 : decode cX12_byLot 11 = .ok (.ldc_w 318, 3) := by decide +kernel
theorem dX12_byLot_14 : decode cX12_byLot 14 = .ok (.imul, 1) := by decide +kernel
theorem dX12_byLot_15 : decode cX12_byLot 15 = .ok (.sipush 12345, 3) := by decide +kernel
theorem dX12_byLot_18 : decode cX12_byLot 18 = .ok (.iadd, 1) := by decide +kernel
theorem dX12_byLot_19 : decode cX12_byLot 19 = .ok (.iastore, 1) := by decide +kernel
theorem dX12_byLot_20 : decode cX12_byLot 20 = .ok (.aload_n 0, 1) := by decide +kernel
theorem dX12_byLot_21 : decode cX12_byLot 21 = .ok (.aload_n 0, 1) := by decide +kernel
theorem dX12_byLot_22 : decode cX12_byLot 22 = .ok (.getfield 9, 3) := by decide +kernel
theorem dX12_byLot_25 : decode cX12_byLot 25 = .ok (.iconst 3, 1) := by decide +kernel
theorem dX12_byLot_26 : decode cX12_byLot 26 = .ok (.iaload, 1) := by decide +kernel
theorem dX12_byLot_27 : decode cX12_byLot 27 = .ok (.bipush 16, 2) := by decide +kernel
theorem dX12_byLot_29 : decode cX12_byLot 29 = .ok (.iushr, 1) := by decide +kernel
theorem dX12_byLot_30 : decode cX12_byLot 30 = .ok (.aload_n 0, 1) := by decide +kernel
theorem dX12_byLot_31 : decode cX12_byLot 31 = .ok (.getfield 9, 3) := by decide +kernel
theorem dX12_byLot_34 : decode cX12_byLot 34 = .ok (.iconst 4, 1) := by decide +kernel
theorem dX12_byLot_35 : decode cX12_byLot 35 = .ok (.iaload, 1) := by decide +kernel
theorem dX12_byLot_36 : decode cX12_byLot 36 = .ok (.iconst 1, 1) := by decide +kernel
theorem dX12_byLot_37 : decode cX12_byLot 37 = .ok (.iadd, 1) := by decide +kernel
theorem dX12_byLot_38 : decode cX12_byLot 38 = .ok (.irem, 1) := by decide +kernel
theorem dX12_byLot_39 : decode cX12_byLot 39 = .ok (.invokevirtual 243, 3) := by decide +kernel
theorem dX12_byLot_42 : decode cX12_byLot 42 = .ok (.ireturn, 1) := by decide +kernel
theorem k_X12_byLot : MV yX12_byLot cX12_byLot 1 (some .int) 0 := ⟨q_1598, qs_84, q_14, q_1599, ⟨by decide, by decide, by decide +kernel⟩⟩
theorem c_X12_byLot {res : Int32 × (Nat → Int32) × (Nat → Int32)} (hf : X12_byLot n x_s x_pile = some res) : MC l E0 D t yX12_byLot cX12_byLot 1 (some .int) 8 0 0 [.ref (a 0)] (mW a t x_s x_kept x_laid x_isKept x_pile x_tape x_taped x_letters x_at x_begun x_token x_value x_opened x_steps x_code0 x_read x_saved x_plan x_bestPlan x_most x_many x_few x_everRight x_lagThen x_shadedThen x_firstFit x_rows x_rowMany x_sorts x_sizes x_number x_holds x_heldOne x_trace x_traced x_own x_isParted) (Qi res.1 (mW a t res.2.1 x_kept x_laid x_isKept res.2.2 x_tape x_taped x_letters x_at x_begun x_token x_value x_opened x_steps x_code0 x_read x_saved x_plan x_bestPlan x_most x_many x_few x_everRight x_lagThen x_shadedThen x_firstFit x_rows x_rowMany x_sorts x_sizes x_number x_holds x_heldOne x_trace x_traced x_own x_isParted)) := by
  unfold X12_byLot at hf
  refine MC.ofI pn_X12 (Nat.le_of_ble_eq_true rfl) ?_
  intro p e s m args below meth c A Q ls cx hR hw hl
  have hx := cx.1
  have hb := cx.2.1
  have hl : lv_has ls 1 [(0, .ref (a 0))] := hl
  refine lv_aload_n hx hb dX12_byLot_0 rfl (lv_at hl 0 rfl) ?_
  refine mg_s cx hw dX12_byLot_1 ?_
  refine lv_iconst (v := 3) hx hb dX12_byLot_4 (by decide) ?_
  refine lv_aload_n hx hb dX12_byLot_5 rfl (lv_at hl 0 rfl) ?_
  refine mg_s cx hw dX12_byLot_6 ?_
  refine lv_iconst (v := 3) hx hb dX12_byLot_9 (by decide) ?_
  refine ml_s (j := 3) cx hw (ib_in (by decide)) (by decide) dX12_byLot_10 ?_
  refine lv_ldcw (v := 1103515245) hx hb cx.2.2.2.1 (cx.2.2.2.2.1 _ q_1600) dX12_byLot_11 ?_
  refine lv_imul hx hb dX12_byLot_14 ?_
  refine lv_sipush (v := 12345) hx hb dX12_byLot_15 (by decide) ?_
  refine lv_iadd hx hb dX12_byLot_18 ?_
  refine ms_s (j := 3) cx hw (ib_in (by decide)) (by decide) dX12_byLot_19 (fun H locs hw => ?_)
  refine lv_aload_n hx hb dX12_byLot_20 rfl (lv_at hl 0 rfl) ?_
  refine lv_aload_n hx hb dX12_byLot_21 rfl (lv_at hl 0 rfl) ?_
  refine mg_s cx hw dX12_byLot_22 ?_
  refine lv_iconst (v := 3) hx hb dX12_byLot_25 (by decide) ?_
  refine ml_s (j := 3) cx hw (ib_in (by decide)) (by decide) dX12_byLot_26 ?_
  refine lv_bipush (v := 16) hx hb dX12_byLot_27 (by decide) ?_
  refine lv_iushr hx hb dX12_byLot_29 rfl ?_
  refine lv_aload_n hx hb dX12_byLot_30 rfl (lv_at hl 0 rfl) ?_
  refine mg_s cx hw dX12_byLot_31 ?_
  refine lv_iconst (v := 4) hx hb dX12_byLot_34 (by decide) ?_
  refine ml_s (j := 4) cx hw (ib_in (by decide)) (by decide) dX12_byLot_35 ?_
  refine lv_iconst (v := 1) hx hb dX12_byLot_36 (by decide) ?_
  refine lv_iadd hx hb dX12_byLot_37 ?_
  obtain ⟨h1, hf⟩ := ckS hf
  refine lv_irem hx hb dX12_byLot_38 (by simpa using h1) ?_
  obtain ⟨r2, h3, hf⟩ := bnS hf
  refine calVi (k := 0) cx hw hl.1 (c_X12_goesBy h3) q_1418 k_X12_goesBy rfl rfl rfl dX12_byLot_39 rfl (Nat.le_of_ble_eq_true rfl) ⟨Nat.le_of_ble_eq_true rfl, Nat.le_of_ble_eq_true rfl⟩ ⟨Nat.le_refl _, Nat.le_refl _⟩ (fun H locs hw => ?_)
  have hf := Option.some.inj hf
  subst hf
  exact hR _ _ _ _ _ _ hw rfl ⟨rfl, rfl⟩ dX12_byLot_42
theorem dX12_lot_0 : decode cX12_lot 0 = .ok (.aload_n 0, 1) := by decide +kernel
theorem dX12_lot_1 : decode cX12_lot 1 = .ok (.invokevirtual 237, 3) := by decide +kernel
theorem dX12_lot_4 : decode cX12_lot 4 = .ok (.ifCond .eq 8, 3) := by decide +kernel
theorem dX12_lot_7 : decode cX12_lot 7 = .ok (.bipush (-4), 2) := by decide +kernel
theorem dX12_lot_9 : decode cX12_lot 9 = .ok (.goto 7, 3) := by decide +kernel
theorem dX12_lot_12 : decode cX12_lot 12 = .ok (.aload_n 0, 1) := by decide +kernel
theorem dX12_lot_13 : decode cX12_lot 13 = .ok (.invokevirtual 319, 3) := by decide +kernel
theorem dX12_lot_16 : decode cX12_lot 16 = .ok (.ireturn, 1) := by decide +kernel
theorem k_X12_lot : MV yX12_lot cX12_lot 1 (some .int) 0 := ⟨q_1593, q_1594, q_14, q_1595, ⟨by decide, by decide, by decide +kernel⟩⟩
theorem c_X12_lot {res : Int32 × (Nat → Int32) × (Nat → Int32)} (hf : X12_lot n x_s x_pile = some res) : MC l E0 D t yX12_lot cX12_lot 1 (some .int) 9 0 0 [.ref (a 0)] (mW a t x_s x_kept x_laid x_isKept x_pile x_tape x_taped x_letters x_at x_begun x_token x_value x_opened x_steps x_code0 x_read x_saved x_plan x_bestPlan x_most x_many x_few x_everRight x_lagThen x_shadedThen x_firstFit x_rows x_rowMany x_sorts x_sizes x_number x_holds x_heldOne x_trace x_traced x_own x_isParted) (Qi res.1 (mW a t res.2.1 x_kept x_laid x_isKept res.2.2 x_tape x_taped x_letters x_at x_begun x_token x_value x_opened x_steps x_code0 x_read x_saved x_plan x_bestPlan x_most x_many x_few x_everRight x_lagThen x_shadedThen x_firstFit x_rows x_rowMany x_sorts x_sizes x_number x_holds x_heldOne x_trace x_traced x_own x_isParted)) := by
  unfold X12_lot at hf
  refine MC.ofI pn_X12 (Nat.le_of_ble_eq_true rfl) ?_
  intro p e s m args below meth c A Q ls cx hR hw hl
  have hx := cx.1
  have hb := cx.2.1
  have hl : lv_has ls 1 [(0, .ref (a 0))] := hl
  refine lv_aload_n hx hb dX12_lot_0 rfl (lv_at hl 0 rfl) ?_
  refine calVi (k := 0) cx hw hl.1 (c_X12_isOver rfl) q_1395 k_X12_isOver rfl rfl rfl dX12_lot_1 rfl (Nat.le_of_ble_eq_true rfl) ⟨Nat.le_of_ble_eq_true rfl, Nat.le_of_ble_eq_true rfl⟩ ⟨Nat.le_refl _, Nat.le_refl _⟩ (fun H locs hw => ?_)
  refine lv_if_eq (tgt := 12) hx hb dX12_lot_4 (by decide) (fun hc => ?_) (fun hc => ?_)
  · have hf := ifT hf hc
    refine lv_aload_n hx hb dX12_lot_12 rfl (lv_at hl 0 rfl) ?_
    obtain ⟨r1, h2, hf⟩ := bnS hf
    refine calVi (k := 0) cx hw hl.1 (c_X12_byLot h2) q_1596 k_X12_byLot rfl rfl rfl dX12_lot_13 rfl (Nat.le_of_ble_eq_true rfl) ⟨Nat.le_of_ble_eq_true rfl, Nat.le_of_ble_eq_true rfl⟩ ⟨Nat.le_refl _, Nat.le_refl _⟩ (fun H locs hw => ?_)
    have hf := Option.some.inj hf
    subst hf
    exact hR _ _ _ _ _ _ hw rfl ⟨rfl, rfl⟩ dX12_lot_16
  · have hf := ifF hf hc
    refine lv_bipush (v := (-4)) hx hb dX12_lot_7 (by decide) ?_
    refine lv_goto (tgt := 16) hx hb dX12_lot_9 (by decide) ?_
    have hf := Option.some.inj hf
    subst hf
    exact hR _ _ _ _ _ _ hw rfl ⟨rfl, rfl⟩ dX12_lot_16
theorem dX12_times_0 : decode cX12_times 0 = .ok (.iload_n 1, 1) := by decide +kernel
theorem dX12_times_1 : decode cX12_times 1 = .ok (.iconst 1, 1) := by decide +kernel
theorem dX12_times_2 : decode cX12_times 2 = .ok (.bipush 40, 2) := by decide +kernel
theorem dX12_times_4 : decode cX12_times 4 = .ok (.invokestatic 71, 3) := by decide +kernel
theorem dX12_times_7 : decode cX12_times 7 = .ok (.ifCond .eq 14, 3) := by decide +kernel
theorem dX12_times_10 : decode cX12_times 10 = .ok (.iload_n 2, 1) := by decide +kernel
theorem dX12_times_11 : decode cX12_times 11 = .ok (.iconst 0, 1) := by decide +kernel
theorem dX12_times_12 : decode cX12_times 12 = .ok (.sipush 999, 3) := by decide +kernel
theorem dX12_times_15 : decode cX12_times 15 = .ok (.invokestatic 71, 3) := by decide +kernel
theorem dX12_times_18 : decode cX12_times 18 = .ok (.ifCond .ne 5, 3) := by decide +kernel
theorem dX12_times_21 : decode cX12_times 21 = .ok (.iconst (-1), 1) := by decide +kernel
theorem dX12_times_22 : decode cX12_times 22 = .ok (.ireturn, 1) := by decide +kernel
theorem dX12_times_23 : decode cX12_times 23 = .ok (.aload_n 0, 1) := by decide +kernel
theorem dX12_times_24 : decode cX12_times 24 = .ok (.invokevirtual 246, 3) := by decide +kernel
theorem dX12_times_27 : decode cX12_times 27 = .ok (.iconst 0, 1) := by decide +kernel
theorem dX12_times_28 : decode cX12_times 28 = .ok (.istore_n 3, 1) := by decide +kernel
theorem dX12_times_29 : decode cX12_times 29 = .ok (.iconst 0, 1) := by decide +kernel
theorem dX12_times_30 : decode cX12_times 30 = .ok (.istore 4, 2) := by decide +kernel
theorem dX12_times_32 : decode cX12_times 32 = .ok (.iload 4, 2) := by decide +kernel
theorem dX12_times_34 : decode cX12_times 34 = .ok (.iload_n 1, 1) := by decide +kernel
theorem dX12_times_35 : decode cX12_times 35 = .ok (.if_icmp .ge 65, 3) := by decide +kernel
theorem dX12_times_38 : decode cX12_times 38 = .ok (.iconst 0, 1) := by decide +kernel
theorem dX12_times_39 : decode cX12_times 39 = .ok (.istore 5, 2) := by decide +kernel
theorem dX12_times_41 : decode cX12_times 41 = .ok (.aload_n 0, 1) := by decide +kernel
theorem dX12_times_42 : decode cX12_times 42 = .ok (.invokevirtual 237, 3) := by decide +kernel
theorem dX12_times_45 : decode cX12_times 45 = .ok (.ifCond .ne 15, 3) := by decide +kernel
theorem dX12_times_48 : decode cX12_times 48 = .ok (.iload 5, 2) := by decide +kernel
theorem dX12_times_50 : decode cX12_times 50 = .ok (.aload_n 0, 1) := by decide +kernel
theorem dX12_times_51 : decode cX12_times 51 = .ok (.invokevirtual 319, 3) := by decide +kernel
theorem dX12_times_54 : decode cX12_times 54 = .ok (.iadd, 1) := by decide +kernel
theorem dX12_times_55 : decode cX12_times 55 = .ok (.istore 5, 2) := by decide +kernel
theorem dX12_times_57 : decode cX12_times 57 = .ok (.goto (-16), 3) := by decide +kernel
theorem dX12_times_60 : decode cX12_times 60 = .ok (.iload_n 3, 1) := by decide +kernel
theorem dX12_times_61 : decode cX12_times 61 = .ok (.iload 5, 2) := by decide +kernel
theorem dX12_times_63 : decode cX12_times 63 = .ok (.iload_n 2, 1) := by decide +kernel
theorem dX12_times_64 : decode cX12_times 64 = .ok (.if_icmp .lt 7, 3) := by decide +kernel
theorem dX12_times_67 : decode cX12_times 67 = .ok (.iconst 1, 1) := by decide +kernel
theorem dX12_times_68 : decode cX12_times 68 = .ok (.goto 4, 3) := by decide +kernel
theorem dX12_times_71 : decode cX12_times 71 = .ok (.iconst 0, 1) := by decide +kernel
theorem dX12_times_72 : decode cX12_times 72 = .ok (.iadd, 1) := by decide +kernel
theorem dX12_times_73 : decode cX12_times 73 = .ok (.istore_n 3, 1) := by decide +kernel
theorem dX12_times_74 : decode cX12_times 74 = .ok (.aload_n 0, 1) := by decide +kernel
theorem dX12_times_75 : decode cX12_times 75 = .ok (.getfield 9, 3) := by decide +kernel
theorem dX12_times_78 : decode cX12_times 78 = .ok (.iconst 3, 1) := by decide +kernel
theorem dX12_times_79 : decode cX12_times 79 = .ok (.iaload, 1) := by decide +kernel
theorem dX12_times_80 : decode cX12_times 80 = .ok (.istore 6, 2) := by decide +kernel
theorem dX12_times_82 : decode cX12_times 82 = .ok (.aload_n 0, 1) := by decide +kernel
theorem dX12_times_83 : decode cX12_times 83 = .ok (.invokevirtual 252, 3) := by decide +kernel
theorem dX12_times_86 : decode cX12_times 86 = .ok (.aload_n 0, 1) := by decide +kernel
theorem dX12_times_87 : decode cX12_times 87 = .ok (.getfield 9, 3) := by decide +kernel
theorem dX12_times_90 : decode cX12_times 90 = .ok (.iconst 3, 1) := by decide +kernel
theorem dX12_times_91 : decode cX12_times 91 = .ok (.iload 6, 2) := by decide +kernel
theorem dX12_times_93 : decode cX12_times 93 = .ok (.iastore, 1) := by decide +kernel
theorem dX12_times_94 : decode cX12_times 94 = .ok (.iinc 4 1, 3) := by decide +kernel
theorem dX12_times_97 : decode cX12_times 97 = .ok (.goto (-65), 3) := by decide +kernel
theorem dX12_times_100 : decode cX12_times 100 = .ok (.aload_n 0, 1) := by decide +kernel
theorem dX12_times_101 : decode cX12_times 101 = .ok (.invokevirtual 252, 3) := by decide +kernel
theorem dX12_times_104 : decode cX12_times 104 = .ok (.iload_n 3, 1) := by decide +kernel
theorem dX12_times_105 : decode cX12_times 105 = .ok (.ireturn, 1) := by decide +kernel
theorem k_X12_times : MV yX12_times cX12_times 7 (some .int) 2 := ⟨q_1602, q_1603, q_14, q_1604, ⟨by decide, by decide, by decide +kernel⟩⟩
theorem c_X12_times {res : Int32 × (Nat → Int32) × (Nat → Int32) × (Nat → Int32)} (hf : X12_times n x_s x_laid x_pile v1 v2 = some res) : MC l E0 D t yX12_times cX12_times 7 (some .int) 9 0 0 [.ref (a 0), .int v1, .int v2] (mW a t x_s x_kept x_laid x_isKept x_pile x_tape x_taped x_letters x_at x_begun x_token x_value x_opened x_steps x_code0 x_read x_saved x_plan x_bestPlan x_most x_many x_few x_everRight x_lagThen x_shadedThen x_firstFit x_rows x_rowMany x_sorts x_sizes x_number x_holds x_heldOne x_trace x_traced x_own x_isParted) (Qi res.1 (mW a t res.2.1 x_kept res.2.2.1 x_isKept res.2.2.2 x_tape x_taped x_letters x_at x_begun x_token x_value x_opened x_steps x_code0 x_read x_saved x_plan x_bestPlan x_most x_many x_few x_everRight x_lagThen x_shadedThen x_firstFit x_rows x_rowMany x_sorts x_sizes x_number x_holds x_heldOne x_trace x_traced x_own x_isParted)) := by
  unfold X12_times at hf
  refine MC.ofI pn_X12 (Nat.le_of_ble_eq_true rfl) ?_
  intro p e s m args below meth c A Q ls cx hR hw hl
  have hx := cx.1
  have hb := cx.2.1
  have hl : lv_has ls 7 [(0, .ref (a 0)), (1, .int v1), (2, .int v2)] := hl
  refine lv_iload_n hx hb dX12_times_0 rfl (lv_at hl 1 rfl) ?_
  refine lv_iconst (v := 1) hx hb dX12_times_1 (by decide) ?_
  refine lv_bipush (v := 40) hx hb dX12_times_2 (by decide) ?_
  refine calSi cx hw hl.1 (c_X12_in1 rfl) q_1214 k_X12_in1 rfl dX12_times_4 rfl (Nat.le_of_ble_eq_true rfl) ⟨Nat.le_of_ble_eq_true rfl, Nat.le_of_ble_eq_true rfl⟩ ⟨Nat.le_refl _, Nat.le_refl _⟩ (fun H locs hw => ?_)
  refine lv_if_eq (tgt := 21) hx hb dX12_times_7 (by decide) (fun hc => ?_) (fun hc => ?_)
  · have hf := ifT hf hc
    refine lv_iconst (v := (-1)) hx hb dX12_times_21 (by decide) ?_
    have hf := Option.some.inj hf
    subst hf
    exact hR _ _ _ _ _ _ hw rfl ⟨rfl, rfl⟩ dX12_times_22
  · have hf := ifF hf hc
    refine lv_iload_n hx hb dX12_times_10 rfl (lv_at hl 2 rfl) ?_
    refine lv_iconst (v := 0) hx hb dX12_times_11 (by decide) ?_
    refine lv_sipush (v := 999) hx hb dX12_times_12 (by decide) ?_
    refine calSi cx hw hl.1 (c_X12_in1 rfl) q_1214 k_X12_in1 rfl dX12_times_15 rfl (Nat.le_of_ble_eq_true rfl) ⟨Nat.le_of_ble_eq_true rfl, Nat.le_of_ble_eq_true rfl⟩ ⟨Nat.le_refl _, Nat.le_refl _⟩ (fun H locs hw => ?_)
    refine lv_if_ne (tgt := 23) hx hb dX12_times_18 (by decide) (fun hc => ?_) (fun hc => ?_)
    · have hf := ifF hf hc
      refine lv_aload_n hx hb dX12_times_23 rfl (lv_at hl 0 rfl) ?_
      obtain ⟨r1, h2, hf⟩ := bnS hf
      refine calVv (k := 0) cx hw hl.1 (c_X12_layDown h2) q_1445 k_X12_layDown rfl rfl rfl dX12_times_24 rfl (Nat.le_of_ble_eq_true rfl) ⟨Nat.le_of_ble_eq_true rfl, Nat.le_of_ble_eq_true rfl⟩ ⟨Nat.le_refl _, Nat.le_refl _⟩ (fun H locs hw => ?_)
      refine lv_iconst (v := 0) hx hb dX12_times_27 (by decide) ?_
      refine lv_istore_n (lv' := [(3, .int (0 : Int32)), (0, .ref (a 0)), (1, .int v1), (2, .int v2)]) hx hb dX12_times_28 rfl hl (by decide) rfl (fun ls hl => ?_)
      refine lv_iconst (v := 0) hx hb dX12_times_29 (by decide) ?_
      refine lv_istore (lv' := [(4, .int (0 : Int32)), (3, .int (0 : Int32)), (0, .ref (a 0)), (1, .int v1), (2, .int v2)]) hx hb dX12_times_30 hl (by decide) rfl (fun ls hl => ?_)
      obtain ⟨o9, ho9, hf⟩ := bnS hf
      have wL1 : ∀ (k : Nat) {v1 : Int32} {v2 : Int32} {v3 : Int32} {v4 : Int32} {x_s : Nat → Int32} {x_laid : Nat → Int32} {x_pile : Nat → Int32} {H : Heap} {locs : List Loc} {ls : Array Slot} {o : Int32 × Int32 × (Nat → Int32) × (Nat → Int32)}, X12_times_L1 n x_laid v1 v2 k v3 v4 x_s x_pile = some o → Wd D A s (mW a t x_s x_kept x_laid x_isKept x_pile x_tape x_taped x_letters x_at x_begun x_token x_value x_opened x_steps x_code0 x_read x_saved x_plan x_bestPlan x_most x_many x_few x_everRight x_lagThen x_shadedThen x_firstFit x_rows x_rowMany x_sorts x_sizes x_number x_holds x_heldOne x_trace x_traced x_own x_isParted) H locs → lv_has ls 7 [(0, .ref (a 0)), (1, .int v1), (2, .int v2), (3, .int v3), (4, .int v4)] → (∀ (H : Heap) (locs : List Loc) (ls : Array Slot), Wd D A s (mW a t o.2.2.1 x_kept x_laid x_isKept o.2.2.2 x_tape x_taped x_letters x_at x_begun x_token x_value x_opened x_steps x_code0 x_read x_saved x_plan x_bestPlan x_most x_many x_few x_everRight x_lagThen x_shadedThen x_firstFit x_rows x_rowMany x_sorts x_sizes x_number x_holds x_heldOne x_trace x_traced x_own x_isParted) H locs → lv_has ls 7 [(0, .ref (a 0)), (1, .int v1), (2, .int v2), (3, .int o.1), (4, .int o.2.1)] → W p l e (rmz 9 0 0) s m args below meth c H locs 0 0 Q (F0 m 100 ls [])) → W p l e (rmz 9 0 0) s m args below meth c H locs 0 0 Q (F0 m 32 ls []) := by
        clear hf ho9 hw hl
        intro k
        induction k with
        | zero => intro v1 v2 v3 v4 x_s x_laid x_pile H locs ls o hf hw hl kx; simp [X12_times_L1] at hf
        | succ k ih =>
          intro v1 v2 v3 v4 x_s x_laid x_pile H locs ls o hf hw hl kx
          rw [X12_times_L1] at hf
          refine lv_iload hx hb dX12_times_32 (lv_at hl 4 rfl) ?_
          refine lv_iload_n hx hb dX12_times_34 rfl (lv_at hl 1 rfl) ?_
          refine lv_icmp_ge (tgt := 100) hx hb dX12_times_35 (by decide) (fun hc => ?_) (fun hc => ?_)
          · have hf := ifT hf hc
            have hf := Option.some.inj hf
            subst hf
            exact kx _ _ _ hw (lv_sub hl [0, 1, 2, 3, 4] rfl)
          · have hf := ifF hf hc
            refine lv_iconst (v := 0) hx hb dX12_times_38 (by decide) ?_
            refine lv_istore (lv' := [(5, .int (0 : Int32)), (0, .ref (a 0)), (1, .int v1), (2, .int v2), (3, .int v3), (4, .int v4)]) hx hb dX12_times_39 hl (by decide) rfl (fun ls hl => ?_)
            obtain ⟨o5, ho5, hf⟩ := bnS hf
            have wL2 : ∀ (k : Nat) {v1 : Int32} {v2 : Int32} {v3 : Int32} {v4 : Int32} {v5 : Int32} {x_s : Nat → Int32} {x_pile : Nat → Int32} {H : Heap} {locs : List Loc} {ls : Array Slot} {o : Int32 × (Nat → Int32) × (Nat → Int32)}, X12_times_L2 n k v5 x_s x_pile = some o → Wd D A s (mW a t x_s x_kept x_laid x_isKept x_pile x_tape x_taped x_letters x_at x_begun x_token x_value x_opened x_steps x_code0 x_read x_saved x_plan x_bestPlan x_most x_many x_few x_everRight x_lagThen x_shadedThen x_firstFit x_rows x_rowMany x_sorts x_sizes x_number x_holds x_heldOne x_trace x_traced x_own x_isParted) H locs → lv_has ls 7 [(0, .ref (a 0)), (1, .int v1), (2, .int v2), (3, .int v3), (4, .int v4), (5, .int v5)] → (∀ (H : Heap) (locs : List Loc) (ls : Array Slot), Wd D A s (mW a t o.2.1 x_kept x_laid x_isKept o.2.2 x_tape x_taped x_letters x_at x_begun x_token x_value x_opened x_steps x_code0 x_read x_saved x_plan x_bestPlan x_most x_many x_few x_everRight x_lagThen x_shadedThen x_firstFit x_rows x_rowMany x_sorts x_sizes x_number x_holds x_heldOne x_trace x_traced x_own x_isParted) H locs → lv_has ls 7 [(0, .ref (a 0)), (1, .int v1), (2, .int v2), (3, .int v3), (4, .int v4), (5, .int o.1)] → W p l e (rmz 9 0 0) s m args below meth c H locs 0 0 Q (F0 m 60 ls [])) → W p l e (rmz 9 0 0) s m args below meth c H locs 0 0 Q (F0 m 41 ls []) := by
              clear hf ho5 hw hl
              intro k
              induction k with
              | zero => intro v1 v2 v3 v4 v5 x_s x_pile H locs ls o hf hw hl kx; simp [X12_times_L2] at hf
              | succ k ih =>
                intro v1 v2 v3 v4 v5 x_s x_pile H locs ls o hf hw hl kx
                rw [X12_times_L2] at hf
                refine lv_aload_n hx hb dX12_times_41 rfl (lv_at hl 0 rfl) ?_
                refine calVi (k := 0) cx hw hl.1 (c_X12_isOver rfl) q_1395 k_X12_isOver rfl rfl rfl dX12_times_42 rfl (Nat.le_of_ble_eq_true rfl) ⟨Nat.le_of_ble_eq_true rfl, Nat.le_of_ble_eq_true rfl⟩ ⟨Nat.le_refl _, Nat.le_refl _⟩ (fun H locs hw => ?_)
                refine lv_if_ne (tgt := 60) hx hb dX12_times_45 (by decide) (fun hc => ?_) (fun hc => ?_)
                · have hf := ifF hf hc
                  have hf := Option.some.inj hf
                  subst hf
                  exact kx _ _ _ hw (lv_sub hl [0, 1, 2, 3, 4, 5] rfl)
                · have hf := ifT hf hc
                  refine lv_iload hx hb dX12_times_48 (lv_at hl 5 rfl) ?_
                  refine lv_aload_n hx hb dX12_times_50 rfl (lv_at hl 0 rfl) ?_
                  obtain ⟨r3, h4, hf⟩ := bnS hf
                  refine calVi (k := 0) cx hw hl.1 (c_X12_byLot h4) q_1596 k_X12_byLot rfl rfl rfl dX12_times_51 rfl (Nat.le_of_ble_eq_true rfl) ⟨Nat.le_of_ble_eq_true rfl, Nat.le_of_ble_eq_true rfl⟩ ⟨Nat.le_refl _, Nat.le_refl _⟩ (fun H locs hw => ?_)
                  refine lv_iadd hx hb dX12_times_54 ?_
                  refine lv_istore (lv' := [(5, .int (v5 + r3.1)), (0, .ref (a 0)), (1, .int v1), (2, .int v2), (3, .int v3), (4, .int v4)]) hx hb dX12_times_55 hl (by decide) rfl (fun ls hl => ?_)
                  refine lv_goto (tgt := 41) hx hb dX12_times_57 (by decide) ?_
                  exact ih hf hw (lv_sub hl [1, 2, 3, 4, 5, 0] rfl) kx
            refine wL2 n ho5 hw (lv_sub hl [1, 2, 3, 4, 5, 0] rfl) (fun H locs ls hw hl => ?_)
            clear wL2 ho5
            refine lv_iload_n hx hb dX12_times_60 rfl (lv_at hl 3 rfl) ?_
            refine lv_iload hx hb dX12_times_61 (lv_at hl 5 rfl) ?_
            refine lv_iload_n hx hb dX12_times_63 rfl (lv_at hl 2 rfl) ?_
            obtain ⟨j6, hj6, hf⟩ := pbS hf
            have wj6 : ∀ (H : Heap) (locs : List Loc) (ls : Array Slot), Wd D A s (mW a t o5.2.1 x_kept x_laid x_isKept o5.2.2 x_tape x_taped x_letters x_at x_begun x_token x_value x_opened x_steps x_code0 x_read x_saved x_plan x_bestPlan x_most x_many x_few x_everRight x_lagThen x_shadedThen x_firstFit x_rows x_rowMany x_sorts x_sizes x_number x_holds x_heldOne x_trace x_traced x_own x_isParted) H locs → lv_has ls 7 [(0, .ref (a 0)), (1, .int v1), (2, .int v2), (3, .int v3), (4, .int v4), (5, .int o5.1)] → W p l e (rmz 9 0 0) s m args below meth c H locs 0 0 Q (F0 m 72 ls [.int j6, .int v3]) := by
              intro H locs ls hw hl
              refine lv_iadd hx hb dX12_times_72 ?_
              refine lv_istore_n (lv' := [(3, .int (v3 + j6)), (0, .ref (a 0)), (1, .int v1), (2, .int v2), (4, .int v4), (5, .int o5.1)]) hx hb dX12_times_73 rfl hl (by decide) rfl (fun ls hl => ?_)
              refine lv_aload_n hx hb dX12_times_74 rfl (lv_at hl 1 rfl) ?_
              refine mg_s cx hw dX12_times_75 ?_
              refine lv_iconst (v := 3) hx hb dX12_times_78 (by decide) ?_
              refine ml_s (j := 3) cx hw (ib_in (by decide)) (by decide) dX12_times_79 ?_
              refine lv_istore (lv' := [(6, .int (o5.2.1 3)), (3, .int (v3 + j6)), (0, .ref (a 0)), (1, .int v1), (2, .int v2), (4, .int v4), (5, .int o5.1)]) hx hb dX12_times_80 hl (by decide) rfl (fun ls hl => ?_)
              refine lv_aload_n hx hb dX12_times_82 rfl (lv_at hl 2 rfl) ?_
              obtain ⟨r7, h8, hf⟩ := bnS hf
              refine calVv (k := 0) cx hw hl.1 (c_X12_layBack h8) q_1453 k_X12_layBack rfl rfl rfl dX12_times_83 rfl (Nat.le_of_ble_eq_true rfl) ⟨Nat.le_of_ble_eq_true rfl, Nat.le_of_ble_eq_true rfl⟩ ⟨Nat.le_refl _, Nat.le_refl _⟩ (fun H locs hw => ?_)
              refine lv_aload_n hx hb dX12_times_86 rfl (lv_at hl 2 rfl) ?_
              refine mg_s cx hw dX12_times_87 ?_
              refine lv_iconst (v := 3) hx hb dX12_times_90 (by decide) ?_
              refine lv_iload hx hb dX12_times_91 (lv_at hl 0 rfl) ?_
              refine ms_s (j := 3) cx hw (ib_in (by decide)) (by decide) dX12_times_93 (fun H locs hw => ?_)
              refine lv_iinc (v := (v4 + (1 : Int32))) (lv' := [(4, .int (v4 + (1 : Int32))), (6, .int (o5.2.1 3)), (3, .int (v3 + j6)), (0, .ref (a 0)), (1, .int v1), (2, .int v2), (5, .int o5.1)]) hx hb dX12_times_94 hl (k := 5) rfl rfl (by decide) rfl (fun ls hl => ?_)
              refine lv_goto (tgt := 32) hx hb dX12_times_97 (by decide) ?_
              exact ih hf hw (lv_sub hl [3, 4, 5, 2, 0] rfl) kx
            clear hf
            have hf := hj6
            clear hj6
            refine lv_icmp_lt (tgt := 71) hx hb dX12_times_64 (by decide) (fun hc => ?_) (fun hc => ?_)
            · have hf := ifT hf hc
              refine lv_iconst (v := 0) hx hb dX12_times_71 (by decide) ?_
              subst hf
              exact wj6 _ _ _ hw (lv_sub hl [0, 1, 2, 3, 4, 5] rfl)
            · have hf := ifF hf hc
              refine lv_iconst (v := 1) hx hb dX12_times_67 (by decide) ?_
              refine lv_goto (tgt := 72) hx hb dX12_times_68 (by decide) ?_
              subst hf
              exact wj6 _ _ _ hw (lv_sub hl [0, 1, 2, 3, 4, 5] rfl)
      refine wL1 n ho9 hw (lv_sub hl [2, 3, 4, 1, 0] rfl) (fun H locs ls hw hl => ?_)
      clear wL1 ho9
      refine lv_aload_n hx hb dX12_times_100 rfl (lv_at hl 0 rfl) ?_
      obtain ⟨r10, h11, hf⟩ := bnS hf
      refine calVv (k := 0) cx hw hl.1 (c_X12_layBack h11) q_1453 k_X12_layBack rfl rfl rfl dX12_times_101 rfl (Nat.le_of_ble_eq_true rfl) ⟨Nat.le_of_ble_eq_true rfl, Nat.le_of_ble_eq_true rfl⟩ ⟨Nat.le_refl _, Nat.le_refl _⟩ (fun H locs hw => ?_)
      refine lv_iload_n hx hb dX12_times_104 rfl (lv_at hl 3 rfl) ?_
      have hf := Option.some.inj hf
      subst hf
      exact hR _ _ _ _ _ _ hw rfl ⟨rfl, rfl⟩ dX12_times_105
    · have hf := ifT hf hc
      refine lv_iconst (v := (-1)) hx hb dX12_times_21 (by decide) ?_
      have hf := Option.some.inj hf
      subst hf
      exact hR _ _ _ _ _ _ hw rfl ⟨rfl, rfl⟩ dX12_times_22
end MW5
