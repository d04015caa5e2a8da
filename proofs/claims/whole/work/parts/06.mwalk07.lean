section MW7
variable {l : Launch} {D : va_G} {t : Nat → ClassId} {a : Nat → Nat} {n : Nat} {x_s : Nat → Int32} {x_kept : Nat → Int32} {x_laid : Nat → Int32} {x_isKept : Int32} {x_pile : Nat → Int32} {x_tape : Nat → Int32} {x_taped : Int32} {x_letters : Nat → Int32} {x_at : Int32} {x_begun : Int32} {x_token : Int32} {x_value : Int32} {x_opened : Int32} {x_steps : Int32} {x_code0 : Nat → Int32} {x_read : Nat → Int32} {x_saved : Nat → Int32} {x_plan : Nat → Int32} {x_bestPlan : Nat → Int32} {x_most : Int32} {x_many : Int32} {x_few : Int32} {x_everRight : Int32} {x_lagThen : Nat → Int32} {x_shadedThen : Nat → Int32} {x_firstFit : Int32} {x_rows : Nat → Int32} {x_rowMany : Int32} {x_sorts : Nat → Int32} {x_sizes : Nat → Int32} {x_number : Nat → Int32} {x_holds : Nat → Int32} {x_heldOne : Nat → Int32} {x_trace : Nat → Int32} {x_traced : Int32} {x_own : Int32} {x_isParted : Int32} {v0 v1 v2 v3 v4 v5 : Int32}
theorem dX12_heldOn_0 : decode cX12_heldOn 0 = .ok (.aload_n 0, 1) := by decide +kernel
theorem dX12_heldOn_1 : decode cX12_heldOn 1 = .ok (.getfield 62, 3) := by decide +kernel
theorem dX12_heldOn_4 : decode cX12_heldOn 4 = .ok (.iload_n 1, 1) := by decide +kernel
theorem dX12_heldOn_5 : decode cX12_heldOn 5 = .ok (.iaload, 1) := by decide +kernel
theorem dX12_heldOn_6 : decode cX12_heldOn 6 = .ok (.ifCond .ne 20, 3) := by decide +kernel
theorem dX12_heldOn_9 : decode cX12_heldOn 9 = .ok (.aload_n 0, 1) := by decide +kernel
theorem dX12_heldOn_10 : decode cX12_heldOn 10 = .ok (.aload_n 0, 1) := by decide +kernel
theorem dX12_heldOn_11 : decode cX12_heldOn 11 = .ok (.getfield 65, 3) := by decide +kernel
theorem dX12_heldOn_14 : decode cX12_heldOn 14 = .ok (.iload_n 1, 1) := by decide +kernel
theorem dX12_heldOn_15 : decode cX12_heldOn 15 = .ok (.iaload, 1) := by decide +kernel
theorem dX12_heldOn_16 : decode cX12_heldOn 16 = .ok (.invokevirtual 231, 3) := by decide +kernel
theorem dX12_heldOn_19 : decode cX12_heldOn 19 = .ok (.ifCond .ne 7, 3) := by decide +kernel
theorem dX12_heldOn_22 : decode cX12_heldOn 22 = .ok (.iconst (-1), 1) := by decide +kernel
theorem dX12_heldOn_23 : decode cX12_heldOn 23 = .ok (.goto 9, 3) := by decide +kernel
theorem dX12_heldOn_26 : decode cX12_heldOn 26 = .ok (.aload_n 0, 1) := by decide +kernel
theorem dX12_heldOn_27 : decode cX12_heldOn 27 = .ok (.getfield 62, 3) := by decide +kernel
theorem dX12_heldOn_30 : decode cX12_heldOn 30 = .ok (.iload_n 1, 1) := by decide +kernel
theorem dX12_heldOn_31 : decode cX12_heldOn 31 = .ok (.iaload, 1) := by decide +kernel
theorem dX12_heldOn_32 : decode cX12_heldOn 32 = .ok (.ireturn, 1) := by decide +kernel
theorem k_X12_heldOn : MV yX12_heldOn cX12_heldOn 2 (some .int) 1 := ⟨q_1673, qs_89, q_14, q_1674, ⟨by decide, by decide, by decide +kernel⟩⟩
theorem c_X12_heldOn {res : Int32} (hf : X12_heldOn x_s x_holds x_heldOne v1 = some res) : MC l E0 D t yX12_heldOn cX12_heldOn 2 (some .int) 3 0 0 [.ref (a 0), .int v1] (mW a t x_s x_kept x_laid x_isKept x_pile x_tape x_taped x_letters x_at x_begun x_token x_value x_opened x_steps x_code0 x_read x_saved x_plan x_bestPlan x_most x_many x_few x_everRight x_lagThen x_shadedThen x_firstFit x_rows x_rowMany x_sorts x_sizes x_number x_holds x_heldOne x_trace x_traced x_own x_isParted) (Qi res (mW a t x_s x_kept x_laid x_isKept x_pile x_tape x_taped x_letters x_at x_begun x_token x_value x_opened x_steps x_code0 x_read x_saved x_plan x_bestPlan x_most x_many x_few x_everRight x_lagThen x_shadedThen x_firstFit x_rows x_rowMany x_sorts x_sizes x_number x_holds x_heldOne x_trace x_traced x_own x_isParted)) := by
  unfold X12_heldOn at hf
  refine MC.ofI pn_X12 (Nat.le_of_ble_eq_true rfl) ?_
  intro p e s m args below meth c A Q ls cx hR hw hl
  have hx := cx.1
  have hb := cx.2.1
  have hl : lv_has ls 2 [(0, .ref (a 0)), (1, .int v1)] := hl
  refine lv_aload_n hx hb dX12_heldOn_0 rfl (lv_at hl 0 rfl) ?_
  refine mg_holds cx hw dX12_heldOn_1 ?_
  refine lv_iload_n hx hb dX12_heldOn_4 rfl (lv_at hl 1 rfl) ?_
  obtain ⟨h1, hf⟩ := ckS hf
  refine ml_holds (j := v1.toNatClampNeg) cx hw (ib_in h1) rfl dX12_heldOn_5 ?_
  obtain ⟨J3, hJ3, hf⟩ := jnS hf
  have wj3 : ∀ (j3 : Unit) (H : Heap) (locs : List Loc) (ls : Array Slot), J3 j3 = some res → Wd D A s (mW a t x_s x_kept x_laid x_isKept x_pile x_tape x_taped x_letters x_at x_begun x_token x_value x_opened x_steps x_code0 x_read x_saved x_plan x_bestPlan x_most x_many x_few x_everRight x_lagThen x_shadedThen x_firstFit x_rows x_rowMany x_sorts x_sizes x_number x_holds x_heldOne x_trace x_traced x_own x_isParted) H locs → lv_has ls 2 [(0, .ref (a 0)), (1, .int v1)] → W p l e (rmz 3 0 0) s m args below meth c H locs 0 0 Q (F0 m 26 ls []) := by
    intro j3 H locs ls hf hw hl
    have hf := hJ3 _ hf
    refine lv_aload_n hx hb dX12_heldOn_26 rfl (lv_at hl 0 rfl) ?_
    refine mg_holds cx hw dX12_heldOn_27 ?_
    refine lv_iload_n hx hb dX12_heldOn_30 rfl (lv_at hl 1 rfl) ?_
    obtain ⟨h4, hf⟩ := ckS hf
    refine ml_holds (j := v1.toNatClampNeg) cx hw (ib_in h4) rfl dX12_heldOn_31 ?_
    have hf := Option.some.inj hf
    subst hf
    exact hR _ _ _ _ _ _ hw rfl ⟨rfl, rfl⟩ dX12_heldOn_32
  clear hJ3
  refine lv_if_ne (tgt := 26) hx hb dX12_heldOn_6 (by decide) (fun hc => ?_) (fun hc => ?_)
  · have hf := ifF hf hc
    exact wj3 _ _ _ _ hf hw (lv_sub hl [0, 1] rfl)
  · have hf := ifT hf hc
    refine lv_aload_n hx hb dX12_heldOn_9 rfl (lv_at hl 0 rfl) ?_
    refine lv_aload_n hx hb dX12_heldOn_10 rfl (lv_at hl 0 rfl) ?_
    refine mg_heldOne cx hw dX12_heldOn_11 ?_
    refine lv_iload_n hx hb dX12_heldOn_14 rfl (lv_at hl 1 rfl) ?_
    obtain ⟨h2, hf⟩ := ckS hf
    refine ml_heldOne (j := v1.toNatClampNeg) cx hw (ib_in h2) rfl dX12_heldOn_15 ?_
    refine calVi (k := 0) cx hw hl.1 (c_X12_isDial rfl) q_1296 k_X12_isDial rfl rfl rfl dX12_heldOn_16 rfl (Nat.le_of_ble_eq_true rfl) ⟨Nat.le_of_ble_eq_true rfl, Nat.le_of_ble_eq_true rfl⟩ ⟨Nat.le_refl _, Nat.le_refl _⟩ (fun H locs hw => ?_)
    refine lv_if_ne (tgt := 26) hx hb dX12_heldOn_19 (by decide) (fun hc => ?_) (fun hc => ?_)
    · have hf := ifF hf hc
      exact wj3 _ _ _ _ hf hw (lv_sub hl [0, 1] rfl)
    · have hf := ifT hf hc
      refine lv_iconst (v := (-1)) hx hb dX12_heldOn_22 (by decide) ?_
      refine lv_goto (tgt := 32) hx hb dX12_heldOn_23 (by decide) ?_
      have hf := Option.some.inj hf
      subst hf
      exact hR _ _ _ _ _ _ hw rfl ⟨rfl, rfl⟩ dX12_heldOn_32
theorem dX12_taken_0 : decode cX12_taken 0 = .ok (.iload_n 1, 1) := by decide +kernel
theorem dX12_taken_1 : decode cX12_taken 1 = .ok (.invokestatic 331, 3) := by decide +kernel
theorem dX12_taken_4 : decode cX12_taken 4 = .ok (.ifCond .eq 23, 3) := by decide +kernel
theorem dX12_taken_7 : decode cX12_taken 7 = .ok (.iload_n 2, 1) := by decide +kernel
theorem dX12_taken_8 : decode cX12_taken 8 = .ok (.iconst 0, 1) := by decide +kernel
theorem dX12_taken_9 : decode cX12_taken 9 = .ok (.iconst 5, 1) := by decide +kernel
theorem dX12_taken_10 : decode cX12_taken 10 = .ok (.invokestatic 71, 3) := by decide +kernel
theorem dX12_taken_13 : decode cX12_taken 13 = .ok (.ifCond .ne 16, 3) := by decide +kernel
theorem dX12_taken_16 : decode cX12_taken 16 = .ok (.iload_n 2, 1) := by decide +kernel
theorem dX12_taken_17 : decode cX12_taken 17 = .ok (.bipush 10, 2) := by decide +kernel
theorem dX12_taken_19 : decode cX12_taken 19 = .ok (.bipush 14, 2) := by decide +kernel
theorem dX12_taken_21 : decode cX12_taken 21 = .ok (.invokestatic 71, 3) := by decide +kernel
theorem dX12_taken_24 : decode cX12_taken 24 = .ok (.ifCond .ne 5, 3) := by decide +kernel
theorem dX12_taken_27 : decode cX12_taken 27 = .ok (.iconst (-1), 1) := by decide +kernel
theorem dX12_taken_28 : decode cX12_taken 28 = .ok (.ireturn, 1) := by decide +kernel
theorem dX12_taken_29 : decode cX12_taken 29 = .ok (.aload_n 0, 1) := by decide +kernel
theorem dX12_taken_30 : decode cX12_taken 30 = .ok (.iload_n 1, 1) := by decide +kernel
theorem dX12_taken_31 : decode cX12_taken 31 = .ok (.invokevirtual 343, 3) := by decide +kernel
theorem dX12_taken_34 : decode cX12_taken 34 = .ok (.istore_n 3, 1) := by decide +kernel
theorem dX12_taken_35 : decode cX12_taken 35 = .ok (.iload_n 3, 1) := by decide +kernel
theorem dX12_taken_36 : decode cX12_taken 36 = .ok (.ifCond .ge 6, 3) := by decide +kernel
theorem dX12_taken_39 : decode cX12_taken 39 = .ok (.bipush (-11), 2) := by decide +kernel
theorem dX12_taken_41 : decode cX12_taken 41 = .ok (.ireturn, 1) := by decide +kernel
theorem dX12_taken_42 : decode cX12_taken 42 = .ok (.iload_n 3, 1) := by decide +kernel
theorem dX12_taken_43 : decode cX12_taken 43 = .ok (.ifCond .ne 35, 3) := by decide +kernel
theorem dX12_taken_46 : decode cX12_taken 46 = .ok (.iload_n 2, 1) := by decide +kernel
theorem dX12_taken_47 : decode cX12_taken 47 = .ok (.bipush 10, 2) := by decide +kernel
theorem dX12_taken_49 : decode cX12_taken 49 = .ok (.if_icmp .ge 25, 3) := by decide +kernel
theorem dX12_taken_52 : decode cX12_taken 52 = .ok (.aload_n 0, 1) := by decide +kernel
theorem dX12_taken_53 : decode cX12_taken 53 = .ok (.aload_n 0, 1) := by decide +kernel
theorem dX12_taken_54 : decode cX12_taken 54 = .ok (.getfield 65, 3) := by decide +kernel
theorem dX12_taken_57 : decode cX12_taken 57 = .ok (.iload_n 1, 1) := by decide +kernel
theorem dX12_taken_58 : decode cX12_taken 58 = .ok (.iaload, 1) := by decide +kernel
theorem dX12_taken_59 : decode cX12_taken 59 = .ok (.iconst 0, 1) := by decide +kernel
theorem dX12_taken_60 : decode cX12_taken 60 = .ok (.invokevirtual 79, 3) := by decide +kernel
theorem dX12_taken_63 : decode cX12_taken 63 = .ok (.iload_n 2, 1) := by decide +kernel
theorem dX12_taken_64 : decode cX12_taken 64 = .ok (.invokestatic 122, 3) := by decide +kernel
theorem dX12_taken_67 : decode cX12_taken 67 = .ok (.ifCond .eq 7, 3) := by decide +kernel
theorem dX12_taken_70 : decode cX12_taken 70 = .ok (.iconst 1, 1) := by decide +kernel
theorem dX12_taken_71 : decode cX12_taken 71 = .ok (.goto 17, 3) := by decide +kernel
theorem dX12_taken_74 : decode cX12_taken 74 = .ok (.iconst 0, 1) := by decide +kernel
theorem dX12_taken_75 : decode cX12_taken 75 = .ok (.goto 13, 3) := by decide +kernel
theorem dX12_taken_78 : decode cX12_taken 78 = .ok (.iload_n 3, 1) := by decide +kernel
theorem dX12_taken_79 : decode cX12_taken 79 = .ok (.iload_n 2, 1) := by decide +kernel
theorem dX12_taken_80 : decode cX12_taken 80 = .ok (.if_icmp .ne 7, 3) := by decide +kernel
theorem dX12_taken_83 : decode cX12_taken 83 = .ok (.iconst 1, 1) := by decide +kernel
theorem dX12_taken_84 : decode cX12_taken 84 = .ok (.goto 4, 3) := by decide +kernel
theorem dX12_taken_87 : decode cX12_taken 87 = .ok (.iconst 0, 1) := by decide +kernel
theorem dX12_taken_88 : decode cX12_taken 88 = .ok (.istore 4, 2) := by decide +kernel
theorem dX12_taken_90 : decode cX12_taken 90 = .ok (.iload 4, 2) := by decide +kernel
theorem dX12_taken_92 : decode cX12_taken 92 = .ok (.ifCond .eq 12, 3) := by decide +kernel
theorem dX12_taken_95 : decode cX12_taken 95 = .ok (.aload_n 0, 1) := by decide +kernel
theorem dX12_taken_96 : decode cX12_taken 96 = .ok (.getfield 65, 3) := by decide +kernel
theorem dX12_taken_99 : decode cX12_taken 99 = .ok (.iload_n 1, 1) := by decide +kernel
theorem dX12_taken_100 : decode cX12_taken 100 = .ok (.iaload, 1) := by decide +kernel
theorem dX12_taken_101 : decode cX12_taken 101 = .ok (.goto 5, 3) := by decide +kernel
theorem dX12_taken_104 : decode cX12_taken 104 = .ok (.bipush (-13), 2) := by decide +kernel
theorem dX12_taken_106 : decode cX12_taken 106 = .ok (.ireturn, 1) := by decide +kernel
theorem k_X12_taken : MV yX12_taken cX12_taken 5 (some .int) 2 := ⟨q_1668, q_1669, q_14, q_1670, ⟨by decide, by decide, by decide +kernel⟩⟩
theorem c_X12_taken {res : Int32} (hf : X12_taken n x_s x_holds x_heldOne v1 v2 = some res) : MC l E0 D t yX12_taken cX12_taken 5 (some .int) 4 0 0 [.ref (a 0), .int v1, .int v2] (mW a t x_s x_kept x_laid x_isKept x_pile x_tape x_taped x_letters x_at x_begun x_token x_value x_opened x_steps x_code0 x_read x_saved x_plan x_bestPlan x_most x_many x_few x_everRight x_lagThen x_shadedThen x_firstFit x_rows x_rowMany x_sorts x_sizes x_number x_holds x_heldOne x_trace x_traced x_own x_isParted) (Qi res (mW a t x_s x_kept x_laid x_isKept x_pile x_tape x_taped x_letters x_at x_begun x_token x_value x_opened x_steps x_code0 x_read x_saved x_plan x_bestPlan x_most x_many x_few x_everRight x_lagThen x_shadedThen x_firstFit x_rows x_rowMany x_sorts x_sizes x_number x_holds x_heldOne x_trace x_traced x_own x_isParted)) := by
  unfold X12_taken at hf
  refine MC.ofI pn_X12 (Nat.le_of_ble_eq_true rfl) ?_
  intro p e s m args below meth c A Q ls cx hR hw hl
  have hx := cx.1
  have hb := cx.2.1
  have hl : lv_has ls 5 [(0, .ref (a 0)), (1, .int v1), (2, .int v2)] := hl
  refine lv_iload_n hx hb dX12_taken_0 rfl (lv_at hl 1 rfl) ?_
  refine calSi cx hw hl.1 (c_X12_isSheet rfl) q_1633 k_X12_isSheet rfl dX12_taken_1 rfl (Nat.le_of_ble_eq_true rfl) ⟨Nat.le_of_ble_eq_true rfl, Nat.le_of_ble_eq_true rfl⟩ ⟨Nat.le_refl _, Nat.le_refl _⟩ (fun H locs hw => ?_)
  refine lv_if_eq (tgt := 27) hx hb dX12_taken_4 (by decide) (fun hc => ?_) (fun hc => ?_)
  · have hf := ifT hf hc
    refine lv_iconst (v := (-1)) hx hb dX12_taken_27 (by decide) ?_
    have hf := Option.some.inj hf
    subst hf
    exact hR _ _ _ _ _ _ hw rfl ⟨rfl, rfl⟩ dX12_taken_28
  · have hf := ifF hf hc
    refine lv_iload_n hx hb dX12_taken_7 rfl (lv_at hl 2 rfl) ?_
    refine lv_iconst (v := 0) hx hb dX12_taken_8 (by decide) ?_
    refine lv_iconst (v := 5) hx hb dX12_taken_9 (by decide) ?_
    refine calSi cx hw hl.1 (c_X12_in1 rfl) q_1214 k_X12_in1 rfl dX12_taken_10 rfl (Nat.le_of_ble_eq_true rfl) ⟨Nat.le_of_ble_eq_true rfl, Nat.le_of_ble_eq_true rfl⟩ ⟨Nat.le_refl _, Nat.le_refl _⟩ (fun H locs hw => ?_)
    obtain ⟨J1, hJ1, hf⟩ := jnS hf
    have wj1 : ∀ (j1 : Unit) (H : Heap) (locs : List Loc) (ls : Array Slot), J1 j1 = some res → Wd D A s (mW a t x_s x_kept x_laid x_isKept x_pile x_tape x_taped x_letters x_at x_begun x_token x_value x_opened x_steps x_code0 x_read x_saved x_plan x_bestPlan x_most x_many x_few x_everRight x_lagThen x_shadedThen x_firstFit x_rows x_rowMany x_sorts x_sizes x_number x_holds x_heldOne x_trace x_traced x_own x_isParted) H locs → lv_has ls 5 [(0, .ref (a 0)), (1, .int v1), (2, .int v2)] → W p l e (rmz 4 0 0) s m args below meth c H locs 0 0 Q (F0 m 29 ls []) := by
      intro j1 H locs ls hf hw hl
      have hf := hJ1 _ hf
      refine lv_aload_n hx hb dX12_taken_29 rfl (lv_at hl 0 rfl) ?_
      refine lv_iload_n hx hb dX12_taken_30 rfl (lv_at hl 1 rfl) ?_
      obtain ⟨r2, h3, hf⟩ := bnS hf
      refine calVi (k := 0) cx hw hl.1 (c_X12_heldOn h3) q_1671 k_X12_heldOn rfl rfl rfl dX12_taken_31 rfl (Nat.le_of_ble_eq_true rfl) ⟨Nat.le_of_ble_eq_true rfl, Nat.le_of_ble_eq_true rfl⟩ ⟨Nat.le_refl _, Nat.le_refl _⟩ (fun H locs hw => ?_)
      refine lv_istore_n (lv' := [(3, .int r2), (0, .ref (a 0)), (1, .int v1), (2, .int v2)]) hx hb dX12_taken_34 rfl hl (by decide) rfl (fun ls hl => ?_)
      refine lv_iload_n hx hb dX12_taken_35 rfl (lv_at hl 0 rfl) ?_
      refine lv_if_ge (tgt := 42) hx hb dX12_taken_36 (by decide) (fun hc => ?_) (fun hc => ?_)
      · have hf := ifT hf hc
        refine lv_iload_n hx hb dX12_taken_42 rfl (lv_at hl 0 rfl) ?_
        obtain ⟨j10, hj10, hf⟩ := bnS hf
        have wj10 : ∀ (H : Heap) (locs : List Loc) (ls : Array Slot), Wd D A s (mW a t x_s x_kept x_laid x_isKept x_pile x_tape x_taped x_letters x_at x_begun x_token x_value x_opened x_steps x_code0 x_read x_saved x_plan x_bestPlan x_most x_many x_few x_everRight x_lagThen x_shadedThen x_firstFit x_rows x_rowMany x_sorts x_sizes x_number x_holds x_heldOne x_trace x_traced x_own x_isParted) H locs → lv_has ls 5 [(0, .ref (a 0)), (1, .int v1), (2, .int v2), (3, .int r2)] → W p l e (rmz 4 0 0) s m args below meth c H locs 0 0 Q (F0 m 88 ls [.int j10]) := by
          intro H locs ls hw hl
          refine lv_istore (lv' := [(4, .int j10), (0, .ref (a 0)), (1, .int v1), (2, .int v2), (3, .int r2)]) hx hb dX12_taken_88 hl (by decide) rfl (fun ls hl => ?_)
          refine lv_iload hx hb dX12_taken_90 (lv_at hl 0 rfl) ?_
          refine lv_if_eq (tgt := 104) hx hb dX12_taken_92 (by decide) (fun hc => ?_) (fun hc => ?_)
          · have hf := ifT hf hc
            refine lv_bipush (v := (-13)) hx hb dX12_taken_104 (by decide) ?_
            have hf := Option.some.inj hf
            subst hf
            exact hR _ _ _ _ _ _ hw rfl ⟨rfl, rfl⟩ dX12_taken_106
          · have hf := ifF hf hc
            refine lv_aload_n hx hb dX12_taken_95 rfl (lv_at hl 1 rfl) ?_
            refine mg_heldOne cx hw dX12_taken_96 ?_
            refine lv_iload_n hx hb dX12_taken_99 rfl (lv_at hl 2 rfl) ?_
            obtain ⟨h11, hf⟩ := ckS hf
            refine ml_heldOne (j := v1.toNatClampNeg) cx hw (ib_in h11) rfl dX12_taken_100 ?_
            refine lv_goto (tgt := 106) hx hb dX12_taken_101 (by decide) ?_
            have hf := Option.some.inj hf
            subst hf
            exact hR _ _ _ _ _ _ hw rfl ⟨rfl, rfl⟩ dX12_taken_106
        clear hf
        have hf := hj10
        clear hj10
        refine lv_if_ne (tgt := 78) hx hb dX12_taken_43 (by decide) (fun hc => ?_) (fun hc => ?_)
        · have hf := ifF hf hc
          refine lv_iload_n hx hb dX12_taken_78 rfl (lv_at hl 0 rfl) ?_
          refine lv_iload_n hx hb dX12_taken_79 rfl (lv_at hl 3 rfl) ?_
          refine lv_icmp_ne (tgt := 87) hx hb dX12_taken_80 (by decide) (fun hc => ?_) (fun hc => ?_)
          · have hf := ifF hf hc
            refine lv_iconst (v := 0) hx hb dX12_taken_87 (by decide) ?_
            have hf := Option.some.inj hf
            subst hf
            exact wj10 _ _ _ hw (lv_sub hl [1, 2, 3, 0] rfl)
          · have hf := ifT hf hc
            refine lv_iconst (v := 1) hx hb dX12_taken_83 (by decide) ?_
            refine lv_goto (tgt := 88) hx hb dX12_taken_84 (by decide) ?_
            have hf := Option.some.inj hf
            subst hf
            exact wj10 _ _ _ hw (lv_sub hl [1, 2, 3, 0] rfl)
        · have hf := ifT hf hc
          refine lv_iload_n hx hb dX12_taken_46 rfl (lv_at hl 3 rfl) ?_
          refine lv_bipush (v := 10) hx hb dX12_taken_47 (by decide) ?_
          obtain ⟨J9, hJ9, hf⟩ := jnS hf
          have wj9 : ∀ (j9 : Unit) (H : Heap) (locs : List Loc) (ls : Array Slot), J9 j9 = some j10 → Wd D A s (mW a t x_s x_kept x_laid x_isKept x_pile x_tape x_taped x_letters x_at x_begun x_token x_value x_opened x_steps x_code0 x_read x_saved x_plan x_bestPlan x_most x_many x_few x_everRight x_lagThen x_shadedThen x_firstFit x_rows x_rowMany x_sorts x_sizes x_number x_holds x_heldOne x_trace x_traced x_own x_isParted) H locs → lv_has ls 5 [(0, .ref (a 0)), (1, .int v1), (2, .int v2), (3, .int r2)] → W p l e (rmz 4 0 0) s m args below meth c H locs 0 0 Q (F0 m 74 ls []) := by
            intro j9 H locs ls hf hw hl
            have hf := hJ9 _ hf
            refine lv_iconst (v := 0) hx hb dX12_taken_74 (by decide) ?_
            refine lv_goto (tgt := 88) hx hb dX12_taken_75 (by decide) ?_
            have hf := Option.some.inj hf
            subst hf
            exact wj10 _ _ _ hw (lv_sub hl [0, 1, 2, 3] rfl)
          clear hJ9
          refine lv_icmp_ge (tgt := 74) hx hb dX12_taken_49 (by decide) (fun hc => ?_) (fun hc => ?_)
          · have hf := ifT hf hc
            exact wj9 _ _ _ _ hf hw (lv_sub hl [1, 2, 3, 0] rfl)
          · have hf := ifF hf hc
            refine lv_aload_n hx hb dX12_taken_52 rfl (lv_at hl 1 rfl) ?_
            refine lv_aload_n hx hb dX12_taken_53 rfl (lv_at hl 1 rfl) ?_
            refine mg_heldOne cx hw dX12_taken_54 ?_
            refine lv_iload_n hx hb dX12_taken_57 rfl (lv_at hl 2 rfl) ?_
            obtain ⟨h4, hf⟩ := ckS hf
            refine ml_heldOne (j := v1.toNatClampNeg) cx hw (ib_in h4) rfl dX12_taken_58 ?_
            refine lv_iconst (v := 0) hx hb dX12_taken_59 (by decide) ?_
            obtain ⟨r5, h6, hf⟩ := bnS hf
            refine calVi (k := 0) cx hw hl.1 (c_X12_get h6) q_1304 k_X12_get rfl rfl rfl dX12_taken_60 rfl (Nat.le_of_ble_eq_true rfl) ⟨Nat.le_of_ble_eq_true rfl, Nat.le_of_ble_eq_true rfl⟩ ⟨Nat.le_refl _, Nat.le_refl _⟩ (fun H locs hw => ?_)
            refine lv_iload_n hx hb dX12_taken_63 rfl (lv_at hl 3 rfl) ?_
            obtain ⟨r7, h8, hf⟩ := bnS hf
            refine calSi cx hw hl.1 (c_X12_isUnder h8) q_1342 k_X12_isUnder rfl dX12_taken_64 rfl (Nat.le_of_ble_eq_true rfl) ⟨Nat.le_of_ble_eq_true rfl, Nat.le_of_ble_eq_true rfl⟩ ⟨Nat.le_refl _, Nat.le_refl _⟩ (fun H locs hw => ?_)
            refine lv_if_eq (tgt := 74) hx hb dX12_taken_67 (by decide) (fun hc => ?_) (fun hc => ?_)
            · have hf := ifT hf hc
              exact wj9 _ _ _ _ hf hw (lv_sub hl [1, 2, 3, 0] rfl)
            · have hf := ifF hf hc
              refine lv_iconst (v := 1) hx hb dX12_taken_70 (by decide) ?_
              refine lv_goto (tgt := 88) hx hb dX12_taken_71 (by decide) ?_
              have hf := Option.some.inj hf
              subst hf
              exact wj10 _ _ _ hw (lv_sub hl [1, 2, 3, 0] rfl)
      · have hf := ifF hf hc
        refine lv_bipush (v := (-11)) hx hb dX12_taken_39 (by decide) ?_
        have hf := Option.some.inj hf
        subst hf
        exact hR _ _ _ _ _ _ hw rfl ⟨rfl, rfl⟩ dX12_taken_41
    clear hJ1
    refine lv_if_ne (tgt := 29) hx hb dX12_taken_13 (by decide) (fun hc => ?_) (fun hc => ?_)
    · have hf := ifF hf hc
      exact wj1 _ _ _ _ hf hw (lv_sub hl [0, 1, 2] rfl)
    · have hf := ifT hf hc
      refine lv_iload_n hx hb dX12_taken_16 rfl (lv_at hl 2 rfl) ?_
      refine lv_bipush (v := 10) hx hb dX12_taken_17 (by decide) ?_
      refine lv_bipush (v := 14) hx hb dX12_taken_19 (by decide) ?_
      refine calSi cx hw hl.1 (c_X12_in1 rfl) q_1214 k_X12_in1 rfl dX12_taken_21 rfl (Nat.le_of_ble_eq_true rfl) ⟨Nat.le_of_ble_eq_true rfl, Nat.le_of_ble_eq_true rfl⟩ ⟨Nat.le_refl _, Nat.le_refl _⟩ (fun H locs hw => ?_)
      refine lv_if_ne (tgt := 29) hx hb dX12_taken_24 (by decide) (fun hc => ?_) (fun hc => ?_)
      · have hf := ifF hf hc
        exact wj1 _ _ _ _ hf hw (lv_sub hl [0, 1, 2] rfl)
      · have hf := ifT hf hc
        refine lv_iconst (v := (-1)) hx hb dX12_taken_27 (by decide) ?_
        have hf := Option.some.inj hf
        subst hf
        exact hR _ _ _ _ _ _ hw rfl ⟨rfl, rfl⟩ dX12_taken_28
theorem dX12_starts_0 : decode cX12_starts 0 = .ok (.aload_n 0, 1) := by decide +kernel
theorem dX12_starts_1 : decode cX12_starts 1 = .ok (.getfield 346, 3) := by decide +kernel
theorem dX12_starts_4 : decode cX12_starts 4 = .ok (.bipush 30, 2) := by decide +kernel
theorem dX12_starts_6 : decode cX12_starts 6 = .ok (.if_icmp .ge 23, 3) := by decide +kernel
theorem dX12_starts_9 : decode cX12_starts 9 = .ok (.aload_n 0, 1) := by decide +kernel
theorem dX12_starts_10 : decode cX12_starts 10 = .ok (.getfield 68, 3) := by decide +kernel
theorem dX12_starts_13 : decode cX12_starts 13 = .ok (.aload_n 0, 1) := by decide +kernel
theorem dX12_starts_14 : decode cX12_starts 14 = .ok (.getfield 346, 3) := by decide +kernel
theorem dX12_starts_17 : decode cX12_starts 17 = .ok (.iload_n 1, 1) := by decide +kernel
theorem dX12_starts_18 : decode cX12_starts 18 = .ok (.iastore, 1) := by decide +kernel
theorem dX12_starts_19 : decode cX12_starts 19 = .ok (.aload_n 0, 1) := by decide +kernel
theorem dX12_starts_20 : decode cX12_starts 20 = .ok (.dup, 1) := by decide +kernel
theorem dX12_starts_21 : decode cX12_starts 21 = .ok (.getfield 346, 3) := by decide +kernel
theorem dX12_starts_24 : decode cX12_starts 24 = .ok (.iconst 1, 1) := by decide +kernel
theorem dX12_starts_25 : decode cX12_starts 25 = .ok (.iadd, 1) := by decide +kernel
theorem dX12_starts_26 : decode cX12_starts 26 = .ok (.putfield 346, 3) := by decide +kernel
theorem dX12_starts_29 : decode cX12_starts 29 = .ok (.return_, 1) := by decide +kernel
theorem k_X12_starts : MV yX12_starts cX12_starts 2 none 1 := ⟨q_1685, qs_91, q_14, q_1686, ⟨by decide, by decide, by decide +kernel⟩⟩
theorem c_X12_starts {res : (Nat → Int32) × Int32} (hf : X12_starts x_trace x_traced v1 = some res) : MC l E0 D t yX12_starts cX12_starts 2 none 1 0 0 [.ref (a 0), .int v1] (mW a t x_s x_kept x_laid x_isKept x_pile x_tape x_taped x_letters x_at x_begun x_token x_value x_opened x_steps x_code0 x_read x_saved x_plan x_bestPlan x_most x_many x_few x_everRight x_lagThen x_shadedThen x_firstFit x_rows x_rowMany x_sorts x_sizes x_number x_holds x_heldOne x_trace x_traced x_own x_isParted) (Qn (mW a t x_s x_kept x_laid x_isKept x_pile x_tape x_taped x_letters x_at x_begun x_token x_value x_opened x_steps x_code0 x_read x_saved x_plan x_bestPlan x_most x_many x_few x_everRight x_lagThen x_shadedThen x_firstFit x_rows x_rowMany x_sorts x_sizes x_number x_holds x_heldOne res.1 res.2 x_own x_isParted)) := by
  unfold X12_starts at hf
  refine MC.ofV pn_X12 (Nat.le_of_ble_eq_true rfl) ?_
  intro p e s m args below meth c A Q ls cx hR hw hl
  have hx := cx.1
  have hb := cx.2.1
  have hl : lv_has ls 2 [(0, .ref (a 0)), (1, .int v1)] := hl
  refine lv_aload_n hx hb dX12_starts_0 rfl (lv_at hl 0 rfl) ?_
  refine mg_traced cx hw dX12_starts_1 ?_
  refine lv_bipush (v := 30) hx hb dX12_starts_4 (by decide) ?_
  refine lv_icmp_ge (tgt := 29) hx hb dX12_starts_6 (by decide) (fun hc => ?_) (fun hc => ?_)
  · have hf := ifT hf hc
    have hf := Option.some.inj hf
    subst hf
    exact hR _ _ _ _ _ hw ⟨rfl, rfl⟩ dX12_starts_29
  · have hf := ifF hf hc
    refine lv_aload_n hx hb dX12_starts_9 rfl (lv_at hl 0 rfl) ?_
    refine mg_trace cx hw dX12_starts_10 ?_
    refine lv_aload_n hx hb dX12_starts_13 rfl (lv_at hl 0 rfl) ?_
    refine mg_traced cx hw dX12_starts_14 ?_
    refine lv_iload_n hx hb dX12_starts_17 rfl (lv_at hl 1 rfl) ?_
    obtain ⟨h1, hf⟩ := ckS hf
    refine ms_trace (j := x_traced.toNatClampNeg) cx hw (ib_in h1) rfl dX12_starts_18 (fun H locs hw => ?_)
    refine lv_aload_n hx hb dX12_starts_19 rfl (lv_at hl 0 rfl) ?_
    refine lv_dup hx hb dX12_starts_20 rfl ?_
    refine mg_traced cx hw dX12_starts_21 ?_
    refine lv_iconst (v := 1) hx hb dX12_starts_24 (by decide) ?_
    refine lv_iadd hx hb dX12_starts_25 ?_
    refine mp_traced cx hw dX12_starts_26 (fun H locs hw => ?_)
    have hf := Option.some.inj hf
    subst hf
    exact hR _ _ _ _ _ hw ⟨rfl, rfl⟩ dX12_starts_29
theorem dX12_pointsAs_0 : decode cX12_pointsAs 0 = .ok (.iload_n 1, 1) := by decide +kernel
theorem dX12_pointsAs_1 : decode cX12_pointsAs 1 = .ok (.iconst 1, 1) := by decide +kernel
theorem dX12_pointsAs_2 : decode cX12_pointsAs 2 = .ok (.if_icmp .ne 19, 3) := by decide +kernel
theorem dX12_pointsAs_5 : decode cX12_pointsAs 5 = .ok (.aload_n 0, 1) := by decide +kernel
theorem dX12_pointsAs_6 : decode cX12_pointsAs 6 = .ok (.bipush 20, 2) := by decide +kernel
theorem dX12_pointsAs_8 : decode cX12_pointsAs 8 = .ok (.invokevirtual 349, 3) := by decide +kernel
theorem dX12_pointsAs_11 : decode cX12_pointsAs 11 = .ok (.aload_n 0, 1) := by decide +kernel
theorem dX12_pointsAs_12 : decode cX12_pointsAs 12 = .ok (.iconst 0, 1) := by decide +kernel
theorem dX12_pointsAs_13 : decode cX12_pointsAs 13 = .ok (.iload_n 2, 1) := by decide +kernel
theorem dX12_pointsAs_14 : decode cX12_pointsAs 14 = .ok (.invokevirtual 352, 3) := by decide +kernel
theorem dX12_pointsAs_17 : decode cX12_pointsAs 17 = .ok (.bipush 12, 2) := by decide +kernel
theorem dX12_pointsAs_19 : decode cX12_pointsAs 19 = .ok (.iadd, 1) := by decide +kernel
theorem dX12_pointsAs_20 : decode cX12_pointsAs 20 = .ok (.ireturn, 1) := by decide +kernel
theorem dX12_pointsAs_21 : decode cX12_pointsAs 21 = .ok (.iload_n 1, 1) := by decide +kernel
theorem dX12_pointsAs_22 : decode cX12_pointsAs 22 = .ok (.iconst 3, 1) := by decide +kernel
theorem dX12_pointsAs_23 : decode cX12_pointsAs 23 = .ok (.if_icmp .ne 18, 3) := by decide +kernel
theorem dX12_pointsAs_26 : decode cX12_pointsAs 26 = .ok (.aload_n 0, 1) := by decide +kernel
theorem dX12_pointsAs_27 : decode cX12_pointsAs 27 = .ok (.bipush 50, 2) := by decide +kernel
theorem dX12_pointsAs_29 : decode cX12_pointsAs 29 = .ok (.invokevirtual 349, 3) := by decide +kernel
theorem dX12_pointsAs_32 : decode cX12_pointsAs 32 = .ok (.aload_n 0, 1) := by decide +kernel
theorem dX12_pointsAs_33 : decode cX12_pointsAs 33 = .ok (.iconst 2, 1) := by decide +kernel
theorem dX12_pointsAs_34 : decode cX12_pointsAs 34 = .ok (.iload_n 2, 1) := by decide +kernel
theorem dX12_pointsAs_35 : decode cX12_pointsAs 35 = .ok (.iconst 3, 1) := by decide +kernel
theorem dX12_pointsAs_36 : decode cX12_pointsAs 36 = .ok (.isub, 1) := by decide +kernel
theorem dX12_pointsAs_37 : decode cX12_pointsAs 37 = .ok (.invokevirtual 352, 3) := by decide +kernel
theorem dX12_pointsAs_40 : decode cX12_pointsAs 40 = .ok (.ireturn, 1) := by decide +kernel
theorem dX12_pointsAs_41 : decode cX12_pointsAs 41 = .ok (.aload_n 0, 1) := by decide +kernel
theorem dX12_pointsAs_42 : decode cX12_pointsAs 42 = .ok (.bipush 10, 2) := by decide +kernel
theorem dX12_pointsAs_44 : decode cX12_pointsAs 44 = .ok (.invokevirtual 349, 3) := by decide +kernel
theorem dX12_pointsAs_47 : decode cX12_pointsAs 47 = .ok (.iload_n 2, 1) := by decide +kernel
theorem dX12_pointsAs_48 : decode cX12_pointsAs 48 = .ok (.iconst 4, 1) := by decide +kernel
theorem dX12_pointsAs_49 : decode cX12_pointsAs 49 = .ok (.imul, 1) := by decide +kernel
theorem dX12_pointsAs_50 : decode cX12_pointsAs 50 = .ok (.aload_n 0, 1) := by decide +kernel
theorem dX12_pointsAs_51 : decode cX12_pointsAs 51 = .ok (.getfield 355, 3) := by decide +kernel
theorem dX12_pointsAs_54 : decode cX12_pointsAs 54 = .ok (.isub, 1) := by decide +kernel
theorem dX12_pointsAs_55 : decode cX12_pointsAs 55 = .ok (.ireturn, 1) := by decide +kernel
theorem k_X12_pointsAs : MV yX12_pointsAs cX12_pointsAs 3 (some .int) 2 := ⟨q_1681, qs_90, q_14, q_1682, ⟨by decide, by decide, by decide +kernel⟩⟩
theorem cb_X12_pointsAs {F : (Nat → Int32) → Int32 → Int32 → Int32 → Int32 → Option (Int32 × (Nat → Int32) × Int32)} {d : Nat} (hF0 : ∀ {x_s : Nat → Int32} {x_kept : Nat → Int32} {x_laid : Nat → Int32} {x_isKept : Int32} {x_pile : Nat → Int32} {x_tape : Nat → Int32} {x_taped : Int32} {x_letters : Nat → Int32} {x_at : Int32} {x_begun : Int32} {x_token : Int32} {x_value : Int32} {x_opened : Int32} {x_steps : Int32} {x_code0 : Nat → Int32} {x_read : Nat → Int32} {x_saved : Nat → Int32} {x_plan : Nat → Int32} {x_bestPlan : Nat → Int32} {x_most : Int32} {x_many : Int32} {x_few : Int32} {x_everRight : Int32} {x_lagThen : Nat → Int32} {x_shadedThen : Nat → Int32} {x_firstFit : Int32} {x_rows : Nat → Int32} {x_rowMany : Int32} {x_sorts : Nat → Int32} {x_sizes : Nat → Int32} {x_number : Nat → Int32} {x_holds : Nat → Int32} {x_heldOne : Nat → Int32} {x_trace : Nat → Int32} {x_traced : Int32} {x_own : Int32} {x_isParted : Int32} {v1 : Int32} {v2 : Int32} {res : Int32 × (Nat → Int32) × Int32}, F x_trace x_traced x_own v1 v2 = some res → MC l E0 D t yX12_pointsAs cX12_pointsAs 3 (some .int) (2 + 4 * d) 0 0 [.ref (a 0), .int v1, .int v2] (mW a t x_s x_kept x_laid x_isKept x_pile x_tape x_taped x_letters x_at x_begun x_token x_value x_opened x_steps x_code0 x_read x_saved x_plan x_bestPlan x_most x_many x_few x_everRight x_lagThen x_shadedThen x_firstFit x_rows x_rowMany x_sorts x_sizes x_number x_holds x_heldOne x_trace x_traced x_own x_isParted) (Qi res.1 (mW a t x_s x_kept x_laid x_isKept x_pile x_tape x_taped x_letters x_at x_begun x_token x_value x_opened x_steps x_code0 x_read x_saved x_plan x_bestPlan x_most x_many x_few x_everRight x_lagThen x_shadedThen x_firstFit x_rows x_rowMany x_sorts x_sizes x_number x_holds x_heldOne res.2.1 res.2.2 x_own x_isParted))) {res : Int32 × (Nat → Int32) × Int32} (hf : X12_pointsAs_b n F x_trace x_traced x_own v1 v2 = some res) : MC l E0 D t yX12_pointsAs cX12_pointsAs 3 (some .int) (2 + 4 * (d + 1)) 0 0 [.ref (a 0), .int v1, .int v2] (mW a t x_s x_kept x_laid x_isKept x_pile x_tape x_taped x_letters x_at x_begun x_token x_value x_opened x_steps x_code0 x_read x_saved x_plan x_bestPlan x_most x_many x_few x_everRight x_lagThen x_shadedThen x_firstFit x_rows x_rowMany x_sorts x_sizes x_number x_holds x_heldOne x_trace x_traced x_own x_isParted) (Qi res.1 (mW a t x_s x_kept x_laid x_isKept x_pile x_tape x_taped x_letters x_at x_begun x_token x_value x_opened x_steps x_code0 x_read x_saved x_plan x_bestPlan x_most x_many x_few x_everRight x_lagThen x_shadedThen x_firstFit x_rows x_rowMany x_sorts x_sizes x_number x_holds x_heldOne res.2.1 res.2.2 x_own x_isParted)) := by
  unfold X12_pointsAs_b at hf
  refine MC.ofI pn_X12 (Nat.le_of_ble_eq_true rfl) ?_
  intro p e s m args below meth c A Q ls cx hR hw hl
  have hx := cx.1
  have hb := cx.2.1
  have hl : lv_has ls 3 [(0, .ref (a 0)), (1, .int v1), (2, .int v2)] := hl
  refine lv_iload_n hx hb dX12_pointsAs_0 rfl (lv_at hl 1 rfl) ?_
  refine lv_iconst (v := 1) hx hb dX12_pointsAs_1 (by decide) ?_
  refine lv_icmp_ne (tgt := 21) hx hb dX12_pointsAs_2 (by decide) (fun hc => ?_) (fun hc => ?_)
  · have hf := ifF hf hc
    refine lv_iload_n hx hb dX12_pointsAs_21 rfl (lv_at hl 1 rfl) ?_
    refine lv_iconst (v := 3) hx hb dX12_pointsAs_22 (by decide) ?_
    refine lv_icmp_ne (tgt := 41) hx hb dX12_pointsAs_23 (by decide) (fun hc => ?_) (fun hc => ?_)
    · have hf := ifF hf hc
      refine lv_aload_n hx hb dX12_pointsAs_41 rfl (lv_at hl 0 rfl) ?_
      refine lv_bipush (v := 10) hx hb dX12_pointsAs_42 (by decide) ?_
      obtain ⟨r9, h10, hf⟩ := bnS hf
      refine calVv (k := 0) cx hw hl.1 (c_X12_starts h10) q_1683 k_X12_starts rfl rfl rfl dX12_pointsAs_44 rfl (Nat.le_of_ble_eq_true rfl) ⟨by show _ ≤ 2 + 4 * (d + 1); omega, by show _ ≤ 64 * (2 + 4 * (d + 1)); omega⟩ ⟨Nat.le_refl _, Nat.le_refl _⟩ (fun H locs hw => ?_)
      refine lv_iload_n hx hb dX12_pointsAs_47 rfl (lv_at hl 2 rfl) ?_
      refine lv_iconst (v := 4) hx hb dX12_pointsAs_48 (by decide) ?_
      refine lv_imul hx hb dX12_pointsAs_49 ?_
      refine lv_aload_n hx hb dX12_pointsAs_50 rfl (lv_at hl 0 rfl) ?_
      refine mg_own cx hw dX12_pointsAs_51 ?_
      refine lv_isub hx hb dX12_pointsAs_54 ?_
      have hf := Option.some.inj hf
      subst hf
      exact hR _ _ _ _ _ _ hw rfl ⟨rfl, rfl⟩ dX12_pointsAs_55
    · have hf := ifT hf hc
      refine lv_aload_n hx hb dX12_pointsAs_26 rfl (lv_at hl 0 rfl) ?_
      refine lv_bipush (v := 50) hx hb dX12_pointsAs_27 (by decide) ?_
      obtain ⟨r5, h6, hf⟩ := bnS hf
      refine calVv (k := 0) cx hw hl.1 (c_X12_starts h6) q_1683 k_X12_starts rfl rfl rfl dX12_pointsAs_29 rfl (Nat.le_of_ble_eq_true rfl) ⟨by show _ ≤ 2 + 4 * (d + 1); omega, by show _ ≤ 64 * (2 + 4 * (d + 1)); omega⟩ ⟨Nat.le_refl _, Nat.le_refl _⟩ (fun H locs hw => ?_)
      refine lv_aload_n hx hb dX12_pointsAs_32 rfl (lv_at hl 0 rfl) ?_
      refine lv_iconst (v := 2) hx hb dX12_pointsAs_33 (by decide) ?_
      refine lv_iload_n hx hb dX12_pointsAs_34 rfl (lv_at hl 2 rfl) ?_
      refine lv_iconst (v := 3) hx hb dX12_pointsAs_35 (by decide) ?_
      refine lv_isub hx hb dX12_pointsAs_36 ?_
      obtain ⟨r7, h8, hf⟩ := bnS hf
      refine calVi (k := 0) cx hw hl.1 (hF0 h8) q_1679 k_X12_pointsAs rfl rfl rfl dX12_pointsAs_37 rfl (Nat.le_of_ble_eq_true rfl) ⟨by show _ ≤ 2 + 4 * (d + 1); omega, by show _ ≤ 64 * (2 + 4 * (d + 1)); omega⟩ ⟨Nat.le_refl _, Nat.le_refl _⟩ (fun H locs hw => ?_)
      have hf := Option.some.inj hf
      subst hf
      exact hR _ _ _ _ _ _ hw rfl ⟨rfl, rfl⟩ dX12_pointsAs_40
  · have hf := ifT hf hc
    refine lv_aload_n hx hb dX12_pointsAs_5 rfl (lv_at hl 0 rfl) ?_
    refine lv_bipush (v := 20) hx hb dX12_pointsAs_6 (by decide) ?_
    obtain ⟨r1, h2, hf⟩ := bnS hf
    refine calVv (k := 0) cx hw hl.1 (c_X12_starts h2) q_1683 k_X12_starts rfl rfl rfl dX12_pointsAs_8 rfl (Nat.le_of_ble_eq_true rfl) ⟨by show _ ≤ 2 + 4 * (d + 1); omega, by show _ ≤ 64 * (2 + 4 * (d + 1)); omega⟩ ⟨Nat.le_refl _, Nat.le_refl _⟩ (fun H locs hw => ?_)
    refine lv_aload_n hx hb dX12_pointsAs_11 rfl (lv_at hl 0 rfl) ?_
    refine lv_iconst (v := 0) hx hb dX12_pointsAs_12 (by decide) ?_
    refine lv_iload_n hx hb dX12_pointsAs_13 rfl (lv_at hl 2 rfl) ?_
    obtain ⟨r3, h4, hf⟩ := bnS hf
    refine calVi (k := 0) cx hw hl.1 (hF0 h4) q_1679 k_X12_pointsAs rfl rfl rfl dX12_pointsAs_14 rfl (Nat.le_of_ble_eq_true rfl) ⟨by show _ ≤ 2 + 4 * (d + 1); omega, by show _ ≤ 64 * (2 + 4 * (d + 1)); omega⟩ ⟨Nat.le_refl _, Nat.le_refl _⟩ (fun H locs hw => ?_)
    refine lv_bipush (v := 12) hx hb dX12_pointsAs_17 (by decide) ?_
    refine lv_iadd hx hb dX12_pointsAs_19 ?_
    have hf := Option.some.inj hf
    subst hf
    exact hR _ _ _ _ _ _ hw rfl ⟨rfl, rfl⟩ dX12_pointsAs_20
theorem c_X12_pointsAs : ∀ {d : Nat} {x_s : Nat → Int32} {x_kept : Nat → Int32} {x_laid : Nat → Int32} {x_isKept : Int32} {x_pile : Nat → Int32} {x_tape : Nat → Int32} {x_taped : Int32} {x_letters : Nat → Int32} {x_at : Int32} {x_begun : Int32} {x_token : Int32} {x_value : Int32} {x_opened : Int32} {x_steps : Int32} {x_code0 : Nat → Int32} {x_read : Nat → Int32} {x_saved : Nat → Int32} {x_plan : Nat → Int32} {x_bestPlan : Nat → Int32} {x_most : Int32} {x_many : Int32} {x_few : Int32} {x_everRight : Int32} {x_lagThen : Nat → Int32} {x_shadedThen : Nat → Int32} {x_firstFit : Int32} {x_rows : Nat → Int32} {x_rowMany : Int32} {x_sorts : Nat → Int32} {x_sizes : Nat → Int32} {x_number : Nat → Int32} {x_holds : Nat → Int32} {x_heldOne : Nat → Int32} {x_trace : Nat → Int32} {x_traced : Int32} {x_own : Int32} {x_isParted : Int32} {v1 : Int32} {v2 : Int32} {res : Int32 × (Nat → Int32) × Int32} (hf : X12_pointsAs n d x_trace x_traced x_own v1 v2 = some res), MC l E0 D t yX12_pointsAs cX12_pointsAs 3 (some .int) (2 + 4 * d) 0 0 [.ref (a 0), .int v1, .int v2] (mW a t x_s x_kept x_laid x_isKept x_pile x_tape x_taped x_letters x_at x_begun x_token x_value x_opened x_steps x_code0 x_read x_saved x_plan x_bestPlan x_most x_many x_few x_everRight x_lagThen x_shadedThen x_firstFit x_rows x_rowMany x_sorts x_sizes x_number x_holds x_heldOne x_trace x_traced x_own x_isParted) (Qi res.1 (mW a t x_s x_kept x_laid x_isKept x_pile x_tape x_taped x_letters x_at x_begun x_token x_value x_opened x_steps x_code0 x_read x_saved x_plan x_bestPlan x_most x_many x_few x_everRight x_lagThen x_shadedThen x_firstFit x_rows x_rowMany x_sorts x_sizes x_number x_holds x_heldOne res.2.1 res.2.2 x_own x_isParted)) := by
  intro d
  induction d with
  | zero => intros; rename_i hf; simp [X12_pointsAs] at hf
  | succ d ih => intros; rename_i hf; rw [X12_pointsAs] at hf; exact cb_X12_pointsAs (fun h => ih h) hf
theorem dX12_slantsAs_0 : decode cX12_slantsAs 0 = .ok (.iload_n 1, 1) := by decide +kernel
theorem dX12_slantsAs_1 : decode cX12_slantsAs 1 = .ok (.iconst 2, 1) := by decide +kernel
theorem dX12_slantsAs_2 : decode cX12_slantsAs 2 = .ok (.if_icmp .eq 8, 3) := by decide +kernel
theorem dX12_slantsAs_5 : decode cX12_slantsAs 5 = .ok (.iload_n 1, 1) := by decide +kernel
theorem dX12_slantsAs_6 : decode cX12_slantsAs 6 = .ok (.iconst 3, 1) := by decide +kernel
theorem dX12_slantsAs_7 : decode cX12_slantsAs 7 = .ok (.if_icmp .ne 19, 3) := by decide +kernel
theorem dX12_slantsAs_10 : decode cX12_slantsAs 10 = .ok (.aload_n 0, 1) := by decide +kernel
theorem dX12_slantsAs_11 : decode cX12_slantsAs 11 = .ok (.bipush 30, 2) := by decide +kernel
theorem dX12_slantsAs_13 : decode cX12_slantsAs 13 = .ok (.invokevirtual 349, 3) := by decide +kernel
theorem dX12_slantsAs_16 : decode cX12_slantsAs 16 = .ok (.aload_n 0, 1) := by decide +kernel
theorem dX12_slantsAs_17 : decode cX12_slantsAs 17 = .ok (.iconst 0, 1) := by decide +kernel
theorem dX12_slantsAs_18 : decode cX12_slantsAs 18 = .ok (.iload_n 2, 1) := by decide +kernel
theorem dX12_slantsAs_19 : decode cX12_slantsAs 19 = .ok (.invokevirtual 358, 3) := by decide +kernel
theorem dX12_slantsAs_22 : decode cX12_slantsAs 22 = .ok (.bipush 9, 2) := by decide +kernel
theorem dX12_slantsAs_24 : decode cX12_slantsAs 24 = .ok (.ixor, 1) := by decide +kernel
theorem dX12_slantsAs_25 : decode cX12_slantsAs 25 = .ok (.ireturn, 1) := by decide +kernel
theorem dX12_slantsAs_26 : decode cX12_slantsAs 26 = .ok (.iload_n 1, 1) := by decide +kernel
theorem dX12_slantsAs_27 : decode cX12_slantsAs 27 = .ok (.iconst 5, 1) := by decide +kernel
theorem dX12_slantsAs_28 : decode cX12_slantsAs 28 = .ok (.if_icmp .ne 17, 3) := by decide +kernel
theorem dX12_slantsAs_31 : decode cX12_slantsAs 31 = .ok (.aload_n 0, 1) := by decide +kernel
theorem dX12_slantsAs_32 : decode cX12_slantsAs 32 = .ok (.bipush 60, 2) := by decide +kernel
theorem dX12_slantsAs_34 : decode cX12_slantsAs 34 = .ok (.invokevirtual 349, 3) := by decide +kernel
theorem dX12_slantsAs_37 : decode cX12_slantsAs 37 = .ok (.aload_n 0, 1) := by decide +kernel
theorem dX12_slantsAs_38 : decode cX12_slantsAs 38 = .ok (.iconst 4, 1) := by decide +kernel
theorem dX12_slantsAs_39 : decode cX12_slantsAs 39 = .ok (.iload_n 2, 1) := by decide +kernel
theorem dX12_slantsAs_40 : decode cX12_slantsAs 40 = .ok (.invokevirtual 358, 3) := by decide +kernel
theorem dX12_slantsAs_43 : decode cX12_slantsAs 43 = .ok (.ineg, 1) := by decide +kernel
theorem dX12_slantsAs_44 : decode cX12_slantsAs 44 = .ok (.ireturn, 1) := by decide +kernel
theorem dX12_slantsAs_45 : decode cX12_slantsAs 45 = .ok (.aload_n 0, 1) := by decide +kernel
theorem dX12_slantsAs_46 : decode cX12_slantsAs 46 = .ok (.bipush 11, 2) := by decide +kernel
theorem dX12_slantsAs_48 : decode cX12_slantsAs 48 = .ok (.invokevirtual 349, 3) := by decide +kernel
theorem dX12_slantsAs_51 : decode cX12_slantsAs 51 = .ok (.aload_n 0, 1) := by decide +kernel
theorem dX12_slantsAs_52 : decode cX12_slantsAs 52 = .ok (.aload_n 0, 1) := by decide +kernel
theorem dX12_slantsAs_53 : decode cX12_slantsAs 53 = .ok (.aload_n 0, 1) := by decide +kernel
theorem dX12_slantsAs_54 : decode cX12_slantsAs 54 = .ok (.getfield 355, 3) := by decide +kernel
theorem dX12_slantsAs_57 : decode cX12_slantsAs 57 = .ok (.iconst 0, 1) := by decide +kernel
theorem dX12_slantsAs_58 : decode cX12_slantsAs 58 = .ok (.invokevirtual 79, 3) := by decide +kernel
theorem dX12_slantsAs_61 : decode cX12_slantsAs 61 = .ok (.iload_n 2, 1) := by decide +kernel
theorem dX12_slantsAs_62 : decode cX12_slantsAs 62 = .ok (.invokevirtual 352, 3) := by decide +kernel
theorem dX12_slantsAs_65 : decode cX12_slantsAs 65 = .ok (.iconst 5, 1) := by decide +kernel
theorem dX12_slantsAs_66 : decode cX12_slantsAs 66 = .ok (.aload_n 0, 1) := by decide +kernel
theorem dX12_slantsAs_67 : decode cX12_slantsAs 67 = .ok (.aload_n 0, 1) := by decide +kernel
theorem dX12_slantsAs_68 : decode cX12_slantsAs 68 = .ok (.getfield 355, 3) := by decide +kernel
theorem dX12_slantsAs_71 : decode cX12_slantsAs 71 = .ok (.iconst 3, 1) := by decide +kernel
theorem dX12_slantsAs_72 : decode cX12_slantsAs 72 = .ok (.invokevirtual 79, 3) := by decide +kernel
theorem dX12_slantsAs_75 : decode cX12_slantsAs 75 = .ok (.imul, 1) := by decide +kernel
theorem dX12_slantsAs_76 : decode cX12_slantsAs 76 = .ok (.iadd, 1) := by decide +kernel
theorem dX12_slantsAs_77 : decode cX12_slantsAs 77 = .ok (.ireturn, 1) := by decide +kernel
theorem k_X12_slantsAs : MV yX12_slantsAs cX12_slantsAs 3 (some .int) 2 := ⟨q_1689, qs_92, q_14, q_1690, ⟨by decide, by decide, by decide +kernel⟩⟩
theorem cb_X12_slantsAs {F : (Nat → Int32) → (Nat → Int32) → Int32 → Int32 → Int32 → Int32 → Option (Int32 × (Nat → Int32) × Int32)} {d : Nat} (hF0 : ∀ {x_s : Nat → Int32} {x_kept : Nat → Int32} {x_laid : Nat → Int32} {x_isKept : Int32} {x_pile : Nat → Int32} {x_tape : Nat → Int32} {x_taped : Int32} {x_letters : Nat → Int32} {x_at : Int32} {x_begun : Int32} {x_token : Int32} {x_value : Int32} {x_opened : Int32} {x_steps : Int32} {x_code0 : Nat → Int32} {x_read : Nat → Int32} {x_saved : Nat → Int32} {x_plan : Nat → Int32} {x_bestPlan : Nat → Int32} {x_most : Int32} {x_many : Int32} {x_few : Int32} {x_everRight : Int32} {x_lagThen : Nat → Int32} {x_shadedThen : Nat → Int32} {x_firstFit : Int32} {x_rows : Nat → Int32} {x_rowMany : Int32} {x_sorts : Nat → Int32} {x_sizes : Nat → Int32} {x_number : Nat → Int32} {x_holds : Nat → Int32} {x_heldOne : Nat → Int32} {x_trace : Nat → Int32} {x_traced : Int32} {x_own : Int32} {x_isParted : Int32} {v1 : Int32} {v2 : Int32} {res : Int32 × (Nat → Int32) × Int32}, F x_s x_trace x_traced x_own v1 v2 = some res → MC l E0 D t yX12_slantsAs cX12_slantsAs 3 (some .int) (15 + 4 * d) 0 0 [.ref (a 0), .int v1, .int v2] (mW a t x_s x_kept x_laid x_isKept x_pile x_tape x_taped x_letters x_at x_begun x_token x_value x_opened x_steps x_code0 x_read x_saved x_plan x_bestPlan x_most x_many x_few x_everRight x_lagThen x_shadedThen x_firstFit x_rows x_rowMany x_sorts x_sizes x_number x_holds x_heldOne x_trace x_traced x_own x_isParted) (Qi res.1 (mW a t x_s x_kept x_laid x_isKept x_pile x_tape x_taped x_letters x_at x_begun x_token x_value x_opened x_steps x_code0 x_read x_saved x_plan x_bestPlan x_most x_many x_few x_everRight x_lagThen x_shadedThen x_firstFit x_rows x_rowMany x_sorts x_sizes x_number x_holds x_heldOne res.2.1 res.2.2 x_own x_isParted))) {res : Int32 × (Nat → Int32) × Int32} (hf : X12_slantsAs_b n F x_s x_trace x_traced x_own v1 v2 = some res) : MC l E0 D t yX12_slantsAs cX12_slantsAs 3 (some .int) (15 + 4 * (d + 1)) 0 0 [.ref (a 0), .int v1, .int v2] (mW a t x_s x_kept x_laid x_isKept x_pile x_tape x_taped x_letters x_at x_begun x_token x_value x_opened x_steps x_code0 x_read x_saved x_plan x_bestPlan x_most x_many x_few x_everRight x_lagThen x_shadedThen x_firstFit x_rows x_rowMany x_sorts x_sizes x_number x_holds x_heldOne x_trace x_traced x_own x_isParted) (Qi res.1 (mW a t x_s x_kept x_laid x_isKept x_pile x_tape x_taped x_letters x_at x_begun x_token x_value x_opened x_steps x_code0 x_read x_saved x_plan x_bestPlan x_most x_many x_few x_everRight x_lagThen x_shadedThen x_firstFit x_rows x_rowMany x_sorts x_sizes x_number x_holds x_heldOne res.2.1 res.2.2 x_own x_isParted)) := by
  unfold X12_slantsAs_b at hf
  refine MC.ofI pn_X12 (Nat.le_of_ble_eq_true rfl) ?_
  intro p e s m args below meth c A Q ls cx hR hw hl
  have hx := cx.1
  have hb := cx.2.1
  have hl : lv_has ls 3 [(0, .ref (a 0)), (1, .int v1), (2, .int v2)] := hl
  refine lv_iload_n hx hb dX12_slantsAs_0 rfl (lv_at hl 1 rfl) ?_
  refine lv_iconst (v := 2) hx hb dX12_slantsAs_1 (by decide) ?_
  obtain ⟨J13, hJ13, hf⟩ := jnS hf
  have wj13 : ∀ (j13 : Unit) (H : Heap) (locs : List Loc) (ls : Array Slot), J13 j13 = some res → Wd D A s (mW a t x_s x_kept x_laid x_isKept x_pile x_tape x_taped x_letters x_at x_begun x_token x_value x_opened x_steps x_code0 x_read x_saved x_plan x_bestPlan x_most x_many x_few x_everRight x_lagThen x_shadedThen x_firstFit x_rows x_rowMany x_sorts x_sizes x_number x_holds x_heldOne x_trace x_traced x_own x_isParted) H locs → lv_has ls 3 [(0, .ref (a 0)), (1, .int v1), (2, .int v2)] → W p l e (rmz (15 + 4 * (d + 1)) 0 0) s m args below meth c H locs 0 0 Q (F0 m 10 ls []) := by
    intro j13 H locs ls hf hw hl
    have hf := hJ13 _ hf
    refine lv_aload_n hx hb dX12_slantsAs_10 rfl (lv_at hl 0 rfl) ?_
    refine lv_bipush (v := 30) hx hb dX12_slantsAs_11 (by decide) ?_
    obtain ⟨r14, h15, hf⟩ := bnS hf
    refine calVv (k := 0) cx hw hl.1 (c_X12_starts h15) q_1683 k_X12_starts rfl rfl rfl dX12_slantsAs_13 rfl (Nat.le_of_ble_eq_true rfl) ⟨by show _ ≤ 15 + 4 * (d + 1); omega, by show _ ≤ 64 * (15 + 4 * (d + 1)); omega⟩ ⟨Nat.le_refl _, Nat.le_refl _⟩ (fun H locs hw => ?_)
    refine lv_aload_n hx hb dX12_slantsAs_16 rfl (lv_at hl 0 rfl) ?_
    refine lv_iconst (v := 0) hx hb dX12_slantsAs_17 (by decide) ?_
    refine lv_iload_n hx hb dX12_slantsAs_18 rfl (lv_at hl 2 rfl) ?_
    obtain ⟨r16, h17, hf⟩ := bnS hf
    refine calVi (k := 0) cx hw hl.1 (hF0 h17) q_1687 k_X12_slantsAs rfl rfl rfl dX12_slantsAs_19 rfl (Nat.le_of_ble_eq_true rfl) ⟨by show _ ≤ 15 + 4 * (d + 1); omega, by show _ ≤ 64 * (15 + 4 * (d + 1)); omega⟩ ⟨Nat.le_refl _, Nat.le_refl _⟩ (fun H locs hw => ?_)
    refine lv_bipush (v := 9) hx hb dX12_slantsAs_22 (by decide) ?_
    refine lv_ixor hx hb dX12_slantsAs_24 ?_
    have hf := Option.some.inj hf
    subst hf
    exact hR _ _ _ _ _ _ hw rfl ⟨rfl, rfl⟩ dX12_slantsAs_25
  clear hJ13
  refine lv_icmp_eq (tgt := 10) hx hb dX12_slantsAs_2 (by decide) (fun hc => ?_) (fun hc => ?_)
  · have hf := ifT hf hc
    exact wj13 _ _ _ _ hf hw (lv_sub hl [0, 1, 2] rfl)
  · have hf := ifF hf hc
    refine lv_iload_n hx hb dX12_slantsAs_5 rfl (lv_at hl 1 rfl) ?_
    refine lv_iconst (v := 3) hx hb dX12_slantsAs_6 (by decide) ?_
    refine lv_icmp_ne (tgt := 26) hx hb dX12_slantsAs_7 (by decide) (fun hc => ?_) (fun hc => ?_)
    · have hf := ifF hf hc
      refine lv_iload_n hx hb dX12_slantsAs_26 rfl (lv_at hl 1 rfl) ?_
      refine lv_iconst (v := 5) hx hb dX12_slantsAs_27 (by decide) ?_
      refine lv_icmp_ne (tgt := 45) hx hb dX12_slantsAs_28 (by decide) (fun hc => ?_) (fun hc => ?_)
      · have hf := ifF hf hc
        refine lv_aload_n hx hb dX12_slantsAs_45 rfl (lv_at hl 0 rfl) ?_
        refine lv_bipush (v := 11) hx hb dX12_slantsAs_46 (by decide) ?_
        obtain ⟨r5, h6, hf⟩ := bnS hf
        refine calVv (k := 0) cx hw hl.1 (c_X12_starts h6) q_1683 k_X12_starts rfl rfl rfl dX12_slantsAs_48 rfl (Nat.le_of_ble_eq_true rfl) ⟨by show _ ≤ 15 + 4 * (d + 1); omega, by show _ ≤ 64 * (15 + 4 * (d + 1)); omega⟩ ⟨Nat.le_refl _, Nat.le_refl _⟩ (fun H locs hw => ?_)
        refine lv_aload_n hx hb dX12_slantsAs_51 rfl (lv_at hl 0 rfl) ?_
        refine lv_aload_n hx hb dX12_slantsAs_52 rfl (lv_at hl 0 rfl) ?_
        refine lv_aload_n hx hb dX12_slantsAs_53 rfl (lv_at hl 0 rfl) ?_
        refine mg_own cx hw dX12_slantsAs_54 ?_
        refine lv_iconst (v := 0) hx hb dX12_slantsAs_57 (by decide) ?_
        obtain ⟨r7, h8, hf⟩ := bnS hf
        refine calVi (k := 0) cx hw hl.1 (c_X12_get h8) q_1304 k_X12_get rfl rfl rfl dX12_slantsAs_58 rfl (Nat.le_of_ble_eq_true rfl) ⟨by show _ ≤ 15 + 4 * (d + 1); omega, by show _ ≤ 64 * (15 + 4 * (d + 1)); omega⟩ ⟨Nat.le_refl _, Nat.le_refl _⟩ (fun H locs hw => ?_)
        refine lv_iload_n hx hb dX12_slantsAs_61 rfl (lv_at hl 2 rfl) ?_
        obtain ⟨r9, h10, hf⟩ := bnS hf
        refine calVi (k := 0) cx hw hl.1 (c_X12_pointsAs h10) q_1679 k_X12_pointsAs rfl rfl rfl dX12_slantsAs_62 rfl (Nat.le_of_ble_eq_true rfl) ⟨by show _ ≤ 15 + 4 * (d + 1); omega, by show _ ≤ 64 * (15 + 4 * (d + 1)); omega⟩ ⟨Nat.le_refl _, Nat.le_refl _⟩ (fun H locs hw => ?_)
        refine lv_iconst (v := 5) hx hb dX12_slantsAs_65 (by decide) ?_
        refine lv_aload_n hx hb dX12_slantsAs_66 rfl (lv_at hl 0 rfl) ?_
        refine lv_aload_n hx hb dX12_slantsAs_67 rfl (lv_at hl 0 rfl) ?_
        refine mg_own cx hw dX12_slantsAs_68 ?_
        refine lv_iconst (v := 3) hx hb dX12_slantsAs_71 (by decide) ?_
        obtain ⟨r11, h12, hf⟩ := bnS hf
        refine calVi (k := 0) cx hw hl.1 (c_X12_get h12) q_1304 k_X12_get rfl rfl rfl dX12_slantsAs_72 rfl (Nat.le_of_ble_eq_true rfl) ⟨by show _ ≤ 15 + 4 * (d + 1); omega, by show _ ≤ 64 * (15 + 4 * (d + 1)); omega⟩ ⟨Nat.le_refl _, Nat.le_refl _⟩ (fun H locs hw => ?_)
        refine lv_imul hx hb dX12_slantsAs_75 ?_
        refine lv_iadd hx hb dX12_slantsAs_76 ?_
        have hf := Option.some.inj hf
        subst hf
        exact hR _ _ _ _ _ _ hw rfl ⟨rfl, rfl⟩ dX12_slantsAs_77
      · have hf := ifT hf hc
        refine lv_aload_n hx hb dX12_slantsAs_31 rfl (lv_at hl 0 rfl) ?_
        refine lv_bipush (v := 60) hx hb dX12_slantsAs_32 (by decide) ?_
        obtain ⟨r1, h2, hf⟩ := bnS hf
        refine calVv (k := 0) cx hw hl.1 (c_X12_starts h2) q_1683 k_X12_starts rfl rfl rfl dX12_slantsAs_34 rfl (Nat.le_of_ble_eq_true rfl) ⟨by show _ ≤ 15 + 4 * (d + 1); omega, by show _ ≤ 64 * (15 + 4 * (d + 1)); omega⟩ ⟨Nat.le_refl _, Nat.le_refl _⟩ (fun H locs hw => ?_)
        refine lv_aload_n hx hb dX12_slantsAs_37 rfl (lv_at hl 0 rfl) ?_
        refine lv_iconst (v := 4) hx hb dX12_slantsAs_38 (by decide) ?_
        refine lv_iload_n hx hb dX12_slantsAs_39 rfl (lv_at hl 2 rfl) ?_
        obtain ⟨r3, h4, hf⟩ := bnS hf
        refine calVi (k := 0) cx hw hl.1 (hF0 h4) q_1687 k_X12_slantsAs rfl rfl rfl dX12_slantsAs_40 rfl (Nat.le_of_ble_eq_true rfl) ⟨by show _ ≤ 15 + 4 * (d + 1); omega, by show _ ≤ 64 * (15 + 4 * (d + 1)); omega⟩ ⟨Nat.le_refl _, Nat.le_refl _⟩ (fun H locs hw => ?_)
        refine lv_ineg hx hb dX12_slantsAs_43 ?_
        have hf := Option.some.inj hf
        subst hf
        exact hR _ _ _ _ _ _ hw rfl ⟨rfl, rfl⟩ dX12_slantsAs_44
    · have hf := ifT hf hc
      exact wj13 _ _ _ _ hf hw (lv_sub hl [0, 1, 2] rfl)
theorem c_X12_slantsAs : ∀ {d : Nat} {x_s : Nat → Int32} {x_kept : Nat → Int32} {x_laid : Nat → Int32} {x_isKept : Int32} {x_pile : Nat → Int32} {x_tape : Nat → Int32} {x_taped : Int32} {x_letters : Nat → Int32} {x_at : Int32} {x_begun : Int32} {x_token : Int32} {x_value : Int32} {x_opened : Int32} {x_steps : Int32} {x_code0 : Nat → Int32} {x_read : Nat → Int32} {x_saved : Nat → Int32} {x_plan : Nat → Int32} {x_bestPlan : Nat → Int32} {x_most : Int32} {x_many : Int32} {x_few : Int32} {x_everRight : Int32} {x_lagThen : Nat → Int32} {x_shadedThen : Nat → Int32} {x_firstFit : Int32} {x_rows : Nat → Int32} {x_rowMany : Int32} {x_sorts : Nat → Int32} {x_sizes : Nat → Int32} {x_number : Nat → Int32} {x_holds : Nat → Int32} {x_heldOne : Nat → Int32} {x_trace : Nat → Int32} {x_traced : Int32} {x_own : Int32} {x_isParted : Int32} {v1 : Int32} {v2 : Int32} {res : Int32 × (Nat → Int32) × Int32} (hf : X12_slantsAs n d x_s x_trace x_traced x_own v1 v2 = some res), MC l E0 D t yX12_slantsAs cX12_slantsAs 3 (some .int) (15 + 4 * d) 0 0 [.ref (a 0), .int v1, .int v2] (mW a t x_s x_kept x_laid x_isKept x_pile x_tape x_taped x_letters x_at x_begun x_token x_value x_opened x_steps x_code0 x_read x_saved x_plan x_bestPlan x_most x_many x_few x_everRight x_lagThen x_shadedThen x_firstFit x_rows x_rowMany x_sorts x_sizes x_number x_holds x_heldOne x_trace x_traced x_own x_isParted) (Qi res.1 (mW a t x_s x_kept x_laid x_isKept x_pile x_tape x_taped x_letters x_at x_begun x_token x_value x_opened x_steps x_code0 x_read x_saved x_plan x_bestPlan x_most x_many x_few x_everRight x_lagThen x_shadedThen x_firstFit x_rows x_rowMany x_sorts x_sizes x_number x_holds x_heldOne res.2.1 res.2.2 x_own x_isParted)) := by
  intro d
  induction d with
  | zero => intros; rename_i hf; simp [X12_slantsAs] at hf
  | succ d ih => intros; rename_i hf; rw [X12_slantsAs] at hf; exact cb_X12_slantsAs (fun h => ih h) hf
theorem dX12_sharesAs_0 : decode cX12_sharesAs 0 = .ok (.iload_n 1, 1) := by decide +kernel
theorem dX12_sharesAs_1 : decode cX12_sharesAs 1 = .ok (.iconst 5, 1) := by decide +kernel
theorem dX12_sharesAs_2 : decode cX12_sharesAs 2 = .ok (.if_icmp .ne 39, 3) := by decide +kernel
theorem dX12_sharesAs_5 : decode cX12_sharesAs 5 = .ok (.aload_n 0, 1) := by decide +kernel
theorem dX12_sharesAs_6 : decode cX12_sharesAs 6 = .ok (.bipush 61, 2) := by decide +kernel
theorem dX12_sharesAs_8 : decode cX12_sharesAs 8 = .ok (.invokevirtual 349, 3) := by decide +kernel
theorem dX12_sharesAs_11 : decode cX12_sharesAs 11 = .ok (.aload_n 0, 1) := by decide +kernel
theorem dX12_sharesAs_12 : decode cX12_sharesAs 12 = .ok (.iconst 4, 1) := by decide +kernel
theorem dX12_sharesAs_13 : decode cX12_sharesAs 13 = .ok (.iload_n 2, 1) := by decide +kernel
theorem dX12_sharesAs_14 : decode cX12_sharesAs 14 = .ok (.invokevirtual 361, 3) := by decide +kernel
theorem dX12_sharesAs_17 : decode cX12_sharesAs 17 = .ok (.istore_n 3, 1) := by decide +kernel
theorem dX12_sharesAs_18 : decode cX12_sharesAs 18 = .ok (.aload_n 0, 1) := by decide +kernel
theorem dX12_sharesAs_19 : decode cX12_sharesAs 19 = .ok (.getfield 364, 3) := by decide +kernel
theorem dX12_sharesAs_22 : decode cX12_sharesAs 22 = .ok (.ifCond .eq 7, 3) := by decide +kernel
theorem dX12_sharesAs_25 : decode cX12_sharesAs 25 = .ok (.iconst 0, 1) := by decide +kernel
theorem dX12_sharesAs_26 : decode cX12_sharesAs 26 = .ok (.goto 14, 3) := by decide +kernel
theorem dX12_sharesAs_29 : decode cX12_sharesAs 29 = .ok (.iload_n 3, 1) := by decide +kernel
theorem dX12_sharesAs_30 : decode cX12_sharesAs 30 = .ok (.aload_n 0, 1) := by decide +kernel
theorem dX12_sharesAs_31 : decode cX12_sharesAs 31 = .ok (.iconst 5, 1) := by decide +kernel
theorem dX12_sharesAs_32 : decode cX12_sharesAs 32 = .ok (.aload_n 0, 1) := by decide +kernel
theorem dX12_sharesAs_33 : decode cX12_sharesAs 33 = .ok (.getfield 355, 3) := by decide +kernel
theorem dX12_sharesAs_36 : decode cX12_sharesAs 36 = .ok (.invokevirtual 352, 3) := by decide +kernel
theorem dX12_sharesAs_39 : decode cX12_sharesAs 39 = .ok (.iadd, 1) := by decide +kernel
theorem dX12_sharesAs_40 : decode cX12_sharesAs 40 = .ok (.ireturn, 1) := by decide +kernel
theorem dX12_sharesAs_41 : decode cX12_sharesAs 41 = .ok (.iload_n 1, 1) := by decide +kernel
theorem dX12_sharesAs_42 : decode cX12_sharesAs 42 = .ok (.iconst 4, 1) := by decide +kernel
theorem dX12_sharesAs_43 : decode cX12_sharesAs 43 = .ok (.if_icmp .ne 18, 3) := by decide +kernel
theorem dX12_sharesAs_46 : decode cX12_sharesAs 46 = .ok (.aload_n 0, 1) := by decide +kernel
theorem dX12_sharesAs_47 : decode cX12_sharesAs 47 = .ok (.bipush 40, 2) := by decide +kernel
theorem dX12_sharesAs_49 : decode cX12_sharesAs 49 = .ok (.invokevirtual 349, 3) := by decide +kernel
theorem dX12_sharesAs_52 : decode cX12_sharesAs 52 = .ok (.aload_n 0, 1) := by decide +kernel
theorem dX12_sharesAs_53 : decode cX12_sharesAs 53 = .ok (.iconst 0, 1) := by decide +kernel
theorem dX12_sharesAs_54 : decode cX12_sharesAs 54 = .ok (.iload_n 2, 1) := by decide +kernel
theorem dX12_sharesAs_55 : decode cX12_sharesAs 55 = .ok (.invokevirtual 361, 3) := by decide +kernel
theorem dX12_sharesAs_58 : decode cX12_sharesAs 58 = .ok (.iconst 2, 1) := by decide +kernel
theorem dX12_sharesAs_59 : decode cX12_sharesAs 59 = .ok (.imul, 1) := by decide +kernel
theorem dX12_sharesAs_60 : decode cX12_sharesAs 60 = .ok (.ireturn, 1) := by decide +kernel
theorem dX12_sharesAs_61 : decode cX12_sharesAs 61 = .ok (.aload_n 0, 1) := by decide +kernel
theorem dX12_sharesAs_62 : decode cX12_sharesAs 62 = .ok (.bipush 12, 2) := by decide +kernel
theorem dX12_sharesAs_64 : decode cX12_sharesAs 64 = .ok (.invokevirtual 349, 3) := by decide +kernel
theorem dX12_sharesAs_67 : decode cX12_sharesAs 67 = .ok (.aload_n 0, 1) := by decide +kernel
theorem dX12_sharesAs_68 : decode cX12_sharesAs 68 = .ok (.aload_n 0, 1) := by decide +kernel
theorem dX12_sharesAs_69 : decode cX12_sharesAs 69 = .ok (.getfield 355, 3) := by decide +kernel
theorem dX12_sharesAs_72 : decode cX12_sharesAs 72 = .ok (.iconst 3, 1) := by decide +kernel
theorem dX12_sharesAs_73 : decode cX12_sharesAs 73 = .ok (.invokevirtual 79, 3) := by decide +kernel
theorem dX12_sharesAs_76 : decode cX12_sharesAs 76 = .ok (.aload_n 0, 1) := by decide +kernel
theorem dX12_sharesAs_77 : decode cX12_sharesAs 77 = .ok (.getfield 355, 3) := by decide +kernel
theorem dX12_sharesAs_80 : decode cX12_sharesAs 80 = .ok (.isub, 1) := by decide +kernel
theorem dX12_sharesAs_81 : decode cX12_sharesAs 81 = .ok (.iconst 2, 1) := by decide +kernel
theorem dX12_sharesAs_82 : decode cX12_sharesAs 82 = .ok (.iadd, 1) := by decide +kernel
theorem dX12_sharesAs_83 : decode cX12_sharesAs 83 = .ok (.istore_n 3, 1) := by decide +kernel
theorem dX12_sharesAs_84 : decode cX12_sharesAs 84 = .ok (.aload_n 0, 1) := by decide +kernel
theorem dX12_sharesAs_85 : decode cX12_sharesAs 85 = .ok (.aload_n 0, 1) := by decide +kernel
theorem dX12_sharesAs_86 : decode cX12_sharesAs 86 = .ok (.getfield 364, 3) := by decide +kernel
theorem dX12_sharesAs_89 : decode cX12_sharesAs 89 = .ok (.ifCond .ne 7, 3) := by decide +kernel
theorem dX12_sharesAs_92 : decode cX12_sharesAs 92 = .ok (.iload_n 3, 1) := by decide +kernel
theorem dX12_sharesAs_93 : decode cX12_sharesAs 93 = .ok (.ifCond .ne 7, 3) := by decide +kernel
theorem dX12_sharesAs_96 : decode cX12_sharesAs 96 = .ok (.iconst 1, 1) := by decide +kernel
theorem dX12_sharesAs_97 : decode cX12_sharesAs 97 = .ok (.goto 4, 3) := by decide +kernel
theorem dX12_sharesAs_100 : decode cX12_sharesAs 100 = .ok (.iconst 0, 1) := by decide +kernel
theorem dX12_sharesAs_101 : decode cX12_sharesAs 101 = .ok (.putfield 364, 3) := by decide +kernel
theorem dX12_sharesAs_104 : decode cX12_sharesAs 104 = .ok (.aload_n 0, 1) := by decide +kernel
theorem dX12_sharesAs_105 : decode cX12_sharesAs 105 = .ok (.getfield 364, 3) := by decide +kernel
theorem dX12_sharesAs_108 : decode cX12_sharesAs 108 = .ok (.ifCond .eq 7, 3) := by decide +kernel
theorem dX12_sharesAs_111 : decode cX12_sharesAs 111 = .ok (.iconst 0, 1) := by decide +kernel
theorem dX12_sharesAs_112 : decode cX12_sharesAs 112 = .ok (.goto 6, 3) := by decide +kernel
theorem dX12_sharesAs_115 : decode cX12_sharesAs 115 = .ok (.iload_n 2, 1) := by decide +kernel
theorem dX12_sharesAs_116 : decode cX12_sharesAs 116 = .ok (.iload_n 3, 1) := by decide +kernel
theorem dX12_sharesAs_117 : decode cX12_sharesAs 117 = .ok (.irem, 1) := by decide +kernel
theorem dX12_sharesAs_118 : decode cX12_sharesAs 118 = .ok (.ireturn, 1) := by decide +kernel
theorem k_X12_sharesAs : MV yX12_sharesAs cX12_sharesAs 4 (some .int) 2 := ⟨q_1693, qs_93, q_14, q_1694, ⟨by decide, by decide, by decide +kernel⟩⟩
theorem cb_X12_sharesAs {F : (Nat → Int32) → (Nat → Int32) → Int32 → Int32 → Int32 → Int32 → Int32 → Option (Int32 × (Nat → Int32) × Int32 × Int32)} {d : Nat} (hF0 : ∀ {x_s : Nat → Int32} {x_kept : Nat → Int32} {x_laid : Nat → Int32} {x_isKept : Int32} {x_pile : Nat → Int32} {x_tape : Nat → Int32} {x_taped : Int32} {x_letters : Nat → Int32} {x_at : Int32} {x_begun : Int32} {x_token : Int32} {x_value : Int32} {x_opened : Int32} {x_steps : Int32} {x_code0 : Nat → Int32} {x_read : Nat → Int32} {x_saved : Nat → Int32} {x_plan : Nat → Int32} {x_bestPlan : Nat → Int32} {x_most : Int32} {x_many : Int32} {x_few : Int32} {x_everRight : Int32} {x_lagThen : Nat → Int32} {x_shadedThen : Nat → Int32} {x_firstFit : Int32} {x_rows : Nat → Int32} {x_rowMany : Int32} {x_sorts : Nat → Int32} {x_sizes : Nat → Int32} {x_number : Nat → Int32} {x_holds : Nat → Int32} {x_heldOne : Nat → Int32} {x_trace : Nat → Int32} {x_traced : Int32} {x_own : Int32} {x_isParted : Int32} {v1 : Int32} {v2 : Int32} {res : Int32 × (Nat → Int32) × Int32 × Int32}, F x_s x_trace x_traced x_own x_isParted v1 v2 = some res → MC l E0 D t yX12_sharesAs cX12_sharesAs 4 (some .int) (15 + 4 * d) 0 0 [.ref (a 0), .int v1, .int v2] (mW a t x_s x_kept x_laid x_isKept x_pile x_tape x_taped x_letters x_at x_begun x_token x_value x_opened x_steps x_code0 x_read x_saved x_plan x_bestPlan x_most x_many x_few x_everRight x_lagThen x_shadedThen x_firstFit x_rows x_rowMany x_sorts x_sizes x_number x_holds x_heldOne x_trace x_traced x_own x_isParted) (Qi res.1 (mW a t x_s x_kept x_laid x_isKept x_pile x_tape x_taped x_letters x_at x_begun x_token x_value x_opened x_steps x_code0 x_read x_saved x_plan x_bestPlan x_most x_many x_few x_everRight x_lagThen x_shadedThen x_firstFit x_rows x_rowMany x_sorts x_sizes x_number x_holds x_heldOne res.2.1 res.2.2.1 x_own res.2.2.2))) {res : Int32 × (Nat → Int32) × Int32 × Int32} (hf : X12_sharesAs_b n F x_s x_trace x_traced x_own x_isParted v1 v2 = some res) : MC l E0 D t yX12_sharesAs cX12_sharesAs 4 (some .int) (15 + 4 * (d + 1)) 0 0 [.ref (a 0), .int v1, .int v2] (mW a t x_s x_kept x_laid x_isKept x_pile x_tape x_taped x_letters x_at x_begun x_token x_value x_opened x_steps x_code0 x_read x_saved x_plan x_bestPlan x_most x_many x_few x_everRight x_lagThen x_shadedThen x_firstFit x_rows x_rowMany x_sorts x_sizes x_number x_holds x_heldOne x_trace x_traced x_own x_isParted) (Qi res.1 (mW a t x_s x_kept x_laid x_isKept x_pile x_tape x_taped x_letters x_at x_begun x_token x_value x_opened x_steps x_code0 x_read x_saved x_plan x_bestPlan x_most x_many x_few x_everRight x_lagThen x_shadedThen x_firstFit x_rows x_rowMany x_sorts x_sizes x_number x_holds x_heldOne res.2.1 res.2.2.1 x_own res.2.2.2)) := by
  unfold X12_sharesAs_b at hf
  refine MC.ofI pn_X12 (Nat.le_of_ble_eq_true rfl) ?_
  intro p e s m args below meth c A Q ls cx hR hw hl
  have hx := cx.1
  have hb := cx.2.1
  have hl : lv_has ls 4 [(0, .ref (a 0)), (1, .int v1), (2, .int v2)] := hl
  refine lv_iload_n hx hb dX12_sharesAs_0 rfl (lv_at hl 1 rfl) ?_
  refine lv_iconst (v := 5) hx hb dX12_sharesAs_1 (by decide) ?_
  refine lv_icmp_ne (tgt := 41) hx hb dX12_sharesAs_2 (by decide) (fun hc => ?_) (fun hc => ?_)
  · have hf := ifF hf hc
    refine lv_iload_n hx hb dX12_sharesAs_41 rfl (lv_at hl 1 rfl) ?_
    refine lv_iconst (v := 4) hx hb dX12_sharesAs_42 (by decide) ?_
    refine lv_icmp_ne (tgt := 61) hx hb dX12_sharesAs_43 (by decide) (fun hc => ?_) (fun hc => ?_)
    · have hf := ifF hf hc
      refine lv_aload_n hx hb dX12_sharesAs_61 rfl (lv_at hl 0 rfl) ?_
      refine lv_bipush (v := 12) hx hb dX12_sharesAs_62 (by decide) ?_
      obtain ⟨r11, h12, hf⟩ := bnS hf
      refine calVv (k := 0) cx hw hl.1 (c_X12_starts h12) q_1683 k_X12_starts rfl rfl rfl dX12_sharesAs_64 rfl (Nat.le_of_ble_eq_true rfl) ⟨by show _ ≤ 15 + 4 * (d + 1); omega, by show _ ≤ 64 * (15 + 4 * (d + 1)); omega⟩ ⟨Nat.le_refl _, Nat.le_refl _⟩ (fun H locs hw => ?_)
      refine lv_aload_n hx hb dX12_sharesAs_67 rfl (lv_at hl 0 rfl) ?_
      refine lv_aload_n hx hb dX12_sharesAs_68 rfl (lv_at hl 0 rfl) ?_
      refine mg_own cx hw dX12_sharesAs_69 ?_
      refine lv_iconst (v := 3) hx hb dX12_sharesAs_72 (by decide) ?_
      obtain ⟨r13, h14, hf⟩ := bnS hf
      refine calVi (k := 0) cx hw hl.1 (c_X12_get h14) q_1304 k_X12_get rfl rfl rfl dX12_sharesAs_73 rfl (Nat.le_of_ble_eq_true rfl) ⟨by show _ ≤ 15 + 4 * (d + 1); omega, by show _ ≤ 64 * (15 + 4 * (d + 1)); omega⟩ ⟨Nat.le_refl _, Nat.le_refl _⟩ (fun H locs hw => ?_)
      refine lv_aload_n hx hb dX12_sharesAs_76 rfl (lv_at hl 0 rfl) ?_
      refine mg_own cx hw dX12_sharesAs_77 ?_
      refine lv_isub hx hb dX12_sharesAs_80 ?_
      refine lv_iconst (v := 2) hx hb dX12_sharesAs_81 (by decide) ?_
      refine lv_iadd hx hb dX12_sharesAs_82 ?_
      refine lv_istore_n (lv' := [(3, .int ((r13 - x_own) + (2 : Int32))), (0, .ref (a 0)), (1, .int v1), (2, .int v2)]) hx hb dX12_sharesAs_83 rfl hl (by decide) rfl (fun ls hl => ?_)
      refine lv_aload_n hx hb dX12_sharesAs_84 rfl (lv_at hl 1 rfl) ?_
      refine lv_aload_n hx hb dX12_sharesAs_85 rfl (lv_at hl 1 rfl) ?_
      refine mg_isParted cx hw dX12_sharesAs_86 ?_
      obtain ⟨j15, hj15, hf⟩ := pbS hf
      have wj15 : ∀ (H : Heap) (locs : List Loc) (ls : Array Slot), Wd D A s (mW a t x_s x_kept x_laid x_isKept x_pile x_tape x_taped x_letters x_at x_begun x_token x_value x_opened x_steps x_code0 x_read x_saved x_plan x_bestPlan x_most x_many x_few x_everRight x_lagThen x_shadedThen x_firstFit x_rows x_rowMany x_sorts x_sizes x_number x_holds x_heldOne r11.1 r11.2 x_own x_isParted) H locs → lv_has ls 4 [(0, .ref (a 0)), (1, .int v1), (2, .int v2), (3, .int ((r13 - x_own) + (2 : Int32)))] → W p l e (rmz (15 + 4 * (d + 1)) 0 0) s m args below meth c H locs 0 0 Q (F0 m 101 ls [.int j15, .ref (a 0)]) := by
        intro H locs ls hw hl
        obtain ⟨h16, hf⟩ := ckS hf
        refine mp_isParted cx hw (bkS h16) dX12_sharesAs_101 (fun H locs hw => ?_)
        refine lv_aload_n hx hb dX12_sharesAs_104 rfl (lv_at hl 0 rfl) ?_
        refine mg_isParted cx hw dX12_sharesAs_105 ?_
        refine lv_if_eq (tgt := 115) hx hb dX12_sharesAs_108 (by decide) (fun hc => ?_) (fun hc => ?_)
        · have hf := ifT hf hc
          refine lv_iload_n hx hb dX12_sharesAs_115 rfl (lv_at hl 2 rfl) ?_
          refine lv_iload_n hx hb dX12_sharesAs_116 rfl (lv_at hl 3 rfl) ?_
          obtain ⟨h17, hf⟩ := ckS hf
          refine lv_irem hx hb dX12_sharesAs_117 (by simpa using h17) ?_
          have hf := Option.some.inj hf
          subst hf
          exact hR _ _ _ _ _ _ hw rfl ⟨rfl, rfl⟩ dX12_sharesAs_118
        · have hf := ifF hf hc
          refine lv_iconst (v := 0) hx hb dX12_sharesAs_111 (by decide) ?_
          refine lv_goto (tgt := 118) hx hb dX12_sharesAs_112 (by decide) ?_
          have hf := Option.some.inj hf
          subst hf
          exact hR _ _ _ _ _ _ hw rfl ⟨rfl, rfl⟩ dX12_sharesAs_118
      clear hf
      have hf := hj15
      clear hj15
      refine lv_if_ne (tgt := 96) hx hb dX12_sharesAs_89 (by decide) (fun hc => ?_) (fun hc => ?_)
      · have hf := ifF hf hc
        refine lv_iconst (v := 1) hx hb dX12_sharesAs_96 (by decide) ?_
        refine lv_goto (tgt := 101) hx hb dX12_sharesAs_97 (by decide) ?_
        subst hf
        exact wj15 _ _ _ hw (lv_sub hl [1, 2, 3, 0] rfl)
      · have hf := ifT hf hc
        refine lv_iload_n hx hb dX12_sharesAs_92 rfl (lv_at hl 0 rfl) ?_
        refine lv_if_ne (tgt := 100) hx hb dX12_sharesAs_93 (by decide) (fun hc => ?_) (fun hc => ?_)
        · have hf := ifF hf hc
          refine lv_iconst (v := 0) hx hb dX12_sharesAs_100 (by decide) ?_
          subst hf
          exact wj15 _ _ _ hw (lv_sub hl [1, 2, 3, 0] rfl)
        · have hf := ifT hf hc
          refine lv_iconst (v := 1) hx hb dX12_sharesAs_96 (by decide) ?_
          refine lv_goto (tgt := 101) hx hb dX12_sharesAs_97 (by decide) ?_
          subst hf
          exact wj15 _ _ _ hw (lv_sub hl [1, 2, 3, 0] rfl)
    · have hf := ifT hf hc
      refine lv_aload_n hx hb dX12_sharesAs_46 rfl (lv_at hl 0 rfl) ?_
      refine lv_bipush (v := 40) hx hb dX12_sharesAs_47 (by decide) ?_
      obtain ⟨r7, h8, hf⟩ := bnS hf
      refine calVv (k := 0) cx hw hl.1 (c_X12_starts h8) q_1683 k_X12_starts rfl rfl rfl dX12_sharesAs_49 rfl (Nat.le_of_ble_eq_true rfl) ⟨by show _ ≤ 15 + 4 * (d + 1); omega, by show _ ≤ 64 * (15 + 4 * (d + 1)); omega⟩ ⟨Nat.le_refl _, Nat.le_refl _⟩ (fun H locs hw => ?_)
      refine lv_aload_n hx hb dX12_sharesAs_52 rfl (lv_at hl 0 rfl) ?_
      refine lv_iconst (v := 0) hx hb dX12_sharesAs_53 (by decide) ?_
      refine lv_iload_n hx hb dX12_sharesAs_54 rfl (lv_at hl 2 rfl) ?_
      obtain ⟨r9, h10, hf⟩ := bnS hf
      refine calVi (k := 0) cx hw hl.1 (hF0 h10) q_1691 k_X12_sharesAs rfl rfl rfl dX12_sharesAs_55 rfl (Nat.le_of_ble_eq_true rfl) ⟨by show _ ≤ 15 + 4 * (d + 1); omega, by show _ ≤ 64 * (15 + 4 * (d + 1)); omega⟩ ⟨Nat.le_refl _, Nat.le_refl _⟩ (fun H locs hw => ?_)
      refine lv_iconst (v := 2) hx hb dX12_sharesAs_58 (by decide) ?_
      refine lv_imul hx hb dX12_sharesAs_59 ?_
      have hf := Option.some.inj hf
      subst hf
      exact hR _ _ _ _ _ _ hw rfl ⟨rfl, rfl⟩ dX12_sharesAs_60
  · have hf := ifT hf hc
    refine lv_aload_n hx hb dX12_sharesAs_5 rfl (lv_at hl 0 rfl) ?_
    refine lv_bipush (v := 61) hx hb dX12_sharesAs_6 (by decide) ?_
    obtain ⟨r1, h2, hf⟩ := bnS hf
    refine calVv (k := 0) cx hw hl.1 (c_X12_starts h2) q_1683 k_X12_starts rfl rfl rfl dX12_sharesAs_8 rfl (Nat.le_of_ble_eq_true rfl) ⟨by show _ ≤ 15 + 4 * (d + 1); omega, by show _ ≤ 64 * (15 + 4 * (d + 1)); omega⟩ ⟨Nat.le_refl _, Nat.le_refl _⟩ (fun H locs hw => ?_)
    refine lv_aload_n hx hb dX12_sharesAs_11 rfl (lv_at hl 0 rfl) ?_
    refine lv_iconst (v := 4) hx hb dX12_sharesAs_12 (by decide) ?_
    refine lv_iload_n hx hb dX12_sharesAs_13 rfl (lv_at hl 2 rfl) ?_
    obtain ⟨r3, h4, hf⟩ := bnS hf
    refine calVi (k := 0) cx hw hl.1 (hF0 h4) q_1691 k_X12_sharesAs rfl rfl rfl dX12_sharesAs_14 rfl (Nat.le_of_ble_eq_true rfl) ⟨by show _ ≤ 15 + 4 * (d + 1); omega, by show _ ≤ 64 * (15 + 4 * (d + 1)); omega⟩ ⟨Nat.le_refl _, Nat.le_refl _⟩ (fun H locs hw => ?_)
    refine lv_istore_n (lv' := [(3, .int r3.1), (0, .ref (a 0)), (1, .int v1), (2, .int v2)]) hx hb dX12_sharesAs_17 rfl hl (by decide) rfl (fun ls hl => ?_)
    refine lv_aload_n hx hb dX12_sharesAs_18 rfl (lv_at hl 1 rfl) ?_
    refine mg_isParted cx hw dX12_sharesAs_19 ?_
    refine lv_if_eq (tgt := 29) hx hb dX12_sharesAs_22 (by decide) (fun hc => ?_) (fun hc => ?_)
    · have hf := ifT hf hc
      refine lv_iload_n hx hb dX12_sharesAs_29 rfl (lv_at hl 0 rfl) ?_
      refine lv_aload_n hx hb dX12_sharesAs_30 rfl (lv_at hl 1 rfl) ?_
      refine lv_iconst (v := 5) hx hb dX12_sharesAs_31 (by decide) ?_
      refine lv_aload_n hx hb dX12_sharesAs_32 rfl (lv_at hl 1 rfl) ?_
      refine mg_own cx hw dX12_sharesAs_33 ?_
      obtain ⟨r5, h6, hf⟩ := bnS hf
      refine calVi (k := 0) cx hw hl.1 (c_X12_pointsAs h6) q_1679 k_X12_pointsAs rfl rfl rfl dX12_sharesAs_36 rfl (Nat.le_of_ble_eq_true rfl) ⟨by show _ ≤ 15 + 4 * (d + 1); omega, by show _ ≤ 64 * (15 + 4 * (d + 1)); omega⟩ ⟨Nat.le_refl _, Nat.le_refl _⟩ (fun H locs hw => ?_)
      refine lv_iadd hx hb dX12_sharesAs_39 ?_
      have hf := Option.some.inj hf
      subst hf
      exact hR _ _ _ _ _ _ hw rfl ⟨rfl, rfl⟩ dX12_sharesAs_40
    · have hf := ifF hf hc
      refine lv_iconst (v := 0) hx hb dX12_sharesAs_25 (by decide) ?_
      refine lv_goto (tgt := 40) hx hb dX12_sharesAs_26 (by decide) ?_
      have hf := Option.some.inj hf
      subst hf
      exact hR _ _ _ _ _ _ hw rfl ⟨rfl, rfl⟩ dX12_sharesAs_40
theorem c_X12_sharesAs : ∀ {d : Nat} {x_s : Nat → Int32} {x_kept : Nat → Int32} {x_laid : Nat → Int32} {x_isKept : Int32} {x_pile : Nat → Int32} {x_tape : Nat → Int32} {x_taped : Int32} {x_letters : Nat → Int32} {x_at : Int32} {x_begun : Int32} {x_token : Int32} {x_value : Int32} {x_opened : Int32} {x_steps : Int32} {x_code0 : Nat → Int32} {x_read : Nat → Int32} {x_saved : Nat → Int32} {x_plan : Nat → Int32} {x_bestPlan : Nat → Int32} {x_most : Int32} {x_many : Int32} {x_few : Int32} {x_everRight : Int32} {x_lagThen : Nat → Int32} {x_shadedThen : Nat → Int32} {x_firstFit : Int32} {x_rows : Nat → Int32} {x_rowMany : Int32} {x_sorts : Nat → Int32} {x_sizes : Nat → Int32} {x_number : Nat → Int32} {x_holds : Nat → Int32} {x_heldOne : Nat → Int32} {x_trace : Nat → Int32} {x_traced : Int32} {x_own : Int32} {x_isParted : Int32} {v1 : Int32} {v2 : Int32} {res : Int32 × (Nat → Int32) × Int32 × Int32} (hf : X12_sharesAs n d x_s x_trace x_traced x_own x_isParted v1 v2 = some res), MC l E0 D t yX12_sharesAs cX12_sharesAs 4 (some .int) (15 + 4 * d) 0 0 [.ref (a 0), .int v1, .int v2] (mW a t x_s x_kept x_laid x_isKept x_pile x_tape x_taped x_letters x_at x_begun x_token x_value x_opened x_steps x_code0 x_read x_saved x_plan x_bestPlan x_most x_many x_few x_everRight x_lagThen x_shadedThen x_firstFit x_rows x_rowMany x_sorts x_sizes x_number x_holds x_heldOne x_trace x_traced x_own x_isParted) (Qi res.1 (mW a t x_s x_kept x_laid x_isKept x_pile x_tape x_taped x_letters x_at x_begun x_token x_value x_opened x_steps x_code0 x_read x_saved x_plan x_bestPlan x_most x_many x_few x_everRight x_lagThen x_shadedThen x_firstFit x_rows x_rowMany x_sorts x_sizes x_number x_holds x_heldOne res.2.1 res.2.2.1 x_own res.2.2.2)) := by
  intro d
  induction d with
  | zero => intros; rename_i hf; simp [X12_sharesAs] at hf
  | succ d ih => intros; rename_i hf; rw [X12_sharesAs] at hf; exact cb_X12_sharesAs (fun h => ih h) hf
theorem dX12_tellsAs_0 : decode cX12_tellsAs 0 = .ok (.iload_n 1, 1) := by decide +kernel
theorem dX12_tellsAs_1 : decode cX12_tellsAs 1 = .ok (.iconst 3, 1) := by decide +kernel
theorem dX12_tellsAs_2 : decode cX12_tellsAs 2 = .ok (.if_icmp .ne 44, 3) := by decide +kernel
theorem dX12_tellsAs_5 : decode cX12_tellsAs 5 = .ok (.aload_n 0, 1) := by decide +kernel
theorem dX12_tellsAs_6 : decode cX12_tellsAs 6 = .ok (.bipush 51, 2) := by decide +kernel
theorem dX12_tellsAs_8 : decode cX12_tellsAs 8 = .ok (.invokevirtual 349, 3) := by decide +kernel
theorem dX12_tellsAs_11 : decode cX12_tellsAs 11 = .ok (.aload_n 0, 1) := by decide +kernel
theorem dX12_tellsAs_12 : decode cX12_tellsAs 12 = .ok (.iconst 2, 1) := by decide +kernel
theorem dX12_tellsAs_13 : decode cX12_tellsAs 13 = .ok (.iload_n 2, 1) := by decide +kernel
theorem dX12_tellsAs_14 : decode cX12_tellsAs 14 = .ok (.invokevirtual 368, 3) := by decide +kernel
theorem dX12_tellsAs_17 : decode cX12_tellsAs 17 = .ok (.istore_n 3, 1) := by decide +kernel
theorem dX12_tellsAs_18 : decode cX12_tellsAs 18 = .ok (.aload_n 0, 1) := by decide +kernel
theorem dX12_tellsAs_19 : decode cX12_tellsAs 19 = .ok (.getfield 364, 3) := by decide +kernel
theorem dX12_tellsAs_22 : decode cX12_tellsAs 22 = .ok (.ifCond .eq 7, 3) := by decide +kernel
theorem dX12_tellsAs_25 : decode cX12_tellsAs 25 = .ok (.iconst 0, 1) := by decide +kernel
theorem dX12_tellsAs_26 : decode cX12_tellsAs 26 = .ok (.goto 19, 3) := by decide +kernel
theorem dX12_tellsAs_29 : decode cX12_tellsAs 29 = .ok (.iload_n 3, 1) := by decide +kernel
theorem dX12_tellsAs_30 : decode cX12_tellsAs 30 = .ok (.aload_n 0, 1) := by decide +kernel
theorem dX12_tellsAs_31 : decode cX12_tellsAs 31 = .ok (.iconst 3, 1) := by decide +kernel
theorem dX12_tellsAs_32 : decode cX12_tellsAs 32 = .ok (.aload_n 0, 1) := by decide +kernel
theorem dX12_tellsAs_33 : decode cX12_tellsAs 33 = .ok (.aload_n 0, 1) := by decide +kernel
theorem dX12_tellsAs_34 : decode cX12_tellsAs 34 = .ok (.getfield 355, 3) := by decide +kernel
theorem dX12_tellsAs_37 : decode cX12_tellsAs 37 = .ok (.iconst 3, 1) := by decide +kernel
theorem dX12_tellsAs_38 : decode cX12_tellsAs 38 = .ok (.invokevirtual 79, 3) := by decide +kernel
theorem dX12_tellsAs_41 : decode cX12_tellsAs 41 = .ok (.invokevirtual 358, 3) := by decide +kernel
theorem dX12_tellsAs_44 : decode cX12_tellsAs 44 = .ok (.isub, 1) := by decide +kernel
theorem dX12_tellsAs_45 : decode cX12_tellsAs 45 = .ok (.ireturn, 1) := by decide +kernel
theorem dX12_tellsAs_46 : decode cX12_tellsAs 46 = .ok (.aload_n 0, 1) := by decide +kernel
theorem dX12_tellsAs_47 : decode cX12_tellsAs 47 = .ok (.bipush 13, 2) := by decide +kernel
theorem dX12_tellsAs_49 : decode cX12_tellsAs 49 = .ok (.invokevirtual 349, 3) := by decide +kernel
theorem dX12_tellsAs_52 : decode cX12_tellsAs 52 = .ok (.aload_n 0, 1) := by decide +kernel
theorem dX12_tellsAs_53 : decode cX12_tellsAs 53 = .ok (.aload_n 0, 1) := by decide +kernel
theorem dX12_tellsAs_54 : decode cX12_tellsAs 54 = .ok (.aload_n 0, 1) := by decide +kernel
theorem dX12_tellsAs_55 : decode cX12_tellsAs 55 = .ok (.getfield 355, 3) := by decide +kernel
theorem dX12_tellsAs_58 : decode cX12_tellsAs 58 = .ok (.iconst 0, 1) := by decide +kernel
theorem dX12_tellsAs_59 : decode cX12_tellsAs 59 = .ok (.invokevirtual 79, 3) := by decide +kernel
theorem dX12_tellsAs_62 : decode cX12_tellsAs 62 = .ok (.iload_n 2, 1) := by decide +kernel
theorem dX12_tellsAs_63 : decode cX12_tellsAs 63 = .ok (.invokevirtual 358, 3) := by decide +kernel
theorem dX12_tellsAs_66 : decode cX12_tellsAs 66 = .ok (.istore_n 3, 1) := by decide +kernel
theorem dX12_tellsAs_67 : decode cX12_tellsAs 67 = .ok (.iload_n 3, 1) := by decide +kernel
theorem dX12_tellsAs_68 : decode cX12_tellsAs 68 = .ok (.aload_n 0, 1) := by decide +kernel
theorem dX12_tellsAs_69 : decode cX12_tellsAs 69 = .ok (.aload_n 0, 1) := by decide +kernel
theorem dX12_tellsAs_70 : decode cX12_tellsAs 70 = .ok (.aload_n 0, 1) := by decide +kernel
theorem dX12_tellsAs_71 : decode cX12_tellsAs 71 = .ok (.getfield 355, 3) := by decide +kernel
theorem dX12_tellsAs_74 : decode cX12_tellsAs 74 = .ok (.iconst 0, 1) := by decide +kernel
theorem dX12_tellsAs_75 : decode cX12_tellsAs 75 = .ok (.invokevirtual 79, 3) := by decide +kernel
theorem dX12_tellsAs_78 : decode cX12_tellsAs 78 = .ok (.iload_n 2, 1) := by decide +kernel
theorem dX12_tellsAs_79 : decode cX12_tellsAs 79 = .ok (.invokevirtual 361, 3) := by decide +kernel
theorem dX12_tellsAs_82 : decode cX12_tellsAs 82 = .ok (.ixor, 1) := by decide +kernel
theorem dX12_tellsAs_83 : decode cX12_tellsAs 83 = .ok (.ireturn, 1) := by decide +kernel
theorem k_X12_tellsAs : MV yX12_tellsAs cX12_tellsAs 4 (some .int) 2 := ⟨q_1697, qs_94, q_14, q_1698, ⟨by decide, by decide, by decide +kernel⟩⟩
theorem cb_X12_tellsAs {F : (Nat → Int32) → (Nat → Int32) → Int32 → Int32 → Int32 → Int32 → Int32 → Option (Int32 × (Nat → Int32) × Int32 × Int32)} {d : Nat} (hF0 : ∀ {x_s : Nat → Int32} {x_kept : Nat → Int32} {x_laid : Nat → Int32} {x_isKept : Int32} {x_pile : Nat → Int32} {x_tape : Nat → Int32} {x_taped : Int32} {x_letters : Nat → Int32} {x_at : Int32} {x_begun : Int32} {x_token : Int32} {x_value : Int32} {x_opened : Int32} {x_steps : Int32} {x_code0 : Nat → Int32} {x_read : Nat → Int32} {x_saved : Nat → Int32} {x_plan : Nat → Int32} {x_bestPlan : Nat → Int32} {x_most : Int32} {x_many : Int32} {x_few : Int32} {x_everRight : Int32} {x_lagThen : Nat → Int32} {x_shadedThen : Nat → Int32} {x_firstFit : Int32} {x_rows : Nat → Int32} {x_rowMany : Int32} {x_sorts : Nat → Int32} {x_sizes : Nat → Int32} {x_number : Nat → Int32} {x_holds : Nat → Int32} {x_heldOne : Nat → Int32} {x_trace : Nat → Int32} {x_traced : Int32} {x_own : Int32} {x_isParted : Int32} {v1 : Int32} {v2 : Int32} {res : Int32 × (Nat → Int32) × Int32 × Int32}, F x_s x_trace x_traced x_own x_isParted v1 v2 = some res → MC l E0 D t yX12_tellsAs cX12_tellsAs 4 (some .int) (28 + 4 * d) 0 0 [.ref (a 0), .int v1, .int v2] (mW a t x_s x_kept x_laid x_isKept x_pile x_tape x_taped x_letters x_at x_begun x_token x_value x_opened x_steps x_code0 x_read x_saved x_plan x_bestPlan x_most x_many x_few x_everRight x_lagThen x_shadedThen x_firstFit x_rows x_rowMany x_sorts x_sizes x_number x_holds x_heldOne x_trace x_traced x_own x_isParted) (Qi res.1 (mW a t x_s x_kept x_laid x_isKept x_pile x_tape x_taped x_letters x_at x_begun x_token x_value x_opened x_steps x_code0 x_read x_saved x_plan x_bestPlan x_most x_many x_few x_everRight x_lagThen x_shadedThen x_firstFit x_rows x_rowMany x_sorts x_sizes x_number x_holds x_heldOne res.2.1 res.2.2.1 x_own res.2.2.2))) {res : Int32 × (Nat → Int32) × Int32 × Int32} (hf : X12_tellsAs_b n F x_s x_trace x_traced x_own x_isParted v1 v2 = some res) : MC l E0 D t yX12_tellsAs cX12_tellsAs 4 (some .int) (28 + 4 * (d + 1)) 0 0 [.ref (a 0), .int v1, .int v2] (mW a t x_s x_kept x_laid x_isKept x_pile x_tape x_taped x_letters x_at x_begun x_token x_value x_opened x_steps x_code0 x_read x_saved x_plan x_bestPlan x_most x_many x_few x_everRight x_lagThen x_shadedThen x_firstFit x_rows x_rowMany x_sorts x_sizes x_number x_holds x_heldOne x_trace x_traced x_own x_isParted) (Qi res.1 (mW a t x_s x_kept x_laid x_isKept x_pile x_tape x_taped x_letters x_at x_begun x_token x_value x_opened x_steps x_code0 x_read x_saved x_plan x_bestPlan x_most x_many x_few x_everRight x_lagThen x_shadedThen x_firstFit x_rows x_rowMany x_sorts x_sizes x_number x_holds x_heldOne res.2.1 res.2.2.1 x_own res.2.2.2)) := by
  unfold X12_tellsAs_b at hf
  refine MC.ofI pn_X12 (Nat.le_of_ble_eq_true rfl) ?_
  intro p e s m args below meth c A Q ls cx hR hw hl
  have hx := cx.1
  have hb := cx.2.1
  have hl : lv_has ls 4 [(0, .ref (a 0)), (1, .int v1), (2, .int v2)] := hl
  refine lv_iload_n hx hb dX12_tellsAs_0 rfl (lv_at hl 1 rfl) ?_
  refine lv_iconst (v := 3) hx hb dX12_tellsAs_1 (by decide) ?_
  refine lv_icmp_ne (tgt := 46) hx hb dX12_tellsAs_2 (by decide) (fun hc => ?_) (fun hc => ?_)
  · have hf := ifF hf hc
    refine lv_aload_n hx hb dX12_tellsAs_46 rfl (lv_at hl 0 rfl) ?_
    refine lv_bipush (v := 13) hx hb dX12_tellsAs_47 (by decide) ?_
    obtain ⟨r9, h10, hf⟩ := bnS hf
    refine calVv (k := 0) cx hw hl.1 (c_X12_starts h10) q_1683 k_X12_starts rfl rfl rfl dX12_tellsAs_49 rfl (Nat.le_of_ble_eq_true rfl) ⟨by show _ ≤ 28 + 4 * (d + 1); omega, by show _ ≤ 64 * (28 + 4 * (d + 1)); omega⟩ ⟨Nat.le_refl _, Nat.le_refl _⟩ (fun H locs hw => ?_)
    refine lv_aload_n hx hb dX12_tellsAs_52 rfl (lv_at hl 0 rfl) ?_
    refine lv_aload_n hx hb dX12_tellsAs_53 rfl (lv_at hl 0 rfl) ?_
    refine lv_aload_n hx hb dX12_tellsAs_54 rfl (lv_at hl 0 rfl) ?_
    refine mg_own cx hw dX12_tellsAs_55 ?_
    refine lv_iconst (v := 0) hx hb dX12_tellsAs_58 (by decide) ?_
    obtain ⟨r11, h12, hf⟩ := bnS hf
    refine calVi (k := 0) cx hw hl.1 (c_X12_get h12) q_1304 k_X12_get rfl rfl rfl dX12_tellsAs_59 rfl (Nat.le_of_ble_eq_true rfl) ⟨by show _ ≤ 28 + 4 * (d + 1); omega, by show _ ≤ 64 * (28 + 4 * (d + 1)); omega⟩ ⟨Nat.le_refl _, Nat.le_refl _⟩ (fun H locs hw => ?_)
    refine lv_iload_n hx hb dX12_tellsAs_62 rfl (lv_at hl 2 rfl) ?_
    obtain ⟨r13, h14, hf⟩ := bnS hf
    refine calVi (k := 0) cx hw hl.1 (c_X12_slantsAs h14) q_1687 k_X12_slantsAs rfl rfl rfl dX12_tellsAs_63 rfl (Nat.le_of_ble_eq_true rfl) ⟨by show _ ≤ 28 + 4 * (d + 1); omega, by show _ ≤ 64 * (28 + 4 * (d + 1)); omega⟩ ⟨Nat.le_refl _, Nat.le_refl _⟩ (fun H locs hw => ?_)
    refine lv_istore_n (lv' := [(3, .int r13.1), (0, .ref (a 0)), (1, .int v1), (2, .int v2)]) hx hb dX12_tellsAs_66 rfl hl (by decide) rfl (fun ls hl => ?_)
    refine lv_iload_n hx hb dX12_tellsAs_67 rfl (lv_at hl 0 rfl) ?_
    refine lv_aload_n hx hb dX12_tellsAs_68 rfl (lv_at hl 1 rfl) ?_
    refine lv_aload_n hx hb dX12_tellsAs_69 rfl (lv_at hl 1 rfl) ?_
    refine lv_aload_n hx hb dX12_tellsAs_70 rfl (lv_at hl 1 rfl) ?_
    refine mg_own cx hw dX12_tellsAs_71 ?_
    refine lv_iconst (v := 0) hx hb dX12_tellsAs_74 (by decide) ?_
    obtain ⟨r15, h16, hf⟩ := bnS hf
    refine calVi (k := 0) cx hw hl.1 (c_X12_get h16) q_1304 k_X12_get rfl rfl rfl dX12_tellsAs_75 rfl (Nat.le_of_ble_eq_true rfl) ⟨by show _ ≤ 28 + 4 * (d + 1); omega, by show _ ≤ 64 * (28 + 4 * (d + 1)); omega⟩ ⟨Nat.le_refl _, Nat.le_refl _⟩ (fun H locs hw => ?_)
    refine lv_iload_n hx hb dX12_tellsAs_78 rfl (lv_at hl 3 rfl) ?_
    obtain ⟨r17, h18, hf⟩ := bnS hf
    refine calVi (k := 0) cx hw hl.1 (c_X12_sharesAs h18) q_1691 k_X12_sharesAs rfl rfl rfl dX12_tellsAs_79 rfl (Nat.le_of_ble_eq_true rfl) ⟨by show _ ≤ 28 + 4 * (d + 1); omega, by show _ ≤ 64 * (28 + 4 * (d + 1)); omega⟩ ⟨Nat.le_refl _, Nat.le_refl _⟩ (fun H locs hw => ?_)
    refine lv_ixor hx hb dX12_tellsAs_82 ?_
    have hf := Option.some.inj hf
    subst hf
    exact hR _ _ _ _ _ _ hw rfl ⟨rfl, rfl⟩ dX12_tellsAs_83
  · have hf := ifT hf hc
    refine lv_aload_n hx hb dX12_tellsAs_5 rfl (lv_at hl 0 rfl) ?_
    refine lv_bipush (v := 51) hx hb dX12_tellsAs_6 (by decide) ?_
    obtain ⟨r1, h2, hf⟩ := bnS hf
    refine calVv (k := 0) cx hw hl.1 (c_X12_starts h2) q_1683 k_X12_starts rfl rfl rfl dX12_tellsAs_8 rfl (Nat.le_of_ble_eq_true rfl) ⟨by show _ ≤ 28 + 4 * (d + 1); omega, by show _ ≤ 64 * (28 + 4 * (d + 1)); omega⟩ ⟨Nat.le_refl _, Nat.le_refl _⟩ (fun H locs hw => ?_)
    refine lv_aload_n hx hb dX12_tellsAs_11 rfl (lv_at hl 0 rfl) ?_
    refine lv_iconst (v := 2) hx hb dX12_tellsAs_12 (by decide) ?_
    refine lv_iload_n hx hb dX12_tellsAs_13 rfl (lv_at hl 2 rfl) ?_
    obtain ⟨r3, h4, hf⟩ := bnS hf
    refine calVi (k := 0) cx hw hl.1 (hF0 h4) q_1695 k_X12_tellsAs rfl rfl rfl dX12_tellsAs_14 rfl (Nat.le_of_ble_eq_true rfl) ⟨by show _ ≤ 28 + 4 * (d + 1); omega, by show _ ≤ 64 * (28 + 4 * (d + 1)); omega⟩ ⟨Nat.le_refl _, Nat.le_refl _⟩ (fun H locs hw => ?_)
    refine lv_istore_n (lv' := [(3, .int r3.1), (0, .ref (a 0)), (1, .int v1), (2, .int v2)]) hx hb dX12_tellsAs_17 rfl hl (by decide) rfl (fun ls hl => ?_)
    refine lv_aload_n hx hb dX12_tellsAs_18 rfl (lv_at hl 1 rfl) ?_
    refine mg_isParted cx hw dX12_tellsAs_19 ?_
    refine lv_if_eq (tgt := 29) hx hb dX12_tellsAs_22 (by decide) (fun hc => ?_) (fun hc => ?_)
    · have hf := ifT hf hc
      refine lv_iload_n hx hb dX12_tellsAs_29 rfl (lv_at hl 0 rfl) ?_
      refine lv_aload_n hx hb dX12_tellsAs_30 rfl (lv_at hl 1 rfl) ?_
      refine lv_iconst (v := 3) hx hb dX12_tellsAs_31 (by decide) ?_
      refine lv_aload_n hx hb dX12_tellsAs_32 rfl (lv_at hl 1 rfl) ?_
      refine lv_aload_n hx hb dX12_tellsAs_33 rfl (lv_at hl 1 rfl) ?_
      refine mg_own cx hw dX12_tellsAs_34 ?_
      refine lv_iconst (v := 3) hx hb dX12_tellsAs_37 (by decide) ?_
      obtain ⟨r5, h6, hf⟩ := bnS hf
      refine calVi (k := 0) cx hw hl.1 (c_X12_get h6) q_1304 k_X12_get rfl rfl rfl dX12_tellsAs_38 rfl (Nat.le_of_ble_eq_true rfl) ⟨by show _ ≤ 28 + 4 * (d + 1); omega, by show _ ≤ 64 * (28 + 4 * (d + 1)); omega⟩ ⟨Nat.le_refl _, Nat.le_refl _⟩ (fun H locs hw => ?_)
      obtain ⟨r7, h8, hf⟩ := bnS hf
      refine calVi (k := 0) cx hw hl.1 (c_X12_slantsAs h8) q_1687 k_X12_slantsAs rfl rfl rfl dX12_tellsAs_41 rfl (Nat.le_of_ble_eq_true rfl) ⟨by show _ ≤ 28 + 4 * (d + 1); omega, by show _ ≤ 64 * (28 + 4 * (d + 1)); omega⟩ ⟨Nat.le_refl _, Nat.le_refl _⟩ (fun H locs hw => ?_)
      refine lv_isub hx hb dX12_tellsAs_44 ?_
      have hf := Option.some.inj hf
      subst hf
      exact hR _ _ _ _ _ _ hw rfl ⟨rfl, rfl⟩ dX12_tellsAs_45
    · have hf := ifF hf hc
      refine lv_iconst (v := 0) hx hb dX12_tellsAs_25 (by decide) ?_
      refine lv_goto (tgt := 45) hx hb dX12_tellsAs_26 (by decide) ?_
      have hf := Option.some.inj hf
      subst hf
      exact hR _ _ _ _ _ _ hw rfl ⟨rfl, rfl⟩ dX12_tellsAs_45
theorem c_X12_tellsAs : ∀ {d : Nat} {x_s : Nat → Int32} {x_kept : Nat → Int32} {x_laid : Nat → Int32} {x_isKept : Int32} {x_pile : Nat → Int32} {x_tape : Nat → Int32} {x_taped : Int32} {x_letters : Nat → Int32} {x_at : Int32} {x_begun : Int32} {x_token : Int32} {x_value : Int32} {x_opened : Int32} {x_steps : Int32} {x_code0 : Nat → Int32} {x_read : Nat → Int32} {x_saved : Nat → Int32} {x_plan : Nat → Int32} {x_bestPlan : Nat → Int32} {x_most : Int32} {x_many : Int32} {x_few : Int32} {x_everRight : Int32} {x_lagThen : Nat → Int32} {x_shadedThen : Nat → Int32} {x_firstFit : Int32} {x_rows : Nat → Int32} {x_rowMany : Int32} {x_sorts : Nat → Int32} {x_sizes : Nat → Int32} {x_number : Nat → Int32} {x_holds : Nat → Int32} {x_heldOne : Nat → Int32} {x_trace : Nat → Int32} {x_traced : Int32} {x_own : Int32} {x_isParted : Int32} {v1 : Int32} {v2 : Int32} {res : Int32 × (Nat → Int32) × Int32 × Int32} (hf : X12_tellsAs n d x_s x_trace x_traced x_own x_isParted v1 v2 = some res), MC l E0 D t yX12_tellsAs cX12_tellsAs 4 (some .int) (28 + 4 * d) 0 0 [.ref (a 0), .int v1, .int v2] (mW a t x_s x_kept x_laid x_isKept x_pile x_tape x_taped x_letters x_at x_begun x_token x_value x_opened x_steps x_code0 x_read x_saved x_plan x_bestPlan x_most x_many x_few x_everRight x_lagThen x_shadedThen x_firstFit x_rows x_rowMany x_sorts x_sizes x_number x_holds x_heldOne x_trace x_traced x_own x_isParted) (Qi res.1 (mW a t x_s x_kept x_laid x_isKept x_pile x_tape x_taped x_letters x_at x_begun x_token x_value x_opened x_steps x_code0 x_read x_saved x_plan x_bestPlan x_most x_many x_few x_everRight x_lagThen x_shadedThen x_firstFit x_rows x_rowMany x_sorts x_sizes x_number x_holds x_heldOne res.2.1 res.2.2.1 x_own res.2.2.2)) := by
  intro d
  induction d with
  | zero => intros; rename_i hf; simp [X12_tellsAs] at hf
  | succ d ih => intros; rename_i hf; rw [X12_tellsAs] at hf; exact cb_X12_tellsAs (fun h => ih h) hf
theorem dX12_act_0 : decode cX12_act 0 = .ok (.aload_n 0, 1) := by decide +kernel
theorem dX12_act_1 : decode cX12_act 1 = .ok (.iconst 0, 1) := by decide +kernel
theorem dX12_act_2 : decode cX12_act 2 = .ok (.putfield 346, 3) := by decide +kernel
theorem dX12_act_5 : decode cX12_act 5 = .ok (.iload_n 1, 1) := by decide +kernel
theorem dX12_act_6 : decode cX12_act 6 = .ok (.invokestatic 331, 3) := by decide +kernel
theorem dX12_act_9 : decode cX12_act 9 = .ok (.ifCond .eq 20, 3) := by decide +kernel
theorem dX12_act_12 : decode cX12_act 12 = .ok (.iload_n 2, 1) := by decide +kernel
theorem dX12_act_13 : decode cX12_act 13 = .ok (.iconst 0, 1) := by decide +kernel
theorem dX12_act_14 : decode cX12_act 14 = .ok (.iconst 3, 1) := by decide +kernel
theorem dX12_act_15 : decode cX12_act 15 = .ok (.invokestatic 71, 3) := by decide +kernel
theorem dX12_act_18 : decode cX12_act 18 = .ok (.ifCond .eq 11, 3) := by decide +kernel
theorem dX12_act_21 : decode cX12_act 21 = .ok (.aload_n 0, 1) := by decide +kernel
theorem dX12_act_22 : decode cX12_act 22 = .ok (.iload_n 1, 1) := by decide +kernel
theorem dX12_act_23 : decode cX12_act 23 = .ok (.invokevirtual 343, 3) := by decide +kernel
theorem dX12_act_26 : decode cX12_act 26 = .ok (.ifCond .eq 5, 3) := by decide +kernel
theorem dX12_act_29 : decode cX12_act 29 = .ok (.iconst 0, 1) := by decide +kernel
theorem dX12_act_30 : decode cX12_act 30 = .ok (.ireturn, 1) := by decide +kernel
theorem dX12_act_31 : decode cX12_act 31 = .ok (.aload_n 0, 1) := by decide +kernel
theorem dX12_act_32 : decode cX12_act 32 = .ok (.aload_n 0, 1) := by decide +kernel
theorem dX12_act_33 : decode cX12_act 33 = .ok (.getfield 65, 3) := by decide +kernel
theorem dX12_act_36 : decode cX12_act 36 = .ok (.iload_n 1, 1) := by decide +kernel
theorem dX12_act_37 : decode cX12_act 37 = .ok (.iaload, 1) := by decide +kernel
theorem dX12_act_38 : decode cX12_act 38 = .ok (.putfield 355, 3) := by decide +kernel
theorem dX12_act_41 : decode cX12_act 41 = .ok (.aload_n 0, 1) := by decide +kernel
theorem dX12_act_42 : decode cX12_act 42 = .ok (.iconst 0, 1) := by decide +kernel
theorem dX12_act_43 : decode cX12_act 43 = .ok (.putfield 364, 3) := by decide +kernel
theorem dX12_act_46 : decode cX12_act 46 = .ok (.aload_n 0, 1) := by decide +kernel
theorem dX12_act_47 : decode cX12_act 47 = .ok (.aload_n 0, 1) := by decide +kernel
theorem dX12_act_48 : decode cX12_act 48 = .ok (.getfield 355, 3) := by decide +kernel
theorem dX12_act_51 : decode cX12_act 51 = .ok (.iconst 0, 1) := by decide +kernel
theorem dX12_act_52 : decode cX12_act 52 = .ok (.invokevirtual 79, 3) := by decide +kernel
theorem dX12_act_55 : decode cX12_act 55 = .ok (.istore 4, 2) := by decide +kernel
theorem dX12_act_57 : decode cX12_act 57 = .ok (.iload_n 2, 1) := by decide +kernel
theorem dX12_act_58 : decode cX12_act 58 = .ok (.ifCond .ne 13, 3) := by decide +kernel
theorem dX12_act_61 : decode cX12_act 61 = .ok (.aload_n 0, 1) := by decide +kernel
theorem dX12_act_62 : decode cX12_act 62 = .ok (.iload 4, 2) := by decide +kernel
theorem dX12_act_64 : decode cX12_act 64 = .ok (.iload_n 3, 1) := by decide +kernel
theorem dX12_act_65 : decode cX12_act 65 = .ok (.invokevirtual 352, 3) := by decide +kernel
theorem dX12_act_68 : decode cX12_act 68 = .ok (.goto 40, 3) := by decide +kernel
theorem dX12_act_71 : decode cX12_act 71 = .ok (.iload_n 2, 1) := by decide +kernel
theorem dX12_act_72 : decode cX12_act 72 = .ok (.iconst 1, 1) := by decide +kernel
theorem dX12_act_73 : decode cX12_act 73 = .ok (.if_icmp .ne 13, 3) := by decide +kernel
theorem dX12_act_76 : decode cX12_act 76 = .ok (.aload_n 0, 1) := by decide +kernel
theorem dX12_act_77 : decode cX12_act 77 = .ok (.iload 4, 2) := by decide +kernel
theorem dX12_act_79 : decode cX12_act 79 = .ok (.iload_n 3, 1) := by decide +kernel
theorem dX12_act_80 : decode cX12_act 80 = .ok (.invokevirtual 358, 3) := by decide +kernel
theorem dX12_act_83 : decode cX12_act 83 = .ok (.goto 25, 3) := by decide +kernel
theorem dX12_act_86 : decode cX12_act 86 = .ok (.iload_n 2, 1) := by decide +kernel
theorem dX12_act_87 : decode cX12_act 87 = .ok (.iconst 2, 1) := by decide +kernel
theorem dX12_act_88 : decode cX12_act 88 = .ok (.if_icmp .ne 13, 3) := by decide +kernel
theorem dX12_act_91 : decode cX12_act 91 = .ok (.aload_n 0, 1) := by decide +kernel
theorem dX12_act_92 : decode cX12_act 92 = .ok (.iload 4, 2) := by decide +kernel
theorem dX12_act_94 : decode cX12_act 94 = .ok (.iload_n 3, 1) := by decide +kernel
theorem dX12_act_95 : decode cX12_act 95 = .ok (.invokevirtual 361, 3) := by decide +kernel
theorem dX12_act_98 : decode cX12_act 98 = .ok (.goto 10, 3) := by decide +kernel
theorem dX12_act_101 : decode cX12_act 101 = .ok (.aload_n 0, 1) := by decide +kernel
theorem dX12_act_102 : decode cX12_act 102 = .ok (.iload 4, 2) := by decide +kernel
theorem dX12_act_104 : decode cX12_act 104 = .ok (.iload_n 3, 1) := by decide +kernel
theorem dX12_act_105 : decode cX12_act 105 = .ok (.invokevirtual 368, 3) := by decide +kernel
theorem dX12_act_108 : decode cX12_act 108 = .ok (.istore 5, 2) := by decide +kernel
theorem dX12_act_110 : decode cX12_act 110 = .ok (.aload_n 0, 1) := by decide +kernel
theorem dX12_act_111 : decode cX12_act 111 = .ok (.getfield 364, 3) := by decide +kernel
theorem dX12_act_114 : decode cX12_act 114 = .ok (.ifCond .eq 8, 3) := by decide +kernel
theorem dX12_act_117 : decode cX12_act 117 = .ok (.bipush (-15), 2) := by decide +kernel
theorem dX12_act_119 : decode cX12_act 119 = .ok (.goto 5, 3) := by decide +kernel
theorem dX12_act_122 : decode cX12_act 122 = .ok (.iload 5, 2) := by decide +kernel
theorem dX12_act_124 : decode cX12_act 124 = .ok (.ireturn, 1) := by decide +kernel
theorem k_X12_act : MV yX12_act cX12_act 6 (some .int) 3 := ⟨q_1676, q_1677, q_14, q_1678, ⟨by decide, by decide, by decide +kernel⟩⟩
theorem c_X12_act {res : Int32 × (Nat → Int32) × Int32 × Int32 × Int32} (hf : X12_act n x_s x_holds x_heldOne x_trace x_own x_isParted v1 v2 v3 = some res) : MC l E0 D t yX12_act cX12_act 6 (some .int) 41 0 0 [.ref (a 0), .int v1, .int v2, .int v3] (mW a t x_s x_kept x_laid x_isKept x_pile x_tape x_taped x_letters x_at x_begun x_token x_value x_opened x_steps x_code0 x_read x_saved x_plan x_bestPlan x_most x_many x_few x_everRight x_lagThen x_shadedThen x_firstFit x_rows x_rowMany x_sorts x_sizes x_number x_holds x_heldOne x_trace x_traced x_own x_isParted) (Qi res.1 (mW a t x_s x_kept x_laid x_isKept x_pile x_tape x_taped x_letters x_at x_begun x_token x_value x_opened x_steps x_code0 x_read x_saved x_plan x_bestPlan x_most x_many x_few x_everRight x_lagThen x_shadedThen x_firstFit x_rows x_rowMany x_sorts x_sizes x_number x_holds x_heldOne res.2.1 res.2.2.1 res.2.2.2.1 res.2.2.2.2)) := by
  unfold X12_act at hf
  refine MC.ofI pn_X12 (Nat.le_of_ble_eq_true rfl) ?_
  intro p e s m args below meth c A Q ls cx hR hw hl
  have hx := cx.1
  have hb := cx.2.1
  have hl : lv_has ls 6 [(0, .ref (a 0)), (1, .int v1), (2, .int v2), (3, .int v3)] := hl
  refine lv_aload_n hx hb dX12_act_0 rfl (lv_at hl 0 rfl) ?_
  refine lv_iconst (v := 0) hx hb dX12_act_1 (by decide) ?_
  refine mp_traced cx hw dX12_act_2 (fun H locs hw => ?_)
  refine lv_iload_n hx hb dX12_act_5 rfl (lv_at hl 1 rfl) ?_
  refine calSi cx hw hl.1 (c_X12_isSheet rfl) q_1633 k_X12_isSheet rfl dX12_act_6 rfl (Nat.le_of_ble_eq_true rfl) ⟨Nat.le_of_ble_eq_true rfl, Nat.le_of_ble_eq_true rfl⟩ ⟨Nat.le_refl _, Nat.le_refl _⟩ (fun H locs hw => ?_)
  refine lv_if_eq (tgt := 29) hx hb dX12_act_9 (by decide) (fun hc => ?_) (fun hc => ?_)
  · have hf := ifT hf hc
    refine lv_iconst (v := 0) hx hb dX12_act_29 (by decide) ?_
    have hf := Option.some.inj hf
    subst hf
    exact hR _ _ _ _ _ _ hw rfl ⟨rfl, rfl⟩ dX12_act_30
  · have hf := ifF hf hc
    refine lv_iload_n hx hb dX12_act_12 rfl (lv_at hl 2 rfl) ?_
    refine lv_iconst (v := 0) hx hb dX12_act_13 (by decide) ?_
    refine lv_iconst (v := 3) hx hb dX12_act_14 (by decide) ?_
    refine calSi cx hw hl.1 (c_X12_in1 rfl) q_1214 k_X12_in1 rfl dX12_act_15 rfl (Nat.le_of_ble_eq_true rfl) ⟨Nat.le_of_ble_eq_true rfl, Nat.le_of_ble_eq_true rfl⟩ ⟨Nat.le_refl _, Nat.le_refl _⟩ (fun H locs hw => ?_)
    refine lv_if_eq (tgt := 29) hx hb dX12_act_18 (by decide) (fun hc => ?_) (fun hc => ?_)
    · have hf := ifT hf hc
      refine lv_iconst (v := 0) hx hb dX12_act_29 (by decide) ?_
      have hf := Option.some.inj hf
      subst hf
      exact hR _ _ _ _ _ _ hw rfl ⟨rfl, rfl⟩ dX12_act_30
    · have hf := ifF hf hc
      refine lv_aload_n hx hb dX12_act_21 rfl (lv_at hl 0 rfl) ?_
      refine lv_iload_n hx hb dX12_act_22 rfl (lv_at hl 1 rfl) ?_
      obtain ⟨r1, h2, hf⟩ := bnS hf
      refine calVi (k := 0) cx hw hl.1 (c_X12_heldOn h2) q_1671 k_X12_heldOn rfl rfl rfl dX12_act_23 rfl (Nat.le_of_ble_eq_true rfl) ⟨Nat.le_of_ble_eq_true rfl, Nat.le_of_ble_eq_true rfl⟩ ⟨Nat.le_refl _, Nat.le_refl _⟩ (fun H locs hw => ?_)
      refine lv_if_eq (tgt := 31) hx hb dX12_act_26 (by decide) (fun hc => ?_) (fun hc => ?_)
      · have hf := ifT hf hc
        refine lv_aload_n hx hb dX12_act_31 rfl (lv_at hl 0 rfl) ?_
        refine lv_aload_n hx hb dX12_act_32 rfl (lv_at hl 0 rfl) ?_
        refine mg_heldOne cx hw dX12_act_33 ?_
        refine lv_iload_n hx hb dX12_act_36 rfl (lv_at hl 1 rfl) ?_
        obtain ⟨h3, hf⟩ := ckS hf
        refine ml_heldOne (j := v1.toNatClampNeg) cx hw (ib_in h3) rfl dX12_act_37 ?_
        refine mp_own cx hw dX12_act_38 (fun H locs hw => ?_)
        refine lv_aload_n hx hb dX12_act_41 rfl (lv_at hl 0 rfl) ?_
        refine lv_iconst (v := 0) hx hb dX12_act_42 (by decide) ?_
        refine mp_isParted cx hw (by decide) dX12_act_43 (fun H locs hw => ?_)
        refine lv_aload_n hx hb dX12_act_46 rfl (lv_at hl 0 rfl) ?_
        refine lv_aload_n hx hb dX12_act_47 rfl (lv_at hl 0 rfl) ?_
        refine mg_own cx hw dX12_act_48 ?_
        refine lv_iconst (v := 0) hx hb dX12_act_51 (by decide) ?_
        obtain ⟨r4, h5, hf⟩ := bnS hf
        refine calVi (k := 0) cx hw hl.1 (c_X12_get h5) q_1304 k_X12_get rfl rfl rfl dX12_act_52 rfl (Nat.le_of_ble_eq_true rfl) ⟨Nat.le_of_ble_eq_true rfl, Nat.le_of_ble_eq_true rfl⟩ ⟨Nat.le_refl _, Nat.le_refl _⟩ (fun H locs hw => ?_)
        refine lv_istore (lv' := [(4, .int r4), (0, .ref (a 0)), (1, .int v1), (2, .int v2), (3, .int v3)]) hx hb dX12_act_55 hl (by decide) rfl (fun ls hl => ?_)
        refine lv_iload_n hx hb dX12_act_57 rfl (lv_at hl 3 rfl) ?_
        obtain ⟨j14, hj14, hf⟩ := bnS hf
        have wj14 : ∀ (H : Heap) (locs : List Loc) (ls : Array Slot), Wd D A s (mW a t x_s x_kept x_laid x_isKept x_pile x_tape x_taped x_letters x_at x_begun x_token x_value x_opened x_steps x_code0 x_read x_saved x_plan x_bestPlan x_most x_many x_few x_everRight x_lagThen x_shadedThen x_firstFit x_rows x_rowMany x_sorts x_sizes x_number x_holds x_heldOne j14.2.1 j14.2.2.1 (x_heldOne v1.toNatClampNeg) j14.2.2.2) H locs → lv_has ls 6 [(0, .ref (a 0)), (1, .int v1), (2, .int v2), (3, .int v3), (4, .int r4)] → W p l e (rmz 41 0 0) s m args below meth c H locs 0 0 Q (F0 m 108 ls [.int j14.1]) := by
          intro H locs ls hw hl
          refine lv_istore (lv' := [(5, .int j14.1), (0, .ref (a 0)), (1, .int v1), (2, .int v2), (3, .int v3), (4, .int r4)]) hx hb dX12_act_108 hl (by decide) rfl (fun ls hl => ?_)
          refine lv_aload_n hx hb dX12_act_110 rfl (lv_at hl 1 rfl) ?_
          refine mg_isParted cx hw dX12_act_111 ?_
          refine lv_if_eq (tgt := 122) hx hb dX12_act_114 (by decide) (fun hc => ?_) (fun hc => ?_)
          · have hf := ifT hf hc
            refine lv_iload hx hb dX12_act_122 (lv_at hl 0 rfl) ?_
            have hf := Option.some.inj hf
            subst hf
            exact hR _ _ _ _ _ _ hw rfl ⟨rfl, rfl⟩ dX12_act_124
          · have hf := ifF hf hc
            refine lv_bipush (v := (-15)) hx hb dX12_act_117 (by decide) ?_
            refine lv_goto (tgt := 124) hx hb dX12_act_119 (by decide) ?_
            have hf := Option.some.inj hf
            subst hf
            exact hR _ _ _ _ _ _ hw rfl ⟨rfl, rfl⟩ dX12_act_124
        clear hf
        have hf := hj14
        clear hj14
        refine lv_if_ne (tgt := 71) hx hb dX12_act_58 (by decide) (fun hc => ?_) (fun hc => ?_)
        · have hf := ifF hf hc
          refine lv_iload_n hx hb dX12_act_71 rfl (lv_at hl 3 rfl) ?_
          refine lv_iconst (v := 1) hx hb dX12_act_72 (by decide) ?_
          refine lv_icmp_ne (tgt := 86) hx hb dX12_act_73 (by decide) (fun hc => ?_) (fun hc => ?_)
          · have hf := ifF hf hc
            refine lv_iload_n hx hb dX12_act_86 rfl (lv_at hl 3 rfl) ?_
            refine lv_iconst (v := 2) hx hb dX12_act_87 (by decide) ?_
            refine lv_icmp_ne (tgt := 101) hx hb dX12_act_88 (by decide) (fun hc => ?_) (fun hc => ?_)
            · have hf := ifF hf hc
              refine lv_aload_n hx hb dX12_act_101 rfl (lv_at hl 1 rfl) ?_
              refine lv_iload hx hb dX12_act_102 (lv_at hl 0 rfl) ?_
              refine lv_iload_n hx hb dX12_act_104 rfl (lv_at hl 4 rfl) ?_
              obtain ⟨r12, h13, hf⟩ := bnS hf
              refine calVi (k := 0) cx hw hl.1 (c_X12_tellsAs h13) q_1695 k_X12_tellsAs rfl rfl rfl dX12_act_105 rfl (Nat.le_of_ble_eq_true rfl) ⟨Nat.le_of_ble_eq_true rfl, Nat.le_of_ble_eq_true rfl⟩ ⟨Nat.le_refl _, Nat.le_refl _⟩ (fun H locs hw => ?_)
              have hf := Option.some.inj hf
              subst hf
              exact wj14 _ _ _ hw (lv_sub hl [1, 2, 3, 4, 0] rfl)
            · have hf := ifT hf hc
              refine lv_aload_n hx hb dX12_act_91 rfl (lv_at hl 1 rfl) ?_
              refine lv_iload hx hb dX12_act_92 (lv_at hl 0 rfl) ?_
              refine lv_iload_n hx hb dX12_act_94 rfl (lv_at hl 4 rfl) ?_
              obtain ⟨r10, h11, hf⟩ := bnS hf
              refine calVi (k := 0) cx hw hl.1 (c_X12_sharesAs h11) q_1691 k_X12_sharesAs rfl rfl rfl dX12_act_95 rfl (Nat.le_of_ble_eq_true rfl) ⟨Nat.le_of_ble_eq_true rfl, Nat.le_of_ble_eq_true rfl⟩ ⟨Nat.le_refl _, Nat.le_refl _⟩ (fun H locs hw => ?_)
              refine lv_goto (tgt := 108) hx hb dX12_act_98 (by decide) ?_
              have hf := Option.some.inj hf
              subst hf
              exact wj14 _ _ _ hw (lv_sub hl [1, 2, 3, 4, 0] rfl)
          · have hf := ifT hf hc
            refine lv_aload_n hx hb dX12_act_76 rfl (lv_at hl 1 rfl) ?_
            refine lv_iload hx hb dX12_act_77 (lv_at hl 0 rfl) ?_
            refine lv_iload_n hx hb dX12_act_79 rfl (lv_at hl 4 rfl) ?_
            obtain ⟨r8, h9, hf⟩ := bnS hf
            refine calVi (k := 0) cx hw hl.1 (c_X12_slantsAs h9) q_1687 k_X12_slantsAs rfl rfl rfl dX12_act_80 rfl (Nat.le_of_ble_eq_true rfl) ⟨Nat.le_of_ble_eq_true rfl, Nat.le_of_ble_eq_true rfl⟩ ⟨Nat.le_refl _, Nat.le_refl _⟩ (fun H locs hw => ?_)
            refine lv_goto (tgt := 108) hx hb dX12_act_83 (by decide) ?_
            have hf := Option.some.inj hf
            subst hf
            exact wj14 _ _ _ hw (lv_sub hl [1, 2, 3, 4, 0] rfl)
        · have hf := ifT hf hc
          refine lv_aload_n hx hb dX12_act_61 rfl (lv_at hl 1 rfl) ?_
          refine lv_iload hx hb dX12_act_62 (lv_at hl 0 rfl) ?_
          refine lv_iload_n hx hb dX12_act_64 rfl (lv_at hl 4 rfl) ?_
          obtain ⟨r6, h7, hf⟩ := bnS hf
          refine calVi (k := 0) cx hw hl.1 (c_X12_pointsAs h7) q_1679 k_X12_pointsAs rfl rfl rfl dX12_act_65 rfl (Nat.le_of_ble_eq_true rfl) ⟨Nat.le_of_ble_eq_true rfl, Nat.le_of_ble_eq_true rfl⟩ ⟨Nat.le_refl _, Nat.le_refl _⟩ (fun H locs hw => ?_)
          refine lv_goto (tgt := 108) hx hb dX12_act_68 (by decide) ?_
          have hf := Option.some.inj hf
          subst hf
          exact wj14 _ _ _ hw (lv_sub hl [1, 2, 3, 4, 0] rfl)
      · have hf := ifF hf hc
        refine lv_iconst (v := 0) hx hb dX12_act_29 (by decide) ?_
        have hf := Option.some.inj hf
        subst hf
        exact hR _ _ _ _ _ _ hw rfl ⟨rfl, rfl⟩ dX12_act_30
theorem dX12_trace_0 : decode cX12_trace 0 = .ok (.iload_n 1, 1) := by decide +kernel
theorem dX12_trace_1 : decode cX12_trace 1 = .ok (.iconst 0, 1) := by decide +kernel
theorem dX12_trace_2 : decode cX12_trace 2 = .ok (.aload_n 0, 1) := by decide +kernel
theorem dX12_trace_3 : decode cX12_trace 3 = .ok (.getfield 346, 3) := by decide +kernel
theorem dX12_trace_6 : decode cX12_trace 6 = .ok (.iconst 1, 1) := by decide +kernel
theorem dX12_trace_7 : decode cX12_trace 7 = .ok (.isub, 1) := by decide +kernel
theorem dX12_trace_8 : decode cX12_trace 8 = .ok (.invokestatic 71, 3) := by decide +kernel
theorem dX12_trace_11 : decode cX12_trace 11 = .ok (.ifCond .eq 12, 3) := by decide +kernel
theorem dX12_trace_14 : decode cX12_trace 14 = .ok (.aload_n 0, 1) := by decide +kernel
theorem dX12_trace_15 : decode cX12_trace 15 = .ok (.getfield 68, 3) := by decide +kernel
theorem dX12_trace_18 : decode cX12_trace 18 = .ok (.iload_n 1, 1) := by decide +kernel
theorem dX12_trace_19 : decode cX12_trace 19 = .ok (.iaload, 1) := by decide +kernel
theorem dX12_trace_20 : decode cX12_trace 20 = .ok (.goto 5, 3) := by decide +kernel
theorem dX12_trace_23 : decode cX12_trace 23 = .ok (.bipush (-3), 2) := by decide +kernel
theorem dX12_trace_25 : decode cX12_trace 25 = .ok (.ireturn, 1) := by decide +kernel
theorem k_X12_trace : MV yX12_trace cX12_trace 2 (some .int) 1 := ⟨q_1700, q_1701, q_14, q_1702, ⟨by decide, by decide, by decide +kernel⟩⟩
theorem c_X12_trace {res : Int32} (hf : X12_trace x_trace x_traced v1 = some res) : MC l E0 D t yX12_trace cX12_trace 2 (some .int) 2 0 0 [.ref (a 0), .int v1] (mW a t x_s x_kept x_laid x_isKept x_pile x_tape x_taped x_letters x_at x_begun x_token x_value x_opened x_steps x_code0 x_read x_saved x_plan x_bestPlan x_most x_many x_few x_everRight x_lagThen x_shadedThen x_firstFit x_rows x_rowMany x_sorts x_sizes x_number x_holds x_heldOne x_trace x_traced x_own x_isParted) (Qi res (mW a t x_s x_kept x_laid x_isKept x_pile x_tape x_taped x_letters x_at x_begun x_token x_value x_opened x_steps x_code0 x_read x_saved x_plan x_bestPlan x_most x_many x_few x_everRight x_lagThen x_shadedThen x_firstFit x_rows x_rowMany x_sorts x_sizes x_number x_holds x_heldOne x_trace x_traced x_own x_isParted)) := by
  unfold X12_trace at hf
  refine MC.ofI pn_X12 (Nat.le_of_ble_eq_true rfl) ?_
  intro p e s m args below meth c A Q ls cx hR hw hl
  have hx := cx.1
  have hb := cx.2.1
  have hl : lv_has ls 2 [(0, .ref (a 0)), (1, .int v1)] := hl
  refine lv_iload_n hx hb dX12_trace_0 rfl (lv_at hl 1 rfl) ?_
  refine lv_iconst (v := 0) hx hb dX12_trace_1 (by decide) ?_
  refine lv_aload_n hx hb dX12_trace_2 rfl (lv_at hl 0 rfl) ?_
  refine mg_traced cx hw dX12_trace_3 ?_
  refine lv_iconst (v := 1) hx hb dX12_trace_6 (by decide) ?_
  refine lv_isub hx hb dX12_trace_7 ?_
  refine calSi cx hw hl.1 (c_X12_in1 rfl) q_1214 k_X12_in1 rfl dX12_trace_8 rfl (Nat.le_of_ble_eq_true rfl) ⟨Nat.le_of_ble_eq_true rfl, Nat.le_of_ble_eq_true rfl⟩ ⟨Nat.le_refl _, Nat.le_refl _⟩ (fun H locs hw => ?_)
  refine lv_if_eq (tgt := 23) hx hb dX12_trace_11 (by decide) (fun hc => ?_) (fun hc => ?_)
  · have hf := ifT hf hc
    refine lv_bipush (v := (-3)) hx hb dX12_trace_23 (by decide) ?_
    have hf := Option.some.inj hf
    subst hf
    exact hR _ _ _ _ _ _ hw rfl ⟨rfl, rfl⟩ dX12_trace_25
  · have hf := ifF hf hc
    refine lv_aload_n hx hb dX12_trace_14 rfl (lv_at hl 0 rfl) ?_
    refine mg_trace cx hw dX12_trace_15 ?_
    refine lv_iload_n hx hb dX12_trace_18 rfl (lv_at hl 1 rfl) ?_
    obtain ⟨h1, hf⟩ := ckS hf
    refine ml_trace (j := v1.toNatClampNeg) cx hw (ib_in h1) rfl dX12_trace_19 ?_
    refine lv_goto (tgt := 25) hx hb dX12_trace_20 (by decide) ?_
    have hf := Option.some.inj hf
    subst hf
    exact hR _ _ _ _ _ _ hw rfl ⟨rfl, rfl⟩ dX12_trace_25
theorem dX12_ones_0 : decode cX12_ones 0 = .ok (.iconst 0, 1) := by decide +kernel
theorem dX12_ones_1 : decode cX12_ones 1 = .ok (.istore_n 1, 1) := by decide +kernel
theorem dX12_ones_2 : decode cX12_ones 2 = .ok (.iload_n 0, 1) := by decide +kernel
theorem dX12_ones_3 : decode cX12_ones 3 = .ok (.istore_n 2, 1) := by decide +kernel
theorem dX12_ones_4 : decode cX12_ones 4 = .ok (.iload_n 2, 1) := by decide +kernel
theorem dX12_ones_5 : decode cX12_ones 5 = .ok (.ifCond .eq 15, 3) := by decide +kernel
theorem dX12_ones_8 : decode cX12_ones 8 = .ok (.iinc 1 1, 3) := by decide +kernel
theorem dX12_ones_11 : decode cX12_ones 11 = .ok (.iload_n 2, 1) := by decide +kernel
theorem dX12_ones_12 : decode cX12_ones 12 = .ok (.iload_n 2, 1) := by decide +kernel
theorem dX12_ones_13 : decode cX12_ones 13 = .ok (.iconst 1, 1) := by decide +kernel
theorem dX12_ones_14 : decode cX12_ones 14 = .ok (.isub, 1) := by decide +kernel
theorem dX12_ones_15 : decode cX12_ones 15 = .ok (.iand, 1) := by decide +kernel
theorem dX12_ones_16 : decode cX12_ones 16 = .ok (.istore_n 2, 1) := by decide +kernel
theorem dX12_ones_17 : decode cX12_ones 17 = .ok (.goto (-13), 3) := by decide +kernel
theorem dX12_ones_20 : decode cX12_ones 20 = .ok (.iload_n 1, 1) := by decide +kernel
theorem dX12_ones_21 : decode cX12_ones 21 = .ok (.ireturn, 1) := by decide +kernel
theorem k_X12_ones : MS yX12_ones cX12_ones 3 (some .int) 1 := ⟨q_1708, q_14, q_1709, ⟨by decide, by decide, by decide +kernel⟩⟩
theorem c_X12_ones {res : Int32} (hf : X12_ones n v0 = some res) : MC l E0 D t yX12_ones cX12_ones 3 (some .int) 1 0 0 [.int v0] (mW a t x_s x_kept x_laid x_isKept x_pile x_tape x_taped x_letters x_at x_begun x_token x_value x_opened x_steps x_code0 x_read x_saved x_plan x_bestPlan x_most x_many x_few x_everRight x_lagThen x_shadedThen x_firstFit x_rows x_rowMany x_sorts x_sizes x_number x_holds x_heldOne x_trace x_traced x_own x_isParted) (Qi res (mW a t x_s x_kept x_laid x_isKept x_pile x_tape x_taped x_letters x_at x_begun x_token x_value x_opened x_steps x_code0 x_read x_saved x_plan x_bestPlan x_most x_many x_few x_everRight x_lagThen x_shadedThen x_firstFit x_rows x_rowMany x_sorts x_sizes x_number x_holds x_heldOne x_trace x_traced x_own x_isParted)) := by
  unfold X12_ones at hf
  refine MC.ofI pn_X12 (Nat.le_of_ble_eq_true rfl) ?_
  intro p e s m args below meth c A Q ls cx hR hw hl
  have hx := cx.1
  have hb := cx.2.1
  have hl : lv_has ls 3 [(0, .int v0)] := hl
  refine lv_iconst (v := 0) hx hb dX12_ones_0 (by decide) ?_
  refine lv_istore_n (lv' := [(1, .int (0 : Int32)), (0, .int v0)]) hx hb dX12_ones_1 rfl hl (by decide) rfl (fun ls hl => ?_)
  refine lv_iload_n hx hb dX12_ones_2 rfl (lv_at hl 1 rfl) ?_
  refine lv_istore_n (lv' := [(2, .int v0), (1, .int (0 : Int32)), (0, .int v0)]) hx hb dX12_ones_3 rfl hl (by decide) rfl (fun ls hl => ?_)
  obtain ⟨o1, ho1, hf⟩ := bnS hf
  have wL1 : ∀ (k : Nat) {v0 : Int32} {v1 : Int32} {v2 : Int32} {H : Heap} {locs : List Loc} {ls : Array Slot} {o : Int32 × Int32}, X12_ones_L1 n k v1 v2 = some o → Wd D A s (mW a t x_s x_kept x_laid x_isKept x_pile x_tape x_taped x_letters x_at x_begun x_token x_value x_opened x_steps x_code0 x_read x_saved x_plan x_bestPlan x_most x_many x_few x_everRight x_lagThen x_shadedThen x_firstFit x_rows x_rowMany x_sorts x_sizes x_number x_holds x_heldOne x_trace x_traced x_own x_isParted) H locs → lv_has ls 3 [(0, .int v0), (1, .int v1), (2, .int v2)] → (∀ (H : Heap) (locs : List Loc) (ls : Array Slot), Wd D A s (mW a t x_s x_kept x_laid x_isKept x_pile x_tape x_taped x_letters x_at x_begun x_token x_value x_opened x_steps x_code0 x_read x_saved x_plan x_bestPlan x_most x_many x_few x_everRight x_lagThen x_shadedThen x_firstFit x_rows x_rowMany x_sorts x_sizes x_number x_holds x_heldOne x_trace x_traced x_own x_isParted) H locs → lv_has ls 3 [(0, .int v0), (1, .int o.1), (2, .int o.2)] → W p l e (rmz 1 0 0) s m args below meth c H locs 0 0 Q (F0 m 20 ls [])) → W p l e (rmz 1 0 0) s m args below meth c H locs 0 0 Q (F0 m 4 ls []) := by
    clear hf ho1 hw hl
    intro k
    induction k with
    | zero => intro v0 v1 v2 H locs ls o hf hw hl kx; simp [X12_ones_L1] at hf
    | succ k ih =>
      intro v0 v1 v2 H locs ls o hf hw hl kx
      rw [X12_ones_L1] at hf
      refine lv_iload_n hx hb dX12_ones_4 rfl (lv_at hl 2 rfl) ?_
      refine lv_if_eq (tgt := 20) hx hb dX12_ones_5 (by decide) (fun hc => ?_) (fun hc => ?_)
      · have hf := ifT hf hc
        have hf := Option.some.inj hf
        subst hf
        exact kx _ _ _ hw (lv_sub hl [0, 1, 2] rfl)
      · have hf := ifF hf hc
        refine lv_iinc (v := (v1 + (1 : Int32))) (lv' := [(1, .int (v1 + (1 : Int32))), (0, .int v0), (2, .int v2)]) hx hb dX12_ones_8 hl (k := 1) rfl rfl (by decide) rfl (fun ls hl => ?_)
        refine lv_iload_n hx hb dX12_ones_11 rfl (lv_at hl 2 rfl) ?_
        refine lv_iload_n hx hb dX12_ones_12 rfl (lv_at hl 2 rfl) ?_
        refine lv_iconst (v := 1) hx hb dX12_ones_13 (by decide) ?_
        refine lv_isub hx hb dX12_ones_14 ?_
        refine lv_iand hx hb dX12_ones_15 ?_
        refine lv_istore_n (lv' := [(2, .int (v2 &&& (v2 - (1 : Int32)))), (1, .int (v1 + (1 : Int32))), (0, .int v0)]) hx hb dX12_ones_16 rfl hl (by decide) rfl (fun ls hl => ?_)
        refine lv_goto (tgt := 4) hx hb dX12_ones_17 (by decide) ?_
        exact ih hf hw (lv_sub hl [2, 1, 0] rfl) kx
  refine wL1 n ho1 hw (lv_sub hl [2, 1, 0] rfl) (fun H locs ls hw hl => ?_)
  clear wL1 ho1
  refine lv_iload_n hx hb dX12_ones_20 rfl (lv_at hl 1 rfl) ?_
  have hf := Option.some.inj hf
  subst hf
  exact hR _ _ _ _ _ _ hw rfl ⟨rfl, rfl⟩ dX12_ones_21
theorem dX12_many_0 : decode cX12_many 0 = .ok (.iload_n 1, 1) := by decide +kernel
theorem dX12_many_1 : decode cX12_many 1 = .ok (.tableswitch 89 0 6 #[43, 50, 57, 66, 74, 79, 84], 43) := by decide +kernel
theorem dX12_many_44 : decode cX12_many 44 = .ok (.aload_n 0, 1) := by decide +kernel
theorem dX12_many_45 : decode cX12_many 45 = .ok (.getfield 9, 3) := by decide +kernel
theorem dX12_many_48 : decode cX12_many 48 = .ok (.iconst 4, 1) := by decide +kernel
theorem dX12_many_49 : decode cX12_many 49 = .ok (.iaload, 1) := by decide +kernel
theorem dX12_many_50 : decode cX12_many 50 = .ok (.ireturn, 1) := by decide +kernel
theorem dX12_many_51 : decode cX12_many 51 = .ok (.aload_n 0, 1) := by decide +kernel
theorem dX12_many_52 : decode cX12_many 52 = .ok (.getfield 9, 3) := by decide +kernel
theorem dX12_many_55 : decode cX12_many 55 = .ok (.iconst 5, 1) := by decide +kernel
theorem dX12_many_56 : decode cX12_many 56 = .ok (.iaload, 1) := by decide +kernel
theorem dX12_many_57 : decode cX12_many 57 = .ok (.ireturn, 1) := by decide +kernel
theorem dX12_many_58 : decode cX12_many 58 = .ok (.aload_n 0, 1) := by decide +kernel
theorem dX12_many_59 : decode cX12_many 59 = .ok (.iconst 4, 1) := by decide +kernel
theorem dX12_many_60 : decode cX12_many 60 = .ok (.invokevirtual 240, 3) := by decide +kernel
theorem dX12_many_63 : decode cX12_many 63 = .ok (.invokestatic 371, 3) := by decide +kernel
theorem dX12_many_66 : decode cX12_many 66 = .ok (.ireturn, 1) := by decide +kernel
theorem dX12_many_67 : decode cX12_many 67 = .ok (.aload_n 0, 1) := by decide +kernel
theorem dX12_many_68 : decode cX12_many 68 = .ok (.getfield 9, 3) := by decide +kernel
theorem dX12_many_71 : decode cX12_many 71 = .ok (.bipush 6, 2) := by decide +kernel
theorem dX12_many_73 : decode cX12_many 73 = .ok (.iaload, 1) := by decide +kernel
theorem dX12_many_74 : decode cX12_many 74 = .ok (.ireturn, 1) := by decide +kernel
theorem dX12_many_75 : decode cX12_many 75 = .ok (.aload_n 0, 1) := by decide +kernel
theorem dX12_many_76 : decode cX12_many 76 = .ok (.getfield 322, 3) := by decide +kernel
theorem dX12_many_79 : decode cX12_many 79 = .ok (.ireturn, 1) := by decide +kernel
theorem dX12_many_80 : decode cX12_many 80 = .ok (.aload_n 0, 1) := by decide +kernel
theorem dX12_many_81 : decode cX12_many 81 = .ok (.getfield 128, 3) := by decide +kernel
theorem dX12_many_84 : decode cX12_many 84 = .ok (.ireturn, 1) := by decide +kernel
theorem dX12_many_85 : decode cX12_many 85 = .ok (.aload_n 0, 1) := by decide +kernel
theorem dX12_many_86 : decode cX12_many 86 = .ok (.getfield 346, 3) := by decide +kernel
theorem dX12_many_89 : decode cX12_many 89 = .ok (.ireturn, 1) := by decide +kernel
theorem dX12_many_90 : decode cX12_many 90 = .ok (.iconst (-1), 1) := by decide +kernel
theorem dX12_many_91 : decode cX12_many 91 = .ok (.ireturn, 1) := by decide +kernel
theorem k_X12_many : MV yX12_many cX12_many 2 (some .int) 1 := ⟨q_1704, q_1705, q_14, q_1706, ⟨by decide, by decide, by decide +kernel⟩⟩
theorem c_X12_many {res : Int32} (hf : X12_many n x_s x_taped x_rowMany x_traced v1 = some res) : MC l E0 D t yX12_many cX12_many 2 (some .int) 3 0 0 [.ref (a 0), .int v1] (mW a t x_s x_kept x_laid x_isKept x_pile x_tape x_taped x_letters x_at x_begun x_token x_value x_opened x_steps x_code0 x_read x_saved x_plan x_bestPlan x_most x_many x_few x_everRight x_lagThen x_shadedThen x_firstFit x_rows x_rowMany x_sorts x_sizes x_number x_holds x_heldOne x_trace x_traced x_own x_isParted) (Qi res (mW a t x_s x_kept x_laid x_isKept x_pile x_tape x_taped x_letters x_at x_begun x_token x_value x_opened x_steps x_code0 x_read x_saved x_plan x_bestPlan x_most x_many x_few x_everRight x_lagThen x_shadedThen x_firstFit x_rows x_rowMany x_sorts x_sizes x_number x_holds x_heldOne x_trace x_traced x_own x_isParted)) := by
  unfold X12_many at hf
  refine MC.ofI pn_X12 (Nat.le_of_ble_eq_true rfl) ?_
  intro p e s m args below meth c A Q ls cx hR hw hl
  have hx := cx.1
  have hb := cx.2.1
  have hl : lv_has ls 2 [(0, .ref (a 0)), (1, .int v1)] := hl
  refine lv_iload_n hx hb dX12_many_0 rfl (lv_at hl 1 rfl) ?_
  by_cases hc0 : v1 = (0 : Int32)
  · have hf := ifT hf hc0
    refine lv_tableIn (tgt := 44) hx hb dX12_many_1 (by rw [hc0]; decide) (by rw [hc0]; decide) (by rw [hc0]; rfl) (by decide) ?_
    refine lv_aload_n hx hb dX12_many_44 rfl (lv_at hl 0 rfl) ?_
    refine mg_s cx hw dX12_many_45 ?_
    refine lv_iconst (v := 4) hx hb dX12_many_48 (by decide) ?_
    refine ml_s (j := 4) cx hw (ib_in (by decide)) (by decide) dX12_many_49 ?_
    have hf := Option.some.inj hf
    subst hf
    exact hR _ _ _ _ _ _ hw rfl ⟨rfl, rfl⟩ dX12_many_50
  · have hf := ifF hf hc0
    by_cases hc1 : v1 = (1 : Int32)
    · have hf := ifT hf hc1
      refine lv_tableIn (tgt := 51) hx hb dX12_many_1 (by rw [hc1]; decide) (by rw [hc1]; decide) (by rw [hc1]; rfl) (by decide) ?_
      refine lv_aload_n hx hb dX12_many_51 rfl (lv_at hl 0 rfl) ?_
      refine mg_s cx hw dX12_many_52 ?_
      refine lv_iconst (v := 5) hx hb dX12_many_55 (by decide) ?_
      refine ml_s (j := 5) cx hw (ib_in (by decide)) (by decide) dX12_many_56 ?_
      have hf := Option.some.inj hf
      subst hf
      exact hR _ _ _ _ _ _ hw rfl ⟨rfl, rfl⟩ dX12_many_57
    · have hf := ifF hf hc1
      by_cases hc2 : v1 = (2 : Int32)
      · have hf := ifT hf hc2
        refine lv_tableIn (tgt := 58) hx hb dX12_many_1 (by rw [hc2]; decide) (by rw [hc2]; decide) (by rw [hc2]; rfl) (by decide) ?_
        refine lv_aload_n hx hb dX12_many_58 rfl (lv_at hl 0 rfl) ?_
        refine lv_iconst (v := 4) hx hb dX12_many_59 (by decide) ?_
        obtain ⟨r1, h2, hf⟩ := bnS hf
        refine calVi (k := 0) cx hw hl.1 (c_X12_those h2) q_1399 k_X12_those rfl rfl rfl dX12_many_60 rfl (Nat.le_of_ble_eq_true rfl) ⟨Nat.le_of_ble_eq_true rfl, Nat.le_of_ble_eq_true rfl⟩ ⟨Nat.le_refl _, Nat.le_refl _⟩ (fun H locs hw => ?_)
        obtain ⟨r3, h4, hf⟩ := bnS hf
        refine calSi cx hw hl.1 (c_X12_ones h4) q_1707 k_X12_ones rfl dX12_many_63 rfl (Nat.le_of_ble_eq_true rfl) ⟨Nat.le_of_ble_eq_true rfl, Nat.le_of_ble_eq_true rfl⟩ ⟨Nat.le_refl _, Nat.le_refl _⟩ (fun H locs hw => ?_)
        have hf := Option.some.inj hf
        subst hf
        exact hR _ _ _ _ _ _ hw rfl ⟨rfl, rfl⟩ dX12_many_66
      · have hf := ifF hf hc2
        by_cases hc3 : v1 = (3 : Int32)
        · have hf := ifT hf hc3
          refine lv_tableIn (tgt := 67) hx hb dX12_many_1 (by rw [hc3]; decide) (by rw [hc3]; decide) (by rw [hc3]; rfl) (by decide) ?_
          refine lv_aload_n hx hb dX12_many_67 rfl (lv_at hl 0 rfl) ?_
          refine mg_s cx hw dX12_many_68 ?_
          refine lv_bipush (v := 6) hx hb dX12_many_71 (by decide) ?_
          refine ml_s (j := 6) cx hw (ib_in (by decide)) (by decide) dX12_many_73 ?_
          have hf := Option.some.inj hf
          subst hf
          exact hR _ _ _ _ _ _ hw rfl ⟨rfl, rfl⟩ dX12_many_74
        · have hf := ifF hf hc3
          by_cases hc4 : v1 = (4 : Int32)
          · have hf := ifT hf hc4
            refine lv_tableIn (tgt := 75) hx hb dX12_many_1 (by rw [hc4]; decide) (by rw [hc4]; decide) (by rw [hc4]; rfl) (by decide) ?_
            refine lv_aload_n hx hb dX12_many_75 rfl (lv_at hl 0 rfl) ?_
            refine mg_rowMany cx hw dX12_many_76 ?_
            have hf := Option.some.inj hf
            subst hf
            exact hR _ _ _ _ _ _ hw rfl ⟨rfl, rfl⟩ dX12_many_79
          · have hf := ifF hf hc4
            by_cases hc5 : v1 = (5 : Int32)
            · have hf := ifT hf hc5
              refine lv_tableIn (tgt := 80) hx hb dX12_many_1 (by rw [hc5]; decide) (by rw [hc5]; decide) (by rw [hc5]; rfl) (by decide) ?_
              refine lv_aload_n hx hb dX12_many_80 rfl (lv_at hl 0 rfl) ?_
              refine mg_taped cx hw dX12_many_81 ?_
              have hf := Option.some.inj hf
              subst hf
              exact hR _ _ _ _ _ _ hw rfl ⟨rfl, rfl⟩ dX12_many_84
            · have hf := ifF hf hc5
              by_cases hc6 : v1 = (6 : Int32)
              · have hf := ifT hf hc6
                refine lv_tableIn (tgt := 85) hx hb dX12_many_1 (by rw [hc6]; decide) (by rw [hc6]; decide) (by rw [hc6]; rfl) (by decide) ?_
                refine lv_aload_n hx hb dX12_many_85 rfl (lv_at hl 0 rfl) ?_
                refine mg_traced cx hw dX12_many_86 ?_
                have hf := Option.some.inj hf
                subst hf
                exact hR _ _ _ _ _ _ hw rfl ⟨rfl, rfl⟩ dX12_many_89
              · have hf := ifF hf hc6
                refine lv_tableOut (tgt := 90) hx hb dX12_many_1 (by have h0 := lv_neT hc0 (a := 0) (by decide); have h1 := lv_neT hc1 (a := 1) (by decide); have h2 := lv_neT hc2 (a := 2) (by decide); have h3 := lv_neT hc3 (a := 3) (by decide); have h4 := lv_neT hc4 (a := 4) (by decide); have h5 := lv_neT hc5 (a := 5) (by decide); have h6 := lv_neT hc6 (a := 6) (by decide); omega) (by decide) ?_
                refine lv_iconst (v := (-1)) hx hb dX12_many_90 (by decide) ?_
                have hf := Option.some.inj hf
                subst hf
                exact hR _ _ _ _ _ _ hw rfl ⟨rfl, rfl⟩ dX12_many_91
theorem dX12_keep_0 : decode cX12_keep 0 = .ok (.iconst 0, 1) := by decide +kernel
theorem dX12_keep_1 : decode cX12_keep 1 = .ok (.istore_n 1, 1) := by decide +kernel
theorem dX12_keep_2 : decode cX12_keep 2 = .ok (.iload_n 1, 1) := by decide +kernel
theorem dX12_keep_3 : decode cX12_keep 3 = .ok (.sipush 313, 3) := by decide +kernel
theorem dX12_keep_6 : decode cX12_keep 6 = .ok (.if_icmp .ge 21, 3) := by decide +kernel
theorem dX12_keep_9 : decode cX12_keep 9 = .ok (.aload_n 0, 1) := by decide +kernel
theorem dX12_keep_10 : decode cX12_keep 10 = .ok (.getfield 13, 3) := by decide +kernel
theorem dX12_keep_13 : decode cX12_keep 13 = .ok (.iload_n 1, 1) := by decide +kernel
theorem dX12_keep_14 : decode cX12_keep 14 = .ok (.aload_n 0, 1) := by decide +kernel
theorem dX12_keep_15 : decode cX12_keep 15 = .ok (.getfield 9, 3) := by decide +kernel
theorem dX12_keep_18 : decode cX12_keep 18 = .ok (.iload_n 1, 1) := by decide +kernel
theorem dX12_keep_19 : decode cX12_keep 19 = .ok (.iaload, 1) := by decide +kernel
theorem dX12_keep_20 : decode cX12_keep 20 = .ok (.iastore, 1) := by decide +kernel
theorem dX12_keep_21 : decode cX12_keep 21 = .ok (.iinc 1 1, 3) := by decide +kernel
theorem dX12_keep_24 : decode cX12_keep 24 = .ok (.goto (-22), 3) := by decide +kernel
theorem dX12_keep_27 : decode cX12_keep 27 = .ok (.aload_n 0, 1) := by decide +kernel
theorem dX12_keep_28 : decode cX12_keep 28 = .ok (.iconst 1, 1) := by decide +kernel
theorem dX12_keep_29 : decode cX12_keep 29 = .ok (.putfield 374, 3) := by decide +kernel
theorem dX12_keep_32 : decode cX12_keep 32 = .ok (.iconst 1, 1) := by decide +kernel
theorem dX12_keep_33 : decode cX12_keep 33 = .ok (.ireturn, 1) := by decide +kernel
theorem k_X12_keep : MV yX12_keep cX12_keep 2 (some .int) 0 := ⟨q_1711, q_1712, q_14, q_1713, ⟨by decide, by decide, by decide +kernel⟩⟩
theorem c_X12_keep {res : Int32 × (Nat → Int32) × Int32} (hf : X12_keep n x_s x_kept = some res) : MC l E0 D t yX12_keep cX12_keep 2 (some .int) 1 0 0 [.ref (a 0)] (mW a t x_s x_kept x_laid x_isKept x_pile x_tape x_taped x_letters x_at x_begun x_token x_value x_opened x_steps x_code0 x_read x_saved x_plan x_bestPlan x_most x_many x_few x_everRight x_lagThen x_shadedThen x_firstFit x_rows x_rowMany x_sorts x_sizes x_number x_holds x_heldOne x_trace x_traced x_own x_isParted) (Qi res.1 (mW a t x_s res.2.1 x_laid res.2.2 x_pile x_tape x_taped x_letters x_at x_begun x_token x_value x_opened x_steps x_code0 x_read x_saved x_plan x_bestPlan x_most x_many x_few x_everRight x_lagThen x_shadedThen x_firstFit x_rows x_rowMany x_sorts x_sizes x_number x_holds x_heldOne x_trace x_traced x_own x_isParted)) := by
  unfold X12_keep at hf
  refine MC.ofI pn_X12 (Nat.le_of_ble_eq_true rfl) ?_
  intro p e s m args below meth c A Q ls cx hR hw hl
  have hx := cx.1
  have hb := cx.2.1
  have hl : lv_has ls 2 [(0, .ref (a 0))] := hl
  refine lv_iconst (v := 0) hx hb dX12_keep_0 (by decide) ?_
  refine lv_istore_n (lv' := [(1, .int (0 : Int32)), (0, .ref (a 0))]) hx hb dX12_keep_1 rfl hl (by decide) rfl (fun ls hl => ?_)
  obtain ⟨o3, ho3, hf⟩ := bnS hf
  have wL1 : ∀ (k : Nat) {v1 : Int32} {x_kept : Nat → Int32} {H : Heap} {locs : List Loc} {ls : Array Slot} {o : Int32 × (Nat → Int32)}, X12_keep_L1 n x_s k v1 x_kept = some o → Wd D A s (mW a t x_s x_kept x_laid x_isKept x_pile x_tape x_taped x_letters x_at x_begun x_token x_value x_opened x_steps x_code0 x_read x_saved x_plan x_bestPlan x_most x_many x_few x_everRight x_lagThen x_shadedThen x_firstFit x_rows x_rowMany x_sorts x_sizes x_number x_holds x_heldOne x_trace x_traced x_own x_isParted) H locs → lv_has ls 2 [(0, .ref (a 0)), (1, .int v1)] → (∀ (H : Heap) (locs : List Loc) (ls : Array Slot), Wd D A s (mW a t x_s o.2 x_laid x_isKept x_pile x_tape x_taped x_letters x_at x_begun x_token x_value x_opened x_steps x_code0 x_read x_saved x_plan x_bestPlan x_most x_many x_few x_everRight x_lagThen x_shadedThen x_firstFit x_rows x_rowMany x_sorts x_sizes x_number x_holds x_heldOne x_trace x_traced x_own x_isParted) H locs → lv_has ls 2 [(0, .ref (a 0)), (1, .int o.1)] → W p l e (rmz 1 0 0) s m args below meth c H locs 0 0 Q (F0 m 27 ls [])) → W p l e (rmz 1 0 0) s m args below meth c H locs 0 0 Q (F0 m 2 ls []) := by
    clear hf ho3 hw hl
    intro k
    induction k with
    | zero => intro v1 x_kept H locs ls o hf hw hl kx; simp [X12_keep_L1] at hf
    | succ k ih =>
      intro v1 x_kept H locs ls o hf hw hl kx
      rw [X12_keep_L1] at hf
      refine lv_iload_n hx hb dX12_keep_2 rfl (lv_at hl 1 rfl) ?_
      refine lv_sipush (v := 313) hx hb dX12_keep_3 (by decide) ?_
      refine lv_icmp_ge (tgt := 27) hx hb dX12_keep_6 (by decide) (fun hc => ?_) (fun hc => ?_)
      · have hf := ifT hf hc
        have hf := Option.some.inj hf
        subst hf
        exact kx _ _ _ hw (lv_sub hl [0, 1] rfl)
      · have hf := ifF hf hc
        refine lv_aload_n hx hb dX12_keep_9 rfl (lv_at hl 0 rfl) ?_
        refine mg_kept cx hw dX12_keep_10 ?_
        refine lv_iload_n hx hb dX12_keep_13 rfl (lv_at hl 1 rfl) ?_
        refine lv_aload_n hx hb dX12_keep_14 rfl (lv_at hl 0 rfl) ?_
        refine mg_s cx hw dX12_keep_15 ?_
        refine lv_iload_n hx hb dX12_keep_18 rfl (lv_at hl 1 rfl) ?_
        obtain ⟨h1, hf⟩ := ckS hf
        refine ml_s (j := v1.toNatClampNeg) cx hw (ib_in h1) rfl dX12_keep_19 ?_
        obtain ⟨h2, hf⟩ := ckS hf
        refine ms_kept (j := v1.toNatClampNeg) cx hw (ib_in h2) rfl dX12_keep_20 (fun H locs hw => ?_)
        refine lv_iinc (v := (v1 + (1 : Int32))) (lv' := [(1, .int (v1 + (1 : Int32))), (0, .ref (a 0))]) hx hb dX12_keep_21 hl (k := 1) rfl rfl (by decide) rfl (fun ls hl => ?_)
        refine lv_goto (tgt := 2) hx hb dX12_keep_24 (by decide) ?_
        exact ih hf hw (lv_sub hl [1, 0] rfl) kx
  refine wL1 n ho3 hw (lv_sub hl [1, 0] rfl) (fun H locs ls hw hl => ?_)
  clear wL1 ho3
  refine lv_aload_n hx hb dX12_keep_27 rfl (lv_at hl 0 rfl) ?_
  refine lv_iconst (v := 1) hx hb dX12_keep_28 (by decide) ?_
  refine mp_isKept cx hw (by decide) dX12_keep_29 (fun H locs hw => ?_)
  refine lv_iconst (v := 1) hx hb dX12_keep_32 (by decide) ?_
  have hf := Option.some.inj hf
  subst hf
  exact hR _ _ _ _ _ _ hw rfl ⟨rfl, rfl⟩ dX12_keep_33
theorem dX12_again_0 : decode cX12_again 0 = .ok (.aload_n 0, 1) := by decide +kernel
theorem dX12_again_1 : decode cX12_again 1 = .ok (.getfield 374, 3) := by decide +kernel
theorem dX12_again_4 : decode cX12_again 4 = .ok (.ifCond .ne 6, 3) := by decide +kernel
theorem dX12_again_7 : decode cX12_again 7 = .ok (.bipush (-3), 2) := by decide +kernel
theorem dX12_again_9 : decode cX12_again 9 = .ok (.ireturn, 1) := by decide +kernel
theorem dX12_again_10 : decode cX12_again 10 = .ok (.iconst 0, 1) := by decide +kernel
theorem dX12_again_11 : decode cX12_again 11 = .ok (.istore_n 1, 1) := by decide +kernel
theorem dX12_again_12 : decode cX12_again 12 = .ok (.iload_n 1, 1) := by decide +kernel
theorem dX12_again_13 : decode cX12_again 13 = .ok (.sipush 313, 3) := by decide +kernel
theorem dX12_again_16 : decode cX12_again 16 = .ok (.if_icmp .ge 21, 3) := by decide +kernel
theorem dX12_again_19 : decode cX12_again 19 = .ok (.aload_n 0, 1) := by decide +kernel
theorem dX12_again_20 : decode cX12_again 20 = .ok (.getfield 9, 3) := by decide +kernel
theorem dX12_again_23 : decode cX12_again 23 = .ok (.iload_n 1, 1) := by decide +kernel
theorem dX12_again_24 : decode cX12_again 24 = .ok (.aload_n 0, 1) := by decide +kernel
theorem dX12_again_25 : decode cX12_again 25 = .ok (.getfield 13, 3) := by decide +kernel
theorem dX12_again_28 : decode cX12_again 28 = .ok (.iload_n 1, 1) := by decide +kernel
theorem dX12_again_29 : decode cX12_again 29 = .ok (.iaload, 1) := by decide +kernel
theorem dX12_again_30 : decode cX12_again 30 = .ok (.iastore, 1) := by decide +kernel
theorem dX12_again_31 : decode cX12_again 31 = .ok (.iinc 1 1, 3) := by decide +kernel
theorem dX12_again_34 : decode cX12_again 34 = .ok (.goto (-22), 3) := by decide +kernel
theorem dX12_again_37 : decode cX12_again 37 = .ok (.aload_n 0, 1) := by decide +kernel
theorem dX12_again_38 : decode cX12_again 38 = .ok (.getfield 9, 3) := by decide +kernel
theorem dX12_again_41 : decode cX12_again 41 = .ok (.iconst 4, 1) := by decide +kernel
theorem dX12_again_42 : decode cX12_again 42 = .ok (.iaload, 1) := by decide +kernel
theorem dX12_again_43 : decode cX12_again 43 = .ok (.ireturn, 1) := by decide +kernel
theorem k_X12_again : MV yX12_again cX12_again 2 (some .int) 0 := ⟨q_1715, q_1716, q_14, q_1717, ⟨by decide, by decide, by decide +kernel⟩⟩
theorem c_X12_again {res : Int32 × (Nat → Int32)} (hf : X12_again n x_s x_kept x_isKept = some res) : MC l E0 D t yX12_again cX12_again 2 (some .int) 1 0 0 [.ref (a 0)] (mW a t x_s x_kept x_laid x_isKept x_pile x_tape x_taped x_letters x_at x_begun x_token x_value x_opened x_steps x_code0 x_read x_saved x_plan x_bestPlan x_most x_many x_few x_everRight x_lagThen x_shadedThen x_firstFit x_rows x_rowMany x_sorts x_sizes x_number x_holds x_heldOne x_trace x_traced x_own x_isParted) (Qi res.1 (mW a t res.2 x_kept x_laid x_isKept x_pile x_tape x_taped x_letters x_at x_begun x_token x_value x_opened x_steps x_code0 x_read x_saved x_plan x_bestPlan x_most x_many x_few x_everRight x_lagThen x_shadedThen x_firstFit x_rows x_rowMany x_sorts x_sizes x_number x_holds x_heldOne x_trace x_traced x_own x_isParted)) := by
  unfold X12_again at hf
  refine MC.ofI pn_X12 (Nat.le_of_ble_eq_true rfl) ?_
  intro p e s m args below meth c A Q ls cx hR hw hl
  have hx := cx.1
  have hb := cx.2.1
  have hl : lv_has ls 2 [(0, .ref (a 0))] := hl
  refine lv_aload_n hx hb dX12_again_0 rfl (lv_at hl 0 rfl) ?_
  refine mg_isKept cx hw dX12_again_1 ?_
  refine lv_if_ne (tgt := 10) hx hb dX12_again_4 (by decide) (fun hc => ?_) (fun hc => ?_)
  · have hf := ifF hf hc
    refine lv_iconst (v := 0) hx hb dX12_again_10 (by decide) ?_
    refine lv_istore_n (lv' := [(1, .int (0 : Int32)), (0, .ref (a 0))]) hx hb dX12_again_11 rfl hl (by decide) rfl (fun ls hl => ?_)
    obtain ⟨o3, ho3, hf⟩ := bnS hf
    have wL1 : ∀ (k : Nat) {v1 : Int32} {x_s : Nat → Int32} {H : Heap} {locs : List Loc} {ls : Array Slot} {o : Int32 × (Nat → Int32)}, X12_again_L1 n x_kept k v1 x_s = some o → Wd D A s (mW a t x_s x_kept x_laid x_isKept x_pile x_tape x_taped x_letters x_at x_begun x_token x_value x_opened x_steps x_code0 x_read x_saved x_plan x_bestPlan x_most x_many x_few x_everRight x_lagThen x_shadedThen x_firstFit x_rows x_rowMany x_sorts x_sizes x_number x_holds x_heldOne x_trace x_traced x_own x_isParted) H locs → lv_has ls 2 [(0, .ref (a 0)), (1, .int v1)] → (∀ (H : Heap) (locs : List Loc) (ls : Array Slot), Wd D A s (mW a t o.2 x_kept x_laid x_isKept x_pile x_tape x_taped x_letters x_at x_begun x_token x_value x_opened x_steps x_code0 x_read x_saved x_plan x_bestPlan x_most x_many x_few x_everRight x_lagThen x_shadedThen x_firstFit x_rows x_rowMany x_sorts x_sizes x_number x_holds x_heldOne x_trace x_traced x_own x_isParted) H locs → lv_has ls 2 [(0, .ref (a 0)), (1, .int o.1)] → W p l e (rmz 1 0 0) s m args below meth c H locs 0 0 Q (F0 m 37 ls [])) → W p l e (rmz 1 0 0) s m args below meth c H locs 0 0 Q (F0 m 12 ls []) := by
      clear hf ho3 hw hl
      intro k
      induction k with
      | zero => intro v1 x_s H locs ls o hf hw hl kx; simp [X12_again_L1] at hf
      | succ k ih =>
        intro v1 x_s H locs ls o hf hw hl kx
        rw [X12_again_L1] at hf
        refine lv_iload_n hx hb dX12_again_12 rfl (lv_at hl 1 rfl) ?_
        refine lv_sipush (v := 313) hx hb dX12_again_13 (by decide) ?_
        refine lv_icmp_ge (tgt := 37) hx hb dX12_again_16 (by decide) (fun hc => ?_) (fun hc => ?_)
        · have hf := ifT hf hc
          have hf := Option.some.inj hf
          subst hf
          exact kx _ _ _ hw (lv_sub hl [0, 1] rfl)
        · have hf := ifF hf hc
          refine lv_aload_n hx hb dX12_again_19 rfl (lv_at hl 0 rfl) ?_
          refine mg_s cx hw dX12_again_20 ?_
          refine lv_iload_n hx hb dX12_again_23 rfl (lv_at hl 1 rfl) ?_
          refine lv_aload_n hx hb dX12_again_24 rfl (lv_at hl 0 rfl) ?_
          refine mg_kept cx hw dX12_again_25 ?_
          refine lv_iload_n hx hb dX12_again_28 rfl (lv_at hl 1 rfl) ?_
          obtain ⟨h1, hf⟩ := ckS hf
          refine ml_kept (j := v1.toNatClampNeg) cx hw (ib_in h1) rfl dX12_again_29 ?_
          obtain ⟨h2, hf⟩ := ckS hf
          refine ms_s (j := v1.toNatClampNeg) cx hw (ib_in h2) rfl dX12_again_30 (fun H locs hw => ?_)
          refine lv_iinc (v := (v1 + (1 : Int32))) (lv' := [(1, .int (v1 + (1 : Int32))), (0, .ref (a 0))]) hx hb dX12_again_31 hl (k := 1) rfl rfl (by decide) rfl (fun ls hl => ?_)
          refine lv_goto (tgt := 12) hx hb dX12_again_34 (by decide) ?_
          exact ih hf hw (lv_sub hl [1, 0] rfl) kx
    refine wL1 n ho3 hw (lv_sub hl [1, 0] rfl) (fun H locs ls hw hl => ?_)
    clear wL1 ho3
    refine lv_aload_n hx hb dX12_again_37 rfl (lv_at hl 0 rfl) ?_
    refine mg_s cx hw dX12_again_38 ?_
    refine lv_iconst (v := 4) hx hb dX12_again_41 (by decide) ?_
    refine ml_s (j := 4) cx hw (ib_in (by decide)) (by decide) dX12_again_42 ?_
    have hf := Option.some.inj hf
    subst hf
    exact hR _ _ _ _ _ _ hw rfl ⟨rfl, rfl⟩ dX12_again_43
  · have hf := ifT hf hc
    refine lv_bipush (v := (-3)) hx hb dX12_again_7 (by decide) ?_
    have hf := Option.some.inj hf
    subst hf
    exact hR _ _ _ _ _ _ hw rfl ⟨rfl, rfl⟩ dX12_again_9
end MW7
