section MW6
variable {l : Launch} {D : va_G} {t : Nat → ClassId} {a : Nat → Nat} {n : Nat} {x_s : Nat → Int32} {x_kept : Nat → Int32} {x_laid : Nat → Int32} {x_isKept : Int32} {x_pile : Nat → Int32} {x_tape : Nat → Int32} {x_taped : Int32} {x_letters : Nat → Int32} {x_at : Int32} {x_begun : Int32} {x_token : Int32} {x_value : Int32} {x_opened : Int32} {x_steps : Int32} {x_code0 : Nat → Int32} {x_read : Nat → Int32} {x_saved : Nat → Int32} {x_plan : Nat → Int32} {x_bestPlan : Nat → Int32} {x_most : Int32} {x_many : Int32} {x_few : Int32} {x_everRight : Int32} {x_lagThen : Nat → Int32} {x_shadedThen : Nat → Int32} {x_firstFit : Int32} {x_rows : Nat → Int32} {x_rowMany : Int32} {x_sorts : Nat → Int32} {x_sizes : Nat → Int32} {x_number : Nat → Int32} {x_holds : Nat → Int32} {x_heldOne : Nat → Int32} {x_trace : Nat → Int32} {x_traced : Int32} {x_own : Int32} {x_isParted : Int32} {v0 v1 v2 v3 v4 v5 : Int32}
theorem dX12_heldOn_0 : decode cX12_heldOn 0 = .ok (.aload_n 0, 1) := by decide +kernel
theorem dX12_heldOn_1 : decode cX12_heldOn 1 = .ok (.getfield 62, 3) := by decide +kernel
theorem dX12_heldOn_4 : decode cX12_heldOn 4 = .ok (.iload_n 1, 1) := by decide +kernel
theorem dX12_heldOn_5 : decode cX12_heldOn 5 = .ok (.iaload, 1) := by decide +kernel
theorem dX12_heldOn_6 : decode cX12_heldOn 6 = .ok (.ifCond .ne 20, 3) := by decide +kernel
theorem dX12_heldOn_9 : decode cX12_heldOn 9 = .ok (.aload_n 0, 1) := by decide +kernel
theorem dX12_heldOn_10 : decode cX12_heldOn 10 = .ok (.aload_n 0, 1) := by decide +kernel
theorem dX12_heldOn_11 : decode cX12_heldOn 11 = .ok (.getfield 65, 3) := by decide +kernel
theorem dX12_heldOn_14 : decode cX12_heldOn 14 = .ok (.iload_n 1, 1) := by decide +kernel
theorem dX12_heldOn_15 : decode cX12_heldOn 15 = .ok (.iaload, 1) := by decide +kernel
theorem dX12_heldOn_16 : decode cX12_heldOn 16 = .ok (.invokevirtual 231, 3) := by decide +kernel
theorem dX12_heldOn_19 : decode cX12_heldOn 19 = .ok (.ifCond .ne 7, 3) := by decide +kernel
theorem dX12_heldOn_22 : decode cX12_heldOn 22 = .ok (.iconst (-1), 1) := by decide +kernel
theorem dX12_heldOn_23 : decode cX12_heldOn 23 = .ok (.goto 9, 3) := by decide +kernel
theorem dX12_heldOn_26 : decode cX12_heldOn 26 = .ok (.aload_n 0, 1) := by decide +kernel
theorem dX12_heldOn_27 : decode cX12_heldOn 27 = .ok (.getfield 62, 3) := by decide +kernel
theorem dX12_heldOn_30 : decode cX12_heldOn 30 = .ok (.iload_n 1, 1) := by decide +kernel
theorem dX12_heldOn_31 : decode cX12_heldOn 31 = .ok (.iaload, 1) := by decide +kernel
theorem dX12_heldOn_32 : decode cX12_heldOn 32 = .ok (.ireturn, 1) := by decide +kernel
theorem k_X12_heldOn : MV yX12_heldOn cX12_heldOn 2 (some .int) 1 := ⟨q_1673, qs_89, q_14, q_1674, ⟨by decide, by decide, by decide +kernel⟩⟩
theorem c_X12_heldOn {res : Int32} (hf : X12_heldOn x_s x_holds x_heldOne v1 = some res) : MC l E0 D t yX12_heldOn cX12_heldOn 2 (some .int) 3 0 0 [.ref (a 0), .int v1] (mW a t x_s x_kept x_laid x_isKept x_pile x_tape x_taped x_letters x_at x_begun x_token x_value x_opened x_steps x_code0 x_read x_saved x_plan x_bestPlan x_most x_many x_few x_everRight x_lagThen x_shadedThen x_firstFit x_rows x_rowMany x_sorts x_sizes x_number x_holds x_heldOne x_trace x_traced x_own x_isParted) (Qi res (mW a t x_s x_kept x_laid x_isKept x_pile x_tape x_taped x_letters x_at x_begun x_token x_value x_opened x_steps x_code0 x_read x_saved x_plan x_bestPlan x_most x_many x_few x_everRight x_lagThen x_shadedThen x_firstFit x_rows x_rowMany x_sorts x_sizes x_number x_holds x_heldOne x_trace x_traced x_own x_isParted)) := by
  unfold X12_heldOn at hf
  refine MC.ofI pn_X12 (Nat.le_of_ble_eq_true rfl) ?_
  intro p e s m args below meth c A Q ls cx hR hw hl
  have hx := cx.1
  have hb := cx.2.1
  have hl : lv_has ls 2 [(0, .ref (a 0)), (1, .int v1)] := hl
  refine lv_aload_n hx hb dX12_heldOn_0 rfl (lv_at hl 0 rfl) ?_
  refine mg_holds cx hw dX12_heldOn_1 ?_
  refine lv_iload_n hx hb dX12_heldOn_4 rfl (lv_at hl 1 rfl) ?_
  obtain ⟨h1, hf⟩ := ckS hf
  refine ml_holds (j := v1.toNatClampNeg) cx hw (ib_in h1) rfl dX12_heldOn_5 ?_
  obtain ⟨J3, hJ3, hf⟩ := jnS hf
  have wj3 : ∀ (j3 : Unit) (H : Heap) (locs : List Loc) (ls : Array Slot), J3 j3 = some res → Wd D A s (mW a t x_s x_kept x_laid x_isKept x_pile x_tape x_taped x_letters x_at x_begun x_token x_value x_opened x_steps x_code0 x_read x_saved x_plan x_bestPlan x_most x_many x_few x_everRight x_lagThen x_shadedThen x_firstFit x_rows x_rowMany x_sorts x_sizes x_number x_holds x_heldOne x_trace x_traced x_own x_isParted) H locs → lv_has ls 2 [(0, .ref (a 0)), (1, .int v1)] → W p l e (rmz 3 0 0) s m args below meth c H locs 0 0 Q (F0 m 26 ls []) := by
    intro j3 H locs ls hf hw hl
    have hf := hJ3 _ hf
    refine lv_aload_n hx hb dX12_heldOn_26 rfl (lv_at hl 0 rfl) ?_
    refine mg_holds cx hw dX12_heldOn_27 ?_
    refine lv_iload_n hx hb dX12_heldOn_30 rfl (lv_at hl 1 rfl) ?_
    obtain ⟨h4, hf⟩ := ckS hf
    refine ml_holds (j := v1.toNatClampNeg) cx hw (ib_in h4) rfl dX12_heldOn_31 ?_
    have hf := Option.some.inj hf
    subst hf
    exact hR _ _ _ _ _ _ hw rfl ⟨rfl, rfl⟩ dX12_heldOn_32
  clear hJ3
  refine lv_if_ne (tgt := 26) hx hb dX12_heldOn_6 (by decide) (fun hc => ?_) (fun hc => ?_)
  · have hf := ifF hf hc
    exact wj3 _ _ _ _ hf hw (lv_sub hl [0, 1] rfl)
  · have hf := ifT hf hc
    refine lv_aload_n hx hb dX12_heldOn_9 rfl (lv_at hl 0 rfl) ?_
    refine lv_aload_n hx hb dX12_heldOn_10 rfl (lv_at hl 0 rfl) ?_
    refine mg_heldOne cx hw dX12_heldOn_11 ?_
    refine lv_iload_n hx hb dX12_heldOn_14 rfl (lv_at hl 1 rfl) ?_
    obtain ⟨h2, hf⟩ := ckS hf
    refine ml_heldOne (j := v1.toNatClampNeg) cx hw (ib_in h2) rfl dX12_heldOn_15 ?_
    refine calVi (k := 0) cx hw hl.1 (c_X12_isDial rfl) q_1296 k_X12_isDial rfl rfl rfl dX12_heldOn_16 rfl (Nat.le_of_ble_eq_true rfl) ⟨Nat.le_of_ble_eq_true rfl, Nat.le_of_ble_eq_true rfl⟩ ⟨Nat.le_refl _, Nat.le_refl _⟩ (fun H locs hw => ?_)
    refine lv_if_ne (tgt := 26) hx hb dX12_heldOn_19 (by decide) (fun hc => ?_) (fun hc => ?_)
    · have hf := ifF hf hc
      exact wj3 _ _ _ _ hf hw (lv_sub hl [0, 1] rfl)
    · have hf := ifT hf hc
      refine lv_iconst (v := (-1)) hx hb dX12_heldOn_22 (by decide) ?_
      refine lv_goto (tgt := 32) hx hb dX12_heldOn_23 (by decide) ?_
      have hf := Option.some.inj hf
      subst hf
      exact hR _ _ _ _ _ _ hw rfl ⟨rfl, rfl⟩ dX12_heldOn_32
theorem dX12_taken_0 : decode cX12_taken 0 = .ok (.iload_n 1, 1) := by decide +kernel
theorem dX12_taken_1 : decode cX12_taken 1 = .ok (.invokestatic 331, 3) := by decide +kernel
theorem dX12_taken_4 : decode cX12_taken 4 = .ok (.ifCond .eq 23, 3) := by decide +kernel
theorem dX12_taken_7 : decode cX12_taken 7 = .ok (.iload_n 2, 1) := by decide +kernel
theorem dX12_taken_8 : decode cX12_taken 8 = .ok (.iconst 0, 1) := by decide +kernel
theorem dX12_taken_9 : decode cX12_taken 9 = .ok (.iconst 5, 1) := by decide +kernel
theorem dX12_taken_10 : decode cX12_taken 10 = .ok (.invokestatic 71, 3) := by decide +kernel
theorem dX12_taken_13 : decode cX12_taken 13 = .ok (.ifCond .ne 16, 3) := by decide +kernel
theorem dX12_taken_16 : decode cX12_taken 16 = .ok (.iload_n 2, 1) := by decide +kernel
theorem dX12_taken_17 : decode cX12_taken 17 = .ok (.bipush 10, 2) := by decide +kernel
theorem dX12_taken_19 : decode cX12_taken 19 = .ok (.bipush 14, 2) := by decide +kernel
theorem dX12_taken_21 : decode cX12_taken 21 = .ok (.invokestatic 71, 3) := by decide +kernel
theorem dX12_taken_24 : decode cX12_taken 24 = .ok (.ifCond .ne 5, 3) := by decide +kernel
theorem dX12_taken_27 : decode cX12_taken 27 = .ok (.iconst (-1), 1) := by decide +kernel
theorem dX12_taken_28 : decode cX12_taken 28 = .ok (.ireturn, 1) := by decide +kernel
theorem dX12_taken_29 : decode cX12_taken 29 = .ok (.aload_n 0, 1) := by decide +kernel
theorem dX12_taken_30 : decode cX12_taken 30 = .ok (.iload_n 1, 1) := by decide +kernel
theorem dX12_taken_31 : decode cX12_taken 31 = .ok (.invokevirtual 343, 3) := by decide +kernel
theorem dX12_taken_34 : decode cX12_taken 34 = .ok (.istore_n 3, 1) := by decide +kernel
theorem dX12_taken_35 : decode cX12_taken 35 = .ok (.iload_n 3, 1) := by decide +kernel
theorem dX12_taken_36 : decode cX12_taken 36 = .ok (.ifCond .ge 6, 3) := by decide +kernel
theorem dX12_taken_39 : decode cX12_taken 39 = .ok (.bipush (-11), 2) := by decide +kernel
theorem dX12_taken_41 : decode cX12_taken 41 = .ok (.ireturn, 1) := by decide +kernel
theorem dX12_taken_42 : decode cX12_taken 42 = .ok (.iload_n 3, 1) := by decide +kernel
theorem dX12_taken_43 : decode cX12_taken 43 = .ok (.ifCond .ne 35, 3) := by decide +kernel
theorem dX12_taken_46 : decode cX12_taken 46 = .ok (.iload_n 2, 1) := by decide +kernel
theorem dX12_taken_47 : decode cX12_taken 47 = .ok (.bipush 10, 2) := by decide +kernel
theorem dX12_taken_49 : decode cX12_taken 49 = .ok (.if_icmp .ge 25, 3) := by decide +kernel
theorem dX12_taken_52 : decode cX12_taken 52 = .ok (.aload_n 0, 1) := by decide +kernel
theorem dX12_taken_53 : decode cX12_taken 53 = .ok (.aload_n 0, 1) := by decide +kernel
theorem dX12_taken_54 : decode cX12_taken 54 = .ok (.getfield 65, 3) := by decide +kernel
theorem dX12_taken_57 : decode cX12_taken 57 = .ok (.iload_n 1, 1) := by decide +kernel
theorem dX12_taken_58 : decode cX12_taken 58 = .ok (.iaload, 1) := by decide +kernel
theorem dX12_taken_59 : decode cX12_taken 59 = .ok (.iconst 0, 1) := by decide +kernel
theorem dX12_taken_60 : decode cX12_taken 60 = .ok (.invokevirtual 79, 3) := by decide +kernel
theorem dX12_taken_63 : decode cX12_taken 63 = .ok (.iload_n 2, 1) := by decide +kernel
theorem dX12_taken_64 : decode cX12_taken 64 = .ok (.invokestatic 122, 3) := by decide +kernel
theorem dX12_taken_67 : decode cX12_taken 67 = .ok (.ifCond .eq 7, 3) := by decide +kernel
theorem dX12_taken_70 : decode cX12_taken 70 = .ok (.iconst 1, 1) := by decide +kernel
theorem dX12_taken_71 : decode cX12_taken 71 = .ok (.goto 17, 3) := by decide +kernel
theorem dX12_taken_74 : decode cX12_taken 74 = .ok (.iconst 0, 1) := by decide +kernel
theorem dX12_taken_75 : decode cX12_taken 75 = .ok (.goto 13, 3) := by decide +kernel
theorem dX12_taken_78 : decode cX12_taken 78 = .ok (.iload_n 3, 1) := by decide +kernel
theorem dX12_taken_79 : decode cX12_taken 79 = .ok (.iload_n 2, 1) := by decide +kernel
theorem dX12_taken_80 : decode cX12_taken 80 = .ok (.if_icmp .ne 7, 3) := by decide +kernel
theorem dX12_taken_83 : decode cX12_taken 83 = .ok (.iconst 1, 1) := by decide +kernel
theorem dX12_taken_84 : decode cX12_taken 84 = .ok (.goto 4, 3) := by decide +kernel
theorem dX12_taken_87 : decode cX12_taken 87 = .ok (.iconst 0, 1) := by decide +kernel
theorem dX12_taken_88 : decode cX12_taken 88 = .ok (.istore 4, 2) := by decide +kernel
theorem dX12_taken_90 : decode cX12_taken 90 = .ok (.iload 4, 2) := by decide +kernel
theorem dX12_taken_92 : decode cX12_taken 92 = .ok (.ifCond .eq 12, 3) := by decide +kernel
theorem dX12_taken_95 : decode cX12_taken 95 = .ok (.aload_n 0, 1) := by decide +kernel
theorem dX12_taken_96 : decode cX12_taken 96 = .ok (.getfield 65, 3) := by decide +kernel
theorem dX12_taken_99 : decode cX12_taken 99 = .ok (.iload_n 1, 1) := by decide +kernel
theorem dX12_taken_100 : decode cX12_taken 100 = .ok (.iaload, 1) := by decide +kernel
theorem dX12_taken_101 : decode cX12_taken 101 = .ok (.goto 5, 3) := by decide +kernel
theorem dX12_taken_104 : decode cX12_taken 104 = .ok (.bipush (-13), 2) := by decide +kernel
theorem dX12_taken_106 : decode cX12_taken 106 = .ok (.ireturn, 1) := by decide +kernel
theorem k_X12_taken : MV yX12_taken cX12_taken 5 (some .int) 2 := ⟨q_1668, q_1669, q_14, q_1670, ⟨by decide, by decide, by decide +kernel⟩⟩
theorem c_X12_taken {res : Int32} (hf : X12_taken n x_s x_holds x_heldOne v1 v2 = some res) : MC l E0 D t yX12_taken cX12_taken 5 (some .int) 4 0 0 [.ref (a 0), .int v1, .int v2] (mW a t x_s x_kept x_laid x_isKept x_pile x_tape x_taped x_letters x_at x_begun x_token x_value x_opened x_steps x_code0 x_read x_saved x_plan x_bestPlan x_most x_many x_few x_everRight x_lagThen x_shadedThen x_firstFit x_rows x_rowMany x_sorts x_sizes x_number x_holds x_heldOne x_trace x_traced x_own x_isParted) (Qi res (mW a t x_s x_kept x_laid x_isKept x_pile x_tape x_taped x_letters x_at x_begun x_token x_value x_opened x_steps x_code0 x_read x_saved x_plan x_bestPlan x_most x_many x_few x_everRight x_lagThen x_shadedThen x_firstFit x_rows x_rowMany x_sorts x_sizes x_number x_holds x_heldOne x_trace x_traced x_own x_isParted)) := by
  unfold X12_taken at hf
  refine MC.ofI pn_X12 (Nat.le_of_ble_eq_true rfl) ?_
  intro p e s m args below meth c A Q ls cx hR hw hl
  have hx := cx.1
  have hb := cx.2.1
  have hl : lv_has ls 5 [(0, .ref (a 0)), (1, .int v1), (2, .int v2)] := hl
  refine lv_iload_n hx hb dX12_taken_0 rfl (lv_at hl 1 rfl) ?_
  refine calSi cx hw hl.1 (c_X12_isSheet rfl) q_1633 k_X12_isSheet rfl dX12_taken_1 rfl (Nat.le_of_ble_eq_true rfl) ⟨Nat.le_of_ble_eq_true rfl, Nat.le_of_ble_eq_true rfl⟩ ⟨Nat.le_refl _, Nat.le_refl _⟩ (fun H locs hw => ?_)
  refine lv_if_eq (tgt := 27) hx hb dX12_taken_4 (by decide) (fun hc => ?_) (fun hc => ?_)
  · have hf := ifT hf hc
    refine lv_iconst (v := (-1)) hx hb dX12_taken_27 (by decide) ?_
    have hf := Option.some.inj hf
    subst hf
    exact hR _ _ _ _ _ _ hw rfl ⟨rfl, rfl⟩ dX12_taken_28
  · have hf := ifF hf hc
    refine lv_iload_n hx hb dX12_taken_7 rfl (lv_at hl 2 rfl) ?_
    refine lv_iconst (v := 0) hx hb dX12_taken_8 (by decide) ?_
    refine lv_iconst (v := 5) hx hb dX12_taken_9 (by decide) ?_
    refine calSi cx hw hl.1 (c_X12_in1 rfl) q_1214 k_X12_in1 rfl dX12_taken_10 rfl (Nat.le_of_ble_eq_true rfl) ⟨Nat.le_of_ble_eq_true rfl, Nat.le_of_ble_eq_true rfl⟩ ⟨Nat.le_refl _, Nat.le_refl _⟩ (fun H locs hw => ?_)
    obtain ⟨J1, hJ1, hf⟩ := jnS hf
    have wj1 : ∀ (j1 : Unit) (H : Heap) (locs : List Loc) (ls : Array Slot), J1 j1 = some res → Wd D A s (mW a t x_s x_kept x_laid x_isKept x_pile x_tape x_taped x_letters x_at x_begun x_token x_value x_opened x_steps x_code0 x_read x_saved x_plan x_bestPlan x_most x_many x_few x_everRight x_lagThen x_shadedThen x_firstFit x_rows x_rowMany x_sorts x_sizes x_number x_holds x_heldOne x_trace x_traced x_own x_isParted) H locs → lv_has ls 5 [(0, .ref (a 0)), (1, .int v1), (2, .int v2)] → W p l e (rmz 4 0 0) s m args below meth c H locs 0 0 Q (F0 m 29 ls []) := by
      intro j1 H locs ls hf hw hl
      have hf := hJ1 _ hf
      refine lv_aload_n hx hb dX12_taken_29 rfl (lv_at hl 0 rfl) ?_
      refine lv_iload_n hx hb dX12_taken_30 rfl (lv_at hl 1 rfl) ?_
      obtain ⟨r2, h3, hf⟩ := bnS hf
      refine calVi (k := 0) cx hw hl.1 (c_X12_heldOn h3) q_1671 k_X12_heldOn rfl rfl rfl dX12_taken_31 rfl (Nat.le_of_ble_eq_true rfl) ⟨Nat.le_of_ble_eq_true rfl, Nat.le_of_ble_eq_true rfl⟩ ⟨Nat.le_refl _, Nat.le_refl _⟩ (fun H locs hw => ?_)
      refine lv_istore_n (lv' := [(3, .int r2), (0, .ref (a 0)), (1, .int v1), (2, .int v2)]) hx hb dX12_taken_34 rfl hl (by decide) rfl (fun ls hl => ?_)
      refine lv_iload_n hx hb dX12_taken_35 rfl (lv_at hl 0 rfl) ?_
      refine lv_if_ge (tgt := 42) hx hb dX12_taken_36 (by decide) (fun hc => ?_) (fun hc => ?_)
      · have hf := ifT hf hc
        refine lv_iload_n hx hb dX12_taken_42 rfl (lv_at hl 0 rfl) ?_
        obtain ⟨j10, hj10, hf⟩ := bnS hf
        have wj10 : ∀ (H : Heap) (locs : List Loc) (ls : Array Slot), Wd D A s (mW a t x_s x_kept x_laid x_isKept x_pile x_tape x_taped x_letters x_at x_begun x_token x_value x_opened x_steps x_code0 x_read x_saved x_plan x_bestPlan x_most x_many x_few x_everRight x_lagThen x_shadedThen x_firstFit x_rows x_rowMany x_sorts x_sizes x_number x_holds x_heldOne x_trace x_traced x_own x_isParted) H locs → lv_has ls 5 [(0, .ref (a 0)), (1, .int v1), (2, .int v2), (3, .int r2)] → W p l e (rmz 4 0 0) s m args below meth c H locs 0 0 Q (F0 m 88 ls [.int j10]) := by
          intro H locs ls hw hl
          refine lv_istore (lv' := [(4, .int j10), (0, .ref (a 0)), (1, .int v1), (2, .int v2), (3, .int r2)]) hx hb dX12_taken_88 hl (by decide) rfl (fun ls hl => ?_)
          refine lv_iload hx hb dX12_taken_90 (lv_at hl 0 rfl) ?_
          refine lv_if_eq (tgt := 104) hx hb dX12_taken_92 (by decide) (fun hc => ?_) (fun hc => ?_)
          · have hf := ifT hf hc
            refine lv_bipush (v := (-13)) hx hb dX12_taken_104 (by decide) ?_
            have hf := Option.some.inj hf
            subst hf
            exact hR _ _ _ _ _ _ hw rfl ⟨rfl, rfl⟩ dX12_taken_106
          · have hf := ifF hf hc
            refine lv_aload_n hx hb dX12_taken_95 rfl (lv_at hl 1 rfl) ?_
            refine mg_heldOne cx hw dX12_taken_96 ?_
            refine lv_iload_n hx hb dX12_taken_99 rfl (lv_at hl 2 rfl) ?_
            obtain ⟨h11, hf⟩ := ckS hf
            refine ml_heldOne (j := v1.toNatClampNeg) cx hw (ib_in h11) rfl dX12_taken_100 ?_
            refine lv_goto (tgt := 106) hx hb dX12_taken_101 (by decide) ?_
            have hf := Option.some.inj hf
            subst hf
            exact hR _ _ _ _ _ _ hw rfl ⟨rfl, rfl⟩ dX12_taken_106
        clear hf
        have hf := hj10
        clear hj10
        refine lv_if_ne (tgt := 78) hx hb dX12_taken_43 (by decide) (fun hc => ?_) (fun hc => ?_)
        · have hf := ifF hf hc
          refine lv_iload_n hx hb dX12_taken_78 rfl (lv_at hl 0 rfl) ?_
          refine lv_iload_n hx hb dX12_taken_79 rfl (lv_at hl 3 rfl) ?_
          refine lv_icmp_ne (tgt := 87) hx hb dX12_taken_80 (by decide) (fun hc => ?_) (fun hc => ?_)
          · have hf := ifF hf hc
            refine lv_iconst (v := 0) hx hb dX12_taken_87 (by decide) ?_
            have hf := Option.some.inj hf
            subst hf
            exact wj10 _ _ _ hw (lv_sub hl [1, 2, 3, 0] rfl)
          · have hf := ifT hf hc
            refine lv_iconst (v := 1) hx hb dX12_taken_83 (by decide) ?_
            refine lv_goto (tgt := 88) hx hb dX12_taken_84 (by decide) ?_
            have hf := Option.some.inj hf
            subst hf
            exact wj10 _ _ _ hw (lv_sub hl [1, 2, 3, 0] rfl)
        · have hf := ifT hf hc
          refine lv_iload_n hx hb dX12_taken_46 rfl (lv_at hl 3 rfl) ?_
          refine lv_bipush (v := 10) hx hb dX12_taken_47 (by decide) ?_
          obtain ⟨J9, hJ9, hf⟩ := jnS hf
          have wj9 : ∀ (j9 : Unit) (H : Heap) (locs : List Loc) (ls : Array Slot), J9 j9 = some j10 → Wd D A s (mW a t x_s x_kept x_laid x_isKept x_pile x_tape x_taped x_letters x_at x_begun x_token x_value x_opened x_steps x_code0 x_read x_saved x_plan x_bestPlan x_most x_many x_few x_everRight x_lagThen x_shadedThen x_firstFit x_rows x_rowMany x_sorts x_sizes x_number x_holds x_heldOne x_trace x_traced x_own x_isParted) H locs → lv_has ls 5 [(0, .ref (a 0)), (1, .int v1), (2, .int v2), (3, .int r2)] → W p l e (rmz 4 0 0) s m args below meth c H locs 0 0 Q (F0 m 74 ls []) := by
            intro j9 H locs ls hf hw hl
            have hf := hJ9 _ hf
            refine lv_iconst (v := 0) hx hb dX12_taken_74 (by decide) ?_
            refine lv_goto (tgt := 88) hx hb dX12_taken_75 (by decide) ?_
            have hf := Option.some.inj hf
            subst hf
            exact wj10 _ _ _ hw (lv_sub hl [0, 1, 2, 3] rfl)
          clear hJ9
          refine lv_icmp_ge (tgt := 74) hx hb dX12_taken_49 (by decide) (fun hc => ?_) (fun hc => ?_)
          · have hf := ifT hf hc
            exact wj9 _ _ _ _ hf hw (lv_sub hl [1, 2, 3, 0] rfl)
          · have hf := ifF hf hc
            refine lv_aload_n hx hb dX12_taken_52 rfl (lv_at hl 1 rfl) ?_
            refine lv_aload_n hx hb dX12_taken_53 rfl (lv_at hl 1 rfl) ?_
            refine mg_heldOne cx hw dX12_taken_54 ?_
            refine lv_iload_n hx hb dX12_taken_57 rfl (lv_at hl 2 rfl) ?_
            obtain ⟨h4, hf⟩ := ckS hf
            refine ml_heldOne (j := v1.toNatClampNeg) cx hw (ib_in h4) rfl dX12_taken_58 ?_
            refine lv_iconst (v := 0) hx hb dX12_taken_59 (by decide) ?_
            obtain ⟨r5, h6, hf⟩ := bnS hf
            refine calVi (k := 0) cx hw hl.1 (c_X12_get h6) q_1304 k_X12_get rfl rfl rfl dX12_taken_60 rfl (Nat.le_of_ble_eq_true rfl) ⟨Nat.le_of_ble_eq_true rfl, Nat.le_of_ble_eq_true rfl⟩ ⟨Nat.le_refl _, Nat.le_refl _⟩ (fun H locs hw => ?_)
            refine lv_iload_n hx hb dX12_taken_63 rfl (lv_at hl 3 rfl) ?_
            obtain ⟨r7, h8, hf⟩ := bnS hf
            refine calSi cx hw hl.1 (c_X12_isUnder h8) q_1342 k_X12_isUnder rfl dX12_taken_64 rfl (Nat.le_of_ble_eq_true rfl) ⟨Nat.le_of_ble_eq_true rfl, Nat.le_of_ble_eq_true rfl⟩ ⟨Nat.le_refl _, Nat.le_refl _⟩ (fun H locs hw => ?_)
            refine lv_if_eq (tgt := 74) hx hb dX12_taken_67 (by decide) (fun hc => ?_) (fun hc => ?_)
            · have hf := ifT hf hc
              exact wj9 _ _ _ _ hf hw (lv_sub hl [1, 2, 3, 0] rfl)
            · have hf := ifF hf hc
              refine lv_iconst (v := 1) hx hb dX12_taken_70 (by decide) ?_
              refine lv_goto (tgt := 88) hx hb dX12_taken_71 (by decide) ?_
              have hf := Option.some.inj hf
              subst hf
              exact wj10 _ _ _ hw (lv_sub hl [1, 2, 3, 0] rfl)
      · have hf := ifF hf hc
        refine lv_bipush (v := (-11)) hx hb dX12_taken_39 (by decide) ?_
        have hf := Option.some.inj hf
        subst hf
        exact hR _ _ _ _ _ _ hw rfl ⟨rfl, rfl⟩ dX12_taken_41
    clear hJ1
    refine lv_if_ne (tgt := 29) hx hb dX12_taken_13 (by decide) (fun hc => ?_) (fun hc => ?_)
    · have hf := ifF hf hc
      exact wj1 _ _ _ _ hf hw (lv_sub hl [0, 1, 2] rfl)
    · have hf := ifT hf hc
      refine lv_iload_n hx hb dX12_taken_16 rfl (lv_at hl 2 rfl) ?_
      refine lv_bipush (v := 10) hx hb dX12_taken_17 (by decide) ?_
      refine lv_bipush (v := 14) hx hb dX12_taken_19 (by decide) ?_
      refine calSi cx hw hl.1 (c_X12_in1 rfl) q_1214 k_X12_in1 rfl dX12_taken_21 rfl (Nat.le_of_ble_eq_true rfl) ⟨Nat.le_of_ble_eq_true rfl, Nat.le_of_ble_eq_true rfl⟩ ⟨Nat.le_refl _, Nat.le_refl _⟩ (fun H locs hw => ?_)
      refine lv_if_ne (tgt := 29) hx hb dX12_taken_24 (by decide) (fun hc => ?_) (fun hc => ?_)
      · have hf := ifF hf hc
        exact wj1 _ _ _ _ hf hw (lv_sub hl [0, 1, 2] rfl)
      · have hf := ifT hf hc
        refine lv_iconst (v := (-1)) hx hb dX12_taken_27 (by decide) ?_
        have hf := Option.some.inj hf
        subst hf
        exact hR _ _ _ _ _ _ hw rfl ⟨rfl, rfl⟩ dX12_taken_28
theorem dX12_starts_0 : decode cX12_starts 0 = .ok (.aload_n 0, 1) := by decide +kernel
theorem dX12_starts_1 : decode cX12_starts 1 = .ok (.getfield 346, 3) := by decide +kernel
theorem dX12_starts_4 : decode cX12_starts 4 = .ok (.bipush 30, 2) := by decide +kernel
theorem dX12_starts_6 : decode cX12_starts 6 = .ok (.if_icmp .ge 23, 3) := by decide +kernel
theorem dX12_starts_9 : decode cX12_starts 9 = .ok (.aload_n 0, 1) := by decide +kernel
theorem dX12_starts_10 : decode cX12_starts 10 = .ok (.getfield 68, 3) := by decide +kernel
theorem dX12_starts_13 : decode cX12_starts 13 = .ok (.aload_n 0, 1) := by decide +kernel
theorem dX12_starts_14 : decode cX12_starts 14 = .ok (.getfield 346, 3) := by decide +kernel
theorem dX12_starts_17 : decode cX12_starts 17 = .ok (.iload_n 1, 1) := by decide +kernel
theorem dX12_starts_18 : decode cX12_starts 18 = .ok (.iastore, 1) := by decide +kernel
theorem dX12_starts_19 : decode cX12_starts 19 = .ok (.aload_n 0, 1) := by decide +kernel
theorem dX12_starts_20 : decode cX12_starts 20 = .ok (.dup, 1) := by decide +kernel
theorem dX12_starts_21 : decode cX12_starts 21 = .ok (.getfield 346, 3) := by decide +kernel
theorem dX12_starts_24 : decode cX12_starts 24 = .ok (.iconst 1, 1) := by decide +kernel
theorem dX12_starts_25 : decode cX12_starts 25 = .ok (.iadd, 1) := by decide +kernel
theorem dX12_starts_26 : decode cX12_starts 26 = .ok (.putfield 346, 3) := by decide +kernel
theorem dX12_starts_29 : decode cX12_starts 29 = .ok (.return_, 1) := by decide +kernel
theorem k_X12_starts : MV yX12_starts cX12_starts 2 none 1 := ⟨q_1685, qs_91, q_14, q_1686, ⟨by decide, by decide, by decide +kernel⟩⟩
theorem c_X12_starts {res : (Nat → Int32) × Int32} (hf : X12_starts x_trace x_traced v1 = some res) : MC l E0 D t yX12_starts cX12_starts 2 none 1 0 0 [.ref (a 0), .int v1] (mW a t x_s x_kept x_laid x_isKept x_pile x_tape x_taped x_letters x_at x_begun x_token x_value x_opened x_steps x_code0 x_read x_saved x_plan x_bestPlan x_most x_many x_few x_everRight x_lagThen x_shadedThen x_firstFit x_rows x_rowMany x_sorts x_sizes x_number x_holds x_heldOne x_trace x_traced x_own x_isParted) (Qn (mW a t x_s x_kept x_laid x_isKept x_pile x_tape x_taped x_letters x_at x_begun x_token x_value x_opened x_steps x_code0 x_read x_saved x_plan x_bestPlan x_most x_many x_few x_everRight x_lagThen x_shadedThen x_firstFit x_rows x_rowMany x_sorts x_sizes x_number x_holds x_heldOne res.1 res.2 x_own x_isParted)) := by
  unfold X12_starts at hf
  refine MC.ofV pn_X12 (Nat.le_of_ble_eq_true rfl) ?_
  intro p e s m args below meth c A Q ls cx hR hw hl
  have hx := cx.1
  have hb := cx.2.1
  have hl : lv_has ls 2 [(0, .ref (a 0)), (1, .int v1)] := hl
  refine lv_aload_n hx hb dX12_starts_0 rfl (lv_at hl 0 rfl) ?_
  refine mg_traced cx hw dX12_starts_1 ?_
  refine lv_bipush (v := 30) hx hb dX12_starts_4 (by decide) ?_
  refine lv_icmp_ge (tgt := 29) hx hb dX12_starts_6 (by decide) (fun hc => ?_) (fun hc => ?_)
  · have hf := ifT hf hc
    have hf := Option.some.inj hf
    subst hf
    exact hR _ _ _ _ _ hw ⟨rfl, rfl⟩ dX12_starts_29
  · have hf := ifF hf hc
    refine lv_aload_n hx hb dX12_starts_9 rfl (lv_at hl 0 rfl) ?_
    refine mg_trace cx hw dX12_starts_10 ?_
    refine lv_aload_n hx hb dX12_starts_13 rfl (lv_at hl 0 rfl) ?_
    refine mg_traced cx hw dX12_starts_14 ?_
    refine lv_iload_n hx hb dX12_starts_17 rfl (lv_at hl 1 rfl) ?_
    obtain ⟨h1, hf⟩ := ckS hf
    refine ms_trace (j := x_traced.toNatClampNeg) cx hw (ib_in h1) rfl dX12_starts_18 (fun H locs hw => ?_)
    refine lv_aload_n hx hb dX12_starts_19 rfl (lv_at hl 0 rfl) ?_
    refine lv_dup hx hb dX12_starts_20 rfl ?_
    refine mg_traced cx hw dX12_starts_21 ?_
    refine lv_iconst (v := 1) hx hb dX12_starts_24 (by decide) ?_
    refine lv_iadd hx hb dX12_starts_25 ?_
    refine mp_traced cx hw dX12_starts_26 (fun H locs hw => ?_)
    have hf := Option.some.inj hf
    subst hf
    exact hR _ _ _ _ _ hw ⟨rfl, rfl⟩ dX12_starts_29
theorem dX12_trace_0 : decode cX12_trace 0 = .ok (.iload_n 1, 1) := by decide +kernel
theorem dX12_trace_1 : decode cX12_trace 1 = .ok (.iconst 0, 1) := by decide +kernel
theorem dX12_trace_2 : decode cX12_trace 2 = .ok (.aload_n 0, 1) := by decide +kernel
theorem dX12_trace_3 : decode cX12_trace 3 = .ok (.getfield 346, 3) := by decide +kernel
theorem dX12_trace_6 : decode cX12_trace 6 = .ok (.iconst 1, 1) := by decide +kernel
theorem dX12_trace_7 : decode cX12_trace 7 = .ok (.isub, 1) := by decide +kernel
theorem dX12_trace_8 : decode cX12_trace 8 = .ok (.invokestatic 71, 3) := by decide +kernel
theorem dX12_trace_11 : decode cX12_trace 11 = .ok (.ifCond .eq 12, 3) := by decide +kernel
theorem dX12_trace_14 : decode cX12_trace 14 = .ok (.aload_n 0, 1) := by decide +kernel
theorem dX12_trace_15 : decode cX12_trace 15 = .ok (.getfield 68, 3) := by decide +kernel
theorem dX12_trace_18 : decode cX12_trace 18 = .ok (.iload_n 1, 1) := by decide +kernel
theorem dX12_trace_19 : decode cX12_trace 19 = .ok (.iaload, 1) := by decide +kernel
theorem dX12_trace_20 : decode cX12_trace 20 = .ok (.goto 5, 3) := by decide +kernel
theorem dX12_trace_23 : decode cX12_trace 23 = .ok (.bipush (-3), 2) := by decide +kernel
theorem dX12_trace_25 : decode cX12_trace 25 = .ok (.ireturn, 1) := by decide +kernel
theorem k_X12_trace : MV yX12_trace cX12_trace 2 (some .int) 1 := ⟨q_1700, q_1701, q_14, q_1702, ⟨by decide, by decide, by decide +kernel⟩⟩
theorem c_X12_trace {res : Int32} (hf : X12_trace x_trace x_traced v1 = some res) : MC l E0 D t yX12_trace cX12_trace 2 (some .int) 2 0 0 [.ref (a 0), .int v1] (mW a t x_s x_kept x_laid x_isKept x_pile x_tape x_taped x_letters x_at x_begun x_token x_value x_opened x_steps x_code0 x_read x_saved x_plan x_bestPlan x_most x_many x_few x_everRight x_lagThen x_shadedThen x_firstFit x_rows x_rowMany x_sorts x_sizes x_number x_holds x_heldOne x_trace x_traced x_own x_isParted) (Qi res (mW a t x_s x_kept x_laid x_isKept x_pile x_tape x_taped x_letters x_at x_begun x_token x_value x_opened x_steps x_code0 x_read x_saved x_plan x_bestPlan x_most x_many x_few x_everRight x_lagThen x_shadedThen x_firstFit x_rows x_rowMany x_sorts x_sizes x_number x_holds x_heldOne x_trace x_traced x_own x_isParted)) := by
  unfold X12_trace at hf
  refine MC.ofI pn_X12 (Nat.le_of_ble_eq_true rfl) ?_
  intro p e s m args below meth c A Q ls cx hR hw hl
  have hx := cx.1
  have hb := cx.2.1
  have hl : lv_has ls 2 [(0, .ref (a 0)), (1, .int v1)] := hl
  refine lv_iload_n hx hb dX12_trace_0 rfl (lv_at hl 1 rfl) ?_
  refine lv_iconst (v := 0) hx hb dX12_trace_1 (by decide) ?_
  refine lv_aload_n hx hb dX12_trace_2 rfl (lv_at hl 0 rfl) ?_
  refine mg_traced cx hw dX12_trace_3 ?_
  refine lv_iconst (v := 1) hx hb dX12_trace_6 (by decide) ?_
  refine lv_isub hx hb dX12_trace_7 ?_
  refine calSi cx hw hl.1 (c_X12_in1 rfl) q_1214 k_X12_in1 rfl dX12_trace_8 rfl (Nat.le_of_ble_eq_true rfl) ⟨Nat.le_of_ble_eq_true rfl, Nat.le_of_ble_eq_true rfl⟩ ⟨Nat.le_refl _, Nat.le_refl _⟩ (fun H locs hw => ?_)
  refine lv_if_eq (tgt := 23) hx hb dX12_trace_11 (by decide) (fun hc => ?_) (fun hc => ?_)
  · have hf := ifT hf hc
    refine lv_bipush (v := (-3)) hx hb dX12_trace_23 (by decide) ?_
    have hf := Option.some.inj hf
    subst hf
    exact hR _ _ _ _ _ _ hw rfl ⟨rfl, rfl⟩ dX12_trace_25
  · have hf := ifF hf hc
    refine lv_aload_n hx hb dX12_trace_14 rfl (lv_at hl 0 rfl) ?_
    refine mg_trace cx hw dX12_trace_15 ?_
    refine lv_iload_n hx hb dX12_trace_18 rfl (lv_at hl 1 rfl) ?_
    obtain ⟨h1, hf⟩ := ckS hf
    refine ml_trace (j := v1.toNatClampNeg) cx hw (ib_in h1) rfl dX12_trace_19 ?_
    refine lv_goto (tgt := 25) hx hb dX12_trace_20 (by decide) ?_
    have hf := Option.some.inj hf
    subst hf
    exact hR _ _ _ _ _ _ hw rfl ⟨rfl, rfl⟩ dX12_trace_25
theorem dX12_ones_0 : decode cX12_ones 0 = .ok (.iconst 0, 1) := by decide +kernel
theorem dX12_ones_1 : decode cX12_ones 1 = .ok (.istore_n 1, 1) := by decide +kernel
theorem dX12_ones_2 : decode cX12_ones 2 = .ok (.iload_n 0, 1) := by decide +kernel
theorem dX12_ones_3 : decode cX12_ones 3 = .ok (.istore_n 2, 1) := by decide +kernel
theorem dX12_ones_4 : decode cX12_ones 4 = .ok (.iload_n 2, 1) := by decide +kernel
theorem dX12_ones_5 : decode cX12_ones 5 = .ok (.ifCond .eq 15, 3) := by decide +kernel
theorem dX12_ones_8 : decode cX12_ones 8 = .ok (.iinc 1 1, 3) := by decide +kernel
theorem dX12_ones_11 : decode cX12_ones 11 = .ok (.iload_n 2, 1) := by decide +kernel
theorem dX12_ones_12 : decode cX12_ones 12 = .ok (.iload_n 2, 1) := by decide +kernel
theorem dX12_ones_13 : decode cX12_ones 13 = .ok (.iconst 1, 1) := by decide +kernel
theorem dX12_ones_14 : decode cX12_ones 14 = .ok (.isub, 1) := by decide +kernel
theorem dX12_ones_15 : decode cX12_ones 15 = .ok (.iand, 1) := by decide +kernel
theorem dX12_ones_16 : decode cX12_ones 16 = .ok (.istore_n 2, 1) := by decide +kernel
theorem dX12_ones_17 : decode cX12_ones 17 = .ok (.goto (-13), 3) := by decide +kernel
theorem dX12_ones_20 : decode cX12_ones 20 = .ok (.iload_n 1, 1) := by decide +kernel
theorem dX12_ones_21 : decode cX12_ones 21 = .ok (.ireturn, 1) := by decide +kernel
theorem k_X12_ones : MS yX12_ones cX12_ones 3 (some .int) 1 := ⟨q_1708, q_14, q_1709, ⟨by decide, by decide, by decide +kernel⟩⟩
theorem c_X12_ones {res : Int32} (hf : X12_ones n v0 = some res) : MC l E0 D t yX12_ones cX12_ones 3 (some .int) 1 0 0 [.int v0] (mW a t x_s x_kept x_laid x_isKept x_pile x_tape x_taped x_letters x_at x_begun x_token x_value x_opened x_steps x_code0 x_read x_saved x_plan x_bestPlan x_most x_many x_few x_everRight x_lagThen x_shadedThen x_firstFit x_rows x_rowMany x_sorts x_sizes x_number x_holds x_heldOne x_trace x_traced x_own x_isParted) (Qi res (mW a t x_s x_kept x_laid x_isKept x_pile x_tape x_taped x_letters x_at x_begun x_token x_value x_opened x_steps x_code0 x_read x_saved x_plan x_bestPlan x_most x_many x_few x_everRight x_lagThen x_shadedThen x_firstFit x_rows x_rowMany x_sorts x_sizes x_number x_holds x_heldOne x_trace x_traced x_own x_isParted)) := by
  unfold X12_ones at hf
  refine MC.ofI pn_X12 (Nat.le_of_ble_eq_true rfl) ?_
  intro p e s m args below meth c A Q ls cx hR hw hl
  have hx := cx.1
  have hb := cx.2.1
  have hl : lv_has ls 3 [(0, .int v0)] := hl
  refine lv_iconst (v := 0) hx hb dX12_ones_0 (by decide) ?_
  refine lv_istore_n (lv' := [(1, .int (0 : Int32)), (0, .int v0)]) hx hb dX12_ones_1 rfl hl (by decide) rfl (fun ls hl => ?_)
  refine lv_iload_n hx hb dX12_ones_2 rfl (lv_at hl 1 rfl) ?_
  refine lv_istore_n (lv' := [(2, .int v0), (1, .int (0 : Int32)), (0, .int v0)]) hx hb dX12_ones_3 rfl hl (by decide) rfl (fun ls hl => ?_)
  obtain ⟨o1, ho1, hf⟩ := bnS hf
  have wL1 : ∀ (k : Nat) {v0 : Int32} {v1 : Int32} {v2 : Int32} {H : Heap} {locs : List Loc} {ls : Array Slot} {o : Int32 × Int32}, X12_ones_L1 n k v1 v2 = some o → Wd D A s (mW a t x_s x_kept x_laid x_isKept x_pile x_tape x_taped x_letters x_at x_begun x_token x_value x_opened x_steps x_code0 x_read x_saved x_plan x_bestPlan x_most x_many x_few x_everRight x_lagThen x_shadedThen x_firstFit x_rows x_rowMany x_sorts x_sizes x_number x_holds x_heldOne x_trace x_traced x_own x_isParted) H locs → lv_has ls 3 [(0, .int v0), (1, .int v1), (2, .int v2)] → (∀ (H : Heap) (locs : List Loc) (ls : Array Slot), Wd D A s (mW a t x_s x_kept x_laid x_isKept x_pile x_tape x_taped x_letters x_at x_begun x_token x_value x_opened x_steps x_code0 x_read x_saved x_plan x_bestPlan x_most x_many x_few x_everRight x_lagThen x_shadedThen x_firstFit x_rows x_rowMany x_sorts x_sizes x_number x_holds x_heldOne x_trace x_traced x_own x_isParted) H locs → lv_has ls 3 [(0, .int v0), (1, .int o.1), (2, .int o.2)] → W p l e (rmz 1 0 0) s m args below meth c H locs 0 0 Q (F0 m 20 ls [])) → W p l e (rmz 1 0 0) s m args below meth c H locs 0 0 Q (F0 m 4 ls []) := by
    clear hf ho1 hw hl
    intro k
    induction k with
    | zero => intro v0 v1 v2 H locs ls o hf hw hl kx; simp [X12_ones_L1] at hf
    | succ k ih =>
      intro v0 v1 v2 H locs ls o hf hw hl kx
      rw [X12_ones_L1] at hf
      refine lv_iload_n hx hb dX12_ones_4 rfl (lv_at hl 2 rfl) ?_
      refine lv_if_eq (tgt := 20) hx hb dX12_ones_5 (by decide) (fun hc => ?_) (fun hc => ?_)
      · have hf := ifT hf hc
        have hf := Option.some.inj hf
        subst hf
        exact kx _ _ _ hw (lv_sub hl [0, 1, 2] rfl)
      · have hf := ifF hf hc
        refine lv_iinc (v := (v1 + (1 : Int32))) (lv' := [(1, .int (v1 + (1 : Int32))), (0, .int v0), (2, .int v2)]) hx hb dX12_ones_8 hl (k := 1) rfl rfl (by decide) rfl (fun ls hl => ?_)
        refine lv_iload_n hx hb dX12_ones_11 rfl (lv_at hl 2 rfl) ?_
        refine lv_iload_n hx hb dX12_ones_12 rfl (lv_at hl 2 rfl) ?_
        refine lv_iconst (v := 1) hx hb dX12_ones_13 (by decide) ?_
        refine lv_isub hx hb dX12_ones_14 ?_
        refine lv_iand hx hb dX12_ones_15 ?_
        refine lv_istore_n (lv' := [(2, .int (v2 &&& (v2 - (1 : Int32)))), (1, .int (v1 + (1 : Int32))), (0, .int v0)]) hx hb dX12_ones_16 rfl hl (by decide) rfl (fun ls hl => ?_)
        refine lv_goto (tgt := 4) hx hb dX12_ones_17 (by decide) ?_
        exact ih hf hw (lv_sub hl [2, 1, 0] rfl) kx
  refine wL1 n ho1 hw (lv_sub hl [2, 1, 0] rfl) (fun H locs ls hw hl => ?_)
  clear wL1 ho1
  refine lv_iload_n hx hb dX12_ones_20 rfl (lv_at hl 1 rfl) ?_
  have hf := Option.some.inj hf
  subst hf
  exact hR _ _ _ _ _ _ hw rfl ⟨rfl, rfl⟩ dX12_ones_21
theorem dX12_many_0 : decode cX12_many 0 = .ok (.iload_n 1, 1) := by decide +kernel
theorem dX12_many_1 : decode cX12_many 1 = .ok (.tableswitch 89 0 6 #[43, 50, 57, 66, 74, 79, 84], 43) := by decide +kernel
theorem dX12_many_44 : decode cX12_many 44 = .ok (.aload_n 0, 1) := by decide +kernel
theorem dX12_many_45 : decode cX12_many 45 = .ok (.getfield 9, 3) := by decide +kernel
theorem dX12_many_48 : decode cX12_many 48 = .ok (.iconst 4, 1) := by decide +kernel
theorem dX12_many_49 : decode cX12_many 49 = .ok (.iaload, 1) := by decide +kernel
theorem dX12_many_50 : decode cX12_many 50 = .ok (.ireturn, 1) := by decide +kernel
theorem dX12_many_51 : decode cX12_many 51 = .ok (.aload_n 0, 1) := by decide +kernel
theorem dX12_many_52 : decode cX12_many 52 = .ok (.getfield 9, 3) := by decide +kernel
theorem dX12_many_55 : decode cX12_many 55 = .ok (.iconst 5, 1) := by decide +kernel
theorem dX12_many_56 : decode cX12_many 56 = .ok (.iaload, 1) := by decide +kernel
theorem dX12_many_57 : decode cX12_many 57 = .ok (.ireturn, 1) := by decide +kernel
theorem dX12_many_58 : decode cX12_many 58 = .ok (.aload_n 0, 1) := by decide +kernel
theorem dX12_many_59 : decode cX12_many 59 = .ok (.iconst 4, 1) := by decide +kernel
theorem dX12_many_60 : decode cX12_many 60 = .ok (.invokevirtual 240, 3) := by decide +kernel
theorem dX12_many_63 : decode cX12_many 63 = .ok (.invokestatic 371, 3) := by decide +kernel
theorem dX12_many_66 : decode cX12_many 66 = .ok (.ireturn, 1) := by decide +kernel
theorem dX12_many_67 : decode cX12_many 67 = .ok (.aload_n 0, 1) := by decide +kernel
theorem dX12_many_68 : decode cX12_many 68 = .ok (.getfield 9, 3) := by decide +kernel
theorem dX12_many_71 : decode cX12_many 71 = .ok (.bipush 6, 2) := by decide +kernel
theorem dX12_many_73 : decode cX12_many 73 = .ok (.iaload, 1) := by decide +kernel
theorem dX12_many_74 : decode cX12_many 74 = .ok (.ireturn, 1) := by decide +kernel
theorem dX12_many_75 : decode cX12_many 75 = .ok (.aload_n 0, 1) := by decide +kernel
theorem dX12_many_76 : decode cX12_many 76 = .ok (.getfield 322, 3) := by decide +kernel
theorem dX12_many_79 : decode cX12_many 79 = .ok (.ireturn, 1) := by decide +kernel
theorem dX12_many_80 : decode cX12_many 80 = .ok (.aload_n 0, 1) := by decide +kernel
theorem dX12_many_81 : decode cX12_many 81 = .ok (.getfield 128, 3) := by decide +kernel
theorem dX12_many_84 : decode cX12_many 84 = .ok (.ireturn, 1) := by decide +kernel
theorem dX12_many_85 : decode cX12_many 85 = .ok (.aload_n 0, 1) := by decide +kernel
theorem dX12_many_86 : decode cX12_many 86 = .ok (.getfield 346, 3) := by decide +kernel
theorem dX12_many_89 : decode cX12_many 89 = .ok (.ireturn, 1) := by decide +kernel
theorem dX12_many_90 : decode cX12_many 90 = .ok (.iconst (-1), 1) := by decide +kernel
theorem dX12_many_91 : decode cX12_many 91 = .ok (.ireturn, 1) := by decide +kernel
theorem k_X12_many : MV yX12_many cX12_many 2 (some .int) 1 := ⟨q_1704, q_1705, q_14, q_1706, ⟨by decide, by decide, by decide +kernel⟩⟩
theorem c_X12_many {res : Int32} (hf : X12_many n x_s x_taped x_rowMany x_traced v1 = some res) : MC l E0 D t yX12_many cX12_many 2 (some .int) 3 0 0 [.ref (a 0), .int v1] (mW a t x_s x_kept x_laid x_isKept x_pile x_tape x_taped x_letters x_at x_begun x_token x_value x_opened x_steps x_code0 x_read x_saved x_plan x_bestPlan x_most x_many x_few x_everRight x_lagThen x_shadedThen x_firstFit x_rows x_rowMany x_sorts x_sizes x_number x_holds x_heldOne x_trace x_traced x_own x_isParted) (Qi res (mW a t x_s x_kept x_laid x_isKept x_pile x_tape x_taped x_letters x_at x_begun x_token x_value x_opened x_steps x_code0 x_read x_saved x_plan x_bestPlan x_most x_many x_few x_everRight x_lagThen x_shadedThen x_firstFit x_rows x_rowMany x_sorts x_sizes x_number x_holds x_heldOne x_trace x_traced x_own x_isParted)) := by
  unfold X12_many at hf
  refine MC.ofI pn_X12 (Nat.le_of_ble_eq_true rfl) ?_
  intro p e s m args below meth c A Q ls cx hR hw hl
  have hx := cx.1
  have hb := cx.2.1
  have hl : lv_has ls 2 [(0, .ref (a 0)), (1, .int v1)] := hl
  refine lv_iload_n hx hb dX12_many_0 rfl (lv_at hl 1 rfl) ?_
  by_cases hc0 : v1 = (0 : Int32)
  · have hf := ifT hf hc0
    refine lv_tableIn (tgt := 44) hx hb dX12_many_1 (by rw [hc0]; decide) (by rw [hc0]; decide) (by rw [hc0]; rfl) (by decide) ?_
    refine lv_aload_n hx hb dX12_many_44 rfl (lv_at hl 0 rfl) ?_
    refine mg_s cx hw dX12_many_45 ?_
    refine lv_iconst (v := 4) hx hb dX12_many_48 (by decide) ?_
    refine ml_s (j := 4) cx hw (ib_in (by decide)) (by decide) dX12_many_49 ?_
    have hf := Option.some.inj hf
    subst hf
    exact hR _ _ _ _ _ _ hw rfl ⟨rfl, rfl⟩ dX12_many_50
  · have hf := ifF hf hc0
    by_cases hc1 : v1 = (1 : Int32)
    · have hf := ifT hf hc1
      refine lv_tableIn (tgt := 51) hx hb dX12_many_1 (by rw [hc1]; decide) (by rw [hc1]; decide) (by rw [hc1]; rfl) (by decide) ?_
      refine lv_aload_n hx hb dX12_many_51 rfl (lv_at hl 0 rfl) ?_
      refine mg_s cx hw dX12_many_52 ?_
      refine lv_iconst (v := 5) hx hb dX12_many_55 (by decide) ?_
      refine ml_s (j := 5) cx hw (ib_in (by decide)) (by decide) dX12_many_56 ?_
      have hf := Option.some.inj hf
      subst hf
      exact hR _ _ _ _ _ _ hw rfl ⟨rfl, rfl⟩ dX12_many_57
    · have hf := ifF hf hc1
      by_cases hc2 : v1 = (2 : Int32)
      · have hf := ifT hf hc2
        refine lv_tableIn (tgt := 58) hx hb dX12_many_1 (by rw [hc2]; decide) (by rw [hc2]; decide) (by rw [hc2]; rfl) (by decide) ?_
        refine lv_aload_n hx hb dX12_many_58 rfl (lv_at hl 0 rfl) ?_
        refine lv_iconst (v := 4) hx hb dX12_many_59 (by decide) ?_
        obtain ⟨r1, h2, hf⟩ := bnS hf
        refine calVi (k := 0) cx hw hl.1 (c_X12_those h2) q_1399 k_X12_those rfl rfl rfl dX12_many_60 rfl (Nat.le_of_ble_eq_true rfl) ⟨Nat.le_of_ble_eq_true rfl, Nat.le_of_ble_eq_true rfl⟩ ⟨Nat.le_refl _, Nat.le_refl _⟩ (fun H locs hw => ?_)
        obtain ⟨r3, h4, hf⟩ := bnS hf
        refine calSi cx hw hl.1 (c_X12_ones h4) q_1707 k_X12_ones rfl dX12_many_63 rfl (Nat.le_of_ble_eq_true rfl) ⟨Nat.le_of_ble_eq_true rfl, Nat.le_of_ble_eq_true rfl⟩ ⟨Nat.le_refl _, Nat.le_refl _⟩ (fun H locs hw => ?_)
        have hf := Option.some.inj hf
        subst hf
        exact hR _ _ _ _ _ _ hw rfl ⟨rfl, rfl⟩ dX12_many_66
      · have hf := ifF hf hc2
        by_cases hc3 : v1 = (3 : Int32)
        · have hf := ifT hf hc3
          refine lv_tableIn (tgt := 67) hx hb dX12_many_1 (by rw [hc3]; decide) (by rw [hc3]; decide) (by rw [hc3]; rfl) (by decide) ?_
          refine lv_aload_n hx hb dX12_many_67 rfl (lv_at hl 0 rfl) ?_
          refine mg_s cx hw dX12_many_68 ?_
          refine lv_bipush (v := 6) hx hb dX12_many_71 (by decide) ?_
          refine ml_s (j := 6) cx hw (ib_in (by decide)) (by decide) dX12_many_73 ?_
          have hf := Option.some.inj hf
          subst hf
          exact hR _ _ _ _ _ _ hw rfl ⟨rfl, rfl⟩ dX12_many_74
        · have hf := ifF hf hc3
          by_cases hc4 : v1 = (4 : Int32)
          · have hf := ifT hf hc4
            refine lv_tableIn (tgt := 75) hx hb dX12_many_1 (by rw [hc4]; decide) (by rw [hc4]; decide) (by rw [hc4]; rfl) (by decide) ?_
            refine lv_aload_n hx hb dX12_many_75 rfl (lv_at hl 0 rfl) ?_
            refine mg_rowMany cx hw dX12_many_76 ?_
            have hf := Option.some.inj hf
            subst hf
            exact hR _ _ _ _ _ _ hw rfl ⟨rfl, rfl⟩ dX12_many_79
          · have hf := ifF hf hc4
            by_cases hc5 : v1 = (5 : Int32)
            · have hf := ifT hf hc5
              refine lv_tableIn (tgt := 80) hx hb dX12_many_1 (by rw [hc5]; decide) (by rw [hc5]; decide) (by rw [hc5]; rfl) (by decide) ?_
              refine lv_aload_n hx hb dX12_many_80 rfl (lv_at hl 0 rfl) ?_
              refine mg_taped cx hw dX12_many_81 ?_
              have hf := Option.some.inj hf
              subst hf
              exact hR _ _ _ _ _ _ hw rfl ⟨rfl, rfl⟩ dX12_many_84
            · have hf := ifF hf hc5
              by_cases hc6 : v1 = (6 : Int32)
              · have hf := ifT hf hc6
                refine lv_tableIn (tgt := 85) hx hb dX12_many_1 (by rw [hc6]; decide) (by rw [hc6]; decide) (by rw [hc6]; rfl) (by decide) ?_
                refine lv_aload_n hx hb dX12_many_85 rfl (lv_at hl 0 rfl) ?_
                refine mg_traced cx hw dX12_many_86 ?_
                have hf := Option.some.inj hf
                subst hf
                exact hR _ _ _ _ _ _ hw rfl ⟨rfl, rfl⟩ dX12_many_89
              · have hf := ifF hf hc6
                refine lv_tableOut (tgt := 90) hx hb dX12_many_1 (by have h0 := lv_neT hc0 (a := 0) (by decide); have h1 := lv_neT hc1 (a := 1) (by decide); have h2 := lv_neT hc2 (a := 2) (by decide); have h3 := lv_neT hc3 (a := 3) (by decide); have h4 := lv_neT hc4 (a := 4) (by decide); have h5 := lv_neT hc5 (a := 5) (by decide); have h6 := lv_neT hc6 (a := 6) (by decide); omega) (by decide) ?_
                refine lv_iconst (v := (-1)) hx hb dX12_many_90 (by decide) ?_
                have hf := Option.some.inj hf
                subst hf
                exact hR _ _ _ _ _ _ hw rfl ⟨rfl, rfl⟩ dX12_many_91
theorem dX12_keep_0 : decode cX12_keep 0 = .ok (.iconst 0, 1) := by decide +kernel
theorem dX12_keep_1 : decode cX12_keep 1 = .ok (.istore_n 1, 1) := by decide +kernel
theorem dX12_keep_2 : decode cX12_keep 2 = .ok (.iload_n 1, 1) := by decide +kernel
theorem dX12_keep_3 : decode cX12_keep 3 = .ok (.sipush 313, 3) := by decide +kernel
theorem dX12_keep_6 : decode cX12_keep 6 = .ok (.if_icmp .ge 21, 3) := by decide +kernel
theorem dX12_keep_9 : decode cX12_keep 9 = .ok (.aload_n 0, 1) := by decide +kernel
theorem dX12_keep_10 : decode cX12_keep 10 = .ok (.getfield 13, 3) := by decide +kernel
theorem dX12_keep_13 : decode cX12_keep 13 = .ok (.iload_n 1, 1) := by decide +kernel
theorem dX12_keep_14 : decode cX12_keep 14 = .ok (.aload_n 0, 1) := by decide +kernel
theorem dX12_keep_15 : decode cX12_keep 15 = .ok (.getfield 9, 3) := by decide +kernel
theorem dX12_keep_18 : decode cX12_keep 18 = .ok (.iload_n 1, 1) := by decide +kernel
theorem dX12_keep_19 : decode cX12_keep 19 = .ok (.iaload, 1) := by decide +kernel
theorem dX12_keep_20 : decode cX12_keep 20 = .ok (.iastore, 1) := by decide +kernel
theorem dX12_keep_21 : decode cX12_keep 21 = .ok (.iinc 1 1, 3) := by decide +kernel
theorem dX12_keep_24 : decode cX12_keep 24 = .ok (.goto (-22), 3) := by decide +kernel
theorem dX12_keep_27 : decode cX12_keep 27 = .ok (.aload_n 0, 1) := by decide +kernel
theorem dX12_keep_28 : decode cX12_keep 28 = .ok (.iconst 1, 1) := by decide +kernel
theorem dX12_keep_29 : decode cX12_keep 29 = .ok (.putfield 374, 3) := by decide +kernel
theorem dX12_keep_32 : decode cX12_keep 32 = .ok (.iconst 1, 1) := by decide +kernel
theorem dX12_keep_33 : decode cX12_keep 33 = .ok (.ireturn, 1) := by decide +kernel
theorem k_X12_keep : MV yX12_keep cX12_keep 2 (some .int) 0 := ⟨q_1711, q_1712, q_14, q_1713, ⟨by decide, by decide, by decide +kernel⟩⟩
theorem c_X12_keep {res : Int32 × (Nat → Int32) × Int32} (hf : X12_keep n x_s x_kept = some res) : MC l E0 D t yX12_keep cX12_keep 2 (some .int) 1 0 0 [.ref (a 0)] (mW a t x_s x_kept x_laid x_isKept x_pile x_tape x_taped x_letters x_at x_begun x_token x_value x_opened x_steps x_code0 x_read x_saved x_plan x_bestPlan x_most x_many x_few x_everRight x_lagThen x_shadedThen x_firstFit x_rows x_rowMany x_sorts x_sizes x_number x_holds x_heldOne x_trace x_traced x_own x_isParted) (Qi res.1 (mW a t x_s res.2.1 x_laid res.2.2 x_pile x_tape x_taped x_letters x_at x_begun x_token x_value x_opened x_steps x_code0 x_read x_saved x_plan x_bestPlan x_most x_many x_few x_everRight x_lagThen x_shadedThen x_firstFit x_rows x_rowMany x_sorts x_sizes x_number x_holds x_heldOne x_trace x_traced x_own x_isParted)) := by
  unfold X12_keep at hf
  refine MC.ofI pn_X12 (Nat.le_of_ble_eq_true rfl) ?_
  intro p e s m args below meth c A Q ls cx hR hw hl
  have hx := cx.1
  have hb := cx.2.1
  have hl : lv_has ls 2 [(0, .ref (a 0))] := hl
  refine lv_iconst (v := 0) hx hb dX12_keep_0 (by decide) ?_
  refine lv_istore_n (lv' := [(1, .int (0 : Int32)), (0, .ref (a 0))]) hx hb dX12_keep_1 rfl hl (by decide) rfl (fun ls hl => ?_)
  obtain ⟨o3, ho3, hf⟩ := bnS hf
  have wL1 : ∀ (k : Nat) {v1 : Int32} {x_kept : Nat → Int32} {H : Heap} {locs : List Loc} {ls : Array Slot} {o : Int32 × (Nat → Int32)}, X12_keep_L1 n x_s k v1 x_kept = some o → Wd D A s (mW a t x_s x_kept x_laid x_isKept x_pile x_tape x_taped x_letters x_at x_begun x_token x_value x_opened x_steps x_code0 x_read x_saved x_plan x_bestPlan x_most x_many x_few x_everRight x_lagThen x_shadedThen x_firstFit x_rows x_rowMany x_sorts x_sizes x_number x_holds x_heldOne x_trace x_traced x_own x_isParted) H locs → lv_has ls 2 [(0, .ref (a 0)), (1, .int v1)] → (∀ (H : Heap) (locs : List Loc) (ls : Array Slot), Wd D A s (mW a t x_s o.2 x_laid x_isKept x_pile x_tape x_taped x_letters x_at x_begun x_token x_value x_opened x_steps x_code0 x_read x_saved x_plan x_bestPlan x_most x_many x_few x_everRight x_lagThen x_shadedThen x_firstFit x_rows x_rowMany x_sorts x_sizes x_number x_holds x_heldOne x_trace x_traced x_own x_isParted) H locs → lv_has ls 2 [(0, .ref (a 0)), (1, .int o.1)] → W p l e (rmz 1 0 0) s m args below meth c H locs 0 0 Q (F0 m 27 ls [])) → W p l e (rmz 1 0 0) s m args below meth c H locs 0 0 Q (F0 m 2 ls []) := by
    clear hf ho3 hw hl
    intro k
    induction k with
    | zero => intro v1 x_kept H locs ls o hf hw hl kx; simp [X12_keep_L1] at hf
    | succ k ih =>
      intro v1 x_kept H locs ls o hf hw hl kx
      rw [X12_keep_L1] at hf
      refine lv_iload_n hx hb dX12_keep_2 rfl (lv_at hl 1 rfl) ?_
      refine lv_sipush (v := 313) hx hb dX12_keep_3 (by decide) ?_
      refine lv_icmp_ge (tgt := 27) hx hb dX12_keep_6 (by decide) (fun hc => ?_) (fun hc => ?_)
      · have hf := ifT hf hc
        have hf := Option.some.inj hf
        subst hf
        exact kx _ _ _ hw (lv_sub hl [0, 1] rfl)
      · have hf := ifF hf hc
        refine lv_aload_n hx hb dX12_keep_9 rfl (lv_at hl 0 rfl) ?_
        refine mg_kept cx hw dX12_keep_10 ?_
        refine lv_iload_n hx hb dX12_keep_13 rfl (lv_at hl 1 rfl) ?_
        refine lv_aload_n hx hb dX12_keep_14 rfl (lv_at hl 0 rfl) ?_
        refine mg_s cx hw dX12_keep_15 ?_
        refine lv_iload_n hx hb dX12_keep_18 rfl (lv_at hl 1 rfl) ?_
        obtain ⟨h1, hf⟩ := ckS hf
        refine ml_s (j := v1.toNatClampNeg) cx hw (ib_in h1) rfl dX12_keep_19 ?_
        obtain ⟨h2, hf⟩ := ckS hf
        refine ms_kept (j := v1.toNatClampNeg) cx hw (ib_in h2) rfl dX12_keep_20 (fun H locs hw => ?_)
        refine lv_iinc (v := (v1 + (1 : Int32))) (lv' := [(1, .int (v1 + (1 : Int32))), (0, .ref (a 0))]) hx hb dX12_keep_21 hl (k := 1) rfl rfl (by decide) rfl (fun ls hl => ?_)
        refine lv_goto (tgt := 2) hx hb dX12_keep_24 (by decide) ?_
        exact ih hf hw (lv_sub hl [1, 0] rfl) kx
  refine wL1 n ho3 hw (lv_sub hl [1, 0] rfl) (fun H locs ls hw hl => ?_)
  clear wL1 ho3
  refine lv_aload_n hx hb dX12_keep_27 rfl (lv_at hl 0 rfl) ?_
  refine lv_iconst (v := 1) hx hb dX12_keep_28 (by decide) ?_
  refine mp_isKept cx hw (by decide) dX12_keep_29 (fun H locs hw => ?_)
  refine lv_iconst (v := 1) hx hb dX12_keep_32 (by decide) ?_
  have hf := Option.some.inj hf
  subst hf
  exact hR _ _ _ _ _ _ hw rfl ⟨rfl, rfl⟩ dX12_keep_33
theorem dX12_again_0 : decode cX12_again 0 = .ok (.aload_n 0, 1) := by decide +kernel
theorem dX12_again_1 : decode cX12_again 1 = .ok (.getfield 374, 3) := by decide +kernel
theorem dX12_again_4 : decode cX12_again 4 = .ok (.ifCond .ne 6, 3) := by decide +kernel
theorem dX12_again_7 : decode cX12_again 7 = .ok (.bipush (-3), 2) := by decide +kernel
theorem dX12_again_9 : decode cX12_again 9 = .ok (.ireturn, 1) := by decide +kernel
theorem dX12_again_10 : decode cX12_again 10 = .ok (.iconst 0, 1) := by decide +kernel
theorem dX12_again_11 : decode cX12_again 11 = .ok (.istore_n 1, 1) := by decide +kernel
theorem dX12_again_12 : decode cX12_again 12 = .ok (.iload_n 1, 1) := by decide +kernel
theorem dX12_again_13 : decode cX12_again 13 = .ok (.sipush 313, 3) := by decide +kernel
theorem dX12_again_16 : decode cX12_again 16 = .ok (.if_icmp .ge 21, 3) := by decide +kernel
theorem dX12_again_19 : decode cX12_again 19 = .ok (.aload_n 0, 1) := by decide +kernel
theorem dX12_again_20 : decode cX12_again 20 = .ok (.getfield 9, 3) := by decide +kernel
theorem dX12_again_23 : decode cX12_again 23 = .ok (.iload_n 1, 1) := by decide +kernel
theorem dX12_again_24 : decode cX12_again 24 = .ok (.aload_n 0, 1) := by decide +kernel
theorem dX12_again_25 : decode cX12_again 25 = .ok (.getfield 13, 3) := by decide +kernel
theorem dX12_again_28 : decode cX12_again 28 = .ok (.iload_n 1, 1) := by decide +kernel
theorem dX12_again_29 : decode cX12_again 29 = .ok (.iaload, 1) := by decide +kernel
theorem dX12_again_30 : decode cX12_again 30 = .ok (.iastore, 1) := by decide +kernel
theorem dX12_again_31 : decode cX12_again 31 = .ok (.iinc 1 1, 3) := by decide +kernel
theorem dX12_again_34 : decode cX12_again 34 = .ok (.goto (-22), 3) := by decide +kernel
theorem dX12_again_37 : decode cX12_again 37 = .ok (.aload_n 0, 1) := by decide +kernel
theorem dX12_again_38 : decode cX12_again 38 = .ok (.getfield 9, 3) := by decide +kernel
theorem dX12_again_41 : decode cX12_again 41 = .ok (.iconst 4, 1) := by decide +kernel
theorem dX12_again_42 : decode cX12_again 42 = .ok (.iaload, 1) := by decide +kernel
theorem dX12_again_43 : decode cX12_again 43 = .ok (.ireturn, 1) := by decide +kernel
theorem k_X12_again : MV yX12_again cX12_again 2 (some .int) 0 := ⟨q_1715, q_1716, q_14, q_1717, ⟨by decide, by decide, by decide +kernel⟩⟩
theorem c_X12_again {res : Int32 × (Nat → Int32)} (hf : X12_again n x_s x_kept x_isKept = some res) : MC l E0 D t yX12_again cX12_again 2 (some .int) 1 0 0 [.ref (a 0)] (mW a t x_s x_kept x_laid x_isKept x_pile x_tape x_taped x_letters x_at x_begun x_token x_value x_opened x_steps x_code0 x_read x_saved x_plan x_bestPlan x_most x_many x_few x_everRight x_lagThen x_shadedThen x_firstFit x_rows x_rowMany x_sorts x_sizes x_number x_holds x_heldOne x_trace x_traced x_own x_isParted) (Qi res.1 (mW a t res.2 x_kept x_laid x_isKept x_pile x_tape x_taped x_letters x_at x_begun x_token x_value x_opened x_steps x_code0 x_read x_saved x_plan x_bestPlan x_most x_many x_few x_everRight x_lagThen x_shadedThen x_firstFit x_rows x_rowMany x_sorts x_sizes x_number x_holds x_heldOne x_trace x_traced x_own x_isParted)) := by
  unfold X12_again at hf
  refine MC.ofI pn_X12 (Nat.le_of_ble_eq_true rfl) ?_
  intro p e s m args below meth c A Q ls cx hR hw hl
  have hx := cx.1
  have hb := cx.2.1
  have hl : lv_has ls 2 [(0, .ref (a 0))] := hl
  refine lv_aload_n hx hb dX12_again_0 rfl (lv_at hl 0 rfl) ?_
  refine mg_isKept cx hw dX12_again_1 ?_
  refine lv_if_ne (tgt := 10) hx hb dX12_again_4 (by decide) (fun hc => ?_) (fun hc => ?_)
  · have hf := ifF hf hc
    refine lv_iconst (v := 0) hx hb dX12_again_10 (by decide) ?_
    refine lv_istore_n (lv' := [(1, .int (0 : Int32)), (0, .ref (a 0))]) hx hb dX12_again_11 rfl hl (by decide) rfl (fun ls hl => ?_)
    obtain ⟨o3, ho3, hf⟩ := bnS hf
    have wL1 : ∀ (k : Nat) {v1 : Int32} {x_s : Nat → Int32} {H : Heap} {locs : List Loc} {ls : Array Slot} {o : Int32 × (Nat → Int32)}, X12_again_L1 n x_kept k v1 x_s = some o → Wd D A s (mW a t x_s x_kept x_laid x_isKept x_pile x_tape x_taped x_letters x_at x_begun x_token x_value x_opened x_steps x_code0 x_read x_saved x_plan x_bestPlan x_most x_many x_few x_everRight x_lagThen x_shadedThen x_firstFit x_rows x_rowMany x_sorts x_sizes x_number x_holds x_heldOne x_trace x_traced x_own x_isParted) H locs → lv_has ls 2 [(0, .ref (a 0)), (1, .int v1)] → (∀ (H : Heap) (locs : List Loc) (ls : Array Slot), Wd D A s (mW a t o.2 x_kept x_laid x_isKept x_pile x_tape x_taped x_letters x_at x_begun x_token x_value x_opened x_steps x_code0 x_read x_saved x_plan x_bestPlan x_most x_many x_few x_everRight x_lagThen x_shadedThen x_firstFit x_rows x_rowMany x_sorts x_sizes x_number x_holds x_heldOne x_trace x_traced x_own x_isParted) H locs → lv_has ls 2 [(0, .ref (a 0)), (1, .int o.1)] → W p l e (rmz 1 0 0) s m args below meth c H locs 0 0 Q (F0 m 37 ls [])) → W p l e (rmz 1 0 0) s m args below meth c H locs 0 0 Q (F0 m 12 ls []) := by
      clear hf ho3 hw hl
      intro k
      induction k with
      | zero => intro v1 x_s H locs ls o hf hw hl kx; simp [X12_again_L1] at hf
      | succ k ih =>
        intro v1 x_s H locs ls o hf hw hl kx
        rw [X12_again_L1] at hf
        refine lv_iload_n hx hb dX12_again_12 rfl (lv_at hl 1 rfl) ?_
        refine lv_sipush (v := 313) hx hb dX12_again_13 (by decide) ?_
        refine lv_icmp_ge (tgt := 37) hx hb dX12_again_16 (by decide) (fun hc => ?_) (fun hc => ?_)
        · have hf := ifT hf hc
          have hf := Option.some.inj hf
          subst hf
          exact kx _ _ _ hw (lv_sub hl [0, 1] rfl)
        · have hf := ifF hf hc
          refine lv_aload_n hx hb dX12_again_19 rfl (lv_at hl 0 rfl) ?_
          refine mg_s cx hw dX12_again_20 ?_
          refine lv_iload_n hx hb dX12_again_23 rfl (lv_at hl 1 rfl) ?_
          refine lv_aload_n hx hb dX12_again_24 rfl (lv_at hl 0 rfl) ?_
          refine mg_kept cx hw dX12_again_25 ?_
          refine lv_iload_n hx hb dX12_again_28 rfl (lv_at hl 1 rfl) ?_
          obtain ⟨h1, hf⟩ := ckS hf
          refine ml_kept (j := v1.toNatClampNeg) cx hw (ib_in h1) rfl dX12_again_29 ?_
          obtain ⟨h2, hf⟩ := ckS hf
          refine ms_s (j := v1.toNatClampNeg) cx hw (ib_in h2) rfl dX12_again_30 (fun H locs hw => ?_)
          refine lv_iinc (v := (v1 + (1 : Int32))) (lv' := [(1, .int (v1 + (1 : Int32))), (0, .ref (a 0))]) hx hb dX12_again_31 hl (k := 1) rfl rfl (by decide) rfl (fun ls hl => ?_)
          refine lv_goto (tgt := 12) hx hb dX12_again_34 (by decide) ?_
          exact ih hf hw (lv_sub hl [1, 0] rfl) kx
    refine wL1 n ho3 hw (lv_sub hl [1, 0] rfl) (fun H locs ls hw hl => ?_)
    clear wL1 ho3
    refine lv_aload_n hx hb dX12_again_37 rfl (lv_at hl 0 rfl) ?_
    refine mg_s cx hw dX12_again_38 ?_
    refine lv_iconst (v := 4) hx hb dX12_again_41 (by decide) ?_
    refine ml_s (j := 4) cx hw (ib_in (by decide)) (by decide) dX12_again_42 ?_
    have hf := Option.some.inj hf
    subst hf
    exact hR _ _ _ _ _ _ hw rfl ⟨rfl, rfl⟩ dX12_again_43
  · have hf := ifT hf hc
    refine lv_bipush (v := (-3)) hx hb dX12_again_7 (by decide) ?_
    have hf := Option.some.inj hf
    subst hf
    exact hR _ _ _ _ _ _ hw rfl ⟨rfl, rfl⟩ dX12_again_9
end MW6
