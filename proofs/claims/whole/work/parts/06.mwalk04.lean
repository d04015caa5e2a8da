section MW4
variable {l : Launch} {D : va_G} {t : Nat → ClassId} {a : Nat → Nat} {n : Nat} {x_s : Nat → Int32} {x_kept : Nat → Int32} {x_laid : Nat → Int32} {x_isKept : Int32} {x_pile : Nat → Int32} {x_tape : Nat → Int32} {x_taped : Int32} {x_letters : Nat → Int32} {x_at : Int32} {x_begun : Int32} {x_token : Int32} {x_value : Int32} {x_opened : Int32} {x_steps : Int32} {x_code0 : Nat → Int32} {x_read : Nat → Int32} {x_saved : Nat → Int32} {x_plan : Nat → Int32} {x_bestPlan : Nat → Int32} {x_most : Int32} {x_many : Int32} {x_few : Int32} {x_everRight : Int32} {x_lagThen : Nat → Int32} {x_shadedThen : Nat → Int32} {x_firstFit : Int32} {x_rows : Nat → Int32} {x_rowMany : Int32} {x_sorts : Nat → Int32} {x_sizes : Nat → Int32} {x_number : Nat → Int32} {x_holds : Nat → Int32} {x_heldOne : Nat → Int32} {x_trace : Nat → Int32} {x_traced : Int32} {x_own : Int32} {x_isParted : Int32} {v0 v1 v2 v3 v4 v5 : Int32}
theorem dX12_prideFor_0 : decode cX12_prideFor 0 = .ok (.aload_n 0, 1) := by decide +kernel
theorem dX12_prideFor_1 : decode cX12_prideFor 1 = .ok (.iload_n 1, 1) := by decide +kernel
theorem dX12_prideFor_2 : decode cX12_prideFor 2 = .ok (.iconst 2, 1) := by decide +kernel
theorem dX12_prideFor_3 : decode cX12_prideFor 3 = .ok (.bipush 9, 2) := by decide +kernel
theorem dX12_prideFor_5 : decode cX12_prideFor 5 = .ok (.invokevirtual 255, 3) := by decide +kernel
theorem dX12_prideFor_8 : decode cX12_prideFor 8 = .ok (.ireturn, 1) := by decide +kernel
theorem k_X12_prideFor : MV yX12_prideFor cX12_prideFor 2 (some .int) 1 := ⟨q_1462, q_1463, q_14, q_1464, ⟨by decide, by decide, by decide +kernel⟩⟩
theorem c_X12_prideFor {res : Int32 × (Nat → Int32) × (Nat → Int32) × (Nat → Int32)} (hf : X12_prideFor n x_s x_laid x_pile v1 = some res) : MC l E0 D t yX12_prideFor cX12_prideFor 2 (some .int) 10 0 0 [.ref (a 0), .int v1] (mW a t x_s x_kept x_laid x_isKept x_pile x_tape x_taped x_letters x_at x_begun x_token x_value x_opened x_steps x_code0 x_read x_saved x_plan x_bestPlan x_most x_many x_few x_everRight x_lagThen x_shadedThen x_firstFit x_rows x_rowMany x_sorts x_sizes x_number x_holds x_heldOne x_trace x_traced x_own x_isParted) (Qi res.1 (mW a t res.2.1 x_kept res.2.2.1 x_isKept res.2.2.2 x_tape x_taped x_letters x_at x_begun x_token x_value x_opened x_steps x_code0 x_read x_saved x_plan x_bestPlan x_most x_many x_few x_everRight x_lagThen x_shadedThen x_firstFit x_rows x_rowMany x_sorts x_sizes x_number x_holds x_heldOne x_trace x_traced x_own x_isParted)) := by
  unfold X12_prideFor at hf
  refine MC.ofI pn_X12 (Nat.le_of_ble_eq_true rfl) ?_
  intro p e s m args below meth c A Q ls cx hR hw hl
  have hx := cx.1
  have hb := cx.2.1
  have hl : lv_has ls 2 [(0, .ref (a 0)), (1, .int v1)] := hl
  refine lv_aload_n hx hb dX12_prideFor_0 rfl (lv_at hl 0 rfl) ?_
  refine lv_iload_n hx hb dX12_prideFor_1 rfl (lv_at hl 1 rfl) ?_
  refine lv_iconst (v := 2) hx hb dX12_prideFor_2 (by decide) ?_
  refine lv_bipush (v := 9) hx hb dX12_prideFor_3 (by decide) ?_
  obtain ⟨r1, h2, hf⟩ := bnS hf
  refine calVi (k := 0) cx hw hl.1 (c_X12_bestFor h2) q_1465 k_X12_bestFor rfl rfl rfl dX12_prideFor_5 rfl (Nat.le_of_ble_eq_true rfl) ⟨Nat.le_of_ble_eq_true rfl, Nat.le_of_ble_eq_true rfl⟩ ⟨Nat.le_refl _, Nat.le_refl _⟩ (fun H locs hw => ?_)
  have hf := Option.some.inj hf
  subst hf
  exact hR _ _ _ _ _ _ hw rfl ⟨rfl, rfl⟩ dX12_prideFor_8
theorem dX12_spotFor_0 : decode cX12_spotFor 0 = .ok (.aload_n 0, 1) := by decide +kernel
theorem dX12_spotFor_1 : decode cX12_spotFor 1 = .ok (.iload_n 1, 1) := by decide +kernel
theorem dX12_spotFor_2 : decode cX12_spotFor 2 = .ok (.iconst 3, 1) := by decide +kernel
theorem dX12_spotFor_3 : decode cX12_spotFor 3 = .ok (.iconst 5, 1) := by decide +kernel
theorem dX12_spotFor_4 : decode cX12_spotFor 4 = .ok (.invokevirtual 255, 3) := by decide +kernel
theorem dX12_spotFor_7 : decode cX12_spotFor 7 = .ok (.ireturn, 1) := by decide +kernel
theorem k_X12_spotFor : MV yX12_spotFor cX12_spotFor 2 (some .int) 1 := ⟨q_1470, q_1471, q_14, q_1472, ⟨by decide, by decide, by decide +kernel⟩⟩
theorem c_X12_spotFor {res : Int32 × (Nat → Int32) × (Nat → Int32) × (Nat → Int32)} (hf : X12_spotFor n x_s x_laid x_pile v1 = some res) : MC l E0 D t yX12_spotFor cX12_spotFor 2 (some .int) 10 0 0 [.ref (a 0), .int v1] (mW a t x_s x_kept x_laid x_isKept x_pile x_tape x_taped x_letters x_at x_begun x_token x_value x_opened x_steps x_code0 x_read x_saved x_plan x_bestPlan x_most x_many x_few x_everRight x_lagThen x_shadedThen x_firstFit x_rows x_rowMany x_sorts x_sizes x_number x_holds x_heldOne x_trace x_traced x_own x_isParted) (Qi res.1 (mW a t res.2.1 x_kept res.2.2.1 x_isKept res.2.2.2 x_tape x_taped x_letters x_at x_begun x_token x_value x_opened x_steps x_code0 x_read x_saved x_plan x_bestPlan x_most x_many x_few x_everRight x_lagThen x_shadedThen x_firstFit x_rows x_rowMany x_sorts x_sizes x_number x_holds x_heldOne x_trace x_traced x_own x_isParted)) := by
  unfold X12_spotFor at hf
  refine MC.ofI pn_X12 (Nat.le_of_ble_eq_true rfl) ?_
  intro p e s m args below meth c A Q ls cx hR hw hl
  have hx := cx.1
  have hb := cx.2.1
  have hl : lv_has ls 2 [(0, .ref (a 0)), (1, .int v1)] := hl
  refine lv_aload_n hx hb dX12_spotFor_0 rfl (lv_at hl 0 rfl) ?_
  refine lv_iload_n hx hb dX12_spotFor_1 rfl (lv_at hl 1 rfl) ?_
  refine lv_iconst (v := 3) hx hb dX12_spotFor_2 (by decide) ?_
  refine lv_iconst (v := 5) hx hb dX12_spotFor_3 (by decide) ?_
  obtain ⟨r1, h2, hf⟩ := bnS hf
  refine calVi (k := 0) cx hw hl.1 (c_X12_bestFor h2) q_1465 k_X12_bestFor rfl rfl rfl dX12_spotFor_4 rfl (Nat.le_of_ble_eq_true rfl) ⟨Nat.le_of_ble_eq_true rfl, Nat.le_of_ble_eq_true rfl⟩ ⟨Nat.le_refl _, Nat.le_refl _⟩ (fun H locs hw => ?_)
  have hf := Option.some.inj hf
  subst hf
  exact hR _ _ _ _ _ _ hw rfl ⟨rfl, rfl⟩ dX12_spotFor_7
theorem dX12_late_0 : decode cX12_late 0 = .ok (.aload_n 0, 1) := by decide +kernel
theorem dX12_late_1 : decode cX12_late 1 = .ok (.iload_n 1, 1) := by decide +kernel
theorem dX12_late_2 : decode cX12_late 2 = .ok (.invokevirtual 231, 3) := by decide +kernel
theorem dX12_late_5 : decode cX12_late 5 = .ok (.ifCond .ne 5, 3) := by decide +kernel
theorem dX12_late_8 : decode cX12_late 8 = .ok (.iconst (-1), 1) := by decide +kernel
theorem dX12_late_9 : decode cX12_late 9 = .ok (.ireturn, 1) := by decide +kernel
theorem dX12_late_10 : decode cX12_late 10 = .ok (.aload_n 0, 1) := by decide +kernel
theorem dX12_late_11 : decode cX12_late 11 = .ok (.invokevirtual 246, 3) := by decide +kernel
theorem dX12_late_14 : decode cX12_late 14 = .ok (.iconst 0, 1) := by decide +kernel
theorem dX12_late_15 : decode cX12_late 15 = .ok (.istore_n 2, 1) := by decide +kernel
theorem dX12_late_16 : decode cX12_late 16 = .ok (.aload_n 0, 1) := by decide +kernel
theorem dX12_late_17 : decode cX12_late 17 = .ok (.iload_n 1, 1) := by decide +kernel
theorem dX12_late_18 : decode cX12_late 18 = .ok (.iconst 1, 1) := by decide +kernel
theorem dX12_late_19 : decode cX12_late 19 = .ok (.invokevirtual 79, 3) := by decide +kernel
theorem dX12_late_22 : decode cX12_late 22 = .ok (.bipush 50, 2) := by decide +kernel
theorem dX12_late_24 : decode cX12_late 24 = .ok (.if_icmp .ge 21, 3) := by decide +kernel
theorem dX12_late_27 : decode cX12_late 27 = .ok (.aload_n 0, 1) := by decide +kernel
theorem dX12_late_28 : decode cX12_late 28 = .ok (.invokevirtual 237, 3) := by decide +kernel
theorem dX12_late_31 : decode cX12_late 31 = .ok (.ifCond .ne 14, 3) := by decide +kernel
theorem dX12_late_34 : decode cX12_late 34 = .ok (.iload_n 2, 1) := by decide +kernel
theorem dX12_late_35 : decode cX12_late 35 = .ok (.aload_n 0, 1) := by decide +kernel
theorem dX12_late_36 : decode cX12_late 36 = .ok (.iconst (-1), 1) := by decide +kernel
theorem dX12_late_37 : decode cX12_late 37 = .ok (.invokevirtual 243, 3) := by decide +kernel
theorem dX12_late_40 : decode cX12_late 40 = .ok (.iadd, 1) := by decide +kernel
theorem dX12_late_41 : decode cX12_late 41 = .ok (.istore_n 2, 1) := by decide +kernel
theorem dX12_late_42 : decode cX12_late 42 = .ok (.goto (-26), 3) := by decide +kernel
theorem dX12_late_45 : decode cX12_late 45 = .ok (.aload_n 0, 1) := by decide +kernel
theorem dX12_late_46 : decode cX12_late 46 = .ok (.iload_n 1, 1) := by decide +kernel
theorem dX12_late_47 : decode cX12_late 47 = .ok (.iconst 1, 1) := by decide +kernel
theorem dX12_late_48 : decode cX12_late 48 = .ok (.invokevirtual 79, 3) := by decide +kernel
theorem dX12_late_51 : decode cX12_late 51 = .ok (.bipush 50, 2) := by decide +kernel
theorem dX12_late_53 : decode cX12_late 53 = .ok (.if_icmp .lt 16, 3) := by decide +kernel
theorem dX12_late_56 : decode cX12_late 56 = .ok (.iload_n 2, 1) := by decide +kernel
theorem dX12_late_57 : decode cX12_late 57 = .ok (.ifCond .lt 12, 3) := by decide +kernel
theorem dX12_late_60 : decode cX12_late 60 = .ok (.aload_n 0, 1) := by decide +kernel
theorem dX12_late_61 : decode cX12_late 61 = .ok (.getfield 9, 3) := by decide +kernel
theorem dX12_late_64 : decode cX12_late 64 = .ok (.iconst 0, 1) := by decide +kernel
theorem dX12_late_65 : decode cX12_late 65 = .ok (.iaload, 1) := by decide +kernel
theorem dX12_late_66 : decode cX12_late 66 = .ok (.goto 5, 3) := by decide +kernel
theorem dX12_late_69 : decode cX12_late 69 = .ok (.bipush (-3), 2) := by decide +kernel
theorem dX12_late_71 : decode cX12_late 71 = .ok (.istore_n 3, 1) := by decide +kernel
theorem dX12_late_72 : decode cX12_late 72 = .ok (.aload_n 0, 1) := by decide +kernel
theorem dX12_late_73 : decode cX12_late 73 = .ok (.invokevirtual 252, 3) := by decide +kernel
theorem dX12_late_76 : decode cX12_late 76 = .ok (.iload_n 3, 1) := by decide +kernel
theorem dX12_late_77 : decode cX12_late 77 = .ok (.ireturn, 1) := by decide +kernel
theorem k_X12_late : MV yX12_late cX12_late 4 (some .int) 1 := ⟨q_1474, q_1475, q_14, q_1476, ⟨by decide, by decide, by decide +kernel⟩⟩
theorem c_X12_late {res : Int32 × (Nat → Int32) × (Nat → Int32) × (Nat → Int32)} (hf : X12_late n x_s x_laid x_pile v1 = some res) : MC l E0 D t yX12_late cX12_late 4 (some .int) 8 0 0 [.ref (a 0), .int v1] (mW a t x_s x_kept x_laid x_isKept x_pile x_tape x_taped x_letters x_at x_begun x_token x_value x_opened x_steps x_code0 x_read x_saved x_plan x_bestPlan x_most x_many x_few x_everRight x_lagThen x_shadedThen x_firstFit x_rows x_rowMany x_sorts x_sizes x_number x_holds x_heldOne x_trace x_traced x_own x_isParted) (Qi res.1 (mW a t res.2.1 x_kept res.2.2.1 x_isKept res.2.2.2 x_tape x_taped x_letters x_at x_begun x_token x_value x_opened x_steps x_code0 x_read x_saved x_plan x_bestPlan x_most x_many x_few x_everRight x_lagThen x_shadedThen x_firstFit x_rows x_rowMany x_sorts x_sizes x_number x_holds x_heldOne x_trace x_traced x_own x_isParted)) := by
  unfold X12_late at hf
  refine MC.ofI pn_X12 (Nat.le_of_ble_eq_true rfl) ?_
  intro p e s m args below meth c A Q ls cx hR hw hl
  have hx := cx.1
  have hb := cx.2.1
  have hl : lv_has ls 4 [(0, .ref (a 0)), (1, .int v1)] := hl
  refine lv_aload_n hx hb dX12_late_0 rfl (lv_at hl 0 rfl) ?_
  refine lv_iload_n hx hb dX12_late_1 rfl (lv_at hl 1 rfl) ?_
  refine calVi (k := 0) cx hw hl.1 (c_X12_isDial rfl) q_1296 k_X12_isDial rfl rfl rfl dX12_late_2 rfl (Nat.le_of_ble_eq_true rfl) ⟨Nat.le_of_ble_eq_true rfl, Nat.le_of_ble_eq_true rfl⟩ ⟨Nat.le_refl _, Nat.le_refl _⟩ (fun H locs hw => ?_)
  refine lv_if_ne (tgt := 10) hx hb dX12_late_5 (by decide) (fun hc => ?_) (fun hc => ?_)
  · have hf := ifF hf hc
    refine lv_aload_n hx hb dX12_late_10 rfl (lv_at hl 0 rfl) ?_
    obtain ⟨r1, h2, hf⟩ := bnS hf
    refine calVv (k := 0) cx hw hl.1 (c_X12_layDown h2) q_1445 k_X12_layDown rfl rfl rfl dX12_late_11 rfl (Nat.le_of_ble_eq_true rfl) ⟨Nat.le_of_ble_eq_true rfl, Nat.le_of_ble_eq_true rfl⟩ ⟨Nat.le_refl _, Nat.le_refl _⟩ (fun H locs hw => ?_)
    refine lv_iconst (v := 0) hx hb dX12_late_14 (by decide) ?_
    refine lv_istore_n (lv' := [(2, .int (0 : Int32)), (0, .ref (a 0)), (1, .int v1)]) hx hb dX12_late_15 rfl hl (by decide) rfl (fun ls hl => ?_)
    obtain ⟨o7, ho7, hf⟩ := bnS hf
    have wL1 : ∀ (k : Nat) {v1 : Int32} {v2 : Int32} {x_s : Nat → Int32} {x_laid : Nat → Int32} {x_pile : Nat → Int32} {H : Heap} {locs : List Loc} {ls : Array Slot} {o : Int32 × (Nat → Int32) × (Nat → Int32)}, X12_late_L1 n v1 k v2 x_s x_pile = some o → Wd D A s (mW a t x_s x_kept x_laid x_isKept x_pile x_tape x_taped x_letters x_at x_begun x_token x_value x_opened x_steps x_code0 x_read x_saved x_plan x_bestPlan x_most x_many x_few x_everRight x_lagThen x_shadedThen x_firstFit x_rows x_rowMany x_sorts x_sizes x_number x_holds x_heldOne x_trace x_traced x_own x_isParted) H locs → lv_has ls 4 [(0, .ref (a 0)), (1, .int v1), (2, .int v2)] → (∀ (H : Heap) (locs : List Loc) (ls : Array Slot), Wd D A s (mW a t o.2.1 x_kept x_laid x_isKept o.2.2 x_tape x_taped x_letters x_at x_begun x_token x_value x_opened x_steps x_code0 x_read x_saved x_plan x_bestPlan x_most x_many x_few x_everRight x_lagThen x_shadedThen x_firstFit x_rows x_rowMany x_sorts x_sizes x_number x_holds x_heldOne x_trace x_traced x_own x_isParted) H locs → lv_has ls 4 [(0, .ref (a 0)), (1, .int v1), (2, .int o.1)] → W p l e (rmz 8 0 0) s m args below meth c H locs 0 0 Q (F0 m 45 ls [])) → W p l e (rmz 8 0 0) s m args below meth c H locs 0 0 Q (F0 m 16 ls []) := by
      clear hf ho7 hw hl
      intro k
      induction k with
      | zero => intro v1 v2 x_s x_laid x_pile H locs ls o hf hw hl kx; simp [X12_late_L1] at hf
      | succ k ih =>
        intro v1 v2 x_s x_laid x_pile H locs ls o hf hw hl kx
        rw [X12_late_L1] at hf
        refine lv_aload_n hx hb dX12_late_16 rfl (lv_at hl 0 rfl) ?_
        refine lv_iload_n hx hb dX12_late_17 rfl (lv_at hl 1 rfl) ?_
        refine lv_iconst (v := 1) hx hb dX12_late_18 (by decide) ?_
        obtain ⟨r3, h4, hf⟩ := bnS hf
        refine calVi (k := 0) cx hw hl.1 (c_X12_get h4) q_1304 k_X12_get rfl rfl rfl dX12_late_19 rfl (Nat.le_of_ble_eq_true rfl) ⟨Nat.le_of_ble_eq_true rfl, Nat.le_of_ble_eq_true rfl⟩ ⟨Nat.le_refl _, Nat.le_refl _⟩ (fun H locs hw => ?_)
        refine lv_bipush (v := 50) hx hb dX12_late_22 (by decide) ?_
        refine lv_icmp_ge (tgt := 45) hx hb dX12_late_24 (by decide) (fun hc => ?_) (fun hc => ?_)
        · have hf := ifT hf hc
          have hf := Option.some.inj hf
          subst hf
          exact kx _ _ _ hw (lv_sub hl [0, 1, 2] rfl)
        · have hf := ifF hf hc
          refine lv_aload_n hx hb dX12_late_27 rfl (lv_at hl 0 rfl) ?_
          refine calVi (k := 0) cx hw hl.1 (c_X12_isOver rfl) q_1395 k_X12_isOver rfl rfl rfl dX12_late_28 rfl (Nat.le_of_ble_eq_true rfl) ⟨Nat.le_of_ble_eq_true rfl, Nat.le_of_ble_eq_true rfl⟩ ⟨Nat.le_refl _, Nat.le_refl _⟩ (fun H locs hw => ?_)
          refine lv_if_ne (tgt := 45) hx hb dX12_late_31 (by decide) (fun hc => ?_) (fun hc => ?_)
          · have hf := ifF hf hc
            have hf := Option.some.inj hf
            subst hf
            exact kx _ _ _ hw (lv_sub hl [0, 1, 2] rfl)
          · have hf := ifT hf hc
            refine lv_iload_n hx hb dX12_late_34 rfl (lv_at hl 2 rfl) ?_
            refine lv_aload_n hx hb dX12_late_35 rfl (lv_at hl 0 rfl) ?_
            refine lv_iconst (v := (-1)) hx hb dX12_late_36 (by decide) ?_
            obtain ⟨r5, h6, hf⟩ := bnS hf
            refine calVi (k := 0) cx hw hl.1 (c_X12_goesBy h6) q_1418 k_X12_goesBy rfl rfl rfl dX12_late_37 rfl (Nat.le_of_ble_eq_true rfl) ⟨Nat.le_of_ble_eq_true rfl, Nat.le_of_ble_eq_true rfl⟩ ⟨Nat.le_refl _, Nat.le_refl _⟩ (fun H locs hw => ?_)
            refine lv_iadd hx hb dX12_late_40 ?_
            refine lv_istore_n (lv' := [(2, .int (v2 + r5.1)), (0, .ref (a 0)), (1, .int v1)]) hx hb dX12_late_41 rfl hl (by decide) rfl (fun ls hl => ?_)
            refine lv_goto (tgt := 16) hx hb dX12_late_42 (by decide) ?_
            exact ih hf hw (lv_sub hl [1, 2, 0] rfl) kx
    refine wL1 n ho7 hw (lv_sub hl [1, 2, 0] rfl) (fun H locs ls hw hl => ?_)
    clear wL1 ho7
    refine lv_aload_n hx hb dX12_late_45 rfl (lv_at hl 0 rfl) ?_
    refine lv_iload_n hx hb dX12_late_46 rfl (lv_at hl 1 rfl) ?_
    refine lv_iconst (v := 1) hx hb dX12_late_47 (by decide) ?_
    obtain ⟨r8, h9, hf⟩ := bnS hf
    refine calVi (k := 0) cx hw hl.1 (c_X12_get h9) q_1304 k_X12_get rfl rfl rfl dX12_late_48 rfl (Nat.le_of_ble_eq_true rfl) ⟨Nat.le_of_ble_eq_true rfl, Nat.le_of_ble_eq_true rfl⟩ ⟨Nat.le_refl _, Nat.le_refl _⟩ (fun H locs hw => ?_)
    refine lv_bipush (v := 50) hx hb dX12_late_51 (by decide) ?_
    obtain ⟨j10, hj10, hf⟩ := pbS hf
    have wj10 : ∀ (H : Heap) (locs : List Loc) (ls : Array Slot), Wd D A s (mW a t o7.2.1 x_kept r1 x_isKept o7.2.2 x_tape x_taped x_letters x_at x_begun x_token x_value x_opened x_steps x_code0 x_read x_saved x_plan x_bestPlan x_most x_many x_few x_everRight x_lagThen x_shadedThen x_firstFit x_rows x_rowMany x_sorts x_sizes x_number x_holds x_heldOne x_trace x_traced x_own x_isParted) H locs → lv_has ls 4 [(0, .ref (a 0)), (1, .int v1), (2, .int o7.1)] → W p l e (rmz 8 0 0) s m args below meth c H locs 0 0 Q (F0 m 71 ls [.int j10]) := by
      intro H locs ls hw hl
      refine lv_istore_n (lv' := [(3, .int j10), (0, .ref (a 0)), (1, .int v1), (2, .int o7.1)]) hx hb dX12_late_71 rfl hl (by decide) rfl (fun ls hl => ?_)
      refine lv_aload_n hx hb dX12_late_72 rfl (lv_at hl 1 rfl) ?_
      obtain ⟨r11, h12, hf⟩ := bnS hf
      refine calVv (k := 0) cx hw hl.1 (c_X12_layBack h12) q_1453 k_X12_layBack rfl rfl rfl dX12_late_73 rfl (Nat.le_of_ble_eq_true rfl) ⟨Nat.le_of_ble_eq_true rfl, Nat.le_of_ble_eq_true rfl⟩ ⟨Nat.le_refl _, Nat.le_refl _⟩ (fun H locs hw => ?_)
      refine lv_iload_n hx hb dX12_late_76 rfl (lv_at hl 0 rfl) ?_
      have hf := Option.some.inj hf
      subst hf
      exact hR _ _ _ _ _ _ hw rfl ⟨rfl, rfl⟩ dX12_late_77
    clear hf
    have hf := hj10
    clear hj10
    refine lv_icmp_lt (tgt := 69) hx hb dX12_late_53 (by decide) (fun hc => ?_) (fun hc => ?_)
    · have hf := ifT hf hc
      refine lv_bipush (v := (-3)) hx hb dX12_late_69 (by decide) ?_
      subst hf
      exact wj10 _ _ _ hw (lv_sub hl [0, 1, 2] rfl)
    · have hf := ifF hf hc
      refine lv_iload_n hx hb dX12_late_56 rfl (lv_at hl 2 rfl) ?_
      refine lv_if_lt (tgt := 69) hx hb dX12_late_57 (by decide) (fun hc => ?_) (fun hc => ?_)
      · have hf := ifT hf hc
        refine lv_bipush (v := (-3)) hx hb dX12_late_69 (by decide) ?_
        subst hf
        exact wj10 _ _ _ hw (lv_sub hl [0, 1, 2] rfl)
      · have hf := ifF hf hc
        refine lv_aload_n hx hb dX12_late_60 rfl (lv_at hl 0 rfl) ?_
        refine mg_s cx hw dX12_late_61 ?_
        refine lv_iconst (v := 0) hx hb dX12_late_64 (by decide) ?_
        refine ml_s (j := 0) cx hw (ib_in (by decide)) (by decide) dX12_late_65 ?_
        refine lv_goto (tgt := 71) hx hb dX12_late_66 (by decide) ?_
        subst hf
        exact wj10 _ _ _ hw (lv_sub hl [0, 1, 2] rfl)
  · have hf := ifT hf hc
    refine lv_iconst (v := (-1)) hx hb dX12_late_8 (by decide) ?_
    have hf := Option.some.inj hf
    subst hf
    exact hR _ _ _ _ _ _ hw rfl ⟨rfl, rfl⟩ dX12_late_9
theorem dX12_middle_0 : decode cX12_middle 0 = .ok (.bipush (-3), 2) := by decide +kernel
theorem dX12_middle_2 : decode cX12_middle 2 = .ok (.istore_n 1, 1) := by decide +kernel
theorem dX12_middle_3 : decode cX12_middle 3 = .ok (.iconst 0, 1) := by decide +kernel
theorem dX12_middle_4 : decode cX12_middle 4 = .ok (.istore_n 2, 1) := by decide +kernel
theorem dX12_middle_5 : decode cX12_middle 5 = .ok (.iconst 0, 1) := by decide +kernel
theorem dX12_middle_6 : decode cX12_middle 6 = .ok (.istore_n 3, 1) := by decide +kernel
theorem dX12_middle_7 : decode cX12_middle 7 = .ok (.iload_n 3, 1) := by decide +kernel
theorem dX12_middle_8 : decode cX12_middle 8 = .ok (.aload_n 0, 1) := by decide +kernel
theorem dX12_middle_9 : decode cX12_middle 9 = .ok (.getfield 9, 3) := by decide +kernel
theorem dX12_middle_12 : decode cX12_middle 12 = .ok (.iconst 4, 1) := by decide +kernel
theorem dX12_middle_13 : decode cX12_middle 13 = .ok (.iaload, 1) := by decide +kernel
theorem dX12_middle_14 : decode cX12_middle 14 = .ok (.if_icmp .ge 93, 3) := by decide +kernel
theorem dX12_middle_17 : decode cX12_middle 17 = .ok (.iconst 0, 1) := by decide +kernel
theorem dX12_middle_18 : decode cX12_middle 18 = .ok (.istore 4, 2) := by decide +kernel
theorem dX12_middle_20 : decode cX12_middle 20 = .ok (.iconst 0, 1) := by decide +kernel
theorem dX12_middle_21 : decode cX12_middle 21 = .ok (.istore 5, 2) := by decide +kernel
theorem dX12_middle_23 : decode cX12_middle 23 = .ok (.iload 5, 2) := by decide +kernel
theorem dX12_middle_25 : decode cX12_middle 25 = .ok (.aload_n 0, 1) := by decide +kernel
theorem dX12_middle_26 : decode cX12_middle 26 = .ok (.getfield 9, 3) := by decide +kernel
theorem dX12_middle_29 : decode cX12_middle 29 = .ok (.iconst 4, 1) := by decide +kernel
theorem dX12_middle_30 : decode cX12_middle 30 = .ok (.iaload, 1) := by decide +kernel
theorem dX12_middle_31 : decode cX12_middle 31 = .ok (.if_icmp .ge 30, 3) := by decide +kernel
theorem dX12_middle_34 : decode cX12_middle 34 = .ok (.iload 4, 2) := by decide +kernel
theorem dX12_middle_36 : decode cX12_middle 36 = .ok (.aload_n 0, 1) := by decide +kernel
theorem dX12_middle_37 : decode cX12_middle 37 = .ok (.iload_n 3, 1) := by decide +kernel
theorem dX12_middle_38 : decode cX12_middle 38 = .ok (.iconst 1, 1) := by decide +kernel
theorem dX12_middle_39 : decode cX12_middle 39 = .ok (.invokevirtual 79, 3) := by decide +kernel
theorem dX12_middle_42 : decode cX12_middle 42 = .ok (.aload_n 0, 1) := by decide +kernel
theorem dX12_middle_43 : decode cX12_middle 43 = .ok (.iload 5, 2) := by decide +kernel
theorem dX12_middle_45 : decode cX12_middle 45 = .ok (.iconst 1, 1) := by decide +kernel
theorem dX12_middle_46 : decode cX12_middle 46 = .ok (.invokevirtual 79, 3) := by decide +kernel
theorem dX12_middle_49 : decode cX12_middle 49 = .ok (.invokestatic 106, 3) := by decide +kernel
theorem dX12_middle_52 : decode cX12_middle 52 = .ok (.iadd, 1) := by decide +kernel
theorem dX12_middle_53 : decode cX12_middle 53 = .ok (.istore 4, 2) := by decide +kernel
theorem dX12_middle_55 : decode cX12_middle 55 = .ok (.iinc 5 1, 3) := by decide +kernel
theorem dX12_middle_58 : decode cX12_middle 58 = .ok (.goto (-35), 3) := by decide +kernel
theorem dX12_middle_61 : decode cX12_middle 61 = .ok (.iload_n 1, 1) := by decide +kernel
theorem dX12_middle_62 : decode cX12_middle 62 = .ok (.ifCond .lt 9, 3) := by decide +kernel
theorem dX12_middle_65 : decode cX12_middle 65 = .ok (.iload 4, 2) := by decide +kernel
theorem dX12_middle_67 : decode cX12_middle 67 = .ok (.iload_n 2, 1) := by decide +kernel
theorem dX12_middle_68 : decode cX12_middle 68 = .ok (.if_icmp .ge 7, 3) := by decide +kernel
theorem dX12_middle_71 : decode cX12_middle 71 = .ok (.iconst 1, 1) := by decide +kernel
theorem dX12_middle_72 : decode cX12_middle 72 = .ok (.goto 4, 3) := by decide +kernel
theorem dX12_middle_75 : decode cX12_middle 75 = .ok (.iconst 0, 1) := by decide +kernel
theorem dX12_middle_76 : decode cX12_middle 76 = .ok (.istore 5, 2) := by decide +kernel
theorem dX12_middle_78 : decode cX12_middle 78 = .ok (.iload 5, 2) := by decide +kernel
theorem dX12_middle_80 : decode cX12_middle 80 = .ok (.ifCond .eq 7, 3) := by decide +kernel
theorem dX12_middle_83 : decode cX12_middle 83 = .ok (.iload_n 3, 1) := by decide +kernel
theorem dX12_middle_84 : decode cX12_middle 84 = .ok (.goto 4, 3) := by decide +kernel
theorem dX12_middle_87 : decode cX12_middle 87 = .ok (.iload_n 1, 1) := by decide +kernel
theorem dX12_middle_88 : decode cX12_middle 88 = .ok (.istore_n 1, 1) := by decide +kernel
theorem dX12_middle_89 : decode cX12_middle 89 = .ok (.iload 5, 2) := by decide +kernel
theorem dX12_middle_91 : decode cX12_middle 91 = .ok (.ifCond .eq 8, 3) := by decide +kernel
theorem dX12_middle_94 : decode cX12_middle 94 = .ok (.iload 4, 2) := by decide +kernel
theorem dX12_middle_96 : decode cX12_middle 96 = .ok (.goto 4, 3) := by decide +kernel
theorem dX12_middle_99 : decode cX12_middle 99 = .ok (.iload_n 2, 1) := by decide +kernel
theorem dX12_middle_100 : decode cX12_middle 100 = .ok (.istore_n 2, 1) := by decide +kernel
theorem dX12_middle_101 : decode cX12_middle 101 = .ok (.iinc 3 1, 3) := by decide +kernel
theorem dX12_middle_104 : decode cX12_middle 104 = .ok (.goto (-97), 3) := by decide +kernel
theorem dX12_middle_107 : decode cX12_middle 107 = .ok (.iload_n 1, 1) := by decide +kernel
theorem dX12_middle_108 : decode cX12_middle 108 = .ok (.ireturn, 1) := by decide +kernel
theorem k_X12_middle : MV yX12_middle cX12_middle 6 (some .int) 0 := ⟨q_1478, q_1479, q_14, q_1480, ⟨by decide, by decide, by decide +kernel⟩⟩
theorem c_X12_middle {res : Int32} (hf : X12_middle n x_s = some res) : MC l E0 D t yX12_middle cX12_middle 6 (some .int) 2 0 0 [.ref (a 0)] (mW a t x_s x_kept x_laid x_isKept x_pile x_tape x_taped x_letters x_at x_begun x_token x_value x_opened x_steps x_code0 x_read x_saved x_plan x_bestPlan x_most x_many x_few x_everRight x_lagThen x_shadedThen x_firstFit x_rows x_rowMany x_sorts x_sizes x_number x_holds x_heldOne x_trace x_traced x_own x_isParted) (Qi res (mW a t x_s x_kept x_laid x_isKept x_pile x_tape x_taped x_letters x_at x_begun x_token x_value x_opened x_steps x_code0 x_read x_saved x_plan x_bestPlan x_most x_many x_few x_everRight x_lagThen x_shadedThen x_firstFit x_rows x_rowMany x_sorts x_sizes x_number x_holds x_heldOne x_trace x_traced x_own x_isParted)) := by
  unfold X12_middle at hf
  refine MC.ofI pn_X12 (Nat.le_of_ble_eq_true rfl) ?_
  intro p e s m args below meth c A Q ls cx hR hw hl
  have hx := cx.1
  have hb := cx.2.1
  have hl : lv_has ls 6 [(0, .ref (a 0))] := hl
  refine lv_bipush (v := (-3)) hx hb dX12_middle_0 (by decide) ?_
  refine lv_istore_n (lv' := [(1, .int (-3 : Int32)), (0, .ref (a 0))]) hx hb dX12_middle_2 rfl hl (by decide) rfl (fun ls hl => ?_)
  refine lv_iconst (v := 0) hx hb dX12_middle_3 (by decide) ?_
  refine lv_istore_n (lv' := [(2, .int (0 : Int32)), (1, .int (-3 : Int32)), (0, .ref (a 0))]) hx hb dX12_middle_4 rfl hl (by decide) rfl (fun ls hl => ?_)
  refine lv_iconst (v := 0) hx hb dX12_middle_5 (by decide) ?_
  refine lv_istore_n (lv' := [(3, .int (0 : Int32)), (2, .int (0 : Int32)), (1, .int (-3 : Int32)), (0, .ref (a 0))]) hx hb dX12_middle_6 rfl hl (by decide) rfl (fun ls hl => ?_)
  obtain ⟨o9, ho9, hf⟩ := bnS hf
  have wL1 : ∀ (k : Nat) {v1 : Int32} {v2 : Int32} {v3 : Int32} {H : Heap} {locs : List Loc} {ls : Array Slot} {o : Int32 × Int32 × Int32}, X12_middle_L1 n x_s k v1 v2 v3 = some o → Wd D A s (mW a t x_s x_kept x_laid x_isKept x_pile x_tape x_taped x_letters x_at x_begun x_token x_value x_opened x_steps x_code0 x_read x_saved x_plan x_bestPlan x_most x_many x_few x_everRight x_lagThen x_shadedThen x_firstFit x_rows x_rowMany x_sorts x_sizes x_number x_holds x_heldOne x_trace x_traced x_own x_isParted) H locs → lv_has ls 6 [(0, .ref (a 0)), (1, .int v1), (2, .int v2), (3, .int v3)] → (∀ (H : Heap) (locs : List Loc) (ls : Array Slot), Wd D A s (mW a t x_s x_kept x_laid x_isKept x_pile x_tape x_taped x_letters x_at x_begun x_token x_value x_opened x_steps x_code0 x_read x_saved x_plan x_bestPlan x_most x_many x_few x_everRight x_lagThen x_shadedThen x_firstFit x_rows x_rowMany x_sorts x_sizes x_number x_holds x_heldOne x_trace x_traced x_own x_isParted) H locs → lv_has ls 6 [(0, .ref (a 0)), (1, .int o.1), (2, .int o.2.1), (3, .int o.2.2)] → W p l e (rmz 2 0 0) s m args below meth c H locs 0 0 Q (F0 m 107 ls [])) → W p l e (rmz 2 0 0) s m args below meth c H locs 0 0 Q (F0 m 7 ls []) := by
    clear hf ho9 hw hl
    intro k
    induction k with
    | zero => intro v1 v2 v3 H locs ls o hf hw hl kx; simp [X12_middle_L1] at hf
    | succ k ih =>
      intro v1 v2 v3 H locs ls o hf hw hl kx
      rw [X12_middle_L1] at hf
      refine lv_iload_n hx hb dX12_middle_7 rfl (lv_at hl 3 rfl) ?_
      refine lv_aload_n hx hb dX12_middle_8 rfl (lv_at hl 0 rfl) ?_
      refine mg_s cx hw dX12_middle_9 ?_
      refine lv_iconst (v := 4) hx hb dX12_middle_12 (by decide) ?_
      refine ml_s (j := 4) cx hw (ib_in (by decide)) (by decide) dX12_middle_13 ?_
      refine lv_icmp_ge (tgt := 107) hx hb dX12_middle_14 (by decide) (fun hc => ?_) (fun hc => ?_)
      · have hf := ifT hf hc
        have hf := Option.some.inj hf
        subst hf
        exact kx _ _ _ hw (lv_sub hl [0, 1, 2, 3] rfl)
      · have hf := ifF hf hc
        refine lv_iconst (v := 0) hx hb dX12_middle_17 (by decide) ?_
        refine lv_istore (lv' := [(4, .int (0 : Int32)), (0, .ref (a 0)), (1, .int v1), (2, .int v2), (3, .int v3)]) hx hb dX12_middle_18 hl (by decide) rfl (fun ls hl => ?_)
        refine lv_iconst (v := 0) hx hb dX12_middle_20 (by decide) ?_
        refine lv_istore (lv' := [(5, .int (0 : Int32)), (4, .int (0 : Int32)), (0, .ref (a 0)), (1, .int v1), (2, .int v2), (3, .int v3)]) hx hb dX12_middle_21 hl (by decide) rfl (fun ls hl => ?_)
        obtain ⟨o5, ho5, hf⟩ := bnS hf
        have wL2 : ∀ (k : Nat) {v1 : Int32} {v2 : Int32} {v3 : Int32} {v4 : Int32} {v5 : Int32} {H : Heap} {locs : List Loc} {ls : Array Slot} {o : Int32 × Int32}, X12_middle_L2 n x_s v3 k v4 v5 = some o → Wd D A s (mW a t x_s x_kept x_laid x_isKept x_pile x_tape x_taped x_letters x_at x_begun x_token x_value x_opened x_steps x_code0 x_read x_saved x_plan x_bestPlan x_most x_many x_few x_everRight x_lagThen x_shadedThen x_firstFit x_rows x_rowMany x_sorts x_sizes x_number x_holds x_heldOne x_trace x_traced x_own x_isParted) H locs → lv_has ls 6 [(0, .ref (a 0)), (1, .int v1), (2, .int v2), (3, .int v3), (4, .int v4), (5, .int v5)] → (∀ (H : Heap) (locs : List Loc) (ls : Array Slot), Wd D A s (mW a t x_s x_kept x_laid x_isKept x_pile x_tape x_taped x_letters x_at x_begun x_token x_value x_opened x_steps x_code0 x_read x_saved x_plan x_bestPlan x_most x_many x_few x_everRight x_lagThen x_shadedThen x_firstFit x_rows x_rowMany x_sorts x_sizes x_number x_holds x_heldOne x_trace x_traced x_own x_isParted) H locs → lv_has ls 6 [(0, .ref (a 0)), (1, .int v1), (2, .int v2), (3, .int v3), (4, .int o.1), (5, .int o.2)] → W p l e (rmz 2 0 0) s m args below meth c H locs 0 0 Q (F0 m 61 ls [])) → W p l e (rmz 2 0 0) s m args below meth c H locs 0 0 Q (F0 m 23 ls []) := by
          clear hf ho5 hw hl
          intro k
          induction k with
          | zero => intro v1 v2 v3 v4 v5 H locs ls o hf hw hl kx; simp [X12_middle_L2] at hf
          | succ k ih =>
            intro v1 v2 v3 v4 v5 H locs ls o hf hw hl kx
            rw [X12_middle_L2] at hf
            refine lv_iload hx hb dX12_middle_23 (lv_at hl 5 rfl) ?_
            refine lv_aload_n hx hb dX12_middle_25 rfl (lv_at hl 0 rfl) ?_
            refine mg_s cx hw dX12_middle_26 ?_
            refine lv_iconst (v := 4) hx hb dX12_middle_29 (by decide) ?_
            refine ml_s (j := 4) cx hw (ib_in (by decide)) (by decide) dX12_middle_30 ?_
            refine lv_icmp_ge (tgt := 61) hx hb dX12_middle_31 (by decide) (fun hc => ?_) (fun hc => ?_)
            · have hf := ifT hf hc
              have hf := Option.some.inj hf
              subst hf
              exact kx _ _ _ hw (lv_sub hl [0, 1, 2, 3, 4, 5] rfl)
            · have hf := ifF hf hc
              refine lv_iload hx hb dX12_middle_34 (lv_at hl 4 rfl) ?_
              refine lv_aload_n hx hb dX12_middle_36 rfl (lv_at hl 0 rfl) ?_
              refine lv_iload_n hx hb dX12_middle_37 rfl (lv_at hl 3 rfl) ?_
              refine lv_iconst (v := 1) hx hb dX12_middle_38 (by decide) ?_
              obtain ⟨r1, h2, hf⟩ := bnS hf
              refine calVi (k := 0) cx hw hl.1 (c_X12_get h2) q_1304 k_X12_get rfl rfl rfl dX12_middle_39 rfl (Nat.le_of_ble_eq_true rfl) ⟨Nat.le_of_ble_eq_true rfl, Nat.le_of_ble_eq_true rfl⟩ ⟨Nat.le_refl _, Nat.le_refl _⟩ (fun H locs hw => ?_)
              refine lv_aload_n hx hb dX12_middle_42 rfl (lv_at hl 0 rfl) ?_
              refine lv_iload hx hb dX12_middle_43 (lv_at hl 5 rfl) ?_
              refine lv_iconst (v := 1) hx hb dX12_middle_45 (by decide) ?_
              obtain ⟨r3, h4, hf⟩ := bnS hf
              refine calVi (k := 0) cx hw hl.1 (c_X12_get h4) q_1304 k_X12_get rfl rfl rfl dX12_middle_46 rfl (Nat.le_of_ble_eq_true rfl) ⟨Nat.le_of_ble_eq_true rfl, Nat.le_of_ble_eq_true rfl⟩ ⟨Nat.le_refl _, Nat.le_refl _⟩ (fun H locs hw => ?_)
              refine calSi cx hw hl.1 (c_X12_apart rfl) q_1411 k_X12_apart rfl dX12_middle_49 rfl (Nat.le_of_ble_eq_true rfl) ⟨Nat.le_of_ble_eq_true rfl, Nat.le_of_ble_eq_true rfl⟩ ⟨Nat.le_refl _, Nat.le_refl _⟩ (fun H locs hw => ?_)
              refine lv_iadd hx hb dX12_middle_52 ?_
              refine lv_istore (lv' := [(4, .int (v4 + (X12_apart r1 r3))), (0, .ref (a 0)), (1, .int v1), (2, .int v2), (3, .int v3), (5, .int v5)]) hx hb dX12_middle_53 hl (by decide) rfl (fun ls hl => ?_)
              refine lv_iinc (v := (v5 + (1 : Int32))) (lv' := [(5, .int (v5 + (1 : Int32))), (4, .int (v4 + (X12_apart r1 r3))), (0, .ref (a 0)), (1, .int v1), (2, .int v2), (3, .int v3)]) hx hb dX12_middle_55 hl (k := 5) rfl rfl (by decide) rfl (fun ls hl => ?_)
              refine lv_goto (tgt := 23) hx hb dX12_middle_58 (by decide) ?_
              exact ih hf hw (lv_sub hl [2, 3, 4, 5, 1, 0] rfl) kx
        refine wL2 n ho5 hw (lv_sub hl [2, 3, 4, 5, 1, 0] rfl) (fun H locs ls hw hl => ?_)
        clear wL2 ho5
        refine lv_iload_n hx hb dX12_middle_61 rfl (lv_at hl 1 rfl) ?_
        obtain ⟨j6, hj6, hf⟩ := pbS hf
        have wj6 : ∀ (H : Heap) (locs : List Loc) (ls : Array Slot), Wd D A s (mW a t x_s x_kept x_laid x_isKept x_pile x_tape x_taped x_letters x_at x_begun x_token x_value x_opened x_steps x_code0 x_read x_saved x_plan x_bestPlan x_most x_many x_few x_everRight x_lagThen x_shadedThen x_firstFit x_rows x_rowMany x_sorts x_sizes x_number x_holds x_heldOne x_trace x_traced x_own x_isParted) H locs → lv_has ls 6 [(0, .ref (a 0)), (1, .int v1), (2, .int v2), (3, .int v3), (4, .int o5.1), (5, .int o5.2)] → W p l e (rmz 2 0 0) s m args below meth c H locs 0 0 Q (F0 m 76 ls [.int j6]) := by
          intro H locs ls hw hl
          refine lv_istore (lv' := [(5, .int j6), (0, .ref (a 0)), (1, .int v1), (2, .int v2), (3, .int v3), (4, .int o5.1)]) hx hb dX12_middle_76 hl (by decide) rfl (fun ls hl => ?_)
          refine lv_iload hx hb dX12_middle_78 (lv_at hl 0 rfl) ?_
          obtain ⟨j7, hj7, hf⟩ := pbS hf
          have wj7 : ∀ (H : Heap) (locs : List Loc) (ls : Array Slot), Wd D A s (mW a t x_s x_kept x_laid x_isKept x_pile x_tape x_taped x_letters x_at x_begun x_token x_value x_opened x_steps x_code0 x_read x_saved x_plan x_bestPlan x_most x_many x_few x_everRight x_lagThen x_shadedThen x_firstFit x_rows x_rowMany x_sorts x_sizes x_number x_holds x_heldOne x_trace x_traced x_own x_isParted) H locs → lv_has ls 6 [(0, .ref (a 0)), (1, .int v1), (2, .int v2), (3, .int v3), (4, .int o5.1), (5, .int j6)] → W p l e (rmz 2 0 0) s m args below meth c H locs 0 0 Q (F0 m 88 ls [.int j7]) := by
            intro H locs ls hw hl
            refine lv_istore_n (lv' := [(1, .int j7), (0, .ref (a 0)), (2, .int v2), (3, .int v3), (4, .int o5.1), (5, .int j6)]) hx hb dX12_middle_88 rfl hl (by decide) rfl (fun ls hl => ?_)
            refine lv_iload hx hb dX12_middle_89 (lv_at hl 5 rfl) ?_
            obtain ⟨j8, hj8, hf⟩ := pbS hf
            have wj8 : ∀ (H : Heap) (locs : List Loc) (ls : Array Slot), Wd D A s (mW a t x_s x_kept x_laid x_isKept x_pile x_tape x_taped x_letters x_at x_begun x_token x_value x_opened x_steps x_code0 x_read x_saved x_plan x_bestPlan x_most x_many x_few x_everRight x_lagThen x_shadedThen x_firstFit x_rows x_rowMany x_sorts x_sizes x_number x_holds x_heldOne x_trace x_traced x_own x_isParted) H locs → lv_has ls 6 [(0, .ref (a 0)), (1, .int j7), (2, .int v2), (3, .int v3), (4, .int o5.1), (5, .int j6)] → W p l e (rmz 2 0 0) s m args below meth c H locs 0 0 Q (F0 m 100 ls [.int j8]) := by
              intro H locs ls hw hl
              refine lv_istore_n (lv' := [(2, .int j8), (0, .ref (a 0)), (1, .int j7), (3, .int v3), (4, .int o5.1), (5, .int j6)]) hx hb dX12_middle_100 rfl hl (by decide) rfl (fun ls hl => ?_)
              refine lv_iinc (v := (v3 + (1 : Int32))) (lv' := [(3, .int (v3 + (1 : Int32))), (2, .int j8), (0, .ref (a 0)), (1, .int j7), (4, .int o5.1), (5, .int j6)]) hx hb dX12_middle_101 hl (k := 3) rfl rfl (by decide) rfl (fun ls hl => ?_)
              refine lv_goto (tgt := 7) hx hb dX12_middle_104 (by decide) ?_
              exact ih hf hw (lv_sub hl [2, 3, 1, 0] rfl) kx
            clear hf
            have hf := hj8
            clear hj8
            refine lv_if_eq (tgt := 99) hx hb dX12_middle_91 (by decide) (fun hc => ?_) (fun hc => ?_)
            · have hf := ifT hf hc
              refine lv_iload_n hx hb dX12_middle_99 rfl (lv_at hl 2 rfl) ?_
              subst hf
              exact wj8 _ _ _ hw (lv_sub hl [1, 0, 2, 3, 4, 5] rfl)
            · have hf := ifF hf hc
              refine lv_iload hx hb dX12_middle_94 (lv_at hl 4 rfl) ?_
              refine lv_goto (tgt := 100) hx hb dX12_middle_96 (by decide) ?_
              subst hf
              exact wj8 _ _ _ hw (lv_sub hl [1, 0, 2, 3, 4, 5] rfl)
          clear hf
          have hf := hj7
          clear hj7
          refine lv_if_eq (tgt := 87) hx hb dX12_middle_80 (by decide) (fun hc => ?_) (fun hc => ?_)
          · have hf := ifT hf hc
            refine lv_iload_n hx hb dX12_middle_87 rfl (lv_at hl 2 rfl) ?_
            subst hf
            exact wj7 _ _ _ hw (lv_sub hl [1, 2, 3, 4, 5, 0] rfl)
          · have hf := ifF hf hc
            refine lv_iload_n hx hb dX12_middle_83 rfl (lv_at hl 4 rfl) ?_
            refine lv_goto (tgt := 88) hx hb dX12_middle_84 (by decide) ?_
            subst hf
            exact wj7 _ _ _ hw (lv_sub hl [1, 2, 3, 4, 5, 0] rfl)
        clear hf
        have hf := hj6
        clear hj6
        refine lv_if_lt (tgt := 71) hx hb dX12_middle_62 (by decide) (fun hc => ?_) (fun hc => ?_)
        · have hf := ifT hf hc
          refine lv_iconst (v := 1) hx hb dX12_middle_71 (by decide) ?_
          refine lv_goto (tgt := 76) hx hb dX12_middle_72 (by decide) ?_
          subst hf
          exact wj6 _ _ _ hw (lv_sub hl [0, 1, 2, 3, 4, 5] rfl)
        · have hf := ifF hf hc
          refine lv_iload hx hb dX12_middle_65 (lv_at hl 4 rfl) ?_
          refine lv_iload_n hx hb dX12_middle_67 rfl (lv_at hl 2 rfl) ?_
          refine lv_icmp_ge (tgt := 75) hx hb dX12_middle_68 (by decide) (fun hc => ?_) (fun hc => ?_)
          · have hf := ifT hf hc
            refine lv_iconst (v := 0) hx hb dX12_middle_75 (by decide) ?_
            subst hf
            exact wj6 _ _ _ hw (lv_sub hl [0, 1, 2, 3, 4, 5] rfl)
          · have hf := ifF hf hc
            refine lv_iconst (v := 1) hx hb dX12_middle_71 (by decide) ?_
            refine lv_goto (tgt := 76) hx hb dX12_middle_72 (by decide) ?_
            subst hf
            exact wj6 _ _ _ hw (lv_sub hl [0, 1, 2, 3, 4, 5] rfl)
  refine wL1 n ho9 hw (lv_sub hl [3, 2, 1, 0] rfl) (fun H locs ls hw hl => ?_)
  clear wL1 ho9
  refine lv_iload_n hx hb dX12_middle_107 rfl (lv_at hl 1 rfl) ?_
  have hf := Option.some.inj hf
  subst hf
  exact hR _ _ _ _ _ _ hw rfl ⟨rfl, rfl⟩ dX12_middle_108
theorem dX12_areClose_0 : decode cX12_areClose 0 = .ok (.aload_n 0, 1) := by decide +kernel
theorem dX12_areClose_1 : decode cX12_areClose 1 = .ok (.iload_n 1, 1) := by decide +kernel
theorem dX12_areClose_2 : decode cX12_areClose 2 = .ok (.iconst 4, 1) := by decide +kernel
theorem dX12_areClose_3 : decode cX12_areClose 3 = .ok (.invokevirtual 79, 3) := by decide +kernel
theorem dX12_areClose_6 : decode cX12_areClose 6 = .ok (.ifCond .ne 25, 3) := by decide +kernel
theorem dX12_areClose_9 : decode cX12_areClose 9 = .ok (.aload_n 0, 1) := by decide +kernel
theorem dX12_areClose_10 : decode cX12_areClose 10 = .ok (.iload_n 2, 1) := by decide +kernel
theorem dX12_areClose_11 : decode cX12_areClose 11 = .ok (.iconst 4, 1) := by decide +kernel
theorem dX12_areClose_12 : decode cX12_areClose 12 = .ok (.invokevirtual 79, 3) := by decide +kernel
theorem dX12_areClose_15 : decode cX12_areClose 15 = .ok (.ifCond .ne 16, 3) := by decide +kernel
theorem dX12_areClose_18 : decode cX12_areClose 18 = .ok (.aload_n 0, 1) := by decide +kernel
theorem dX12_areClose_19 : decode cX12_areClose 19 = .ok (.iload_n 1, 1) := by decide +kernel
theorem dX12_areClose_20 : decode cX12_areClose 20 = .ok (.iload_n 2, 1) := by decide +kernel
theorem dX12_areClose_21 : decode cX12_areClose 21 = .ok (.invokevirtual 109, 3) := by decide +kernel
theorem dX12_areClose_24 : decode cX12_areClose 24 = .ok (.ifCond .eq 7, 3) := by decide +kernel
theorem dX12_areClose_27 : decode cX12_areClose 27 = .ok (.iconst 1, 1) := by decide +kernel
theorem dX12_areClose_28 : decode cX12_areClose 28 = .ok (.goto 4, 3) := by decide +kernel
theorem dX12_areClose_31 : decode cX12_areClose 31 = .ok (.iconst 0, 1) := by decide +kernel
theorem dX12_areClose_32 : decode cX12_areClose 32 = .ok (.ireturn, 1) := by decide +kernel
theorem k_X12_areClose : MV yX12_areClose cX12_areClose 3 (some .boolean) 2 := ⟨q_1491, qs_72, q_14, q_1492, ⟨by decide, by decide, by decide +kernel⟩⟩
theorem c_X12_areClose {res : Int32} (hf : X12_areClose x_s v1 v2 = some res) : MC l E0 D t yX12_areClose cX12_areClose 3 (some .boolean) 3 0 0 [.ref (a 0), .int v1, .int v2] (mW a t x_s x_kept x_laid x_isKept x_pile x_tape x_taped x_letters x_at x_begun x_token x_value x_opened x_steps x_code0 x_read x_saved x_plan x_bestPlan x_most x_many x_few x_everRight x_lagThen x_shadedThen x_firstFit x_rows x_rowMany x_sorts x_sizes x_number x_holds x_heldOne x_trace x_traced x_own x_isParted) (Qi res (mW a t x_s x_kept x_laid x_isKept x_pile x_tape x_taped x_letters x_at x_begun x_token x_value x_opened x_steps x_code0 x_read x_saved x_plan x_bestPlan x_most x_many x_few x_everRight x_lagThen x_shadedThen x_firstFit x_rows x_rowMany x_sorts x_sizes x_number x_holds x_heldOne x_trace x_traced x_own x_isParted)) := by
  unfold X12_areClose at hf
  refine MC.ofI pn_X12 (Nat.le_of_ble_eq_true rfl) ?_
  intro p e s m args below meth c A Q ls cx hR hw hl
  have hx := cx.1
  have hb := cx.2.1
  have hl : lv_has ls 3 [(0, .ref (a 0)), (1, .int v1), (2, .int v2)] := hl
  refine lv_aload_n hx hb dX12_areClose_0 rfl (lv_at hl 0 rfl) ?_
  refine lv_iload_n hx hb dX12_areClose_1 rfl (lv_at hl 1 rfl) ?_
  refine lv_iconst (v := 4) hx hb dX12_areClose_2 (by decide) ?_
  obtain ⟨r1, h2, hf⟩ := bnS hf
  refine calVi (k := 0) cx hw hl.1 (c_X12_get h2) q_1304 k_X12_get rfl rfl rfl dX12_areClose_3 rfl (Nat.le_of_ble_eq_true rfl) ⟨Nat.le_of_ble_eq_true rfl, Nat.le_of_ble_eq_true rfl⟩ ⟨Nat.le_refl _, Nat.le_refl _⟩ (fun H locs hw => ?_)
  refine lv_if_ne (tgt := 31) hx hb dX12_areClose_6 (by decide) (fun hc => ?_) (fun hc => ?_)
  · have hf := ifF hf hc
    refine lv_iconst (v := 0) hx hb dX12_areClose_31 (by decide) ?_
    have hf := Option.some.inj hf
    subst hf
    exact hR _ _ _ _ _ _ hw rfl ⟨rfl, rfl⟩ dX12_areClose_32
  · have hf := ifT hf hc
    refine lv_aload_n hx hb dX12_areClose_9 rfl (lv_at hl 0 rfl) ?_
    refine lv_iload_n hx hb dX12_areClose_10 rfl (lv_at hl 2 rfl) ?_
    refine lv_iconst (v := 4) hx hb dX12_areClose_11 (by decide) ?_
    obtain ⟨r3, h4, hf⟩ := bnS hf
    refine calVi (k := 0) cx hw hl.1 (c_X12_get h4) q_1304 k_X12_get rfl rfl rfl dX12_areClose_12 rfl (Nat.le_of_ble_eq_true rfl) ⟨Nat.le_of_ble_eq_true rfl, Nat.le_of_ble_eq_true rfl⟩ ⟨Nat.le_refl _, Nat.le_refl _⟩ (fun H locs hw => ?_)
    refine lv_if_ne (tgt := 31) hx hb dX12_areClose_15 (by decide) (fun hc => ?_) (fun hc => ?_)
    · have hf := ifF hf hc
      refine lv_iconst (v := 0) hx hb dX12_areClose_31 (by decide) ?_
      have hf := Option.some.inj hf
      subst hf
      exact hR _ _ _ _ _ _ hw rfl ⟨rfl, rfl⟩ dX12_areClose_32
    · have hf := ifT hf hc
      refine lv_aload_n hx hb dX12_areClose_18 rfl (lv_at hl 0 rfl) ?_
      refine lv_iload_n hx hb dX12_areClose_19 rfl (lv_at hl 1 rfl) ?_
      refine lv_iload_n hx hb dX12_areClose_20 rfl (lv_at hl 2 rfl) ?_
      obtain ⟨r5, h6, hf⟩ := bnS hf
      refine calVi (k := 0) cx hw hl.1 (c_X12_doAgree h6) q_1407 k_X12_doAgree rfl rfl rfl dX12_areClose_21 rfl (Nat.le_of_ble_eq_true rfl) ⟨Nat.le_of_ble_eq_true rfl, Nat.le_of_ble_eq_true rfl⟩ ⟨Nat.le_refl _, Nat.le_refl _⟩ (fun H locs hw => ?_)
      refine lv_if_eq (tgt := 31) hx hb dX12_areClose_24 (by decide) (fun hc => ?_) (fun hc => ?_)
      · have hf := ifT hf hc
        refine lv_iconst (v := 0) hx hb dX12_areClose_31 (by decide) ?_
        have hf := Option.some.inj hf
        subst hf
        exact hR _ _ _ _ _ _ hw rfl ⟨rfl, rfl⟩ dX12_areClose_32
      · have hf := ifF hf hc
        refine lv_iconst (v := 1) hx hb dX12_areClose_27 (by decide) ?_
        refine lv_goto (tgt := 32) hx hb dX12_areClose_28 (by decide) ?_
        have hf := Option.some.inj hf
        subst hf
        exact hR _ _ _ _ _ _ hw rfl ⟨rfl, rfl⟩ dX12_areClose_32
theorem dX12_knotOf_0 : decode cX12_knotOf 0 = .ok (.iconst 1, 1) := by decide +kernel
theorem dX12_knotOf_1 : decode cX12_knotOf 1 = .ok (.iload_n 1, 1) := by decide +kernel
theorem dX12_knotOf_2 : decode cX12_knotOf 2 = .ok (.ishl, 1) := by decide +kernel
theorem dX12_knotOf_3 : decode cX12_knotOf 3 = .ok (.istore_n 2, 1) := by decide +kernel
theorem dX12_knotOf_4 : decode cX12_knotOf 4 = .ok (.iconst 0, 1) := by decide +kernel
theorem dX12_knotOf_5 : decode cX12_knotOf 5 = .ok (.istore_n 3, 1) := by decide +kernel
theorem dX12_knotOf_6 : decode cX12_knotOf 6 = .ok (.iload_n 3, 1) := by decide +kernel
theorem dX12_knotOf_7 : decode cX12_knotOf 7 = .ok (.aload_n 0, 1) := by decide +kernel
theorem dX12_knotOf_8 : decode cX12_knotOf 8 = .ok (.getfield 9, 3) := by decide +kernel
theorem dX12_knotOf_11 : decode cX12_knotOf 11 = .ok (.iconst 4, 1) := by decide +kernel
theorem dX12_knotOf_12 : decode cX12_knotOf 12 = .ok (.iaload, 1) := by decide +kernel
theorem dX12_knotOf_13 : decode cX12_knotOf 13 = .ok (.if_icmp .ge 81, 3) := by decide +kernel
theorem dX12_knotOf_16 : decode cX12_knotOf 16 = .ok (.iconst 0, 1) := by decide +kernel
theorem dX12_knotOf_17 : decode cX12_knotOf 17 = .ok (.istore 4, 2) := by decide +kernel
theorem dX12_knotOf_19 : decode cX12_knotOf 19 = .ok (.iload 4, 2) := by decide +kernel
theorem dX12_knotOf_21 : decode cX12_knotOf 21 = .ok (.aload_n 0, 1) := by decide +kernel
theorem dX12_knotOf_22 : decode cX12_knotOf 22 = .ok (.getfield 9, 3) := by decide +kernel
theorem dX12_knotOf_25 : decode cX12_knotOf 25 = .ok (.iconst 4, 1) := by decide +kernel
theorem dX12_knotOf_26 : decode cX12_knotOf 26 = .ok (.iaload, 1) := by decide +kernel
theorem dX12_knotOf_27 : decode cX12_knotOf 27 = .ok (.if_icmp .ge 61, 3) := by decide +kernel
theorem dX12_knotOf_30 : decode cX12_knotOf 30 = .ok (.iconst 0, 1) := by decide +kernel
theorem dX12_knotOf_31 : decode cX12_knotOf 31 = .ok (.istore 5, 2) := by decide +kernel
theorem dX12_knotOf_33 : decode cX12_knotOf 33 = .ok (.iload 5, 2) := by decide +kernel
theorem dX12_knotOf_35 : decode cX12_knotOf 35 = .ok (.aload_n 0, 1) := by decide +kernel
theorem dX12_knotOf_36 : decode cX12_knotOf 36 = .ok (.getfield 9, 3) := by decide +kernel
theorem dX12_knotOf_39 : decode cX12_knotOf 39 = .ok (.iconst 4, 1) := by decide +kernel
theorem dX12_knotOf_40 : decode cX12_knotOf 40 = .ok (.iaload, 1) := by decide +kernel
theorem dX12_knotOf_41 : decode cX12_knotOf 41 = .ok (.if_icmp .ge 41, 3) := by decide +kernel
theorem dX12_knotOf_44 : decode cX12_knotOf 44 = .ok (.iload_n 2, 1) := by decide +kernel
theorem dX12_knotOf_45 : decode cX12_knotOf 45 = .ok (.iload_n 2, 1) := by decide +kernel
theorem dX12_knotOf_46 : decode cX12_knotOf 46 = .ok (.iload 4, 2) := by decide +kernel
theorem dX12_knotOf_48 : decode cX12_knotOf 48 = .ok (.ishr, 1) := by decide +kernel
theorem dX12_knotOf_49 : decode cX12_knotOf 49 = .ok (.iconst 1, 1) := by decide +kernel
theorem dX12_knotOf_50 : decode cX12_knotOf 50 = .ok (.iand, 1) := by decide +kernel
theorem dX12_knotOf_51 : decode cX12_knotOf 51 = .ok (.iconst 1, 1) := by decide +kernel
theorem dX12_knotOf_52 : decode cX12_knotOf 52 = .ok (.if_icmp .ne 21, 3) := by decide +kernel
theorem dX12_knotOf_55 : decode cX12_knotOf 55 = .ok (.aload_n 0, 1) := by decide +kernel
theorem dX12_knotOf_56 : decode cX12_knotOf 56 = .ok (.iload 4, 2) := by decide +kernel
theorem dX12_knotOf_58 : decode cX12_knotOf 58 = .ok (.iload 5, 2) := by decide +kernel
theorem dX12_knotOf_60 : decode cX12_knotOf 60 = .ok (.invokevirtual 258, 3) := by decide +kernel
theorem dX12_knotOf_63 : decode cX12_knotOf 63 = .ok (.ifCond .eq 10, 3) := by decide +kernel
theorem dX12_knotOf_66 : decode cX12_knotOf 66 = .ok (.iconst 1, 1) := by decide +kernel
theorem dX12_knotOf_67 : decode cX12_knotOf 67 = .ok (.iload 5, 2) := by decide +kernel
theorem dX12_knotOf_69 : decode cX12_knotOf 69 = .ok (.ishl, 1) := by decide +kernel
theorem dX12_knotOf_70 : decode cX12_knotOf 70 = .ok (.goto 4, 3) := by decide +kernel
theorem dX12_knotOf_73 : decode cX12_knotOf 73 = .ok (.iconst 0, 1) := by decide +kernel
theorem dX12_knotOf_74 : decode cX12_knotOf 74 = .ok (.ior, 1) := by decide +kernel
theorem dX12_knotOf_75 : decode cX12_knotOf 75 = .ok (.istore_n 2, 1) := by decide +kernel
theorem dX12_knotOf_76 : decode cX12_knotOf 76 = .ok (.iinc 5 1, 3) := by decide +kernel
theorem dX12_knotOf_79 : decode cX12_knotOf 79 = .ok (.goto (-46), 3) := by decide +kernel
theorem dX12_knotOf_82 : decode cX12_knotOf 82 = .ok (.iinc 4 1, 3) := by decide +kernel
theorem dX12_knotOf_85 : decode cX12_knotOf 85 = .ok (.goto (-66), 3) := by decide +kernel
theorem dX12_knotOf_88 : decode cX12_knotOf 88 = .ok (.iinc 3 1, 3) := by decide +kernel
theorem dX12_knotOf_91 : decode cX12_knotOf 91 = .ok (.goto (-85), 3) := by decide +kernel
theorem dX12_knotOf_94 : decode cX12_knotOf 94 = .ok (.aload_n 0, 1) := by decide +kernel
theorem dX12_knotOf_95 : decode cX12_knotOf 95 = .ok (.iload_n 1, 1) := by decide +kernel
theorem dX12_knotOf_96 : decode cX12_knotOf 96 = .ok (.iconst 4, 1) := by decide +kernel
theorem dX12_knotOf_97 : decode cX12_knotOf 97 = .ok (.invokevirtual 79, 3) := by decide +kernel
theorem dX12_knotOf_100 : decode cX12_knotOf 100 = .ok (.iconst 1, 1) := by decide +kernel
theorem dX12_knotOf_101 : decode cX12_knotOf 101 = .ok (.if_icmp .ne 7, 3) := by decide +kernel
theorem dX12_knotOf_104 : decode cX12_knotOf 104 = .ok (.iconst 0, 1) := by decide +kernel
theorem dX12_knotOf_105 : decode cX12_knotOf 105 = .ok (.goto 4, 3) := by decide +kernel
theorem dX12_knotOf_108 : decode cX12_knotOf 108 = .ok (.iload_n 2, 1) := by decide +kernel
theorem dX12_knotOf_109 : decode cX12_knotOf 109 = .ok (.ireturn, 1) := by decide +kernel
theorem k_X12_knotOf : MV yX12_knotOf cX12_knotOf 6 (some .int) 1 := ⟨q_1487, qs_71, q_14, q_1488, ⟨by decide, by decide, by decide +kernel⟩⟩
theorem c_X12_knotOf {res : Int32} (hf : X12_knotOf n x_s v1 = some res) : MC l E0 D t yX12_knotOf cX12_knotOf 6 (some .int) 4 0 0 [.ref (a 0), .int v1] (mW a t x_s x_kept x_laid x_isKept x_pile x_tape x_taped x_letters x_at x_begun x_token x_value x_opened x_steps x_code0 x_read x_saved x_plan x_bestPlan x_most x_many x_few x_everRight x_lagThen x_shadedThen x_firstFit x_rows x_rowMany x_sorts x_sizes x_number x_holds x_heldOne x_trace x_traced x_own x_isParted) (Qi res (mW a t x_s x_kept x_laid x_isKept x_pile x_tape x_taped x_letters x_at x_begun x_token x_value x_opened x_steps x_code0 x_read x_saved x_plan x_bestPlan x_most x_many x_few x_everRight x_lagThen x_shadedThen x_firstFit x_rows x_rowMany x_sorts x_sizes x_number x_holds x_heldOne x_trace x_traced x_own x_isParted)) := by
  unfold X12_knotOf at hf
  refine MC.ofI pn_X12 (Nat.le_of_ble_eq_true rfl) ?_
  intro p e s m args below meth c A Q ls cx hR hw hl
  have hx := cx.1
  have hb := cx.2.1
  have hl : lv_has ls 6 [(0, .ref (a 0)), (1, .int v1)] := hl
  refine lv_iconst (v := 1) hx hb dX12_knotOf_0 (by decide) ?_
  refine lv_iload_n hx hb dX12_knotOf_1 rfl (lv_at hl 1 rfl) ?_
  refine lv_ishl hx hb dX12_knotOf_2 ?_
  refine lv_istore_n (lv' := [(2, .int ((1 : Int32) <<< (v1 &&& 31))), (0, .ref (a 0)), (1, .int v1)]) hx hb dX12_knotOf_3 rfl hl (by decide) rfl (fun ls hl => ?_)
  refine lv_iconst (v := 0) hx hb dX12_knotOf_4 (by decide) ?_
  refine lv_istore_n (lv' := [(3, .int (0 : Int32)), (2, .int ((1 : Int32) <<< (v1 &&& 31))), (0, .ref (a 0)), (1, .int v1)]) hx hb dX12_knotOf_5 rfl hl (by decide) rfl (fun ls hl => ?_)
  obtain ⟨o6, ho6, hf⟩ := bnS hf
  have wL1 : ∀ (k : Nat) {v1 : Int32} {v2 : Int32} {v3 : Int32} {H : Heap} {locs : List Loc} {ls : Array Slot} {o : Int32 × Int32}, X12_knotOf_L1 n x_s k v2 v3 = some o → Wd D A s (mW a t x_s x_kept x_laid x_isKept x_pile x_tape x_taped x_letters x_at x_begun x_token x_value x_opened x_steps x_code0 x_read x_saved x_plan x_bestPlan x_most x_many x_few x_everRight x_lagThen x_shadedThen x_firstFit x_rows x_rowMany x_sorts x_sizes x_number x_holds x_heldOne x_trace x_traced x_own x_isParted) H locs → lv_has ls 6 [(0, .ref (a 0)), (1, .int v1), (2, .int v2), (3, .int v3)] → (∀ (H : Heap) (locs : List Loc) (ls : Array Slot), Wd D A s (mW a t x_s x_kept x_laid x_isKept x_pile x_tape x_taped x_letters x_at x_begun x_token x_value x_opened x_steps x_code0 x_read x_saved x_plan x_bestPlan x_most x_many x_few x_everRight x_lagThen x_shadedThen x_firstFit x_rows x_rowMany x_sorts x_sizes x_number x_holds x_heldOne x_trace x_traced x_own x_isParted) H locs → lv_has ls 6 [(0, .ref (a 0)), (1, .int v1), (2, .int o.1), (3, .int o.2)] → W p l e (rmz 4 0 0) s m args below meth c H locs 0 0 Q (F0 m 94 ls [])) → W p l e (rmz 4 0 0) s m args below meth c H locs 0 0 Q (F0 m 6 ls []) := by
    clear hf ho6 hw hl
    intro k
    induction k with
    | zero => intro v1 v2 v3 H locs ls o hf hw hl kx; simp [X12_knotOf_L1] at hf
    | succ k ih =>
      intro v1 v2 v3 H locs ls o hf hw hl kx
      rw [X12_knotOf_L1] at hf
      refine lv_iload_n hx hb dX12_knotOf_6 rfl (lv_at hl 3 rfl) ?_
      refine lv_aload_n hx hb dX12_knotOf_7 rfl (lv_at hl 0 rfl) ?_
      refine mg_s cx hw dX12_knotOf_8 ?_
      refine lv_iconst (v := 4) hx hb dX12_knotOf_11 (by decide) ?_
      refine ml_s (j := 4) cx hw (ib_in (by decide)) (by decide) dX12_knotOf_12 ?_
      refine lv_icmp_ge (tgt := 94) hx hb dX12_knotOf_13 (by decide) (fun hc => ?_) (fun hc => ?_)
      · have hf := ifT hf hc
        have hf := Option.some.inj hf
        subst hf
        exact kx _ _ _ hw (lv_sub hl [0, 1, 2, 3] rfl)
      · have hf := ifF hf hc
        refine lv_iconst (v := 0) hx hb dX12_knotOf_16 (by decide) ?_
        refine lv_istore (lv' := [(4, .int (0 : Int32)), (0, .ref (a 0)), (1, .int v1), (2, .int v2), (3, .int v3)]) hx hb dX12_knotOf_17 hl (by decide) rfl (fun ls hl => ?_)
        obtain ⟨o5, ho5, hf⟩ := bnS hf
        have wL2 : ∀ (k : Nat) {v1 : Int32} {v2 : Int32} {v3 : Int32} {v4 : Int32} {H : Heap} {locs : List Loc} {ls : Array Slot} {o : Int32 × Int32}, X12_knotOf_L2 n x_s k v2 v4 = some o → Wd D A s (mW a t x_s x_kept x_laid x_isKept x_pile x_tape x_taped x_letters x_at x_begun x_token x_value x_opened x_steps x_code0 x_read x_saved x_plan x_bestPlan x_most x_many x_few x_everRight x_lagThen x_shadedThen x_firstFit x_rows x_rowMany x_sorts x_sizes x_number x_holds x_heldOne x_trace x_traced x_own x_isParted) H locs → lv_has ls 6 [(0, .ref (a 0)), (1, .int v1), (2, .int v2), (3, .int v3), (4, .int v4)] → (∀ (H : Heap) (locs : List Loc) (ls : Array Slot), Wd D A s (mW a t x_s x_kept x_laid x_isKept x_pile x_tape x_taped x_letters x_at x_begun x_token x_value x_opened x_steps x_code0 x_read x_saved x_plan x_bestPlan x_most x_many x_few x_everRight x_lagThen x_shadedThen x_firstFit x_rows x_rowMany x_sorts x_sizes x_number x_holds x_heldOne x_trace x_traced x_own x_isParted) H locs → lv_has ls 6 [(0, .ref (a 0)), (1, .int v1), (2, .int o.1), (3, .int v3), (4, .int o.2)] → W p l e (rmz 4 0 0) s m args below meth c H locs 0 0 Q (F0 m 88 ls [])) → W p l e (rmz 4 0 0) s m args below meth c H locs 0 0 Q (F0 m 19 ls []) := by
          clear hf ho5 hw hl
          intro k
          induction k with
          | zero => intro v1 v2 v3 v4 H locs ls o hf hw hl kx; simp [X12_knotOf_L2] at hf
          | succ k ih =>
            intro v1 v2 v3 v4 H locs ls o hf hw hl kx
            rw [X12_knotOf_L2] at hf
            refine lv_iload hx hb dX12_knotOf_19 (lv_at hl 4 rfl) ?_
            refine lv_aload_n hx hb dX12_knotOf_21 rfl (lv_at hl 0 rfl) ?_
            refine mg_s cx hw dX12_knotOf_22 ?_
            refine lv_iconst (v := 4) hx hb dX12_knotOf_25 (by decide) ?_
            refine ml_s (j := 4) cx hw (ib_in (by decide)) (by decide) dX12_knotOf_26 ?_
            refine lv_icmp_ge (tgt := 88) hx hb dX12_knotOf_27 (by decide) (fun hc => ?_) (fun hc => ?_)
            · have hf := ifT hf hc
              have hf := Option.some.inj hf
              subst hf
              exact kx _ _ _ hw (lv_sub hl [0, 1, 2, 3, 4] rfl)
            · have hf := ifF hf hc
              refine lv_iconst (v := 0) hx hb dX12_knotOf_30 (by decide) ?_
              refine lv_istore (lv' := [(5, .int (0 : Int32)), (0, .ref (a 0)), (1, .int v1), (2, .int v2), (3, .int v3), (4, .int v4)]) hx hb dX12_knotOf_31 hl (by decide) rfl (fun ls hl => ?_)
              obtain ⟨o4, ho4, hf⟩ := bnS hf
              have wL3 : ∀ (k : Nat) {v1 : Int32} {v2 : Int32} {v3 : Int32} {v4 : Int32} {v5 : Int32} {H : Heap} {locs : List Loc} {ls : Array Slot} {o : Int32 × Int32}, X12_knotOf_L3 n x_s v4 k v2 v5 = some o → Wd D A s (mW a t x_s x_kept x_laid x_isKept x_pile x_tape x_taped x_letters x_at x_begun x_token x_value x_opened x_steps x_code0 x_read x_saved x_plan x_bestPlan x_most x_many x_few x_everRight x_lagThen x_shadedThen x_firstFit x_rows x_rowMany x_sorts x_sizes x_number x_holds x_heldOne x_trace x_traced x_own x_isParted) H locs → lv_has ls 6 [(0, .ref (a 0)), (1, .int v1), (2, .int v2), (3, .int v3), (4, .int v4), (5, .int v5)] → (∀ (H : Heap) (locs : List Loc) (ls : Array Slot), Wd D A s (mW a t x_s x_kept x_laid x_isKept x_pile x_tape x_taped x_letters x_at x_begun x_token x_value x_opened x_steps x_code0 x_read x_saved x_plan x_bestPlan x_most x_many x_few x_everRight x_lagThen x_shadedThen x_firstFit x_rows x_rowMany x_sorts x_sizes x_number x_holds x_heldOne x_trace x_traced x_own x_isParted) H locs → lv_has ls 6 [(0, .ref (a 0)), (1, .int v1), (2, .int o.1), (3, .int v3), (4, .int v4), (5, .int o.2)] → W p l e (rmz 4 0 0) s m args below meth c H locs 0 0 Q (F0 m 82 ls [])) → W p l e (rmz 4 0 0) s m args below meth c H locs 0 0 Q (F0 m 33 ls []) := by
                clear hf ho4 hw hl
                intro k
                induction k with
                | zero => intro v1 v2 v3 v4 v5 H locs ls o hf hw hl kx; simp [X12_knotOf_L3] at hf
                | succ k ih =>
                  intro v1 v2 v3 v4 v5 H locs ls o hf hw hl kx
                  rw [X12_knotOf_L3] at hf
                  refine lv_iload hx hb dX12_knotOf_33 (lv_at hl 5 rfl) ?_
                  refine lv_aload_n hx hb dX12_knotOf_35 rfl (lv_at hl 0 rfl) ?_
                  refine mg_s cx hw dX12_knotOf_36 ?_
                  refine lv_iconst (v := 4) hx hb dX12_knotOf_39 (by decide) ?_
                  refine ml_s (j := 4) cx hw (ib_in (by decide)) (by decide) dX12_knotOf_40 ?_
                  refine lv_icmp_ge (tgt := 82) hx hb dX12_knotOf_41 (by decide) (fun hc => ?_) (fun hc => ?_)
                  · have hf := ifT hf hc
                    have hf := Option.some.inj hf
                    subst hf
                    exact kx _ _ _ hw (lv_sub hl [0, 1, 2, 3, 4, 5] rfl)
                  · have hf := ifF hf hc
                    refine lv_iload_n hx hb dX12_knotOf_44 rfl (lv_at hl 2 rfl) ?_
                    refine lv_iload_n hx hb dX12_knotOf_45 rfl (lv_at hl 2 rfl) ?_
                    refine lv_iload hx hb dX12_knotOf_46 (lv_at hl 4 rfl) ?_
                    refine lv_ishr hx hb dX12_knotOf_48 ?_
                    refine lv_iconst (v := 1) hx hb dX12_knotOf_49 (by decide) ?_
                    refine lv_iand hx hb dX12_knotOf_50 ?_
                    refine lv_iconst (v := 1) hx hb dX12_knotOf_51 (by decide) ?_
                    obtain ⟨j3, hj3, hf⟩ := bnS hf
                    have wj3 : ∀ (H : Heap) (locs : List Loc) (ls : Array Slot), Wd D A s (mW a t x_s x_kept x_laid x_isKept x_pile x_tape x_taped x_letters x_at x_begun x_token x_value x_opened x_steps x_code0 x_read x_saved x_plan x_bestPlan x_most x_many x_few x_everRight x_lagThen x_shadedThen x_firstFit x_rows x_rowMany x_sorts x_sizes x_number x_holds x_heldOne x_trace x_traced x_own x_isParted) H locs → lv_has ls 6 [(0, .ref (a 0)), (1, .int v1), (2, .int v2), (3, .int v3), (4, .int v4), (5, .int v5)] → W p l e (rmz 4 0 0) s m args below meth c H locs 0 0 Q (F0 m 74 ls [.int j3, .int v2]) := by
                      intro H locs ls hw hl
                      refine lv_ior hx hb dX12_knotOf_74 ?_
                      refine lv_istore_n (lv' := [(2, .int (v2 ||| j3)), (0, .ref (a 0)), (1, .int v1), (3, .int v3), (4, .int v4), (5, .int v5)]) hx hb dX12_knotOf_75 rfl hl (by decide) rfl (fun ls hl => ?_)
                      refine lv_iinc (v := (v5 + (1 : Int32))) (lv' := [(5, .int (v5 + (1 : Int32))), (2, .int (v2 ||| j3)), (0, .ref (a 0)), (1, .int v1), (3, .int v3), (4, .int v4)]) hx hb dX12_knotOf_76 hl (k := 5) rfl rfl (by decide) rfl (fun ls hl => ?_)
                      refine lv_goto (tgt := 33) hx hb dX12_knotOf_79 (by decide) ?_
                      exact ih hf hw (lv_sub hl [2, 3, 1, 4, 5, 0] rfl) kx
                    clear hf
                    have hf := hj3
                    clear hj3
                    refine lv_icmp_ne (tgt := 73) hx hb dX12_knotOf_52 (by decide) (fun hc => ?_) (fun hc => ?_)
                    · have hf := ifF hf hc
                      refine lv_iconst (v := 0) hx hb dX12_knotOf_73 (by decide) ?_
                      have hf := Option.some.inj hf
                      subst hf
                      exact wj3 _ _ _ hw (lv_sub hl [0, 1, 2, 3, 4, 5] rfl)
                    · have hf := ifT hf hc
                      refine lv_aload_n hx hb dX12_knotOf_55 rfl (lv_at hl 0 rfl) ?_
                      refine lv_iload hx hb dX12_knotOf_56 (lv_at hl 4 rfl) ?_
                      refine lv_iload hx hb dX12_knotOf_58 (lv_at hl 5 rfl) ?_
                      obtain ⟨r1, h2, hf⟩ := bnS hf
                      refine calVi (k := 0) cx hw hl.1 (c_X12_areClose h2) q_1489 k_X12_areClose rfl rfl rfl dX12_knotOf_60 rfl (Nat.le_of_ble_eq_true rfl) ⟨Nat.le_of_ble_eq_true rfl, Nat.le_of_ble_eq_true rfl⟩ ⟨Nat.le_refl _, Nat.le_refl _⟩ (fun H locs hw => ?_)
                      refine lv_if_eq (tgt := 73) hx hb dX12_knotOf_63 (by decide) (fun hc => ?_) (fun hc => ?_)
                      · have hf := ifT hf hc
                        refine lv_iconst (v := 0) hx hb dX12_knotOf_73 (by decide) ?_
                        have hf := Option.some.inj hf
                        subst hf
                        exact wj3 _ _ _ hw (lv_sub hl [0, 1, 2, 3, 4, 5] rfl)
                      · have hf := ifF hf hc
                        refine lv_iconst (v := 1) hx hb dX12_knotOf_66 (by decide) ?_
                        refine lv_iload hx hb dX12_knotOf_67 (lv_at hl 5 rfl) ?_
                        refine lv_ishl hx hb dX12_knotOf_69 ?_
                        refine lv_goto (tgt := 74) hx hb dX12_knotOf_70 (by decide) ?_
                        have hf := Option.some.inj hf
                        subst hf
                        exact wj3 _ _ _ hw (lv_sub hl [0, 1, 2, 3, 4, 5] rfl)
              refine wL3 n ho4 hw (lv_sub hl [1, 2, 3, 4, 5, 0] rfl) (fun H locs ls hw hl => ?_)
              clear wL3 ho4
              refine lv_iinc (v := (v4 + (1 : Int32))) (lv' := [(4, .int (v4 + (1 : Int32))), (0, .ref (a 0)), (1, .int v1), (2, .int o4.1), (3, .int v3), (5, .int o4.2)]) hx hb dX12_knotOf_82 hl (k := 4) rfl rfl (by decide) rfl (fun ls hl => ?_)
              refine lv_goto (tgt := 19) hx hb dX12_knotOf_85 (by decide) ?_
              exact ih hf hw (lv_sub hl [1, 2, 3, 4, 0] rfl) kx
        refine wL2 n ho5 hw (lv_sub hl [1, 2, 3, 4, 0] rfl) (fun H locs ls hw hl => ?_)
        clear wL2 ho5
        refine lv_iinc (v := (v3 + (1 : Int32))) (lv' := [(3, .int (v3 + (1 : Int32))), (0, .ref (a 0)), (1, .int v1), (2, .int o5.1), (4, .int o5.2)]) hx hb dX12_knotOf_88 hl (k := 3) rfl rfl (by decide) rfl (fun ls hl => ?_)
        refine lv_goto (tgt := 6) hx hb dX12_knotOf_91 (by decide) ?_
        exact ih hf hw (lv_sub hl [1, 2, 3, 0] rfl) kx
  refine wL1 n ho6 hw (lv_sub hl [2, 3, 1, 0] rfl) (fun H locs ls hw hl => ?_)
  clear wL1 ho6
  refine lv_aload_n hx hb dX12_knotOf_94 rfl (lv_at hl 0 rfl) ?_
  refine lv_iload_n hx hb dX12_knotOf_95 rfl (lv_at hl 1 rfl) ?_
  refine lv_iconst (v := 4) hx hb dX12_knotOf_96 (by decide) ?_
  obtain ⟨r7, h8, hf⟩ := bnS hf
  refine calVi (k := 0) cx hw hl.1 (c_X12_get h8) q_1304 k_X12_get rfl rfl rfl dX12_knotOf_97 rfl (Nat.le_of_ble_eq_true rfl) ⟨Nat.le_of_ble_eq_true rfl, Nat.le_of_ble_eq_true rfl⟩ ⟨Nat.le_refl _, Nat.le_refl _⟩ (fun H locs hw => ?_)
  refine lv_iconst (v := 1) hx hb dX12_knotOf_100 (by decide) ?_
  refine lv_icmp_ne (tgt := 108) hx hb dX12_knotOf_101 (by decide) (fun hc => ?_) (fun hc => ?_)
  · have hf := ifF hf hc
    refine lv_iload_n hx hb dX12_knotOf_108 rfl (lv_at hl 2 rfl) ?_
    have hf := Option.some.inj hf
    subst hf
    exact hR _ _ _ _ _ _ hw rfl ⟨rfl, rfl⟩ dX12_knotOf_109
  · have hf := ifT hf hc
    refine lv_iconst (v := 0) hx hb dX12_knotOf_104 (by decide) ?_
    refine lv_goto (tgt := 109) hx hb dX12_knotOf_105 (by decide) ?_
    have hf := Option.some.inj hf
    subst hf
    exact hR _ _ _ _ _ _ hw rfl ⟨rfl, rfl⟩ dX12_knotOf_109
theorem dX12_knots_0 : decode cX12_knots 0 = .ok (.iload_n 1, 1) := by decide +kernel
theorem dX12_knots_1 : decode cX12_knots 1 = .ok (.iconst (-1), 1) := by decide +kernel
theorem dX12_knots_2 : decode cX12_knots 2 = .ok (.if_icmp .eq 13, 3) := by decide +kernel
theorem dX12_knots_5 : decode cX12_knots 5 = .ok (.aload_n 0, 1) := by decide +kernel
theorem dX12_knots_6 : decode cX12_knots 6 = .ok (.iload_n 1, 1) := by decide +kernel
theorem dX12_knots_7 : decode cX12_knots 7 = .ok (.invokevirtual 231, 3) := by decide +kernel
theorem dX12_knots_10 : decode cX12_knots 10 = .ok (.ifCond .ne 5, 3) := by decide +kernel
theorem dX12_knots_13 : decode cX12_knots 13 = .ok (.iconst (-1), 1) := by decide +kernel
theorem dX12_knots_14 : decode cX12_knots 14 = .ok (.ireturn, 1) := by decide +kernel
theorem dX12_knots_15 : decode cX12_knots 15 = .ok (.iload_n 1, 1) := by decide +kernel
theorem dX12_knots_16 : decode cX12_knots 16 = .ok (.ifCond .lt 9, 3) := by decide +kernel
theorem dX12_knots_19 : decode cX12_knots 19 = .ok (.aload_n 0, 1) := by decide +kernel
theorem dX12_knots_20 : decode cX12_knots 20 = .ok (.iload_n 1, 1) := by decide +kernel
theorem dX12_knots_21 : decode cX12_knots 21 = .ok (.invokevirtual 261, 3) := by decide +kernel
theorem dX12_knots_24 : decode cX12_knots 24 = .ok (.ireturn, 1) := by decide +kernel
theorem dX12_knots_25 : decode cX12_knots 25 = .ok (.iconst 0, 1) := by decide +kernel
theorem dX12_knots_26 : decode cX12_knots 26 = .ok (.istore_n 2, 1) := by decide +kernel
theorem dX12_knots_27 : decode cX12_knots 27 = .ok (.iconst 0, 1) := by decide +kernel
theorem dX12_knots_28 : decode cX12_knots 28 = .ok (.istore_n 3, 1) := by decide +kernel
theorem dX12_knots_29 : decode cX12_knots 29 = .ok (.iload_n 3, 1) := by decide +kernel
theorem dX12_knots_30 : decode cX12_knots 30 = .ok (.aload_n 0, 1) := by decide +kernel
theorem dX12_knots_31 : decode cX12_knots 31 = .ok (.getfield 9, 3) := by decide +kernel
theorem dX12_knots_34 : decode cX12_knots 34 = .ok (.iconst 4, 1) := by decide +kernel
theorem dX12_knots_35 : decode cX12_knots 35 = .ok (.iaload, 1) := by decide +kernel
theorem dX12_knots_36 : decode cX12_knots 36 = .ok (.if_icmp .ge 38, 3) := by decide +kernel
theorem dX12_knots_39 : decode cX12_knots 39 = .ok (.aload_n 0, 1) := by decide +kernel
theorem dX12_knots_40 : decode cX12_knots 40 = .ok (.iload_n 3, 1) := by decide +kernel
theorem dX12_knots_41 : decode cX12_knots 41 = .ok (.invokevirtual 261, 3) := by decide +kernel
theorem dX12_knots_44 : decode cX12_knots 44 = .ok (.istore 4, 2) := by decide +kernel
theorem dX12_knots_46 : decode cX12_knots 46 = .ok (.iload_n 2, 1) := by decide +kernel
theorem dX12_knots_47 : decode cX12_knots 47 = .ok (.iload 4, 2) := by decide +kernel
theorem dX12_knots_49 : decode cX12_knots 49 = .ok (.ifCond .eq 16, 3) := by decide +kernel
theorem dX12_knots_52 : decode cX12_knots 52 = .ok (.iload 4, 2) := by decide +kernel
theorem dX12_knots_54 : decode cX12_knots 54 = .ok (.iconst 1, 1) := by decide +kernel
theorem dX12_knots_55 : decode cX12_knots 55 = .ok (.iload_n 3, 1) := by decide +kernel
theorem dX12_knots_56 : decode cX12_knots 56 = .ok (.ishl, 1) := by decide +kernel
theorem dX12_knots_57 : decode cX12_knots 57 = .ok (.irem, 1) := by decide +kernel
theorem dX12_knots_58 : decode cX12_knots 58 = .ok (.ifCond .ne 7, 3) := by decide +kernel
theorem dX12_knots_61 : decode cX12_knots 61 = .ok (.iconst 1, 1) := by decide +kernel
theorem dX12_knots_62 : decode cX12_knots 62 = .ok (.goto 4, 3) := by decide +kernel
theorem dX12_knots_65 : decode cX12_knots 65 = .ok (.iconst 0, 1) := by decide +kernel
theorem dX12_knots_66 : decode cX12_knots 66 = .ok (.iadd, 1) := by decide +kernel
theorem dX12_knots_67 : decode cX12_knots 67 = .ok (.istore_n 2, 1) := by decide +kernel
theorem dX12_knots_68 : decode cX12_knots 68 = .ok (.iinc 3 1, 3) := by decide +kernel
theorem dX12_knots_71 : decode cX12_knots 71 = .ok (.goto (-42), 3) := by decide +kernel
theorem dX12_knots_74 : decode cX12_knots 74 = .ok (.iload_n 2, 1) := by decide +kernel
theorem dX12_knots_75 : decode cX12_knots 75 = .ok (.ireturn, 1) := by decide +kernel
theorem k_X12_knots : MV yX12_knots cX12_knots 5 (some .int) 1 := ⟨q_1482, q_1483, q_14, q_1484, ⟨by decide, by decide, by decide +kernel⟩⟩
theorem c_X12_knots {res : Int32} (hf : X12_knots n x_s v1 = some res) : MC l E0 D t yX12_knots cX12_knots 5 (some .int) 5 0 0 [.ref (a 0), .int v1] (mW a t x_s x_kept x_laid x_isKept x_pile x_tape x_taped x_letters x_at x_begun x_token x_value x_opened x_steps x_code0 x_read x_saved x_plan x_bestPlan x_most x_many x_few x_everRight x_lagThen x_shadedThen x_firstFit x_rows x_rowMany x_sorts x_sizes x_number x_holds x_heldOne x_trace x_traced x_own x_isParted) (Qi res (mW a t x_s x_kept x_laid x_isKept x_pile x_tape x_taped x_letters x_at x_begun x_token x_value x_opened x_steps x_code0 x_read x_saved x_plan x_bestPlan x_most x_many x_few x_everRight x_lagThen x_shadedThen x_firstFit x_rows x_rowMany x_sorts x_sizes x_number x_holds x_heldOne x_trace x_traced x_own x_isParted)) := by
  unfold X12_knots at hf
  refine MC.ofI pn_X12 (Nat.le_of_ble_eq_true rfl) ?_
  intro p e s m args below meth c A Q ls cx hR hw hl
  have hx := cx.1
  have hb := cx.2.1
  have hl : lv_has ls 5 [(0, .ref (a 0)), (1, .int v1)] := hl
  refine lv_iload_n hx hb dX12_knots_0 rfl (lv_at hl 1 rfl) ?_
  refine lv_iconst (v := (-1)) hx hb dX12_knots_1 (by decide) ?_
  obtain ⟨J1, hJ1, hf⟩ := jnS hf
  have wj1 : ∀ (j1 : Unit) (H : Heap) (locs : List Loc) (ls : Array Slot), J1 j1 = some res → Wd D A s (mW a t x_s x_kept x_laid x_isKept x_pile x_tape x_taped x_letters x_at x_begun x_token x_value x_opened x_steps x_code0 x_read x_saved x_plan x_bestPlan x_most x_many x_few x_everRight x_lagThen x_shadedThen x_firstFit x_rows x_rowMany x_sorts x_sizes x_number x_holds x_heldOne x_trace x_traced x_own x_isParted) H locs → lv_has ls 5 [(0, .ref (a 0)), (1, .int v1)] → W p l e (rmz 5 0 0) s m args below meth c H locs 0 0 Q (F0 m 15 ls []) := by
    intro j1 H locs ls hf hw hl
    have hf := hJ1 _ hf
    refine lv_iload_n hx hb dX12_knots_15 rfl (lv_at hl 1 rfl) ?_
    refine lv_if_lt (tgt := 25) hx hb dX12_knots_16 (by decide) (fun hc => ?_) (fun hc => ?_)
    · have hf := ifT hf hc
      refine lv_iconst (v := 0) hx hb dX12_knots_25 (by decide) ?_
      refine lv_istore_n (lv' := [(2, .int (0 : Int32)), (0, .ref (a 0)), (1, .int v1)]) hx hb dX12_knots_26 rfl hl (by decide) rfl (fun ls hl => ?_)
      refine lv_iconst (v := 0) hx hb dX12_knots_27 (by decide) ?_
      refine lv_istore_n (lv' := [(3, .int (0 : Int32)), (2, .int (0 : Int32)), (0, .ref (a 0)), (1, .int v1)]) hx hb dX12_knots_28 rfl hl (by decide) rfl (fun ls hl => ?_)
      obtain ⟨o6, ho6, hf⟩ := bnS hf
      have wL1 : ∀ (k : Nat) {v1 : Int32} {v2 : Int32} {v3 : Int32} {H : Heap} {locs : List Loc} {ls : Array Slot} {o : Int32 × Int32}, X12_knots_L1 n x_s k v2 v3 = some o → Wd D A s (mW a t x_s x_kept x_laid x_isKept x_pile x_tape x_taped x_letters x_at x_begun x_token x_value x_opened x_steps x_code0 x_read x_saved x_plan x_bestPlan x_most x_many x_few x_everRight x_lagThen x_shadedThen x_firstFit x_rows x_rowMany x_sorts x_sizes x_number x_holds x_heldOne x_trace x_traced x_own x_isParted) H locs → lv_has ls 5 [(0, .ref (a 0)), (1, .int v1), (2, .int v2), (3, .int v3)] → (∀ (H : Heap) (locs : List Loc) (ls : Array Slot), Wd D A s (mW a t x_s x_kept x_laid x_isKept x_pile x_tape x_taped x_letters x_at x_begun x_token x_value x_opened x_steps x_code0 x_read x_saved x_plan x_bestPlan x_most x_many x_few x_everRight x_lagThen x_shadedThen x_firstFit x_rows x_rowMany x_sorts x_sizes x_number x_holds x_heldOne x_trace x_traced x_own x_isParted) H locs → lv_has ls 5 [(0, .ref (a 0)), (1, .int v1), (2, .int o.1), (3, .int o.2)] → W p l e (rmz 5 0 0) s m args below meth c H locs 0 0 Q (F0 m 74 ls [])) → W p l e (rmz 5 0 0) s m args below meth c H locs 0 0 Q (F0 m 29 ls []) := by
        clear hf ho6 hw hl
        intro k
        induction k with
        | zero => intro v1 v2 v3 H locs ls o hf hw hl kx; simp [X12_knots_L1] at hf
        | succ k ih =>
          intro v1 v2 v3 H locs ls o hf hw hl kx
          rw [X12_knots_L1] at hf
          refine lv_iload_n hx hb dX12_knots_29 rfl (lv_at hl 3 rfl) ?_
          refine lv_aload_n hx hb dX12_knots_30 rfl (lv_at hl 0 rfl) ?_
          refine mg_s cx hw dX12_knots_31 ?_
          refine lv_iconst (v := 4) hx hb dX12_knots_34 (by decide) ?_
          refine ml_s (j := 4) cx hw (ib_in (by decide)) (by decide) dX12_knots_35 ?_
          refine lv_icmp_ge (tgt := 74) hx hb dX12_knots_36 (by decide) (fun hc => ?_) (fun hc => ?_)
          · have hf := ifT hf hc
            have hf := Option.some.inj hf
            subst hf
            exact kx _ _ _ hw (lv_sub hl [0, 1, 2, 3] rfl)
          · have hf := ifF hf hc
            refine lv_aload_n hx hb dX12_knots_39 rfl (lv_at hl 0 rfl) ?_
            refine lv_iload_n hx hb dX12_knots_40 rfl (lv_at hl 3 rfl) ?_
            obtain ⟨r2, h3, hf⟩ := bnS hf
            refine calVi (k := 0) cx hw hl.1 (c_X12_knotOf h3) q_1485 k_X12_knotOf rfl rfl rfl dX12_knots_41 rfl (Nat.le_of_ble_eq_true rfl) ⟨Nat.le_of_ble_eq_true rfl, Nat.le_of_ble_eq_true rfl⟩ ⟨Nat.le_refl _, Nat.le_refl _⟩ (fun H locs hw => ?_)
            refine lv_istore (lv' := [(4, .int r2), (0, .ref (a 0)), (1, .int v1), (2, .int v2), (3, .int v3)]) hx hb dX12_knots_44 hl (by decide) rfl (fun ls hl => ?_)
            refine lv_iload_n hx hb dX12_knots_46 rfl (lv_at hl 3 rfl) ?_
            refine lv_iload hx hb dX12_knots_47 (lv_at hl 0 rfl) ?_
            obtain ⟨j5, hj5, hf⟩ := bnS hf
            have wj5 : ∀ (H : Heap) (locs : List Loc) (ls : Array Slot), Wd D A s (mW a t x_s x_kept x_laid x_isKept x_pile x_tape x_taped x_letters x_at x_begun x_token x_value x_opened x_steps x_code0 x_read x_saved x_plan x_bestPlan x_most x_many x_few x_everRight x_lagThen x_shadedThen x_firstFit x_rows x_rowMany x_sorts x_sizes x_number x_holds x_heldOne x_trace x_traced x_own x_isParted) H locs → lv_has ls 5 [(0, .ref (a 0)), (1, .int v1), (2, .int v2), (3, .int v3), (4, .int r2)] → W p l e (rmz 5 0 0) s m args below meth c H locs 0 0 Q (F0 m 66 ls [.int j5, .int v2]) := by
              intro H locs ls hw hl
              refine lv_iadd hx hb dX12_knots_66 ?_
              refine lv_istore_n (lv' := [(2, .int (v2 + j5)), (0, .ref (a 0)), (1, .int v1), (3, .int v3), (4, .int r2)]) hx hb dX12_knots_67 rfl hl (by decide) rfl (fun ls hl => ?_)
              refine lv_iinc (v := (v3 + (1 : Int32))) (lv' := [(3, .int (v3 + (1 : Int32))), (2, .int (v2 + j5)), (0, .ref (a 0)), (1, .int v1), (4, .int r2)]) hx hb dX12_knots_68 hl (k := 3) rfl rfl (by decide) rfl (fun ls hl => ?_)
              refine lv_goto (tgt := 29) hx hb dX12_knots_71 (by decide) ?_
              exact ih hf hw (lv_sub hl [2, 3, 1, 0] rfl) kx
            clear hf
            have hf := hj5
            clear hj5
            refine lv_if_eq (tgt := 65) hx hb dX12_knots_49 (by decide) (fun hc => ?_) (fun hc => ?_)
            · have hf := ifT hf hc
              refine lv_iconst (v := 0) hx hb dX12_knots_65 (by decide) ?_
              have hf := Option.some.inj hf
              subst hf
              exact wj5 _ _ _ hw (lv_sub hl [1, 2, 3, 4, 0] rfl)
            · have hf := ifF hf hc
              refine lv_iload hx hb dX12_knots_52 (lv_at hl 0 rfl) ?_
              refine lv_iconst (v := 1) hx hb dX12_knots_54 (by decide) ?_
              refine lv_iload_n hx hb dX12_knots_55 rfl (lv_at hl 4 rfl) ?_
              refine lv_ishl hx hb dX12_knots_56 ?_
              obtain ⟨h4, hf⟩ := ckS hf
              refine lv_irem hx hb dX12_knots_57 (by simpa using h4) ?_
              refine lv_if_ne (tgt := 65) hx hb dX12_knots_58 (by decide) (fun hc => ?_) (fun hc => ?_)
              · have hf := ifF hf hc
                refine lv_iconst (v := 0) hx hb dX12_knots_65 (by decide) ?_
                have hf := Option.some.inj hf
                subst hf
                exact wj5 _ _ _ hw (lv_sub hl [1, 2, 3, 4, 0] rfl)
              · have hf := ifT hf hc
                refine lv_iconst (v := 1) hx hb dX12_knots_61 (by decide) ?_
                refine lv_goto (tgt := 66) hx hb dX12_knots_62 (by decide) ?_
                have hf := Option.some.inj hf
                subst hf
                exact wj5 _ _ _ hw (lv_sub hl [1, 2, 3, 4, 0] rfl)
      refine wL1 n ho6 hw (lv_sub hl [2, 3, 1, 0] rfl) (fun H locs ls hw hl => ?_)
      clear wL1 ho6
      refine lv_iload_n hx hb dX12_knots_74 rfl (lv_at hl 2 rfl) ?_
      have hf := Option.some.inj hf
      subst hf
      exact hR _ _ _ _ _ _ hw rfl ⟨rfl, rfl⟩ dX12_knots_75
    · have hf := ifF hf hc
      refine lv_aload_n hx hb dX12_knots_19 rfl (lv_at hl 0 rfl) ?_
      refine lv_iload_n hx hb dX12_knots_20 rfl (lv_at hl 1 rfl) ?_
      obtain ⟨r7, h8, hf⟩ := bnS hf
      refine calVi (k := 0) cx hw hl.1 (c_X12_knotOf h8) q_1485 k_X12_knotOf rfl rfl rfl dX12_knots_21 rfl (Nat.le_of_ble_eq_true rfl) ⟨Nat.le_of_ble_eq_true rfl, Nat.le_of_ble_eq_true rfl⟩ ⟨Nat.le_refl _, Nat.le_refl _⟩ (fun H locs hw => ?_)
      have hf := Option.some.inj hf
      subst hf
      exact hR _ _ _ _ _ _ hw rfl ⟨rfl, rfl⟩ dX12_knots_24
  clear hJ1
  refine lv_icmp_eq (tgt := 15) hx hb dX12_knots_2 (by decide) (fun hc => ?_) (fun hc => ?_)
  · have hf := ifT hf hc
    exact wj1 _ _ _ _ hf hw (lv_sub hl [0, 1] rfl)
  · have hf := ifF hf hc
    refine lv_aload_n hx hb dX12_knots_5 rfl (lv_at hl 0 rfl) ?_
    refine lv_iload_n hx hb dX12_knots_6 rfl (lv_at hl 1 rfl) ?_
    refine calVi (k := 0) cx hw hl.1 (c_X12_isDial rfl) q_1296 k_X12_isDial rfl rfl rfl dX12_knots_7 rfl (Nat.le_of_ble_eq_true rfl) ⟨Nat.le_of_ble_eq_true rfl, Nat.le_of_ble_eq_true rfl⟩ ⟨Nat.le_refl _, Nat.le_refl _⟩ (fun H locs hw => ?_)
    refine lv_if_ne (tgt := 15) hx hb dX12_knots_10 (by decide) (fun hc => ?_) (fun hc => ?_)
    · have hf := ifF hf hc
      exact wj1 _ _ _ _ hf hw (lv_sub hl [0, 1] rfl)
    · have hf := ifT hf hc
      refine lv_iconst (v := (-1)) hx hb dX12_knots_13 (by decide) ?_
      have hf := Option.some.inj hf
      subst hf
      exact hR _ _ _ _ _ _ hw rfl ⟨rfl, rfl⟩ dX12_knots_14
theorem dX12_seats_0 : decode cX12_seats 0 = .ok (.iload_n 1, 1) := by decide +kernel
theorem dX12_seats_1 : decode cX12_seats 1 = .ok (.iconst 0, 1) := by decide +kernel
theorem dX12_seats_2 : decode cX12_seats 2 = .ok (.bipush 99, 2) := by decide +kernel
theorem dX12_seats_4 : decode cX12_seats 4 = .ok (.invokestatic 71, 3) := by decide +kernel
theorem dX12_seats_7 : decode cX12_seats 7 = .ok (.ifCond .eq 12, 3) := by decide +kernel
theorem dX12_seats_10 : decode cX12_seats 10 = .ok (.iload_n 2, 1) := by decide +kernel
theorem dX12_seats_11 : decode cX12_seats 11 = .ok (.iconst 0, 1) := by decide +kernel
theorem dX12_seats_12 : decode cX12_seats 12 = .ok (.iconst 1, 1) := by decide +kernel
theorem dX12_seats_13 : decode cX12_seats 13 = .ok (.invokestatic 71, 3) := by decide +kernel
theorem dX12_seats_16 : decode cX12_seats 16 = .ok (.ifCond .ne 5, 3) := by decide +kernel
theorem dX12_seats_19 : decode cX12_seats 19 = .ok (.iconst (-1), 1) := by decide +kernel
theorem dX12_seats_20 : decode cX12_seats 20 = .ok (.ireturn, 1) := by decide +kernel
theorem dX12_seats_21 : decode cX12_seats 21 = .ok (.iconst 0, 1) := by decide +kernel
theorem dX12_seats_22 : decode cX12_seats 22 = .ok (.istore_n 3, 1) := by decide +kernel
theorem dX12_seats_23 : decode cX12_seats 23 = .ok (.iconst 0, 1) := by decide +kernel
theorem dX12_seats_24 : decode cX12_seats 24 = .ok (.istore 4, 2) := by decide +kernel
theorem dX12_seats_26 : decode cX12_seats 26 = .ok (.iconst 1, 1) := by decide +kernel
theorem dX12_seats_27 : decode cX12_seats 27 = .ok (.istore 5, 2) := by decide +kernel
theorem dX12_seats_29 : decode cX12_seats 29 = .ok (.iload 5, 2) := by decide +kernel
theorem dX12_seats_31 : decode cX12_seats 31 = .ok (.bipush 64, 2) := by decide +kernel
theorem dX12_seats_33 : decode cX12_seats 33 = .ok (.if_icmp .ge 154, 3) := by decide +kernel
theorem dX12_seats_36 : decode cX12_seats 36 = .ok (.iload 5, 2) := by decide +kernel
theorem dX12_seats_38 : decode cX12_seats 38 = .ok (.iload 5, 2) := by decide +kernel
theorem dX12_seats_40 : decode cX12_seats 40 = .ok (.iconst 1, 1) := by decide +kernel
theorem dX12_seats_41 : decode cX12_seats 41 = .ok (.ishl, 1) := by decide +kernel
theorem dX12_seats_42 : decode cX12_seats 42 = .ok (.iand, 1) := by decide +kernel
theorem dX12_seats_43 : decode cX12_seats 43 = .ok (.ifCond .ne 7, 3) := by decide +kernel
theorem dX12_seats_46 : decode cX12_seats 46 = .ok (.iconst 1, 1) := by decide +kernel
theorem dX12_seats_47 : decode cX12_seats 47 = .ok (.goto 4, 3) := by decide +kernel
theorem dX12_seats_50 : decode cX12_seats 50 = .ok (.iconst 0, 1) := by decide +kernel
theorem dX12_seats_51 : decode cX12_seats 51 = .ok (.istore 6, 2) := by decide +kernel
theorem dX12_seats_53 : decode cX12_seats 53 = .ok (.iconst 0, 1) := by decide +kernel
theorem dX12_seats_54 : decode cX12_seats 54 = .ok (.istore 7, 2) := by decide +kernel
theorem dX12_seats_56 : decode cX12_seats 56 = .ok (.iconst 0, 1) := by decide +kernel
theorem dX12_seats_57 : decode cX12_seats 57 = .ok (.istore 8, 2) := by decide +kernel
theorem dX12_seats_59 : decode cX12_seats 59 = .ok (.iload 8, 2) := by decide +kernel
theorem dX12_seats_61 : decode cX12_seats 61 = .ok (.bipush 6, 2) := by decide +kernel
theorem dX12_seats_63 : decode cX12_seats 63 = .ok (.if_icmp .ge 78, 3) := by decide +kernel
theorem dX12_seats_66 : decode cX12_seats 66 = .ok (.iload 5, 2) := by decide +kernel
theorem dX12_seats_68 : decode cX12_seats 68 = .ok (.iload 8, 2) := by decide +kernel
theorem dX12_seats_70 : decode cX12_seats 70 = .ok (.ishr, 1) := by decide +kernel
theorem dX12_seats_71 : decode cX12_seats 71 = .ok (.iconst 1, 1) := by decide +kernel
theorem dX12_seats_72 : decode cX12_seats 72 = .ok (.iand, 1) := by decide +kernel
theorem dX12_seats_73 : decode cX12_seats 73 = .ok (.iconst 1, 1) := by decide +kernel
theorem dX12_seats_74 : decode cX12_seats 74 = .ok (.if_icmp .ne 7, 3) := by decide +kernel
theorem dX12_seats_77 : decode cX12_seats 77 = .ok (.iconst 1, 1) := by decide +kernel
theorem dX12_seats_78 : decode cX12_seats 78 = .ok (.goto 4, 3) := by decide +kernel
theorem dX12_seats_81 : decode cX12_seats 81 = .ok (.iconst 0, 1) := by decide +kernel
theorem dX12_seats_82 : decode cX12_seats 82 = .ok (.istore 9, 2) := by decide +kernel
theorem dX12_seats_84 : decode cX12_seats 84 = .ok (.iload 6, 2) := by decide +kernel
theorem dX12_seats_86 : decode cX12_seats 86 = .ok (.ifCond .eq 22, 3) := by decide +kernel
theorem dX12_seats_89 : decode cX12_seats 89 = .ok (.iload 9, 2) := by decide +kernel
theorem dX12_seats_91 : decode cX12_seats 91 = .ok (.ifCond .eq 13, 3) := by decide +kernel
theorem dX12_seats_94 : decode cX12_seats 94 = .ok (.aload_n 0, 1) := by decide +kernel
theorem dX12_seats_95 : decode cX12_seats 95 = .ok (.iload 8, 2) := by decide +kernel
theorem dX12_seats_97 : decode cX12_seats 97 = .ok (.invokevirtual 94, 3) := by decide +kernel
theorem dX12_seats_100 : decode cX12_seats 100 = .ok (.iload_n 1, 1) := by decide +kernel
theorem dX12_seats_101 : decode cX12_seats 101 = .ok (.if_icmp .gt 7, 3) := by decide +kernel
theorem dX12_seats_104 : decode cX12_seats 104 = .ok (.iconst 1, 1) := by decide +kernel
theorem dX12_seats_105 : decode cX12_seats 105 = .ok (.goto 4, 3) := by decide +kernel
theorem dX12_seats_108 : decode cX12_seats 108 = .ok (.iconst 0, 1) := by decide +kernel
theorem dX12_seats_109 : decode cX12_seats 109 = .ok (.istore 6, 2) := by decide +kernel
theorem dX12_seats_111 : decode cX12_seats 111 = .ok (.iload 7, 2) := by decide +kernel
theorem dX12_seats_113 : decode cX12_seats 113 = .ok (.iload 9, 2) := by decide +kernel
theorem dX12_seats_115 : decode cX12_seats 115 = .ok (.ifCond .eq 16, 3) := by decide +kernel
theorem dX12_seats_118 : decode cX12_seats 118 = .ok (.aload_n 0, 1) := by decide +kernel
theorem dX12_seats_119 : decode cX12_seats 119 = .ok (.getfield 9, 3) := by decide +kernel
theorem dX12_seats_122 : decode cX12_seats 122 = .ok (.bipush 29, 2) := by decide +kernel
theorem dX12_seats_124 : decode cX12_seats 124 = .ok (.iload 8, 2) := by decide +kernel
theorem dX12_seats_126 : decode cX12_seats 126 = .ok (.iadd, 1) := by decide +kernel
theorem dX12_seats_127 : decode cX12_seats 127 = .ok (.iaload, 1) := by decide +kernel
theorem dX12_seats_128 : decode cX12_seats 128 = .ok (.goto 4, 3) := by decide +kernel
theorem dX12_seats_131 : decode cX12_seats 131 = .ok (.iconst 0, 1) := by decide +kernel
theorem dX12_seats_132 : decode cX12_seats 132 = .ok (.iadd, 1) := by decide +kernel
theorem dX12_seats_133 : decode cX12_seats 133 = .ok (.istore 7, 2) := by decide +kernel
theorem dX12_seats_135 : decode cX12_seats 135 = .ok (.iinc 8 1, 3) := by decide +kernel
theorem dX12_seats_138 : decode cX12_seats 138 = .ok (.goto (-79), 3) := by decide +kernel
theorem dX12_seats_141 : decode cX12_seats 141 = .ok (.iload 6, 2) := by decide +kernel
theorem dX12_seats_143 : decode cX12_seats 143 = .ok (.ifCond .eq 15, 3) := by decide +kernel
theorem dX12_seats_146 : decode cX12_seats 146 = .ok (.iload 7, 2) := by decide +kernel
theorem dX12_seats_148 : decode cX12_seats 148 = .ok (.iload 4, 2) := by decide +kernel
theorem dX12_seats_150 : decode cX12_seats 150 = .ok (.if_icmp .le 8, 3) := by decide +kernel
theorem dX12_seats_153 : decode cX12_seats 153 = .ok (.iload 5, 2) := by decide +kernel
theorem dX12_seats_155 : decode cX12_seats 155 = .ok (.goto 4, 3) := by decide +kernel
theorem dX12_seats_158 : decode cX12_seats 158 = .ok (.iload_n 3, 1) := by decide +kernel
theorem dX12_seats_159 : decode cX12_seats 159 = .ok (.istore_n 3, 1) := by decide +kernel
theorem dX12_seats_160 : decode cX12_seats 160 = .ok (.iload 6, 2) := by decide +kernel
theorem dX12_seats_162 : decode cX12_seats 162 = .ok (.ifCond .eq 15, 3) := by decide +kernel
theorem dX12_seats_165 : decode cX12_seats 165 = .ok (.iload 7, 2) := by decide +kernel
theorem dX12_seats_167 : decode cX12_seats 167 = .ok (.iload 4, 2) := by decide +kernel
theorem dX12_seats_169 : decode cX12_seats 169 = .ok (.if_icmp .le 8, 3) := by decide +kernel
theorem dX12_seats_172 : decode cX12_seats 172 = .ok (.iload 7, 2) := by decide +kernel
theorem dX12_seats_174 : decode cX12_seats 174 = .ok (.goto 5, 3) := by decide +kernel
theorem dX12_seats_177 : decode cX12_seats 177 = .ok (.iload 4, 2) := by decide +kernel
theorem dX12_seats_179 : decode cX12_seats 179 = .ok (.istore 4, 2) := by decide +kernel
theorem dX12_seats_181 : decode cX12_seats 181 = .ok (.iinc 5 1, 3) := by decide +kernel
theorem dX12_seats_184 : decode cX12_seats 184 = .ok (.goto (-155), 3) := by decide +kernel
theorem dX12_seats_187 : decode cX12_seats 187 = .ok (.iload_n 2, 1) := by decide +kernel
theorem dX12_seats_188 : decode cX12_seats 188 = .ok (.ifCond .ne 8, 3) := by decide +kernel
theorem dX12_seats_191 : decode cX12_seats 191 = .ok (.iload 4, 2) := by decide +kernel
theorem dX12_seats_193 : decode cX12_seats 193 = .ok (.goto 4, 3) := by decide +kernel
theorem dX12_seats_196 : decode cX12_seats 196 = .ok (.iload_n 3, 1) := by decide +kernel
theorem dX12_seats_197 : decode cX12_seats 197 = .ok (.ireturn, 1) := by decide +kernel
theorem k_X12_seats : MV yX12_seats cX12_seats 10 (some .int) 2 := ⟨q_1494, q_1495, q_14, q_1496, ⟨by decide, by decide, by decide +kernel⟩⟩
theorem c_X12_seats {res : Int32} (hf : X12_seats n x_s v1 v2 = some res) : MC l E0 D t yX12_seats cX12_seats 10 (some .int) 4 0 0 [.ref (a 0), .int v1, .int v2] (mW a t x_s x_kept x_laid x_isKept x_pile x_tape x_taped x_letters x_at x_begun x_token x_value x_opened x_steps x_code0 x_read x_saved x_plan x_bestPlan x_most x_many x_few x_everRight x_lagThen x_shadedThen x_firstFit x_rows x_rowMany x_sorts x_sizes x_number x_holds x_heldOne x_trace x_traced x_own x_isParted) (Qi res (mW a t x_s x_kept x_laid x_isKept x_pile x_tape x_taped x_letters x_at x_begun x_token x_value x_opened x_steps x_code0 x_read x_saved x_plan x_bestPlan x_most x_many x_few x_everRight x_lagThen x_shadedThen x_firstFit x_rows x_rowMany x_sorts x_sizes x_number x_holds x_heldOne x_trace x_traced x_own x_isParted)) := by
  unfold X12_seats at hf
  refine MC.ofI pn_X12 (Nat.le_of_ble_eq_true rfl) ?_
  intro p e s m args below meth c A Q ls cx hR hw hl
  have hx := cx.1
  have hb := cx.2.1
  have hl : lv_has ls 10 [(0, .ref (a 0)), (1, .int v1), (2, .int v2)] := hl
  refine lv_iload_n hx hb dX12_seats_0 rfl (lv_at hl 1 rfl) ?_
  refine lv_iconst (v := 0) hx hb dX12_seats_1 (by decide) ?_
  refine lv_bipush (v := 99) hx hb dX12_seats_2 (by decide) ?_
  refine calSi cx hw hl.1 (c_X12_in1 rfl) q_1214 k_X12_in1 rfl dX12_seats_4 rfl (Nat.le_of_ble_eq_true rfl) ⟨Nat.le_of_ble_eq_true rfl, Nat.le_of_ble_eq_true rfl⟩ ⟨Nat.le_refl _, Nat.le_refl _⟩ (fun H locs hw => ?_)
  refine lv_if_eq (tgt := 19) hx hb dX12_seats_7 (by decide) (fun hc => ?_) (fun hc => ?_)
  · have hf := ifT hf hc
    refine lv_iconst (v := (-1)) hx hb dX12_seats_19 (by decide) ?_
    have hf := Option.some.inj hf
    subst hf
    exact hR _ _ _ _ _ _ hw rfl ⟨rfl, rfl⟩ dX12_seats_20
  · have hf := ifF hf hc
    refine lv_iload_n hx hb dX12_seats_10 rfl (lv_at hl 2 rfl) ?_
    refine lv_iconst (v := 0) hx hb dX12_seats_11 (by decide) ?_
    refine lv_iconst (v := 1) hx hb dX12_seats_12 (by decide) ?_
    refine calSi cx hw hl.1 (c_X12_in1 rfl) q_1214 k_X12_in1 rfl dX12_seats_13 rfl (Nat.le_of_ble_eq_true rfl) ⟨Nat.le_of_ble_eq_true rfl, Nat.le_of_ble_eq_true rfl⟩ ⟨Nat.le_refl _, Nat.le_refl _⟩ (fun H locs hw => ?_)
    refine lv_if_ne (tgt := 21) hx hb dX12_seats_16 (by decide) (fun hc => ?_) (fun hc => ?_)
    · have hf := ifF hf hc
      refine lv_iconst (v := 0) hx hb dX12_seats_21 (by decide) ?_
      refine lv_istore_n (lv' := [(3, .int (0 : Int32)), (0, .ref (a 0)), (1, .int v1), (2, .int v2)]) hx hb dX12_seats_22 rfl hl (by decide) rfl (fun ls hl => ?_)
      refine lv_iconst (v := 0) hx hb dX12_seats_23 (by decide) ?_
      refine lv_istore (lv' := [(4, .int (0 : Int32)), (3, .int (0 : Int32)), (0, .ref (a 0)), (1, .int v1), (2, .int v2)]) hx hb dX12_seats_24 hl (by decide) rfl (fun ls hl => ?_)
      refine lv_iconst (v := 1) hx hb dX12_seats_26 (by decide) ?_
      refine lv_istore (lv' := [(5, .int (1 : Int32)), (4, .int (0 : Int32)), (3, .int (0 : Int32)), (0, .ref (a 0)), (1, .int v1), (2, .int v2)]) hx hb dX12_seats_27 hl (by decide) rfl (fun ls hl => ?_)
      obtain ⟨o12, ho12, hf⟩ := bnS hf
      have wL1 : ∀ (k : Nat) {v1 : Int32} {v2 : Int32} {v3 : Int32} {v4 : Int32} {v5 : Int32} {H : Heap} {locs : List Loc} {ls : Array Slot} {o : Int32 × Int32 × Int32}, X12_seats_L1 n x_s v1 k v3 v4 v5 = some o → Wd D A s (mW a t x_s x_kept x_laid x_isKept x_pile x_tape x_taped x_letters x_at x_begun x_token x_value x_opened x_steps x_code0 x_read x_saved x_plan x_bestPlan x_most x_many x_few x_everRight x_lagThen x_shadedThen x_firstFit x_rows x_rowMany x_sorts x_sizes x_number x_holds x_heldOne x_trace x_traced x_own x_isParted) H locs → lv_has ls 10 [(0, .ref (a 0)), (1, .int v1), (2, .int v2), (3, .int v3), (4, .int v4), (5, .int v5)] → (∀ (H : Heap) (locs : List Loc) (ls : Array Slot), Wd D A s (mW a t x_s x_kept x_laid x_isKept x_pile x_tape x_taped x_letters x_at x_begun x_token x_value x_opened x_steps x_code0 x_read x_saved x_plan x_bestPlan x_most x_many x_few x_everRight x_lagThen x_shadedThen x_firstFit x_rows x_rowMany x_sorts x_sizes x_number x_holds x_heldOne x_trace x_traced x_own x_isParted) H locs → lv_has ls 10 [(0, .ref (a 0)), (1, .int v1), (2, .int v2), (3, .int o.1), (4, .int o.2.1), (5, .int o.2.2)] → W p l e (rmz 4 0 0) s m args below meth c H locs 0 0 Q (F0 m 187 ls [])) → W p l e (rmz 4 0 0) s m args below meth c H locs 0 0 Q (F0 m 29 ls []) := by
        clear hf ho12 hw hl
        intro k
        induction k with
        | zero => intro v1 v2 v3 v4 v5 H locs ls o hf hw hl kx; simp [X12_seats_L1] at hf
        | succ k ih =>
          intro v1 v2 v3 v4 v5 H locs ls o hf hw hl kx
          rw [X12_seats_L1] at hf
          refine lv_iload hx hb dX12_seats_29 (lv_at hl 5 rfl) ?_
          refine lv_bipush (v := 64) hx hb dX12_seats_31 (by decide) ?_
          refine lv_icmp_ge (tgt := 187) hx hb dX12_seats_33 (by decide) (fun hc => ?_) (fun hc => ?_)
          · have hf := ifT hf hc
            have hf := Option.some.inj hf
            subst hf
            exact kx _ _ _ hw (lv_sub hl [0, 1, 2, 3, 4, 5] rfl)
          · have hf := ifF hf hc
            refine lv_iload hx hb dX12_seats_36 (lv_at hl 5 rfl) ?_
            refine lv_iload hx hb dX12_seats_38 (lv_at hl 5 rfl) ?_
            refine lv_iconst (v := 1) hx hb dX12_seats_40 (by decide) ?_
            refine lv_ishl hx hb dX12_seats_41 ?_
            refine lv_iand hx hb dX12_seats_42 ?_
            obtain ⟨j1, hj1, hf⟩ := pbS hf
            have wj1 : ∀ (H : Heap) (locs : List Loc) (ls : Array Slot), Wd D A s (mW a t x_s x_kept x_laid x_isKept x_pile x_tape x_taped x_letters x_at x_begun x_token x_value x_opened x_steps x_code0 x_read x_saved x_plan x_bestPlan x_most x_many x_few x_everRight x_lagThen x_shadedThen x_firstFit x_rows x_rowMany x_sorts x_sizes x_number x_holds x_heldOne x_trace x_traced x_own x_isParted) H locs → lv_has ls 10 [(0, .ref (a 0)), (1, .int v1), (2, .int v2), (3, .int v3), (4, .int v4), (5, .int v5)] → W p l e (rmz 4 0 0) s m args below meth c H locs 0 0 Q (F0 m 51 ls [.int j1]) := by
              intro H locs ls hw hl
              refine lv_istore (lv' := [(6, .int j1), (0, .ref (a 0)), (1, .int v1), (2, .int v2), (3, .int v3), (4, .int v4), (5, .int v5)]) hx hb dX12_seats_51 hl (by decide) rfl (fun ls hl => ?_)
              refine lv_iconst (v := 0) hx hb dX12_seats_53 (by decide) ?_
              refine lv_istore (lv' := [(7, .int (0 : Int32)), (6, .int j1), (0, .ref (a 0)), (1, .int v1), (2, .int v2), (3, .int v3), (4, .int v4), (5, .int v5)]) hx hb dX12_seats_54 hl (by decide) rfl (fun ls hl => ?_)
              refine lv_iconst (v := 0) hx hb dX12_seats_56 (by decide) ?_
              refine lv_istore (lv' := [(8, .int (0 : Int32)), (7, .int (0 : Int32)), (6, .int j1), (0, .ref (a 0)), (1, .int v1), (2, .int v2), (3, .int v3), (4, .int v4), (5, .int v5)]) hx hb dX12_seats_57 hl (by decide) rfl (fun ls hl => ?_)
              obtain ⟨o9, ho9, hf⟩ := bnS hf
              have wL2 : ∀ (k : Nat) {v1 : Int32} {v2 : Int32} {v3 : Int32} {v4 : Int32} {v5 : Int32} {v6 : Int32} {v7 : Int32} {v8 : Int32} {H : Heap} {locs : List Loc} {ls : Array Slot} {o : Int32 × Int32 × Int32}, X12_seats_L2 n x_s v1 v5 k v6 v7 v8 = some o → Wd D A s (mW a t x_s x_kept x_laid x_isKept x_pile x_tape x_taped x_letters x_at x_begun x_token x_value x_opened x_steps x_code0 x_read x_saved x_plan x_bestPlan x_most x_many x_few x_everRight x_lagThen x_shadedThen x_firstFit x_rows x_rowMany x_sorts x_sizes x_number x_holds x_heldOne x_trace x_traced x_own x_isParted) H locs → lv_has ls 10 [(0, .ref (a 0)), (1, .int v1), (2, .int v2), (3, .int v3), (4, .int v4), (5, .int v5), (6, .int v6), (7, .int v7), (8, .int v8)] → (∀ (H : Heap) (locs : List Loc) (ls : Array Slot), Wd D A s (mW a t x_s x_kept x_laid x_isKept x_pile x_tape x_taped x_letters x_at x_begun x_token x_value x_opened x_steps x_code0 x_read x_saved x_plan x_bestPlan x_most x_many x_few x_everRight x_lagThen x_shadedThen x_firstFit x_rows x_rowMany x_sorts x_sizes x_number x_holds x_heldOne x_trace x_traced x_own x_isParted) H locs → lv_has ls 10 [(0, .ref (a 0)), (1, .int v1), (2, .int v2), (3, .int v3), (4, .int v4), (5, .int v5), (6, .int o.1), (7, .int o.2.1), (8, .int o.2.2)] → W p l e (rmz 4 0 0) s m args below meth c H locs 0 0 Q (F0 m 141 ls [])) → W p l e (rmz 4 0 0) s m args below meth c H locs 0 0 Q (F0 m 59 ls []) := by
                clear hf ho9 hw hl
                intro k
                induction k with
                | zero => intro v1 v2 v3 v4 v5 v6 v7 v8 H locs ls o hf hw hl kx; simp [X12_seats_L2] at hf
                | succ k ih =>
                  intro v1 v2 v3 v4 v5 v6 v7 v8 H locs ls o hf hw hl kx
                  rw [X12_seats_L2] at hf
                  refine lv_iload hx hb dX12_seats_59 (lv_at hl 8 rfl) ?_
                  refine lv_bipush (v := 6) hx hb dX12_seats_61 (by decide) ?_
                  refine lv_icmp_ge (tgt := 141) hx hb dX12_seats_63 (by decide) (fun hc => ?_) (fun hc => ?_)
                  · have hf := ifT hf hc
                    have hf := Option.some.inj hf
                    subst hf
                    exact kx _ _ _ hw (lv_sub hl [0, 1, 2, 3, 4, 5, 6, 7, 8] rfl)
                  · have hf := ifF hf hc
                    refine lv_iload hx hb dX12_seats_66 (lv_at hl 5 rfl) ?_
                    refine lv_iload hx hb dX12_seats_68 (lv_at hl 8 rfl) ?_
                    refine lv_ishr hx hb dX12_seats_70 ?_
                    refine lv_iconst (v := 1) hx hb dX12_seats_71 (by decide) ?_
                    refine lv_iand hx hb dX12_seats_72 ?_
                    refine lv_iconst (v := 1) hx hb dX12_seats_73 (by decide) ?_
                    obtain ⟨j2, hj2, hf⟩ := pbS hf
                    have wj2 : ∀ (H : Heap) (locs : List Loc) (ls : Array Slot), Wd D A s (mW a t x_s x_kept x_laid x_isKept x_pile x_tape x_taped x_letters x_at x_begun x_token x_value x_opened x_steps x_code0 x_read x_saved x_plan x_bestPlan x_most x_many x_few x_everRight x_lagThen x_shadedThen x_firstFit x_rows x_rowMany x_sorts x_sizes x_number x_holds x_heldOne x_trace x_traced x_own x_isParted) H locs → lv_has ls 10 [(0, .ref (a 0)), (1, .int v1), (2, .int v2), (3, .int v3), (4, .int v4), (5, .int v5), (6, .int v6), (7, .int v7), (8, .int v8)] → W p l e (rmz 4 0 0) s m args below meth c H locs 0 0 Q (F0 m 82 ls [.int j2]) := by
                      intro H locs ls hw hl
                      refine lv_istore (lv' := [(9, .int j2), (0, .ref (a 0)), (1, .int v1), (2, .int v2), (3, .int v3), (4, .int v4), (5, .int v5), (6, .int v6), (7, .int v7), (8, .int v8)]) hx hb dX12_seats_82 hl (by decide) rfl (fun ls hl => ?_)
                      refine lv_iload hx hb dX12_seats_84 (lv_at hl 7 rfl) ?_
                      obtain ⟨j6, hj6, hf⟩ := bnS hf
                      have wj6 : ∀ (H : Heap) (locs : List Loc) (ls : Array Slot), Wd D A s (mW a t x_s x_kept x_laid x_isKept x_pile x_tape x_taped x_letters x_at x_begun x_token x_value x_opened x_steps x_code0 x_read x_saved x_plan x_bestPlan x_most x_many x_few x_everRight x_lagThen x_shadedThen x_firstFit x_rows x_rowMany x_sorts x_sizes x_number x_holds x_heldOne x_trace x_traced x_own x_isParted) H locs → lv_has ls 10 [(0, .ref (a 0)), (1, .int v1), (2, .int v2), (3, .int v3), (4, .int v4), (5, .int v5), (6, .int v6), (7, .int v7), (8, .int v8), (9, .int j2)] → W p l e (rmz 4 0 0) s m args below meth c H locs 0 0 Q (F0 m 109 ls [.int j6]) := by
                        intro H locs ls hw hl
                        refine lv_istore (lv' := [(6, .int j6), (0, .ref (a 0)), (1, .int v1), (2, .int v2), (3, .int v3), (4, .int v4), (5, .int v5), (7, .int v7), (8, .int v8), (9, .int j2)]) hx hb dX12_seats_109 hl (by decide) rfl (fun ls hl => ?_)
                        refine lv_iload hx hb dX12_seats_111 (lv_at hl 7 rfl) ?_
                        refine lv_iload hx hb dX12_seats_113 (lv_at hl 9 rfl) ?_
                        obtain ⟨j8, hj8, hf⟩ := bnS hf
                        have wj8 : ∀ (H : Heap) (locs : List Loc) (ls : Array Slot), Wd D A s (mW a t x_s x_kept x_laid x_isKept x_pile x_tape x_taped x_letters x_at x_begun x_token x_value x_opened x_steps x_code0 x_read x_saved x_plan x_bestPlan x_most x_many x_few x_everRight x_lagThen x_shadedThen x_firstFit x_rows x_rowMany x_sorts x_sizes x_number x_holds x_heldOne x_trace x_traced x_own x_isParted) H locs → lv_has ls 10 [(0, .ref (a 0)), (1, .int v1), (2, .int v2), (3, .int v3), (4, .int v4), (5, .int v5), (6, .int j6), (7, .int v7), (8, .int v8), (9, .int j2)] → W p l e (rmz 4 0 0) s m args below meth c H locs 0 0 Q (F0 m 132 ls [.int j8, .int v7]) := by
                          intro H locs ls hw hl
                          refine lv_iadd hx hb dX12_seats_132 ?_
                          refine lv_istore (lv' := [(7, .int (v7 + j8)), (0, .ref (a 0)), (1, .int v1), (2, .int v2), (3, .int v3), (4, .int v4), (5, .int v5), (6, .int j6), (8, .int v8), (9, .int j2)]) hx hb dX12_seats_133 hl (by decide) rfl (fun ls hl => ?_)
                          refine lv_iinc (v := (v8 + (1 : Int32))) (lv' := [(8, .int (v8 + (1 : Int32))), (7, .int (v7 + j8)), (0, .ref (a 0)), (1, .int v1), (2, .int v2), (3, .int v3), (4, .int v4), (5, .int v5), (6, .int j6), (9, .int j2)]) hx hb dX12_seats_135 hl (k := 8) rfl rfl (by decide) rfl (fun ls hl => ?_)
                          refine lv_goto (tgt := 59) hx hb dX12_seats_138 (by decide) ?_
                          exact ih hf hw (lv_sub hl [2, 3, 4, 5, 6, 7, 8, 1, 0] rfl) kx
                        clear hf
                        have hf := hj8
                        clear hj8
                        refine lv_if_eq (tgt := 131) hx hb dX12_seats_115 (by decide) (fun hc => ?_) (fun hc => ?_)
                        · have hf := ifT hf hc
                          refine lv_iconst (v := 0) hx hb dX12_seats_131 (by decide) ?_
                          have hf := Option.some.inj hf
                          subst hf
                          exact wj8 _ _ _ hw (lv_sub hl [1, 2, 3, 4, 5, 6, 0, 7, 8, 9] rfl)
                        · have hf := ifF hf hc
                          refine lv_aload_n hx hb dX12_seats_118 rfl (lv_at hl 1 rfl) ?_
                          refine mg_s cx hw dX12_seats_119 ?_
                          refine lv_bipush (v := 29) hx hb dX12_seats_122 (by decide) ?_
                          refine lv_iload hx hb dX12_seats_124 (lv_at hl 8 rfl) ?_
                          refine lv_iadd hx hb dX12_seats_126 ?_
                          obtain ⟨h7, hf⟩ := ckS hf
                          refine ml_s (j := ((29 : Int32) + v8).toNatClampNeg) cx hw (ib_in h7) rfl dX12_seats_127 ?_
                          refine lv_goto (tgt := 132) hx hb dX12_seats_128 (by decide) ?_
                          have hf := Option.some.inj hf
                          subst hf
                          exact wj8 _ _ _ hw (lv_sub hl [1, 2, 3, 4, 5, 6, 0, 7, 8, 9] rfl)
                      clear hf
                      have hf := hj6
                      clear hj6
                      refine lv_if_eq (tgt := 108) hx hb dX12_seats_86 (by decide) (fun hc => ?_) (fun hc => ?_)
                      · have hf := ifT hf hc
                        refine lv_iconst (v := 0) hx hb dX12_seats_108 (by decide) ?_
                        have hf := Option.some.inj hf
                        subst hf
                        exact wj6 _ _ _ hw (lv_sub hl [1, 2, 3, 4, 5, 6, 7, 8, 9, 0] rfl)
                      · have hf := ifF hf hc
                        refine lv_iload hx hb dX12_seats_89 (lv_at hl 0 rfl) ?_
                        obtain ⟨J5, hJ5, hf⟩ := jnS hf
                        have wj5 : ∀ (j5 : Unit) (H : Heap) (locs : List Loc) (ls : Array Slot), J5 j5 = some j6 → Wd D A s (mW a t x_s x_kept x_laid x_isKept x_pile x_tape x_taped x_letters x_at x_begun x_token x_value x_opened x_steps x_code0 x_read x_saved x_plan x_bestPlan x_most x_many x_few x_everRight x_lagThen x_shadedThen x_firstFit x_rows x_rowMany x_sorts x_sizes x_number x_holds x_heldOne x_trace x_traced x_own x_isParted) H locs → lv_has ls 10 [(0, .ref (a 0)), (1, .int v1), (2, .int v2), (3, .int v3), (4, .int v4), (5, .int v5), (6, .int v6), (7, .int v7), (8, .int v8), (9, .int j2)] → W p l e (rmz 4 0 0) s m args below meth c H locs 0 0 Q (F0 m 104 ls []) := by
                          intro j5 H locs ls hf hw hl
                          have hf := hJ5 _ hf
                          refine lv_iconst (v := 1) hx hb dX12_seats_104 (by decide) ?_
                          refine lv_goto (tgt := 109) hx hb dX12_seats_105 (by decide) ?_
                          have hf := Option.some.inj hf
                          subst hf
                          exact wj6 _ _ _ hw (lv_sub hl [0, 1, 2, 3, 4, 5, 6, 7, 8, 9] rfl)
                        clear hJ5
                        refine lv_if_eq (tgt := 104) hx hb dX12_seats_91 (by decide) (fun hc => ?_) (fun hc => ?_)
                        · have hf := ifT hf hc
                          exact wj5 _ _ _ _ hf hw (lv_sub hl [1, 2, 3, 4, 5, 6, 7, 8, 9, 0] rfl)
                        · have hf := ifF hf hc
                          refine lv_aload_n hx hb dX12_seats_94 rfl (lv_at hl 1 rfl) ?_
                          refine lv_iload hx hb dX12_seats_95 (lv_at hl 9 rfl) ?_
                          obtain ⟨r3, h4, hf⟩ := bnS hf
                          refine calVi (k := 0) cx hw hl.1 (c_X12_shadeAt h4) q_1319 k_X12_shadeAt rfl rfl rfl dX12_seats_97 rfl (Nat.le_of_ble_eq_true rfl) ⟨Nat.le_of_ble_eq_true rfl, Nat.le_of_ble_eq_true rfl⟩ ⟨Nat.le_refl _, Nat.le_refl _⟩ (fun H locs hw => ?_)
                          refine lv_iload_n hx hb dX12_seats_100 rfl (lv_at hl 2 rfl) ?_
                          refine lv_icmp_gt (tgt := 108) hx hb dX12_seats_101 (by decide) (fun hc => ?_) (fun hc => ?_)
                          · have hf := ifT hf hc
                            refine lv_iconst (v := 0) hx hb dX12_seats_108 (by decide) ?_
                            have hf := Option.some.inj hf
                            subst hf
                            exact wj6 _ _ _ hw (lv_sub hl [1, 2, 3, 4, 5, 6, 7, 8, 9, 0] rfl)
                          · have hf := ifF hf hc
                            exact wj5 _ _ _ _ hf hw (lv_sub hl [1, 2, 3, 4, 5, 6, 7, 8, 9, 0] rfl)
                    clear hf
                    have hf := hj2
                    clear hj2
                    refine lv_icmp_ne (tgt := 81) hx hb dX12_seats_74 (by decide) (fun hc => ?_) (fun hc => ?_)
                    · have hf := ifF hf hc
                      refine lv_iconst (v := 0) hx hb dX12_seats_81 (by decide) ?_
                      subst hf
                      exact wj2 _ _ _ hw (lv_sub hl [0, 1, 2, 3, 4, 5, 6, 7, 8] rfl)
                    · have hf := ifT hf hc
                      refine lv_iconst (v := 1) hx hb dX12_seats_77 (by decide) ?_
                      refine lv_goto (tgt := 82) hx hb dX12_seats_78 (by decide) ?_
                      subst hf
                      exact wj2 _ _ _ hw (lv_sub hl [0, 1, 2, 3, 4, 5, 6, 7, 8] rfl)
              refine wL2 n ho9 hw (lv_sub hl [3, 4, 5, 6, 7, 8, 2, 1, 0] rfl) (fun H locs ls hw hl => ?_)
              clear wL2 ho9
              refine lv_iload hx hb dX12_seats_141 (lv_at hl 6 rfl) ?_
              obtain ⟨j10, hj10, hf⟩ := pbS hf
              have wj10 : ∀ (H : Heap) (locs : List Loc) (ls : Array Slot), Wd D A s (mW a t x_s x_kept x_laid x_isKept x_pile x_tape x_taped x_letters x_at x_begun x_token x_value x_opened x_steps x_code0 x_read x_saved x_plan x_bestPlan x_most x_many x_few x_everRight x_lagThen x_shadedThen x_firstFit x_rows x_rowMany x_sorts x_sizes x_number x_holds x_heldOne x_trace x_traced x_own x_isParted) H locs → lv_has ls 10 [(0, .ref (a 0)), (1, .int v1), (2, .int v2), (3, .int v3), (4, .int v4), (5, .int v5), (6, .int o9.1), (7, .int o9.2.1), (8, .int o9.2.2)] → W p l e (rmz 4 0 0) s m args below meth c H locs 0 0 Q (F0 m 159 ls [.int j10]) := by
                intro H locs ls hw hl
                refine lv_istore_n (lv' := [(3, .int j10), (0, .ref (a 0)), (1, .int v1), (2, .int v2), (4, .int v4), (5, .int v5), (6, .int o9.1), (7, .int o9.2.1), (8, .int o9.2.2)]) hx hb dX12_seats_159 rfl hl (by decide) rfl (fun ls hl => ?_)
                refine lv_iload hx hb dX12_seats_160 (lv_at hl 6 rfl) ?_
                obtain ⟨j11, hj11, hf⟩ := pbS hf
                have wj11 : ∀ (H : Heap) (locs : List Loc) (ls : Array Slot), Wd D A s (mW a t x_s x_kept x_laid x_isKept x_pile x_tape x_taped x_letters x_at x_begun x_token x_value x_opened x_steps x_code0 x_read x_saved x_plan x_bestPlan x_most x_many x_few x_everRight x_lagThen x_shadedThen x_firstFit x_rows x_rowMany x_sorts x_sizes x_number x_holds x_heldOne x_trace x_traced x_own x_isParted) H locs → lv_has ls 10 [(0, .ref (a 0)), (1, .int v1), (2, .int v2), (3, .int j10), (4, .int v4), (5, .int v5), (6, .int o9.1), (7, .int o9.2.1), (8, .int o9.2.2)] → W p l e (rmz 4 0 0) s m args below meth c H locs 0 0 Q (F0 m 179 ls [.int j11]) := by
                  intro H locs ls hw hl
                  refine lv_istore (lv' := [(4, .int j11), (0, .ref (a 0)), (1, .int v1), (2, .int v2), (3, .int j10), (5, .int v5), (6, .int o9.1), (7, .int o9.2.1), (8, .int o9.2.2)]) hx hb dX12_seats_179 hl (by decide) rfl (fun ls hl => ?_)
                  refine lv_iinc (v := (v5 + (1 : Int32))) (lv' := [(5, .int (v5 + (1 : Int32))), (4, .int j11), (0, .ref (a 0)), (1, .int v1), (2, .int v2), (3, .int j10), (6, .int o9.1), (7, .int o9.2.1), (8, .int o9.2.2)]) hx hb dX12_seats_181 hl (k := 5) rfl rfl (by decide) rfl (fun ls hl => ?_)
                  refine lv_goto (tgt := 29) hx hb dX12_seats_184 (by decide) ?_
                  exact ih hf hw (lv_sub hl [2, 3, 4, 5, 1, 0] rfl) kx
                clear hf
                have hf := hj11
                clear hj11
                refine lv_if_eq (tgt := 177) hx hb dX12_seats_162 (by decide) (fun hc => ?_) (fun hc => ?_)
                · have hf := ifT hf hc
                  refine lv_iload hx hb dX12_seats_177 (lv_at hl 4 rfl) ?_
                  subst hf
                  exact wj11 _ _ _ hw (lv_sub hl [1, 2, 3, 0, 4, 5, 6, 7, 8] rfl)
                · have hf := ifF hf hc
                  refine lv_iload hx hb dX12_seats_165 (lv_at hl 7 rfl) ?_
                  refine lv_iload hx hb dX12_seats_167 (lv_at hl 4 rfl) ?_
                  refine lv_icmp_le (tgt := 177) hx hb dX12_seats_169 (by decide) (fun hc => ?_) (fun hc => ?_)
                  · have hf := ifT hf hc
                    refine lv_iload hx hb dX12_seats_177 (lv_at hl 4 rfl) ?_
                    subst hf
                    exact wj11 _ _ _ hw (lv_sub hl [1, 2, 3, 0, 4, 5, 6, 7, 8] rfl)
                  · have hf := ifF hf hc
                    refine lv_iload hx hb dX12_seats_172 (lv_at hl 7 rfl) ?_
                    refine lv_goto (tgt := 179) hx hb dX12_seats_174 (by decide) ?_
                    subst hf
                    exact wj11 _ _ _ hw (lv_sub hl [1, 2, 3, 0, 4, 5, 6, 7, 8] rfl)
              clear hf
              have hf := hj10
              clear hj10
              refine lv_if_eq (tgt := 158) hx hb dX12_seats_143 (by decide) (fun hc => ?_) (fun hc => ?_)
              · have hf := ifT hf hc
                refine lv_iload_n hx hb dX12_seats_158 rfl (lv_at hl 3 rfl) ?_
                subst hf
                exact wj10 _ _ _ hw (lv_sub hl [0, 1, 2, 3, 4, 5, 6, 7, 8] rfl)
              · have hf := ifF hf hc
                refine lv_iload hx hb dX12_seats_146 (lv_at hl 7 rfl) ?_
                refine lv_iload hx hb dX12_seats_148 (lv_at hl 4 rfl) ?_
                refine lv_icmp_le (tgt := 158) hx hb dX12_seats_150 (by decide) (fun hc => ?_) (fun hc => ?_)
                · have hf := ifT hf hc
                  refine lv_iload_n hx hb dX12_seats_158 rfl (lv_at hl 3 rfl) ?_
                  subst hf
                  exact wj10 _ _ _ hw (lv_sub hl [0, 1, 2, 3, 4, 5, 6, 7, 8] rfl)
                · have hf := ifF hf hc
                  refine lv_iload hx hb dX12_seats_153 (lv_at hl 5 rfl) ?_
                  refine lv_goto (tgt := 159) hx hb dX12_seats_155 (by decide) ?_
                  subst hf
                  exact wj10 _ _ _ hw (lv_sub hl [0, 1, 2, 3, 4, 5, 6, 7, 8] rfl)
            clear hf
            have hf := hj1
            clear hj1
            refine lv_if_ne (tgt := 50) hx hb dX12_seats_43 (by decide) (fun hc => ?_) (fun hc => ?_)
            · have hf := ifF hf hc
              refine lv_iconst (v := 0) hx hb dX12_seats_50 (by decide) ?_
              subst hf
              exact wj1 _ _ _ hw (lv_sub hl [0, 1, 2, 3, 4, 5] rfl)
            · have hf := ifT hf hc
              refine lv_iconst (v := 1) hx hb dX12_seats_46 (by decide) ?_
              refine lv_goto (tgt := 51) hx hb dX12_seats_47 (by decide) ?_
              subst hf
              exact wj1 _ _ _ hw (lv_sub hl [0, 1, 2, 3, 4, 5] rfl)
      refine wL1 n ho12 hw (lv_sub hl [3, 4, 5, 2, 1, 0] rfl) (fun H locs ls hw hl => ?_)
      clear wL1 ho12
      refine lv_iload_n hx hb dX12_seats_187 rfl (lv_at hl 2 rfl) ?_
      refine lv_if_ne (tgt := 196) hx hb dX12_seats_188 (by decide) (fun hc => ?_) (fun hc => ?_)
      · have hf := ifF hf hc
        refine lv_iload_n hx hb dX12_seats_196 rfl (lv_at hl 3 rfl) ?_
        have hf := Option.some.inj hf
        subst hf
        exact hR _ _ _ _ _ _ hw rfl ⟨rfl, rfl⟩ dX12_seats_197
      · have hf := ifT hf hc
        refine lv_iload hx hb dX12_seats_191 (lv_at hl 4 rfl) ?_
        refine lv_goto (tgt := 197) hx hb dX12_seats_193 (by decide) ?_
        have hf := Option.some.inj hf
        subst hf
        exact hR _ _ _ _ _ _ hw rfl ⟨rfl, rfl⟩ dX12_seats_197
    · have hf := ifT hf hc
      refine lv_iconst (v := (-1)) hx hb dX12_seats_19 (by decide) ?_
      have hf := Option.some.inj hf
      subst hf
      exact hR _ _ _ _ _ _ hw rfl ⟨rfl, rfl⟩ dX12_seats_20
theorem dX12_saves_0 : decode cX12_saves 0 = .ok (.iconst 0, 1) := by decide +kernel
theorem dX12_saves_1 : decode cX12_saves 1 = .ok (.istore_n 2, 1) := by decide +kernel
theorem dX12_saves_2 : decode cX12_saves 2 = .ok (.iload_n 2, 1) := by decide +kernel
theorem dX12_saves_3 : decode cX12_saves 3 = .ok (.bipush 65, 2) := by decide +kernel
theorem dX12_saves_5 : decode cX12_saves 5 = .ok (.if_icmp .ge 26, 3) := by decide +kernel
theorem dX12_saves_8 : decode cX12_saves 8 = .ok (.aload_n 0, 1) := by decide +kernel
theorem dX12_saves_9 : decode cX12_saves 9 = .ok (.getfield 35, 3) := by decide +kernel
theorem dX12_saves_12 : decode cX12_saves 12 = .ok (.bipush 65, 2) := by decide +kernel
theorem dX12_saves_14 : decode cX12_saves 14 = .ok (.iload_n 1, 1) := by decide +kernel
theorem dX12_saves_15 : decode cX12_saves 15 = .ok (.imul, 1) := by decide +kernel
theorem dX12_saves_16 : decode cX12_saves 16 = .ok (.iload_n 2, 1) := by decide +kernel
theorem dX12_saves_17 : decode cX12_saves 17 = .ok (.iadd, 1) := by decide +kernel
theorem dX12_saves_18 : decode cX12_saves 18 = .ok (.aload_n 0, 1) := by decide +kernel
theorem dX12_saves_19 : decode cX12_saves 19 = .ok (.getfield 9, 3) := by decide +kernel
theorem dX12_saves_22 : decode cX12_saves 22 = .ok (.iload_n 2, 1) := by decide +kernel
theorem dX12_saves_23 : decode cX12_saves 23 = .ok (.iaload, 1) := by decide +kernel
theorem dX12_saves_24 : decode cX12_saves 24 = .ok (.iastore, 1) := by decide +kernel
theorem dX12_saves_25 : decode cX12_saves 25 = .ok (.iinc 2 1, 3) := by decide +kernel
theorem dX12_saves_28 : decode cX12_saves 28 = .ok (.goto (-26), 3) := by decide +kernel
theorem dX12_saves_31 : decode cX12_saves 31 = .ok (.return_, 1) := by decide +kernel
theorem k_X12_saves : MV yX12_saves cX12_saves 3 none 1 := ⟨q_1522, qs_77, q_14, q_1523, ⟨by decide, by decide, by decide +kernel⟩⟩
theorem c_X12_saves {res : (Nat → Int32)} (hf : X12_saves n x_s x_saved v1 = some res) : MC l E0 D t yX12_saves cX12_saves 3 none 1 0 0 [.ref (a 0), .int v1] (mW a t x_s x_kept x_laid x_isKept x_pile x_tape x_taped x_letters x_at x_begun x_token x_value x_opened x_steps x_code0 x_read x_saved x_plan x_bestPlan x_most x_many x_few x_everRight x_lagThen x_shadedThen x_firstFit x_rows x_rowMany x_sorts x_sizes x_number x_holds x_heldOne x_trace x_traced x_own x_isParted) (Qn (mW a t x_s x_kept x_laid x_isKept x_pile x_tape x_taped x_letters x_at x_begun x_token x_value x_opened x_steps x_code0 x_read res x_plan x_bestPlan x_most x_many x_few x_everRight x_lagThen x_shadedThen x_firstFit x_rows x_rowMany x_sorts x_sizes x_number x_holds x_heldOne x_trace x_traced x_own x_isParted)) := by
  unfold X12_saves at hf
  refine MC.ofV pn_X12 (Nat.le_of_ble_eq_true rfl) ?_
  intro p e s m args below meth c A Q ls cx hR hw hl
  have hx := cx.1
  have hb := cx.2.1
  have hl : lv_has ls 3 [(0, .ref (a 0)), (1, .int v1)] := hl
  refine lv_iconst (v := 0) hx hb dX12_saves_0 (by decide) ?_
  refine lv_istore_n (lv' := [(2, .int (0 : Int32)), (0, .ref (a 0)), (1, .int v1)]) hx hb dX12_saves_1 rfl hl (by decide) rfl (fun ls hl => ?_)
  obtain ⟨o3, ho3, hf⟩ := bnS hf
  have wL1 : ∀ (k : Nat) {v1 : Int32} {v2 : Int32} {x_saved : Nat → Int32} {H : Heap} {locs : List Loc} {ls : Array Slot} {o : Int32 × (Nat → Int32)}, X12_saves_L1 n x_s v1 k v2 x_saved = some o → Wd D A s (mW a t x_s x_kept x_laid x_isKept x_pile x_tape x_taped x_letters x_at x_begun x_token x_value x_opened x_steps x_code0 x_read x_saved x_plan x_bestPlan x_most x_many x_few x_everRight x_lagThen x_shadedThen x_firstFit x_rows x_rowMany x_sorts x_sizes x_number x_holds x_heldOne x_trace x_traced x_own x_isParted) H locs → lv_has ls 3 [(0, .ref (a 0)), (1, .int v1), (2, .int v2)] → (∀ (H : Heap) (locs : List Loc) (ls : Array Slot), Wd D A s (mW a t x_s x_kept x_laid x_isKept x_pile x_tape x_taped x_letters x_at x_begun x_token x_value x_opened x_steps x_code0 x_read o.2 x_plan x_bestPlan x_most x_many x_few x_everRight x_lagThen x_shadedThen x_firstFit x_rows x_rowMany x_sorts x_sizes x_number x_holds x_heldOne x_trace x_traced x_own x_isParted) H locs → lv_has ls 3 [(0, .ref (a 0)), (1, .int v1), (2, .int o.1)] → W p l e (rmz 1 0 0) s m args below meth c H locs 0 0 Q (F0 m 31 ls [])) → W p l e (rmz 1 0 0) s m args below meth c H locs 0 0 Q (F0 m 2 ls []) := by
    clear hf ho3 hw hl
    intro k
    induction k with
    | zero => intro v1 v2 x_saved H locs ls o hf hw hl kx; simp [X12_saves_L1] at hf
    | succ k ih =>
      intro v1 v2 x_saved H locs ls o hf hw hl kx
      rw [X12_saves_L1] at hf
      refine lv_iload_n hx hb dX12_saves_2 rfl (lv_at hl 2 rfl) ?_
      refine lv_bipush (v := 65) hx hb dX12_saves_3 (by decide) ?_
      refine lv_icmp_ge (tgt := 31) hx hb dX12_saves_5 (by decide) (fun hc => ?_) (fun hc => ?_)
      · have hf := ifT hf hc
        have hf := Option.some.inj hf
        subst hf
        exact kx _ _ _ hw (lv_sub hl [0, 1, 2] rfl)
      · have hf := ifF hf hc
        refine lv_aload_n hx hb dX12_saves_8 rfl (lv_at hl 0 rfl) ?_
        refine mg_saved cx hw dX12_saves_9 ?_
        refine lv_bipush (v := 65) hx hb dX12_saves_12 (by decide) ?_
        refine lv_iload_n hx hb dX12_saves_14 rfl (lv_at hl 1 rfl) ?_
        refine lv_imul hx hb dX12_saves_15 ?_
        refine lv_iload_n hx hb dX12_saves_16 rfl (lv_at hl 2 rfl) ?_
        refine lv_iadd hx hb dX12_saves_17 ?_
        refine lv_aload_n hx hb dX12_saves_18 rfl (lv_at hl 0 rfl) ?_
        refine mg_s cx hw dX12_saves_19 ?_
        refine lv_iload_n hx hb dX12_saves_22 rfl (lv_at hl 2 rfl) ?_
        obtain ⟨h1, hf⟩ := ckS hf
        refine ml_s (j := v2.toNatClampNeg) cx hw (ib_in h1) rfl dX12_saves_23 ?_
        obtain ⟨h2, hf⟩ := ckS hf
        refine ms_saved (j := (((65 : Int32) * v1) + v2).toNatClampNeg) cx hw (ib_in h2) rfl dX12_saves_24 (fun H locs hw => ?_)
        refine lv_iinc (v := (v2 + (1 : Int32))) (lv' := [(2, .int (v2 + (1 : Int32))), (0, .ref (a 0)), (1, .int v1)]) hx hb dX12_saves_25 hl (k := 2) rfl rfl (by decide) rfl (fun ls hl => ?_)
        refine lv_goto (tgt := 2) hx hb dX12_saves_28 (by decide) ?_
        exact ih hf hw (lv_sub hl [1, 2, 0] rfl) kx
  refine wL1 n ho3 hw (lv_sub hl [1, 2, 0] rfl) (fun H locs ls hw hl => ?_)
  clear wL1 ho3
  have hf := Option.some.inj hf
  subst hf
  exact hR _ _ _ _ _ hw ⟨rfl, rfl⟩ dX12_saves_31
theorem dX12_restores_0 : decode cX12_restores 0 = .ok (.iconst 0, 1) := by decide +kernel
theorem dX12_restores_1 : decode cX12_restores 1 = .ok (.istore_n 2, 1) := by decide +kernel
theorem dX12_restores_2 : decode cX12_restores 2 = .ok (.iload_n 2, 1) := by decide +kernel
theorem dX12_restores_3 : decode cX12_restores 3 = .ok (.bipush 65, 2) := by decide +kernel
theorem dX12_restores_5 : decode cX12_restores 5 = .ok (.if_icmp .ge 26, 3) := by decide +kernel
theorem dX12_restores_8 : decode cX12_restores 8 = .ok (.aload_n 0, 1) := by decide +kernel
theorem dX12_restores_9 : decode cX12_restores 9 = .ok (.getfield 9, 3) := by decide +kernel
theorem dX12_restores_12 : decode cX12_restores 12 = .ok (.iload_n 2, 1) := by decide +kernel
theorem dX12_restores_13 : decode cX12_restores 13 = .ok (.aload_n 0, 1) := by decide +kernel
theorem dX12_restores_14 : decode cX12_restores 14 = .ok (.getfield 35, 3) := by decide +kernel
theorem dX12_restores_17 : decode cX12_restores 17 = .ok (.bipush 65, 2) := by decide +kernel
theorem dX12_restores_19 : decode cX12_restores 19 = .ok (.iload_n 1, 1) := by decide +kernel
theorem dX12_restores_20 : decode cX12_restores 20 = .ok (.imul, 1) := by decide +kernel
theorem dX12_restores_21 : decode cX12_restores 21 = .ok (.iload_n 2, 1) := by decide +kernel
theorem dX12_restores_22 : decode cX12_restores 22 = .ok (.iadd, 1) := by decide +kernel
theorem dX12_restores_23 : decode cX12_restores 23 = .ok (.iaload, 1) := by decide +kernel
theorem dX12_restores_24 : decode cX12_restores 24 = .ok (.iastore, 1) := by decide +kernel
theorem dX12_restores_25 : decode cX12_restores 25 = .ok (.iinc 2 1, 3) := by decide +kernel
theorem dX12_restores_28 : decode cX12_restores 28 = .ok (.goto (-26), 3) := by decide +kernel
theorem dX12_restores_31 : decode cX12_restores 31 = .ok (.return_, 1) := by decide +kernel
theorem k_X12_restores : MV yX12_restores cX12_restores 3 none 1 := ⟨q_1526, qs_78, q_14, q_1527, ⟨by decide, by decide, by decide +kernel⟩⟩
theorem c_X12_restores {res : (Nat → Int32)} (hf : X12_restores n x_s x_saved v1 = some res) : MC l E0 D t yX12_restores cX12_restores 3 none 1 0 0 [.ref (a 0), .int v1] (mW a t x_s x_kept x_laid x_isKept x_pile x_tape x_taped x_letters x_at x_begun x_token x_value x_opened x_steps x_code0 x_read x_saved x_plan x_bestPlan x_most x_many x_few x_everRight x_lagThen x_shadedThen x_firstFit x_rows x_rowMany x_sorts x_sizes x_number x_holds x_heldOne x_trace x_traced x_own x_isParted) (Qn (mW a t res x_kept x_laid x_isKept x_pile x_tape x_taped x_letters x_at x_begun x_token x_value x_opened x_steps x_code0 x_read x_saved x_plan x_bestPlan x_most x_many x_few x_everRight x_lagThen x_shadedThen x_firstFit x_rows x_rowMany x_sorts x_sizes x_number x_holds x_heldOne x_trace x_traced x_own x_isParted)) := by
  unfold X12_restores at hf
  refine MC.ofV pn_X12 (Nat.le_of_ble_eq_true rfl) ?_
  intro p e s m args below meth c A Q ls cx hR hw hl
  have hx := cx.1
  have hb := cx.2.1
  have hl : lv_has ls 3 [(0, .ref (a 0)), (1, .int v1)] := hl
  refine lv_iconst (v := 0) hx hb dX12_restores_0 (by decide) ?_
  refine lv_istore_n (lv' := [(2, .int (0 : Int32)), (0, .ref (a 0)), (1, .int v1)]) hx hb dX12_restores_1 rfl hl (by decide) rfl (fun ls hl => ?_)
  obtain ⟨o3, ho3, hf⟩ := bnS hf
  have wL1 : ∀ (k : Nat) {v1 : Int32} {v2 : Int32} {x_s : Nat → Int32} {H : Heap} {locs : List Loc} {ls : Array Slot} {o : Int32 × (Nat → Int32)}, X12_restores_L1 n x_saved v1 k v2 x_s = some o → Wd D A s (mW a t x_s x_kept x_laid x_isKept x_pile x_tape x_taped x_letters x_at x_begun x_token x_value x_opened x_steps x_code0 x_read x_saved x_plan x_bestPlan x_most x_many x_few x_everRight x_lagThen x_shadedThen x_firstFit x_rows x_rowMany x_sorts x_sizes x_number x_holds x_heldOne x_trace x_traced x_own x_isParted) H locs → lv_has ls 3 [(0, .ref (a 0)), (1, .int v1), (2, .int v2)] → (∀ (H : Heap) (locs : List Loc) (ls : Array Slot), Wd D A s (mW a t o.2 x_kept x_laid x_isKept x_pile x_tape x_taped x_letters x_at x_begun x_token x_value x_opened x_steps x_code0 x_read x_saved x_plan x_bestPlan x_most x_many x_few x_everRight x_lagThen x_shadedThen x_firstFit x_rows x_rowMany x_sorts x_sizes x_number x_holds x_heldOne x_trace x_traced x_own x_isParted) H locs → lv_has ls 3 [(0, .ref (a 0)), (1, .int v1), (2, .int o.1)] → W p l e (rmz 1 0 0) s m args below meth c H locs 0 0 Q (F0 m 31 ls [])) → W p l e (rmz 1 0 0) s m args below meth c H locs 0 0 Q (F0 m 2 ls []) := by
    clear hf ho3 hw hl
    intro k
    induction k with
    | zero => intro v1 v2 x_s H locs ls o hf hw hl kx; simp [X12_restores_L1] at hf
    | succ k ih =>
      intro v1 v2 x_s H locs ls o hf hw hl kx
      rw [X12_restores_L1] at hf
      refine lv_iload_n hx hb dX12_restores_2 rfl (lv_at hl 2 rfl) ?_
      refine lv_bipush (v := 65) hx hb dX12_restores_3 (by decide) ?_
      refine lv_icmp_ge (tgt := 31) hx hb dX12_restores_5 (by decide) (fun hc => ?_) (fun hc => ?_)
      · have hf := ifT hf hc
        have hf := Option.some.inj hf
        subst hf
        exact kx _ _ _ hw (lv_sub hl [0, 1, 2] rfl)
      · have hf := ifF hf hc
        refine lv_aload_n hx hb dX12_restores_8 rfl (lv_at hl 0 rfl) ?_
        refine mg_s cx hw dX12_restores_9 ?_
        refine lv_iload_n hx hb dX12_restores_12 rfl (lv_at hl 2 rfl) ?_
        refine lv_aload_n hx hb dX12_restores_13 rfl (lv_at hl 0 rfl) ?_
        refine mg_saved cx hw dX12_restores_14 ?_
        refine lv_bipush (v := 65) hx hb dX12_restores_17 (by decide) ?_
        refine lv_iload_n hx hb dX12_restores_19 rfl (lv_at hl 1 rfl) ?_
        refine lv_imul hx hb dX12_restores_20 ?_
        refine lv_iload_n hx hb dX12_restores_21 rfl (lv_at hl 2 rfl) ?_
        refine lv_iadd hx hb dX12_restores_22 ?_
        obtain ⟨h1, hf⟩ := ckS hf
        refine ml_saved (j := (((65 : Int32) * v1) + v2).toNatClampNeg) cx hw (ib_in h1) rfl dX12_restores_23 ?_
        obtain ⟨h2, hf⟩ := ckS hf
        refine ms_s (j := v2.toNatClampNeg) cx hw (ib_in h2) rfl dX12_restores_24 (fun H locs hw => ?_)
        refine lv_iinc (v := (v2 + (1 : Int32))) (lv' := [(2, .int (v2 + (1 : Int32))), (0, .ref (a 0)), (1, .int v1)]) hx hb dX12_restores_25 hl (k := 2) rfl rfl (by decide) rfl (fun ls hl => ?_)
        refine lv_goto (tgt := 2) hx hb dX12_restores_28 (by decide) ?_
        exact ih hf hw (lv_sub hl [1, 2, 0] rfl) kx
  refine wL1 n ho3 hw (lv_sub hl [1, 2, 0] rfl) (fun H locs ls hw hl => ?_)
  clear wL1 ho3
  have hf := Option.some.inj hf
  subst hf
  exact hR _ _ _ _ _ hw ⟨rfl, rfl⟩ dX12_restores_31
theorem dX12_daysOf_0 : decode cX12_daysOf 0 = .ok (.aload_n 0, 1) := by decide +kernel
theorem dX12_daysOf_1 : decode cX12_daysOf 1 = .ok (.invokevirtual 237, 3) := by decide +kernel
theorem dX12_daysOf_4 : decode cX12_daysOf 4 = .ok (.ifCond .eq 7, 3) := by decide +kernel
theorem dX12_daysOf_7 : decode cX12_daysOf 7 = .ok (.iconst 0, 1) := by decide +kernel
theorem dX12_daysOf_8 : decode cX12_daysOf 8 = .ok (.goto 16, 3) := by decide +kernel
theorem dX12_daysOf_11 : decode cX12_daysOf 11 = .ok (.aload_n 0, 1) := by decide +kernel
theorem dX12_daysOf_12 : decode cX12_daysOf 12 = .ok (.getfield 9, 3) := by decide +kernel
theorem dX12_daysOf_15 : decode cX12_daysOf 15 = .ok (.iconst 1, 1) := by decide +kernel
theorem dX12_daysOf_16 : decode cX12_daysOf 16 = .ok (.iaload, 1) := by decide +kernel
theorem dX12_daysOf_17 : decode cX12_daysOf 17 = .ok (.aload_n 0, 1) := by decide +kernel
theorem dX12_daysOf_18 : decode cX12_daysOf 18 = .ok (.getfield 9, 3) := by decide +kernel
theorem dX12_daysOf_21 : decode cX12_daysOf 21 = .ok (.iconst 0, 1) := by decide +kernel
theorem dX12_daysOf_22 : decode cX12_daysOf 22 = .ok (.iaload, 1) := by decide +kernel
theorem dX12_daysOf_23 : decode cX12_daysOf 23 = .ok (.isub, 1) := by decide +kernel
theorem dX12_daysOf_24 : decode cX12_daysOf 24 = .ok (.istore_n 2, 1) := by decide +kernel
theorem dX12_daysOf_25 : decode cX12_daysOf 25 = .ok (.iload_n 1, 1) := by decide +kernel
theorem dX12_daysOf_26 : decode cX12_daysOf 26 = .ok (.iload_n 2, 1) := by decide +kernel
theorem dX12_daysOf_27 : decode cX12_daysOf 27 = .ok (.if_icmp .ge 7, 3) := by decide +kernel
theorem dX12_daysOf_30 : decode cX12_daysOf 30 = .ok (.iload_n 1, 1) := by decide +kernel
theorem dX12_daysOf_31 : decode cX12_daysOf 31 = .ok (.goto 4, 3) := by decide +kernel
theorem dX12_daysOf_34 : decode cX12_daysOf 34 = .ok (.iload_n 2, 1) := by decide +kernel
theorem dX12_daysOf_35 : decode cX12_daysOf 35 = .ok (.ireturn, 1) := by decide +kernel
theorem k_X12_daysOf : MV yX12_daysOf cX12_daysOf 3 (some .int) 1 := ⟨q_1510, qs_74, q_14, q_1511, ⟨by decide, by decide, by decide +kernel⟩⟩
theorem c_X12_daysOf {res : Int32} (hf : X12_daysOf x_s v1 = res) : MC l E0 D t yX12_daysOf cX12_daysOf 3 (some .int) 2 0 0 [.ref (a 0), .int v1] (mW a t x_s x_kept x_laid x_isKept x_pile x_tape x_taped x_letters x_at x_begun x_token x_value x_opened x_steps x_code0 x_read x_saved x_plan x_bestPlan x_most x_many x_few x_everRight x_lagThen x_shadedThen x_firstFit x_rows x_rowMany x_sorts x_sizes x_number x_holds x_heldOne x_trace x_traced x_own x_isParted) (Qi res (mW a t x_s x_kept x_laid x_isKept x_pile x_tape x_taped x_letters x_at x_begun x_token x_value x_opened x_steps x_code0 x_read x_saved x_plan x_bestPlan x_most x_many x_few x_everRight x_lagThen x_shadedThen x_firstFit x_rows x_rowMany x_sorts x_sizes x_number x_holds x_heldOne x_trace x_traced x_own x_isParted)) := by
  unfold X12_daysOf at hf
  refine MC.ofI pn_X12 (Nat.le_of_ble_eq_true rfl) ?_
  intro p e s m args below meth c A Q ls cx hR hw hl
  have hx := cx.1
  have hb := cx.2.1
  have hl : lv_has ls 3 [(0, .ref (a 0)), (1, .int v1)] := hl
  refine lv_aload_n hx hb dX12_daysOf_0 rfl (lv_at hl 0 rfl) ?_
  refine calVi (k := 0) cx hw hl.1 (c_X12_isOver rfl) q_1395 k_X12_isOver rfl rfl rfl dX12_daysOf_1 rfl (Nat.le_of_ble_eq_true rfl) ⟨Nat.le_of_ble_eq_true rfl, Nat.le_of_ble_eq_true rfl⟩ ⟨Nat.le_refl _, Nat.le_refl _⟩ (fun H locs hw => ?_)
  obtain ⟨j1, hj1, hf⟩ := pbS hf
  have wj1 : ∀ (H : Heap) (locs : List Loc) (ls : Array Slot), Wd D A s (mW a t x_s x_kept x_laid x_isKept x_pile x_tape x_taped x_letters x_at x_begun x_token x_value x_opened x_steps x_code0 x_read x_saved x_plan x_bestPlan x_most x_many x_few x_everRight x_lagThen x_shadedThen x_firstFit x_rows x_rowMany x_sorts x_sizes x_number x_holds x_heldOne x_trace x_traced x_own x_isParted) H locs → lv_has ls 3 [(0, .ref (a 0)), (1, .int v1)] → W p l e (rmz 2 0 0) s m args below meth c H locs 0 0 Q (F0 m 24 ls [.int j1]) := by
    intro H locs ls hw hl
    refine lv_istore_n (lv' := [(2, .int j1), (0, .ref (a 0)), (1, .int v1)]) hx hb dX12_daysOf_24 rfl hl (by decide) rfl (fun ls hl => ?_)
    refine lv_iload_n hx hb dX12_daysOf_25 rfl (lv_at hl 2 rfl) ?_
    refine lv_iload_n hx hb dX12_daysOf_26 rfl (lv_at hl 0 rfl) ?_
    refine lv_icmp_ge (tgt := 34) hx hb dX12_daysOf_27 (by decide) (fun hc => ?_) (fun hc => ?_)
    · have hf := ifT hf hc
      refine lv_iload_n hx hb dX12_daysOf_34 rfl (lv_at hl 0 rfl) ?_
      subst hf
      exact hR _ _ _ _ _ _ hw rfl ⟨rfl, rfl⟩ dX12_daysOf_35
    · have hf := ifF hf hc
      refine lv_iload_n hx hb dX12_daysOf_30 rfl (lv_at hl 2 rfl) ?_
      refine lv_goto (tgt := 35) hx hb dX12_daysOf_31 (by decide) ?_
      subst hf
      exact hR _ _ _ _ _ _ hw rfl ⟨rfl, rfl⟩ dX12_daysOf_35
  clear hf
  have hf := hj1
  clear hj1
  refine lv_if_eq (tgt := 11) hx hb dX12_daysOf_4 (by decide) (fun hc => ?_) (fun hc => ?_)
  · have hf := ifT hf hc
    refine lv_aload_n hx hb dX12_daysOf_11 rfl (lv_at hl 0 rfl) ?_
    refine mg_s cx hw dX12_daysOf_12 ?_
    refine lv_iconst (v := 1) hx hb dX12_daysOf_15 (by decide) ?_
    refine ml_s (j := 1) cx hw (ib_in (by decide)) (by decide) dX12_daysOf_16 ?_
    refine lv_aload_n hx hb dX12_daysOf_17 rfl (lv_at hl 0 rfl) ?_
    refine mg_s cx hw dX12_daysOf_18 ?_
    refine lv_iconst (v := 0) hx hb dX12_daysOf_21 (by decide) ?_
    refine ml_s (j := 0) cx hw (ib_in (by decide)) (by decide) dX12_daysOf_22 ?_
    refine lv_isub hx hb dX12_daysOf_23 ?_
    subst hf
    exact wj1 _ _ _ hw (lv_sub hl [0, 1] rfl)
  · have hf := ifF hf hc
    refine lv_iconst (v := 0) hx hb dX12_daysOf_7 (by decide) ?_
    refine lv_goto (tgt := 24) hx hb dX12_daysOf_8 (by decide) ?_
    subst hf
    exact wj1 _ _ _ hw (lv_sub hl [0, 1] rfl)
theorem dX12_endsPlan_0 : decode cX12_endsPlan 0 = .ok (.iload_n 2, 1) := by decide +kernel
theorem dX12_endsPlan_1 : decode cX12_endsPlan 1 = .ok (.aload_n 0, 1) := by decide +kernel
theorem dX12_endsPlan_2 : decode cX12_endsPlan 2 = .ok (.getfield 264, 3) := by decide +kernel
theorem dX12_endsPlan_5 : decode cX12_endsPlan 5 = .ok (.if_icmp .le 42, 3) := by decide +kernel
theorem dX12_endsPlan_8 : decode cX12_endsPlan 8 = .ok (.aload_n 0, 1) := by decide +kernel
theorem dX12_endsPlan_9 : decode cX12_endsPlan 9 = .ok (.iconst 0, 1) := by decide +kernel
theorem dX12_endsPlan_10 : decode cX12_endsPlan 10 = .ok (.putfield 267, 3) := by decide +kernel
theorem dX12_endsPlan_13 : decode cX12_endsPlan 13 = .ok (.aload_n 0, 1) := by decide +kernel
theorem dX12_endsPlan_14 : decode cX12_endsPlan 14 = .ok (.iload_n 2, 1) := by decide +kernel
theorem dX12_endsPlan_15 : decode cX12_endsPlan 15 = .ok (.putfield 264, 3) := by decide +kernel
theorem dX12_endsPlan_18 : decode cX12_endsPlan 18 = .ok (.iconst 0, 1) := by decide +kernel
theorem dX12_endsPlan_19 : decode cX12_endsPlan 19 = .ok (.istore 5, 2) := by decide +kernel
theorem dX12_endsPlan_21 : decode cX12_endsPlan 21 = .ok (.iload 5, 2) := by decide +kernel
theorem dX12_endsPlan_23 : decode cX12_endsPlan 23 = .ok (.iload_n 1, 1) := by decide +kernel
theorem dX12_endsPlan_24 : decode cX12_endsPlan 24 = .ok (.if_icmp .ge 23, 3) := by decide +kernel
theorem dX12_endsPlan_27 : decode cX12_endsPlan 27 = .ok (.aload_n 0, 1) := by decide +kernel
theorem dX12_endsPlan_28 : decode cX12_endsPlan 28 = .ok (.getfield 41, 3) := by decide +kernel
theorem dX12_endsPlan_31 : decode cX12_endsPlan 31 = .ok (.iload 5, 2) := by decide +kernel
theorem dX12_endsPlan_33 : decode cX12_endsPlan 33 = .ok (.aload_n 0, 1) := by decide +kernel
theorem dX12_endsPlan_34 : decode cX12_endsPlan 34 = .ok (.getfield 38, 3) := by decide +kernel
theorem dX12_endsPlan_37 : decode cX12_endsPlan 37 = .ok (.iload 5, 2) := by decide +kernel
theorem dX12_endsPlan_39 : decode cX12_endsPlan 39 = .ok (.iaload, 1) := by decide +kernel
theorem dX12_endsPlan_40 : decode cX12_endsPlan 40 = .ok (.iastore, 1) := by decide +kernel
theorem dX12_endsPlan_41 : decode cX12_endsPlan 41 = .ok (.iinc 5 1, 3) := by decide +kernel
theorem dX12_endsPlan_44 : decode cX12_endsPlan 44 = .ok (.goto (-23), 3) := by decide +kernel
theorem dX12_endsPlan_47 : decode cX12_endsPlan 47 = .ok (.aload_n 0, 1) := by decide +kernel
theorem dX12_endsPlan_48 : decode cX12_endsPlan 48 = .ok (.dup, 1) := by decide +kernel
theorem dX12_endsPlan_49 : decode cX12_endsPlan 49 = .ok (.getfield 267, 3) := by decide +kernel
theorem dX12_endsPlan_52 : decode cX12_endsPlan 52 = .ok (.iload_n 2, 1) := by decide +kernel
theorem dX12_endsPlan_53 : decode cX12_endsPlan 53 = .ok (.aload_n 0, 1) := by decide +kernel
theorem dX12_endsPlan_54 : decode cX12_endsPlan 54 = .ok (.getfield 264, 3) := by decide +kernel
theorem dX12_endsPlan_57 : decode cX12_endsPlan 57 = .ok (.if_icmp .ne 7, 3) := by decide +kernel
theorem dX12_endsPlan_60 : decode cX12_endsPlan 60 = .ok (.iconst 1, 1) := by decide +kernel
theorem dX12_endsPlan_61 : decode cX12_endsPlan 61 = .ok (.goto 4, 3) := by decide +kernel
theorem dX12_endsPlan_64 : decode cX12_endsPlan 64 = .ok (.iconst 0, 1) := by decide +kernel
theorem dX12_endsPlan_65 : decode cX12_endsPlan 65 = .ok (.iadd, 1) := by decide +kernel
theorem dX12_endsPlan_66 : decode cX12_endsPlan 66 = .ok (.putfield 267, 3) := by decide +kernel
theorem dX12_endsPlan_69 : decode cX12_endsPlan 69 = .ok (.aload_n 0, 1) := by decide +kernel
theorem dX12_endsPlan_70 : decode cX12_endsPlan 70 = .ok (.iconst 4, 1) := by decide +kernel
theorem dX12_endsPlan_71 : decode cX12_endsPlan 71 = .ok (.invokevirtual 240, 3) := by decide +kernel
theorem dX12_endsPlan_74 : decode cX12_endsPlan 74 = .ok (.istore 5, 2) := by decide +kernel
theorem dX12_endsPlan_76 : decode cX12_endsPlan 76 = .ok (.aload_n 0, 1) := by decide +kernel
theorem dX12_endsPlan_77 : decode cX12_endsPlan 77 = .ok (.iload 4, 2) := by decide +kernel
theorem dX12_endsPlan_79 : decode cX12_endsPlan 79 = .ok (.iload 5, 2) := by decide +kernel
theorem dX12_endsPlan_81 : decode cX12_endsPlan 81 = .ok (.iconst (-1), 1) := by decide +kernel
theorem dX12_endsPlan_82 : decode cX12_endsPlan 82 = .ok (.ixor, 1) := by decide +kernel
theorem dX12_endsPlan_83 : decode cX12_endsPlan 83 = .ok (.iand, 1) := by decide +kernel
theorem dX12_endsPlan_84 : decode cX12_endsPlan 84 = .ok (.ifCond .ne 15, 3) := by decide +kernel
theorem dX12_endsPlan_87 : decode cX12_endsPlan 87 = .ok (.iload_n 3, 1) := by decide +kernel
theorem dX12_endsPlan_88 : decode cX12_endsPlan 88 = .ok (.aload_n 0, 1) := by decide +kernel
theorem dX12_endsPlan_89 : decode cX12_endsPlan 89 = .ok (.getfield 270, 3) := by decide +kernel
theorem dX12_endsPlan_92 : decode cX12_endsPlan 92 = .ok (.if_icmp .ge 7, 3) := by decide +kernel
theorem dX12_endsPlan_95 : decode cX12_endsPlan 95 = .ok (.iload_n 3, 1) := by decide +kernel
theorem dX12_endsPlan_96 : decode cX12_endsPlan 96 = .ok (.goto 7, 3) := by decide +kernel
theorem dX12_endsPlan_99 : decode cX12_endsPlan 99 = .ok (.aload_n 0, 1) := by decide +kernel
theorem dX12_endsPlan_100 : decode cX12_endsPlan 100 = .ok (.getfield 270, 3) := by decide +kernel
theorem dX12_endsPlan_103 : decode cX12_endsPlan 103 = .ok (.putfield 270, 3) := by decide +kernel
theorem dX12_endsPlan_106 : decode cX12_endsPlan 106 = .ok (.aload_n 0, 1) := by decide +kernel
theorem dX12_endsPlan_107 : decode cX12_endsPlan 107 = .ok (.dup, 1) := by decide +kernel
theorem dX12_endsPlan_108 : decode cX12_endsPlan 108 = .ok (.getfield 273, 3) := by decide +kernel
theorem dX12_endsPlan_111 : decode cX12_endsPlan 111 = .ok (.iload 5, 2) := by decide +kernel
theorem dX12_endsPlan_113 : decode cX12_endsPlan 113 = .ok (.ior, 1) := by decide +kernel
theorem dX12_endsPlan_114 : decode cX12_endsPlan 114 = .ok (.putfield 273, 3) := by decide +kernel
theorem dX12_endsPlan_117 : decode cX12_endsPlan 117 = .ok (.return_, 1) := by decide +kernel
theorem k_X12_endsPlan : MV yX12_endsPlan cX12_endsPlan 6 none 4 := ⟨q_1518, qs_76, q_14, q_1519, ⟨by decide, by decide, by decide +kernel⟩⟩
theorem c_X12_endsPlan {res : (Nat → Int32) × Int32 × Int32 × Int32 × Int32} (hf : X12_endsPlan n x_s x_plan x_bestPlan x_most x_many x_few x_everRight v1 v2 v3 v4 = some res) : MC l E0 D t yX12_endsPlan cX12_endsPlan 6 none 3 0 0 [.ref (a 0), .int v1, .int v2, .int v3, .int v4] (mW a t x_s x_kept x_laid x_isKept x_pile x_tape x_taped x_letters x_at x_begun x_token x_value x_opened x_steps x_code0 x_read x_saved x_plan x_bestPlan x_most x_many x_few x_everRight x_lagThen x_shadedThen x_firstFit x_rows x_rowMany x_sorts x_sizes x_number x_holds x_heldOne x_trace x_traced x_own x_isParted) (Qn (mW a t x_s x_kept x_laid x_isKept x_pile x_tape x_taped x_letters x_at x_begun x_token x_value x_opened x_steps x_code0 x_read x_saved x_plan res.1 res.2.1 res.2.2.1 res.2.2.2.1 res.2.2.2.2 x_lagThen x_shadedThen x_firstFit x_rows x_rowMany x_sorts x_sizes x_number x_holds x_heldOne x_trace x_traced x_own x_isParted)) := by
  unfold X12_endsPlan at hf
  refine MC.ofV pn_X12 (Nat.le_of_ble_eq_true rfl) ?_
  intro p e s m args below meth c A Q ls cx hR hw hl
  have hx := cx.1
  have hb := cx.2.1
  have hl : lv_has ls 6 [(0, .ref (a 0)), (1, .int v1), (2, .int v2), (3, .int v3), (4, .int v4)] := hl
  refine lv_iload_n hx hb dX12_endsPlan_0 rfl (lv_at hl 2 rfl) ?_
  refine lv_aload_n hx hb dX12_endsPlan_1 rfl (lv_at hl 0 rfl) ?_
  refine mg_most cx hw dX12_endsPlan_2 ?_
  obtain ⟨j4, hj4, hf⟩ := bnS hf
  have wj4 : ∀ (H : Heap) (locs : List Loc) (ls : Array Slot), Wd D A s (mW a t x_s x_kept x_laid x_isKept x_pile x_tape x_taped x_letters x_at x_begun x_token x_value x_opened x_steps x_code0 x_read x_saved x_plan j4.1 j4.2.1 j4.2.2 x_few x_everRight x_lagThen x_shadedThen x_firstFit x_rows x_rowMany x_sorts x_sizes x_number x_holds x_heldOne x_trace x_traced x_own x_isParted) H locs → lv_has ls 6 [(0, .ref (a 0)), (1, .int v1), (2, .int v2), (3, .int v3), (4, .int v4)] → W p l e (rmz 3 0 0) s m args below meth c H locs 0 0 Q (F0 m 47 ls []) := by
    intro H locs ls hw hl
    refine lv_aload_n hx hb dX12_endsPlan_47 rfl (lv_at hl 0 rfl) ?_
    refine lv_dup hx hb dX12_endsPlan_48 rfl ?_
    refine mg_many cx hw dX12_endsPlan_49 ?_
    refine lv_iload_n hx hb dX12_endsPlan_52 rfl (lv_at hl 2 rfl) ?_
    refine lv_aload_n hx hb dX12_endsPlan_53 rfl (lv_at hl 0 rfl) ?_
    refine mg_most cx hw dX12_endsPlan_54 ?_
    obtain ⟨j5, hj5, hf⟩ := pbS hf
    have wj5 : ∀ (H : Heap) (locs : List Loc) (ls : Array Slot), Wd D A s (mW a t x_s x_kept x_laid x_isKept x_pile x_tape x_taped x_letters x_at x_begun x_token x_value x_opened x_steps x_code0 x_read x_saved x_plan j4.1 j4.2.1 j4.2.2 x_few x_everRight x_lagThen x_shadedThen x_firstFit x_rows x_rowMany x_sorts x_sizes x_number x_holds x_heldOne x_trace x_traced x_own x_isParted) H locs → lv_has ls 6 [(0, .ref (a 0)), (1, .int v1), (2, .int v2), (3, .int v3), (4, .int v4)] → W p l e (rmz 3 0 0) s m args below meth c H locs 0 0 Q (F0 m 65 ls [.int j5, .int j4.2.2, .ref (a 0)]) := by
      intro H locs ls hw hl
      refine lv_iadd hx hb dX12_endsPlan_65 ?_
      refine mp_many cx hw dX12_endsPlan_66 (fun H locs hw => ?_)
      refine lv_aload_n hx hb dX12_endsPlan_69 rfl (lv_at hl 0 rfl) ?_
      refine lv_iconst (v := 4) hx hb dX12_endsPlan_70 (by decide) ?_
      obtain ⟨r6, h7, hf⟩ := bnS hf
      refine calVi (k := 0) cx hw hl.1 (c_X12_those h7) q_1399 k_X12_those rfl rfl rfl dX12_endsPlan_71 rfl (Nat.le_of_ble_eq_true rfl) ⟨Nat.le_of_ble_eq_true rfl, Nat.le_of_ble_eq_true rfl⟩ ⟨Nat.le_refl _, Nat.le_refl _⟩ (fun H locs hw => ?_)
      refine lv_istore (lv' := [(5, .int r6), (0, .ref (a 0)), (1, .int v1), (2, .int v2), (3, .int v3), (4, .int v4)]) hx hb dX12_endsPlan_74 hl (by decide) rfl (fun ls hl => ?_)
      refine lv_aload_n hx hb dX12_endsPlan_76 rfl (lv_at hl 1 rfl) ?_
      refine lv_iload hx hb dX12_endsPlan_77 (lv_at hl 5 rfl) ?_
      refine lv_iload hx hb dX12_endsPlan_79 (lv_at hl 0 rfl) ?_
      refine lv_iconst (v := (-1)) hx hb dX12_endsPlan_81 (by decide) ?_
      refine lv_ixor hx hb dX12_endsPlan_82 ?_
      refine lv_iand hx hb dX12_endsPlan_83 ?_
      obtain ⟨j8, hj8, hf⟩ := pbS hf
      have wj8 : ∀ (H : Heap) (locs : List Loc) (ls : Array Slot), Wd D A s (mW a t x_s x_kept x_laid x_isKept x_pile x_tape x_taped x_letters x_at x_begun x_token x_value x_opened x_steps x_code0 x_read x_saved x_plan j4.1 j4.2.1 (j4.2.2 + j5) x_few x_everRight x_lagThen x_shadedThen x_firstFit x_rows x_rowMany x_sorts x_sizes x_number x_holds x_heldOne x_trace x_traced x_own x_isParted) H locs → lv_has ls 6 [(0, .ref (a 0)), (1, .int v1), (2, .int v2), (3, .int v3), (4, .int v4), (5, .int r6)] → W p l e (rmz 3 0 0) s m args below meth c H locs 0 0 Q (F0 m 103 ls [.int j8, .ref (a 0)]) := by
        intro H locs ls hw hl
        refine mp_few cx hw dX12_endsPlan_103 (fun H locs hw => ?_)
        refine lv_aload_n hx hb dX12_endsPlan_106 rfl (lv_at hl 0 rfl) ?_
        refine lv_dup hx hb dX12_endsPlan_107 rfl ?_
        refine mg_everRight cx hw dX12_endsPlan_108 ?_
        refine lv_iload hx hb dX12_endsPlan_111 (lv_at hl 5 rfl) ?_
        refine lv_ior hx hb dX12_endsPlan_113 ?_
        refine mp_everRight cx hw dX12_endsPlan_114 (fun H locs hw => ?_)
        have hf := Option.some.inj hf
        subst hf
        exact hR _ _ _ _ _ hw ⟨rfl, rfl⟩ dX12_endsPlan_117
      clear hf
      have hf := hj8
      clear hj8
      refine lv_if_ne (tgt := 99) hx hb dX12_endsPlan_84 (by decide) (fun hc => ?_) (fun hc => ?_)
      · have hf := ifF hf hc
        refine lv_aload_n hx hb dX12_endsPlan_99 rfl (lv_at hl 1 rfl) ?_
        refine mg_few cx hw dX12_endsPlan_100 ?_
        subst hf
        exact wj8 _ _ _ hw (lv_sub hl [1, 2, 3, 4, 5, 0] rfl)
      · have hf := ifT hf hc
        refine lv_iload_n hx hb dX12_endsPlan_87 rfl (lv_at hl 4 rfl) ?_
        refine lv_aload_n hx hb dX12_endsPlan_88 rfl (lv_at hl 1 rfl) ?_
        refine mg_few cx hw dX12_endsPlan_89 ?_
        refine lv_icmp_ge (tgt := 99) hx hb dX12_endsPlan_92 (by decide) (fun hc => ?_) (fun hc => ?_)
        · have hf := ifT hf hc
          refine lv_aload_n hx hb dX12_endsPlan_99 rfl (lv_at hl 1 rfl) ?_
          refine mg_few cx hw dX12_endsPlan_100 ?_
          subst hf
          exact wj8 _ _ _ hw (lv_sub hl [1, 2, 3, 4, 5, 0] rfl)
        · have hf := ifF hf hc
          refine lv_iload_n hx hb dX12_endsPlan_95 rfl (lv_at hl 4 rfl) ?_
          refine lv_goto (tgt := 103) hx hb dX12_endsPlan_96 (by decide) ?_
          subst hf
          exact wj8 _ _ _ hw (lv_sub hl [1, 2, 3, 4, 5, 0] rfl)
    clear hf
    have hf := hj5
    clear hj5
    refine lv_icmp_ne (tgt := 64) hx hb dX12_endsPlan_57 (by decide) (fun hc => ?_) (fun hc => ?_)
    · have hf := ifF hf hc
      refine lv_iconst (v := 0) hx hb dX12_endsPlan_64 (by decide) ?_
      subst hf
      exact wj5 _ _ _ hw (lv_sub hl [0, 1, 2, 3, 4] rfl)
    · have hf := ifT hf hc
      refine lv_iconst (v := 1) hx hb dX12_endsPlan_60 (by decide) ?_
      refine lv_goto (tgt := 65) hx hb dX12_endsPlan_61 (by decide) ?_
      subst hf
      exact wj5 _ _ _ hw (lv_sub hl [0, 1, 2, 3, 4] rfl)
  clear hf
  have hf := hj4
  clear hj4
  refine lv_icmp_le (tgt := 47) hx hb dX12_endsPlan_5 (by decide) (fun hc => ?_) (fun hc => ?_)
  · have hf := ifT hf hc
    have hf := Option.some.inj hf
    subst hf
    exact wj4 _ _ _ hw (lv_sub hl [0, 1, 2, 3, 4] rfl)
  · have hf := ifF hf hc
    refine lv_aload_n hx hb dX12_endsPlan_8 rfl (lv_at hl 0 rfl) ?_
    refine lv_iconst (v := 0) hx hb dX12_endsPlan_9 (by decide) ?_
    refine mp_many cx hw dX12_endsPlan_10 (fun H locs hw => ?_)
    refine lv_aload_n hx hb dX12_endsPlan_13 rfl (lv_at hl 0 rfl) ?_
    refine lv_iload_n hx hb dX12_endsPlan_14 rfl (lv_at hl 2 rfl) ?_
    refine mp_most cx hw dX12_endsPlan_15 (fun H locs hw => ?_)
    refine lv_iconst (v := 0) hx hb dX12_endsPlan_18 (by decide) ?_
    refine lv_istore (lv' := [(5, .int (0 : Int32)), (0, .ref (a 0)), (1, .int v1), (2, .int v2), (3, .int v3), (4, .int v4)]) hx hb dX12_endsPlan_19 hl (by decide) rfl (fun ls hl => ?_)
    obtain ⟨o3, ho3, hf⟩ := bnS hf
    have wL1 : ∀ (k : Nat) {v1 : Int32} {v2 : Int32} {v3 : Int32} {v4 : Int32} {v5 : Int32} {x_bestPlan : Nat → Int32} {x_most : Int32} {x_many : Int32} {H : Heap} {locs : List Loc} {ls : Array Slot} {o : Int32 × (Nat → Int32)}, X12_endsPlan_L1 n x_plan v1 k v5 x_bestPlan = some o → Wd D A s (mW a t x_s x_kept x_laid x_isKept x_pile x_tape x_taped x_letters x_at x_begun x_token x_value x_opened x_steps x_code0 x_read x_saved x_plan x_bestPlan x_most x_many x_few x_everRight x_lagThen x_shadedThen x_firstFit x_rows x_rowMany x_sorts x_sizes x_number x_holds x_heldOne x_trace x_traced x_own x_isParted) H locs → lv_has ls 6 [(0, .ref (a 0)), (1, .int v1), (2, .int v2), (3, .int v3), (4, .int v4), (5, .int v5)] → (∀ (H : Heap) (locs : List Loc) (ls : Array Slot), Wd D A s (mW a t x_s x_kept x_laid x_isKept x_pile x_tape x_taped x_letters x_at x_begun x_token x_value x_opened x_steps x_code0 x_read x_saved x_plan o.2 x_most x_many x_few x_everRight x_lagThen x_shadedThen x_firstFit x_rows x_rowMany x_sorts x_sizes x_number x_holds x_heldOne x_trace x_traced x_own x_isParted) H locs → lv_has ls 6 [(0, .ref (a 0)), (1, .int v1), (2, .int v2), (3, .int v3), (4, .int v4), (5, .int o.1)] → W p l e (rmz 3 0 0) s m args below meth c H locs 0 0 Q (F0 m 47 ls [])) → W p l e (rmz 3 0 0) s m args below meth c H locs 0 0 Q (F0 m 21 ls []) := by
      clear hf ho3 hw hl
      intro k
      induction k with
      | zero => intro v1 v2 v3 v4 v5 x_bestPlan x_most x_many H locs ls o hf hw hl kx; simp [X12_endsPlan_L1] at hf
      | succ k ih =>
        intro v1 v2 v3 v4 v5 x_bestPlan x_most x_many H locs ls o hf hw hl kx
        rw [X12_endsPlan_L1] at hf
        refine lv_iload hx hb dX12_endsPlan_21 (lv_at hl 5 rfl) ?_
        refine lv_iload_n hx hb dX12_endsPlan_23 rfl (lv_at hl 1 rfl) ?_
        refine lv_icmp_ge (tgt := 47) hx hb dX12_endsPlan_24 (by decide) (fun hc => ?_) (fun hc => ?_)
        · have hf := ifT hf hc
          have hf := Option.some.inj hf
          subst hf
          exact kx _ _ _ hw (lv_sub hl [0, 1, 2, 3, 4, 5] rfl)
        · have hf := ifF hf hc
          refine lv_aload_n hx hb dX12_endsPlan_27 rfl (lv_at hl 0 rfl) ?_
          refine mg_bestPlan cx hw dX12_endsPlan_28 ?_
          refine lv_iload hx hb dX12_endsPlan_31 (lv_at hl 5 rfl) ?_
          refine lv_aload_n hx hb dX12_endsPlan_33 rfl (lv_at hl 0 rfl) ?_
          refine mg_plan cx hw dX12_endsPlan_34 ?_
          refine lv_iload hx hb dX12_endsPlan_37 (lv_at hl 5 rfl) ?_
          obtain ⟨h1, hf⟩ := ckS hf
          refine ml_plan (j := v5.toNatClampNeg) cx hw (ib_in h1) rfl dX12_endsPlan_39 ?_
          obtain ⟨h2, hf⟩ := ckS hf
          refine ms_bestPlan (j := v5.toNatClampNeg) cx hw (ib_in h2) rfl dX12_endsPlan_40 (fun H locs hw => ?_)
          refine lv_iinc (v := (v5 + (1 : Int32))) (lv' := [(5, .int (v5 + (1 : Int32))), (0, .ref (a 0)), (1, .int v1), (2, .int v2), (3, .int v3), (4, .int v4)]) hx hb dX12_endsPlan_41 hl (k := 5) rfl rfl (by decide) rfl (fun ls hl => ?_)
          refine lv_goto (tgt := 21) hx hb dX12_endsPlan_44 (by decide) ?_
          exact ih hf hw (lv_sub hl [1, 2, 3, 4, 5, 0] rfl) kx
    refine wL1 n ho3 hw (lv_sub hl [1, 2, 3, 4, 5, 0] rfl) (fun H locs ls hw hl => ?_)
    clear wL1 ho3
    have hf := Option.some.inj hf
    subst hf
    exact wj4 _ _ _ hw (lv_sub hl [0, 1, 2, 3, 4] rfl)
theorem dX12_goesPlans_0 : decode cX12_goesPlans 0 = .ok (.iload_n 1, 1) := by decide +kernel
theorem dX12_goesPlans_1 : decode cX12_goesPlans 1 = .ok (.iload_n 2, 1) := by decide +kernel
theorem dX12_goesPlans_2 : decode cX12_goesPlans 2 = .ok (.if_icmp .ne 14, 3) := by decide +kernel
theorem dX12_goesPlans_5 : decode cX12_goesPlans 5 = .ok (.aload_n 0, 1) := by decide +kernel
theorem dX12_goesPlans_6 : decode cX12_goesPlans 6 = .ok (.iload_n 2, 1) := by decide +kernel
theorem dX12_goesPlans_7 : decode cX12_goesPlans 7 = .ok (.iload_n 3, 1) := by decide +kernel
theorem dX12_goesPlans_8 : decode cX12_goesPlans 8 = .ok (.iload 4, 2) := by decide +kernel
theorem dX12_goesPlans_10 : decode cX12_goesPlans 10 = .ok (.iload 5, 2) := by decide +kernel
theorem dX12_goesPlans_12 : decode cX12_goesPlans 12 = .ok (.invokevirtual 276, 3) := by decide +kernel
theorem dX12_goesPlans_15 : decode cX12_goesPlans 15 = .ok (.return_, 1) := by decide +kernel
theorem dX12_goesPlans_16 : decode cX12_goesPlans 16 = .ok (.aload_n 0, 1) := by decide +kernel
theorem dX12_goesPlans_17 : decode cX12_goesPlans 17 = .ok (.iload_n 1, 1) := by decide +kernel
theorem dX12_goesPlans_18 : decode cX12_goesPlans 18 = .ok (.invokevirtual 280, 3) := by decide +kernel
theorem dX12_goesPlans_21 : decode cX12_goesPlans 21 = .ok (.iconst 0, 1) := by decide +kernel
theorem dX12_goesPlans_22 : decode cX12_goesPlans 22 = .ok (.istore 6, 2) := by decide +kernel
theorem dX12_goesPlans_24 : decode cX12_goesPlans 24 = .ok (.iload 6, 2) := by decide +kernel
theorem dX12_goesPlans_26 : decode cX12_goesPlans 26 = .ok (.aload_n 0, 1) := by decide +kernel
theorem dX12_goesPlans_27 : decode cX12_goesPlans 27 = .ok (.getfield 9, 3) := by decide +kernel
theorem dX12_goesPlans_30 : decode cX12_goesPlans 30 = .ok (.iconst 4, 1) := by decide +kernel
theorem dX12_goesPlans_31 : decode cX12_goesPlans 31 = .ok (.iaload, 1) := by decide +kernel
theorem dX12_goesPlans_32 : decode cX12_goesPlans 32 = .ok (.if_icmp .gt 58, 3) := by decide +kernel
theorem dX12_goesPlans_35 : decode cX12_goesPlans 35 = .ok (.aload_n 0, 1) := by decide +kernel
theorem dX12_goesPlans_36 : decode cX12_goesPlans 36 = .ok (.getfield 38, 3) := by decide +kernel
theorem dX12_goesPlans_39 : decode cX12_goesPlans 39 = .ok (.iload_n 1, 1) := by decide +kernel
theorem dX12_goesPlans_40 : decode cX12_goesPlans 40 = .ok (.iload 6, 2) := by decide +kernel
theorem dX12_goesPlans_42 : decode cX12_goesPlans 42 = .ok (.iastore, 1) := by decide +kernel
theorem dX12_goesPlans_43 : decode cX12_goesPlans 43 = .ok (.aload_n 0, 1) := by decide +kernel
theorem dX12_goesPlans_44 : decode cX12_goesPlans 44 = .ok (.iload 6, 2) := by decide +kernel
theorem dX12_goesPlans_46 : decode cX12_goesPlans 46 = .ok (.invokevirtual 243, 3) := by decide +kernel
theorem dX12_goesPlans_49 : decode cX12_goesPlans 49 = .ok (.istore 7, 2) := by decide +kernel
theorem dX12_goesPlans_51 : decode cX12_goesPlans 51 = .ok (.aload_n 0, 1) := by decide +kernel
theorem dX12_goesPlans_52 : decode cX12_goesPlans 52 = .ok (.iload_n 1, 1) := by decide +kernel
theorem dX12_goesPlans_53 : decode cX12_goesPlans 53 = .ok (.iconst 1, 1) := by decide +kernel
theorem dX12_goesPlans_54 : decode cX12_goesPlans 54 = .ok (.iadd, 1) := by decide +kernel
theorem dX12_goesPlans_55 : decode cX12_goesPlans 55 = .ok (.iload_n 2, 1) := by decide +kernel
theorem dX12_goesPlans_56 : decode cX12_goesPlans 56 = .ok (.iload_n 3, 1) := by decide +kernel
theorem dX12_goesPlans_57 : decode cX12_goesPlans 57 = .ok (.iload 7, 2) := by decide +kernel
theorem dX12_goesPlans_59 : decode cX12_goesPlans 59 = .ok (.iadd, 1) := by decide +kernel
theorem dX12_goesPlans_60 : decode cX12_goesPlans 60 = .ok (.iload 6, 2) := by decide +kernel
theorem dX12_goesPlans_62 : decode cX12_goesPlans 62 = .ok (.ifCond .le 10, 3) := by decide +kernel
theorem dX12_goesPlans_65 : decode cX12_goesPlans 65 = .ok (.iload 4, 2) := by decide +kernel
theorem dX12_goesPlans_67 : decode cX12_goesPlans 67 = .ok (.iconst 1, 1) := by decide +kernel
theorem dX12_goesPlans_68 : decode cX12_goesPlans 68 = .ok (.iadd, 1) := by decide +kernel
theorem dX12_goesPlans_69 : decode cX12_goesPlans 69 = .ok (.goto 5, 3) := by decide +kernel
theorem dX12_goesPlans_72 : decode cX12_goesPlans 72 = .ok (.iload 4, 2) := by decide +kernel
theorem dX12_goesPlans_74 : decode cX12_goesPlans 74 = .ok (.iload 5, 2) := by decide +kernel
theorem dX12_goesPlans_76 : decode cX12_goesPlans 76 = .ok (.invokevirtual 283, 3) := by decide +kernel
theorem dX12_goesPlans_79 : decode cX12_goesPlans 79 = .ok (.aload_n 0, 1) := by decide +kernel
theorem dX12_goesPlans_80 : decode cX12_goesPlans 80 = .ok (.iload_n 1, 1) := by decide +kernel
theorem dX12_goesPlans_81 : decode cX12_goesPlans 81 = .ok (.invokevirtual 287, 3) := by decide +kernel
theorem dX12_goesPlans_84 : decode cX12_goesPlans 84 = .ok (.iinc 6 1, 3) := by decide +kernel
theorem dX12_goesPlans_87 : decode cX12_goesPlans 87 = .ok (.goto (-63), 3) := by decide +kernel
theorem dX12_goesPlans_90 : decode cX12_goesPlans 90 = .ok (.return_, 1) := by decide +kernel
theorem k_X12_goesPlans : MV yX12_goesPlans cX12_goesPlans 8 none 5 := ⟨q_1514, qs_75, q_14, q_1515, ⟨by decide, by decide, by decide +kernel⟩⟩
theorem cb_X12_goesPlans {F : (Nat → Int32) → (Nat → Int32) → (Nat → Int32) → (Nat → Int32) → (Nat → Int32) → Int32 → Int32 → Int32 → Int32 → Int32 → Int32 → Int32 → Int32 → Int32 → Option ((Nat → Int32) × (Nat → Int32) × (Nat → Int32) × (Nat → Int32) × (Nat → Int32) × Int32 × Int32 × Int32 × Int32)} {d : Nat} (hF0 : ∀ {x_s : Nat → Int32} {x_kept : Nat → Int32} {x_laid : Nat → Int32} {x_isKept : Int32} {x_pile : Nat → Int32} {x_tape : Nat → Int32} {x_taped : Int32} {x_letters : Nat → Int32} {x_at : Int32} {x_begun : Int32} {x_token : Int32} {x_value : Int32} {x_opened : Int32} {x_steps : Int32} {x_code0 : Nat → Int32} {x_read : Nat → Int32} {x_saved : Nat → Int32} {x_plan : Nat → Int32} {x_bestPlan : Nat → Int32} {x_most : Int32} {x_many : Int32} {x_few : Int32} {x_everRight : Int32} {x_lagThen : Nat → Int32} {x_shadedThen : Nat → Int32} {x_firstFit : Int32} {x_rows : Nat → Int32} {x_rowMany : Int32} {x_sorts : Nat → Int32} {x_sizes : Nat → Int32} {x_number : Nat → Int32} {x_holds : Nat → Int32} {x_heldOne : Nat → Int32} {x_trace : Nat → Int32} {x_traced : Int32} {x_own : Int32} {x_isParted : Int32} {v1 : Int32} {v2 : Int32} {v3 : Int32} {v4 : Int32} {v5 : Int32} {res : (Nat → Int32) × (Nat → Int32) × (Nat → Int32) × (Nat → Int32) × (Nat → Int32) × Int32 × Int32 × Int32 × Int32}, F x_s x_pile x_saved x_plan x_bestPlan x_most x_many x_few x_everRight v1 v2 v3 v4 v5 = some res → MC l E0 D t yX12_goesPlans cX12_goesPlans 8 none (8 + 4 * d) 0 0 [.ref (a 0), .int v1, .int v2, .int v3, .int v4, .int v5] (mW a t x_s x_kept x_laid x_isKept x_pile x_tape x_taped x_letters x_at x_begun x_token x_value x_opened x_steps x_code0 x_read x_saved x_plan x_bestPlan x_most x_many x_few x_everRight x_lagThen x_shadedThen x_firstFit x_rows x_rowMany x_sorts x_sizes x_number x_holds x_heldOne x_trace x_traced x_own x_isParted) (Qn (mW a t res.1 x_kept x_laid x_isKept res.2.1 x_tape x_taped x_letters x_at x_begun x_token x_value x_opened x_steps x_code0 x_read res.2.2.1 res.2.2.2.1 res.2.2.2.2.1 res.2.2.2.2.2.1 res.2.2.2.2.2.2.1 res.2.2.2.2.2.2.2.1 res.2.2.2.2.2.2.2.2 x_lagThen x_shadedThen x_firstFit x_rows x_rowMany x_sorts x_sizes x_number x_holds x_heldOne x_trace x_traced x_own x_isParted))) {res : (Nat → Int32) × (Nat → Int32) × (Nat → Int32) × (Nat → Int32) × (Nat → Int32) × Int32 × Int32 × Int32 × Int32} (hf : X12_goesPlans_b n F x_s x_pile x_saved x_plan x_bestPlan x_most x_many x_few x_everRight v1 v2 v3 v4 v5 = some res) : MC l E0 D t yX12_goesPlans cX12_goesPlans 8 none (8 + 4 * (d + 1)) 0 0 [.ref (a 0), .int v1, .int v2, .int v3, .int v4, .int v5] (mW a t x_s x_kept x_laid x_isKept x_pile x_tape x_taped x_letters x_at x_begun x_token x_value x_opened x_steps x_code0 x_read x_saved x_plan x_bestPlan x_most x_many x_few x_everRight x_lagThen x_shadedThen x_firstFit x_rows x_rowMany x_sorts x_sizes x_number x_holds x_heldOne x_trace x_traced x_own x_isParted) (Qn (mW a t res.1 x_kept x_laid x_isKept res.2.1 x_tape x_taped x_letters x_at x_begun x_token x_value x_opened x_steps x_code0 x_read res.2.2.1 res.2.2.2.1 res.2.2.2.2.1 res.2.2.2.2.2.1 res.2.2.2.2.2.2.1 res.2.2.2.2.2.2.2.1 res.2.2.2.2.2.2.2.2 x_lagThen x_shadedThen x_firstFit x_rows x_rowMany x_sorts x_sizes x_number x_holds x_heldOne x_trace x_traced x_own x_isParted)) := by
  unfold X12_goesPlans_b at hf
  refine MC.ofV pn_X12 (Nat.le_of_ble_eq_true rfl) ?_
  intro p e s m args below meth c A Q ls cx hR hw hl
  have hx := cx.1
  have hb := cx.2.1
  have hl : lv_has ls 8 [(0, .ref (a 0)), (1, .int v1), (2, .int v2), (3, .int v3), (4, .int v4), (5, .int v5)] := hl
  refine lv_iload_n hx hb dX12_goesPlans_0 rfl (lv_at hl 1 rfl) ?_
  refine lv_iload_n hx hb dX12_goesPlans_1 rfl (lv_at hl 2 rfl) ?_
  refine lv_icmp_ne (tgt := 16) hx hb dX12_goesPlans_2 (by decide) (fun hc => ?_) (fun hc => ?_)
  · have hf := ifF hf hc
    refine lv_aload_n hx hb dX12_goesPlans_16 rfl (lv_at hl 0 rfl) ?_
    refine lv_iload_n hx hb dX12_goesPlans_17 rfl (lv_at hl 1 rfl) ?_
    obtain ⟨r3, h4, hf⟩ := bnS hf
    refine calVv (k := 0) cx hw hl.1 (c_X12_saves h4) q_1520 k_X12_saves rfl rfl rfl dX12_goesPlans_18 rfl (Nat.le_of_ble_eq_true rfl) ⟨by show _ ≤ 8 + 4 * (d + 1); omega, by show _ ≤ 64 * (8 + 4 * (d + 1)); omega⟩ ⟨Nat.le_refl _, Nat.le_refl _⟩ (fun H locs hw => ?_)
    refine lv_iconst (v := 0) hx hb dX12_goesPlans_21 (by decide) ?_
    refine lv_istore (lv' := [(6, .int (0 : Int32)), (0, .ref (a 0)), (1, .int v1), (2, .int v2), (3, .int v3), (4, .int v4), (5, .int v5)]) hx hb dX12_goesPlans_22 hl (by decide) rfl (fun ls hl => ?_)
    obtain ⟨o13, ho13, hf⟩ := bnS hf
    have wL1 : ∀ (k : Nat) {v1 : Int32} {v2 : Int32} {v3 : Int32} {v4 : Int32} {v5 : Int32} {v6 : Int32} {x_s : Nat → Int32} {x_pile : Nat → Int32} {x_saved : Nat → Int32} {x_plan : Nat → Int32} {x_bestPlan : Nat → Int32} {x_most : Int32} {x_many : Int32} {x_few : Int32} {x_everRight : Int32} {H : Heap} {locs : List Loc} {ls : Array Slot} {o : Int32 × (Nat → Int32) × (Nat → Int32) × (Nat → Int32) × (Nat → Int32) × (Nat → Int32) × Int32 × Int32 × Int32 × Int32}, X12_goesPlans_L1 n F v1 v2 v3 v4 v5 k v6 x_s x_pile x_saved x_plan x_bestPlan x_most x_many x_few x_everRight = some o → Wd D A s (mW a t x_s x_kept x_laid x_isKept x_pile x_tape x_taped x_letters x_at x_begun x_token x_value x_opened x_steps x_code0 x_read x_saved x_plan x_bestPlan x_most x_many x_few x_everRight x_lagThen x_shadedThen x_firstFit x_rows x_rowMany x_sorts x_sizes x_number x_holds x_heldOne x_trace x_traced x_own x_isParted) H locs → lv_has ls 8 [(0, .ref (a 0)), (1, .int v1), (2, .int v2), (3, .int v3), (4, .int v4), (5, .int v5), (6, .int v6)] → (∀ (H : Heap) (locs : List Loc) (ls : Array Slot), Wd D A s (mW a t o.2.1 x_kept x_laid x_isKept o.2.2.1 x_tape x_taped x_letters x_at x_begun x_token x_value x_opened x_steps x_code0 x_read o.2.2.2.1 o.2.2.2.2.1 o.2.2.2.2.2.1 o.2.2.2.2.2.2.1 o.2.2.2.2.2.2.2.1 o.2.2.2.2.2.2.2.2.1 o.2.2.2.2.2.2.2.2.2 x_lagThen x_shadedThen x_firstFit x_rows x_rowMany x_sorts x_sizes x_number x_holds x_heldOne x_trace x_traced x_own x_isParted) H locs → lv_has ls 8 [(0, .ref (a 0)), (1, .int v1), (2, .int v2), (3, .int v3), (4, .int v4), (5, .int v5), (6, .int o.1)] → W p l e (rmz (8 + 4 * (d + 1)) 0 0) s m args below meth c H locs 0 0 Q (F0 m 90 ls [])) → W p l e (rmz (8 + 4 * (d + 1)) 0 0) s m args below meth c H locs 0 0 Q (F0 m 24 ls []) := by
      clear hf ho13 hw hl
      intro k
      induction k with
      | zero => intro v1 v2 v3 v4 v5 v6 x_s x_pile x_saved x_plan x_bestPlan x_most x_many x_few x_everRight H locs ls o hf hw hl kx; simp [X12_goesPlans_L1] at hf
      | succ k ih =>
        intro v1 v2 v3 v4 v5 v6 x_s x_pile x_saved x_plan x_bestPlan x_most x_many x_few x_everRight H locs ls o hf hw hl kx
        rw [X12_goesPlans_L1] at hf
        refine lv_iload hx hb dX12_goesPlans_24 (lv_at hl 6 rfl) ?_
        refine lv_aload_n hx hb dX12_goesPlans_26 rfl (lv_at hl 0 rfl) ?_
        refine mg_s cx hw dX12_goesPlans_27 ?_
        refine lv_iconst (v := 4) hx hb dX12_goesPlans_30 (by decide) ?_
        refine ml_s (j := 4) cx hw (ib_in (by decide)) (by decide) dX12_goesPlans_31 ?_
        refine lv_icmp_gt (tgt := 90) hx hb dX12_goesPlans_32 (by decide) (fun hc => ?_) (fun hc => ?_)
        · have hf := ifT hf hc
          have hf := Option.some.inj hf
          subst hf
          exact kx _ _ _ hw (lv_sub hl [0, 1, 2, 3, 4, 5, 6] rfl)
        · have hf := ifF hf hc
          refine lv_aload_n hx hb dX12_goesPlans_35 rfl (lv_at hl 0 rfl) ?_
          refine mg_plan cx hw dX12_goesPlans_36 ?_
          refine lv_iload_n hx hb dX12_goesPlans_39 rfl (lv_at hl 1 rfl) ?_
          refine lv_iload hx hb dX12_goesPlans_40 (lv_at hl 6 rfl) ?_
          obtain ⟨h5, hf⟩ := ckS hf
          refine ms_plan (j := v1.toNatClampNeg) cx hw (ib_in h5) rfl dX12_goesPlans_42 (fun H locs hw => ?_)
          refine lv_aload_n hx hb dX12_goesPlans_43 rfl (lv_at hl 0 rfl) ?_
          refine lv_iload hx hb dX12_goesPlans_44 (lv_at hl 6 rfl) ?_
          obtain ⟨r6, h7, hf⟩ := bnS hf
          refine calVi (k := 0) cx hw hl.1 (c_X12_goesBy h7) q_1418 k_X12_goesBy rfl rfl rfl dX12_goesPlans_46 rfl (Nat.le_of_ble_eq_true rfl) ⟨by show _ ≤ 8 + 4 * (d + 1); omega, by show _ ≤ 64 * (8 + 4 * (d + 1)); omega⟩ ⟨Nat.le_refl _, Nat.le_refl _⟩ (fun H locs hw => ?_)
          refine lv_istore (lv' := [(7, .int r6.1), (0, .ref (a 0)), (1, .int v1), (2, .int v2), (3, .int v3), (4, .int v4), (5, .int v5), (6, .int v6)]) hx hb dX12_goesPlans_49 hl (by decide) rfl (fun ls hl => ?_)
          refine lv_aload_n hx hb dX12_goesPlans_51 rfl (lv_at hl 1 rfl) ?_
          refine lv_iload_n hx hb dX12_goesPlans_52 rfl (lv_at hl 2 rfl) ?_
          refine lv_iconst (v := 1) hx hb dX12_goesPlans_53 (by decide) ?_
          refine lv_iadd hx hb dX12_goesPlans_54 ?_
          refine lv_iload_n hx hb dX12_goesPlans_55 rfl (lv_at hl 3 rfl) ?_
          refine lv_iload_n hx hb dX12_goesPlans_56 rfl (lv_at hl 4 rfl) ?_
          refine lv_iload hx hb dX12_goesPlans_57 (lv_at hl 0 rfl) ?_
          refine lv_iadd hx hb dX12_goesPlans_59 ?_
          refine lv_iload hx hb dX12_goesPlans_60 (lv_at hl 7 rfl) ?_
          obtain ⟨j8, hj8, hf⟩ := pbS hf
          have wj8 : ∀ (H : Heap) (locs : List Loc) (ls : Array Slot), Wd D A s (mW a t r6.2.1 x_kept x_laid x_isKept r6.2.2 x_tape x_taped x_letters x_at x_begun x_token x_value x_opened x_steps x_code0 x_read x_saved (upd x_plan v1.toNatClampNeg v6) x_bestPlan x_most x_many x_few x_everRight x_lagThen x_shadedThen x_firstFit x_rows x_rowMany x_sorts x_sizes x_number x_holds x_heldOne x_trace x_traced x_own x_isParted) H locs → lv_has ls 8 [(0, .ref (a 0)), (1, .int v1), (2, .int v2), (3, .int v3), (4, .int v4), (5, .int v5), (6, .int v6), (7, .int r6.1)] → W p l e (rmz (8 + 4 * (d + 1)) 0 0) s m args below meth c H locs 0 0 Q (F0 m 74 ls [.int j8, .int (v3 + r6.1), .int v2, .int (v1 + (1 : Int32)), .ref (a 0)]) := by
            intro H locs ls hw hl
            refine lv_iload hx hb dX12_goesPlans_74 (lv_at hl 5 rfl) ?_
            obtain ⟨r9, h10, hf⟩ := bnS hf
            refine calVv (k := 0) cx hw hl.1 (hF0 h10) q_1512 k_X12_goesPlans rfl rfl rfl dX12_goesPlans_76 rfl (Nat.le_of_ble_eq_true rfl) ⟨by show _ ≤ 8 + 4 * (d + 1); omega, by show _ ≤ 64 * (8 + 4 * (d + 1)); omega⟩ ⟨Nat.le_refl _, Nat.le_refl _⟩ (fun H locs hw => ?_)
            refine lv_aload_n hx hb dX12_goesPlans_79 rfl (lv_at hl 0 rfl) ?_
            refine lv_iload_n hx hb dX12_goesPlans_80 rfl (lv_at hl 1 rfl) ?_
            obtain ⟨r11, h12, hf⟩ := bnS hf
            refine calVv (k := 0) cx hw hl.1 (c_X12_restores h12) q_1524 k_X12_restores rfl rfl rfl dX12_goesPlans_81 rfl (Nat.le_of_ble_eq_true rfl) ⟨by show _ ≤ 8 + 4 * (d + 1); omega, by show _ ≤ 64 * (8 + 4 * (d + 1)); omega⟩ ⟨Nat.le_refl _, Nat.le_refl _⟩ (fun H locs hw => ?_)
            refine lv_iinc (v := (v6 + (1 : Int32))) (lv' := [(6, .int (v6 + (1 : Int32))), (0, .ref (a 0)), (1, .int v1), (2, .int v2), (3, .int v3), (4, .int v4), (5, .int v5), (7, .int r6.1)]) hx hb dX12_goesPlans_84 hl (k := 6) rfl rfl (by decide) rfl (fun ls hl => ?_)
            refine lv_goto (tgt := 24) hx hb dX12_goesPlans_87 (by decide) ?_
            exact ih hf hw (lv_sub hl [1, 2, 3, 4, 5, 6, 0] rfl) kx
          clear hf
          have hf := hj8
          clear hj8
          refine lv_if_le (tgt := 72) hx hb dX12_goesPlans_62 (by decide) (fun hc => ?_) (fun hc => ?_)
          · have hf := ifT hf hc
            refine lv_iload hx hb dX12_goesPlans_72 (lv_at hl 5 rfl) ?_
            subst hf
            exact wj8 _ _ _ hw (lv_sub hl [1, 2, 3, 4, 5, 6, 7, 0] rfl)
          · have hf := ifF hf hc
            refine lv_iload hx hb dX12_goesPlans_65 (lv_at hl 5 rfl) ?_
            refine lv_iconst (v := 1) hx hb dX12_goesPlans_67 (by decide) ?_
            refine lv_iadd hx hb dX12_goesPlans_68 ?_
            refine lv_goto (tgt := 74) hx hb dX12_goesPlans_69 (by decide) ?_
            subst hf
            exact wj8 _ _ _ hw (lv_sub hl [1, 2, 3, 4, 5, 6, 7, 0] rfl)
    refine wL1 n ho13 hw (lv_sub hl [1, 2, 3, 4, 5, 6, 0] rfl) (fun H locs ls hw hl => ?_)
    clear wL1 ho13
    have hf := Option.some.inj hf
    subst hf
    exact hR _ _ _ _ _ hw ⟨rfl, rfl⟩ dX12_goesPlans_90
  · have hf := ifT hf hc
    refine lv_aload_n hx hb dX12_goesPlans_5 rfl (lv_at hl 0 rfl) ?_
    refine lv_iload_n hx hb dX12_goesPlans_6 rfl (lv_at hl 2 rfl) ?_
    refine lv_iload_n hx hb dX12_goesPlans_7 rfl (lv_at hl 3 rfl) ?_
    refine lv_iload hx hb dX12_goesPlans_8 (lv_at hl 4 rfl) ?_
    refine lv_iload hx hb dX12_goesPlans_10 (lv_at hl 5 rfl) ?_
    obtain ⟨r1, h2, hf⟩ := bnS hf
    refine calVv (k := 0) cx hw hl.1 (c_X12_endsPlan h2) q_1516 k_X12_endsPlan rfl rfl rfl dX12_goesPlans_12 rfl (Nat.le_of_ble_eq_true rfl) ⟨by show _ ≤ 8 + 4 * (d + 1); omega, by show _ ≤ 64 * (8 + 4 * (d + 1)); omega⟩ ⟨Nat.le_refl _, Nat.le_refl _⟩ (fun H locs hw => ?_)
    have hf := Option.some.inj hf
    subst hf
    exact hR _ _ _ _ _ hw ⟨rfl, rfl⟩ dX12_goesPlans_15
theorem c_X12_goesPlans : ∀ {d : Nat} {x_s : Nat → Int32} {x_kept : Nat → Int32} {x_laid : Nat → Int32} {x_isKept : Int32} {x_pile : Nat → Int32} {x_tape : Nat → Int32} {x_taped : Int32} {x_letters : Nat → Int32} {x_at : Int32} {x_begun : Int32} {x_token : Int32} {x_value : Int32} {x_opened : Int32} {x_steps : Int32} {x_code0 : Nat → Int32} {x_read : Nat → Int32} {x_saved : Nat → Int32} {x_plan : Nat → Int32} {x_bestPlan : Nat → Int32} {x_most : Int32} {x_many : Int32} {x_few : Int32} {x_everRight : Int32} {x_lagThen : Nat → Int32} {x_shadedThen : Nat → Int32} {x_firstFit : Int32} {x_rows : Nat → Int32} {x_rowMany : Int32} {x_sorts : Nat → Int32} {x_sizes : Nat → Int32} {x_number : Nat → Int32} {x_holds : Nat → Int32} {x_heldOne : Nat → Int32} {x_trace : Nat → Int32} {x_traced : Int32} {x_own : Int32} {x_isParted : Int32} {v1 : Int32} {v2 : Int32} {v3 : Int32} {v4 : Int32} {v5 : Int32} {res : (Nat → Int32) × (Nat → Int32) × (Nat → Int32) × (Nat → Int32) × (Nat → Int32) × Int32 × Int32 × Int32 × Int32} (hf : X12_goesPlans n d x_s x_pile x_saved x_plan x_bestPlan x_most x_many x_few x_everRight v1 v2 v3 v4 v5 = some res), MC l E0 D t yX12_goesPlans cX12_goesPlans 8 none (8 + 4 * d) 0 0 [.ref (a 0), .int v1, .int v2, .int v3, .int v4, .int v5] (mW a t x_s x_kept x_laid x_isKept x_pile x_tape x_taped x_letters x_at x_begun x_token x_value x_opened x_steps x_code0 x_read x_saved x_plan x_bestPlan x_most x_many x_few x_everRight x_lagThen x_shadedThen x_firstFit x_rows x_rowMany x_sorts x_sizes x_number x_holds x_heldOne x_trace x_traced x_own x_isParted) (Qn (mW a t res.1 x_kept x_laid x_isKept res.2.1 x_tape x_taped x_letters x_at x_begun x_token x_value x_opened x_steps x_code0 x_read res.2.2.1 res.2.2.2.1 res.2.2.2.2.1 res.2.2.2.2.2.1 res.2.2.2.2.2.2.1 res.2.2.2.2.2.2.2.1 res.2.2.2.2.2.2.2.2 x_lagThen x_shadedThen x_firstFit x_rows x_rowMany x_sorts x_sizes x_number x_holds x_heldOne x_trace x_traced x_own x_isParted)) := by
  intro d
  induction d with
  | zero => intros; rename_i hf; simp [X12_goesPlans] at hf
  | succ d ih => intros; rename_i hf; rw [X12_goesPlans] at hf; exact cb_X12_goesPlans (fun h => ih h) hf
theorem dX12_triesAll_0 : decode cX12_triesAll 0 = .ok (.aload_n 0, 1) := by decide +kernel
theorem dX12_triesAll_1 : decode cX12_triesAll 1 = .ok (.iconst (-1), 1) := by decide +kernel
theorem dX12_triesAll_2 : decode cX12_triesAll 2 = .ok (.putfield 264, 3) := by decide +kernel
theorem dX12_triesAll_5 : decode cX12_triesAll 5 = .ok (.aload_n 0, 1) := by decide +kernel
theorem dX12_triesAll_6 : decode cX12_triesAll 6 = .ok (.iconst 0, 1) := by decide +kernel
theorem dX12_triesAll_7 : decode cX12_triesAll 7 = .ok (.putfield 267, 3) := by decide +kernel
theorem dX12_triesAll_10 : decode cX12_triesAll 10 = .ok (.aload_n 0, 1) := by decide +kernel
theorem dX12_triesAll_11 : decode cX12_triesAll 11 = .ok (.iconst 5, 1) := by decide +kernel
theorem dX12_triesAll_12 : decode cX12_triesAll 12 = .ok (.putfield 270, 3) := by decide +kernel
theorem dX12_triesAll_15 : decode cX12_triesAll 15 = .ok (.aload_n 0, 1) := by decide +kernel
theorem dX12_triesAll_16 : decode cX12_triesAll 16 = .ok (.iconst 0, 1) := by decide +kernel
theorem dX12_triesAll_17 : decode cX12_triesAll 17 = .ok (.putfield 273, 3) := by decide +kernel
theorem dX12_triesAll_20 : decode cX12_triesAll 20 = .ok (.aload_n 0, 1) := by decide +kernel
theorem dX12_triesAll_21 : decode cX12_triesAll 21 = .ok (.iconst 0, 1) := by decide +kernel
theorem dX12_triesAll_22 : decode cX12_triesAll 22 = .ok (.aload_n 0, 1) := by decide +kernel
theorem dX12_triesAll_23 : decode cX12_triesAll 23 = .ok (.iload_n 1, 1) := by decide +kernel
theorem dX12_triesAll_24 : decode cX12_triesAll 24 = .ok (.invokevirtual 290, 3) := by decide +kernel
theorem dX12_triesAll_27 : decode cX12_triesAll 27 = .ok (.iconst 0, 1) := by decide +kernel
theorem dX12_triesAll_28 : decode cX12_triesAll 28 = .ok (.iconst 0, 1) := by decide +kernel
theorem dX12_triesAll_29 : decode cX12_triesAll 29 = .ok (.iload_n 2, 1) := by decide +kernel
theorem dX12_triesAll_30 : decode cX12_triesAll 30 = .ok (.invokevirtual 283, 3) := by decide +kernel
theorem dX12_triesAll_33 : decode cX12_triesAll 33 = .ok (.return_, 1) := by decide +kernel
theorem k_X12_triesAll : MV yX12_triesAll cX12_triesAll 3 none 2 := ⟨q_1506, qs_73, q_14, q_1507, ⟨by decide, by decide, by decide +kernel⟩⟩
theorem c_X12_triesAll {res : (Nat → Int32) × (Nat → Int32) × (Nat → Int32) × (Nat → Int32) × (Nat → Int32) × Int32 × Int32 × Int32 × Int32} (hf : X12_triesAll n x_s x_pile x_saved x_plan x_bestPlan v1 v2 = some res) : MC l E0 D t yX12_triesAll cX12_triesAll 3 none 33 0 0 [.ref (a 0), .int v1, .int v2] (mW a t x_s x_kept x_laid x_isKept x_pile x_tape x_taped x_letters x_at x_begun x_token x_value x_opened x_steps x_code0 x_read x_saved x_plan x_bestPlan x_most x_many x_few x_everRight x_lagThen x_shadedThen x_firstFit x_rows x_rowMany x_sorts x_sizes x_number x_holds x_heldOne x_trace x_traced x_own x_isParted) (Qn (mW a t res.1 x_kept x_laid x_isKept res.2.1 x_tape x_taped x_letters x_at x_begun x_token x_value x_opened x_steps x_code0 x_read res.2.2.1 res.2.2.2.1 res.2.2.2.2.1 res.2.2.2.2.2.1 res.2.2.2.2.2.2.1 res.2.2.2.2.2.2.2.1 res.2.2.2.2.2.2.2.2 x_lagThen x_shadedThen x_firstFit x_rows x_rowMany x_sorts x_sizes x_number x_holds x_heldOne x_trace x_traced x_own x_isParted)) := by
  unfold X12_triesAll at hf
  refine MC.ofV pn_X12 (Nat.le_of_ble_eq_true rfl) ?_
  intro p e s m args below meth c A Q ls cx hR hw hl
  have hx := cx.1
  have hb := cx.2.1
  have hl : lv_has ls 3 [(0, .ref (a 0)), (1, .int v1), (2, .int v2)] := hl
  refine lv_aload_n hx hb dX12_triesAll_0 rfl (lv_at hl 0 rfl) ?_
  refine lv_iconst (v := (-1)) hx hb dX12_triesAll_1 (by decide) ?_
  refine mp_most cx hw dX12_triesAll_2 (fun H locs hw => ?_)
  refine lv_aload_n hx hb dX12_triesAll_5 rfl (lv_at hl 0 rfl) ?_
  refine lv_iconst (v := 0) hx hb dX12_triesAll_6 (by decide) ?_
  refine mp_many cx hw dX12_triesAll_7 (fun H locs hw => ?_)
  refine lv_aload_n hx hb dX12_triesAll_10 rfl (lv_at hl 0 rfl) ?_
  refine lv_iconst (v := 5) hx hb dX12_triesAll_11 (by decide) ?_
  refine mp_few cx hw dX12_triesAll_12 (fun H locs hw => ?_)
  refine lv_aload_n hx hb dX12_triesAll_15 rfl (lv_at hl 0 rfl) ?_
  refine lv_iconst (v := 0) hx hb dX12_triesAll_16 (by decide) ?_
  refine mp_everRight cx hw dX12_triesAll_17 (fun H locs hw => ?_)
  refine lv_aload_n hx hb dX12_triesAll_20 rfl (lv_at hl 0 rfl) ?_
  refine lv_iconst (v := 0) hx hb dX12_triesAll_21 (by decide) ?_
  refine lv_aload_n hx hb dX12_triesAll_22 rfl (lv_at hl 0 rfl) ?_
  refine lv_iload_n hx hb dX12_triesAll_23 rfl (lv_at hl 1 rfl) ?_
  refine calVi (k := 0) cx hw hl.1 (c_X12_daysOf rfl) q_1508 k_X12_daysOf rfl rfl rfl dX12_triesAll_24 rfl (Nat.le_of_ble_eq_true rfl) ⟨Nat.le_of_ble_eq_true rfl, Nat.le_of_ble_eq_true rfl⟩ ⟨Nat.le_refl _, Nat.le_refl _⟩ (fun H locs hw => ?_)
  refine lv_iconst (v := 0) hx hb dX12_triesAll_27 (by decide) ?_
  refine lv_iconst (v := 0) hx hb dX12_triesAll_28 (by decide) ?_
  refine lv_iload_n hx hb dX12_triesAll_29 rfl (lv_at hl 2 rfl) ?_
  obtain ⟨r1, h2, hf⟩ := bnS hf
  refine calVv (k := 0) cx hw hl.1 (c_X12_goesPlans h2) q_1512 k_X12_goesPlans rfl rfl rfl dX12_triesAll_30 rfl (Nat.le_of_ble_eq_true rfl) ⟨Nat.le_of_ble_eq_true rfl, Nat.le_of_ble_eq_true rfl⟩ ⟨Nat.le_refl _, Nat.le_refl _⟩ (fun H locs hw => ?_)
  have hf := Option.some.inj hf
  subst hf
  exact hR _ _ _ _ _ hw ⟨rfl, rfl⟩ dX12_triesAll_33
theorem dX12_isPlan_0 : decode cX12_isPlan 0 = .ok (.iload_n 0, 1) := by decide +kernel
theorem dX12_isPlan_1 : decode cX12_isPlan 1 = .ok (.iconst 0, 1) := by decide +kernel
theorem dX12_isPlan_2 : decode cX12_isPlan 2 = .ok (.iconst 4, 1) := by decide +kernel
theorem dX12_isPlan_3 : decode cX12_isPlan 3 = .ok (.invokestatic 71, 3) := by decide +kernel
theorem dX12_isPlan_6 : decode cX12_isPlan 6 = .ok (.ireturn, 1) := by decide +kernel
theorem k_X12_isPlan : MS yX12_isPlan cX12_isPlan 1 (some .boolean) 1 := ⟨q_1502, q_14, q_1503, ⟨by decide, by decide, by decide +kernel⟩⟩
theorem c_X12_isPlan {res : Int32} (hf : X12_isPlan v0 = res) : MC l E0 D t yX12_isPlan cX12_isPlan 1 (some .boolean) 2 0 0 [.int v0] (mW a t x_s x_kept x_laid x_isKept x_pile x_tape x_taped x_letters x_at x_begun x_token x_value x_opened x_steps x_code0 x_read x_saved x_plan x_bestPlan x_most x_many x_few x_everRight x_lagThen x_shadedThen x_firstFit x_rows x_rowMany x_sorts x_sizes x_number x_holds x_heldOne x_trace x_traced x_own x_isParted) (Qi res (mW a t x_s x_kept x_laid x_isKept x_pile x_tape x_taped x_letters x_at x_begun x_token x_value x_opened x_steps x_code0 x_read x_saved x_plan x_bestPlan x_most x_many x_few x_everRight x_lagThen x_shadedThen x_firstFit x_rows x_rowMany x_sorts x_sizes x_number x_holds x_heldOne x_trace x_traced x_own x_isParted)) := by
  unfold X12_isPlan at hf
  refine MC.ofI pn_X12 (Nat.le_of_ble_eq_true rfl) ?_
  intro p e s m args below meth c A Q ls cx hR hw hl
  have hx := cx.1
  have hb := cx.2.1
  have hl : lv_has ls 1 [(0, .int v0)] := hl
  refine lv_iload_n hx hb dX12_isPlan_0 rfl (lv_at hl 0 rfl) ?_
  refine lv_iconst (v := 0) hx hb dX12_isPlan_1 (by decide) ?_
  refine lv_iconst (v := 4) hx hb dX12_isPlan_2 (by decide) ?_
  refine calSi cx hw hl.1 (c_X12_in1 rfl) q_1214 k_X12_in1 rfl dX12_isPlan_3 rfl (Nat.le_of_ble_eq_true rfl) ⟨Nat.le_of_ble_eq_true rfl, Nat.le_of_ble_eq_true rfl⟩ ⟨Nat.le_refl _, Nat.le_refl _⟩ (fun H locs hw => ?_)
  subst hf
  exact hR _ _ _ _ _ _ hw (nb (b_X12_in1 _ _ _)) ⟨rfl, rfl⟩ dX12_isPlan_6
theorem b_X12_isPlan (v0 : Int32) : X12_isPlan v0 = 0 ∨ X12_isPlan v0 = 1 := by unfold X12_isPlan; repeat (first | exact Or.inl rfl | exact Or.inr rfl | apply b_X12_in1 | split)
theorem dX12_best_0 : decode cX12_best 0 = .ok (.iload_n 1, 1) := by decide +kernel
theorem dX12_best_1 : decode cX12_best 1 = .ok (.invokestatic 293, 3) := by decide +kernel
theorem dX12_best_4 : decode cX12_best 4 = .ok (.ifCond .ne 5, 3) := by decide +kernel
theorem dX12_best_7 : decode cX12_best 7 = .ok (.iconst (-1), 1) := by decide +kernel
theorem dX12_best_8 : decode cX12_best 8 = .ok (.ireturn, 1) := by decide +kernel
theorem dX12_best_9 : decode cX12_best 9 = .ok (.aload_n 0, 1) := by decide +kernel
theorem dX12_best_10 : decode cX12_best 10 = .ok (.iload_n 1, 1) := by decide +kernel
theorem dX12_best_11 : decode cX12_best 11 = .ok (.iconst 0, 1) := by decide +kernel
theorem dX12_best_12 : decode cX12_best 12 = .ok (.invokevirtual 296, 3) := by decide +kernel
theorem dX12_best_15 : decode cX12_best 15 = .ok (.aload_n 0, 1) := by decide +kernel
theorem dX12_best_16 : decode cX12_best 16 = .ok (.getfield 264, 3) := by decide +kernel
theorem dX12_best_19 : decode cX12_best 19 = .ok (.ireturn, 1) := by decide +kernel
theorem k_X12_best : MV yX12_best cX12_best 2 (some .int) 1 := ⟨q_1498, q_1499, q_14, q_1500, ⟨by decide, by decide, by decide +kernel⟩⟩
theorem c_X12_best {res : Int32 × (Nat → Int32) × (Nat → Int32) × (Nat → Int32) × (Nat → Int32) × (Nat → Int32) × Int32 × Int32 × Int32 × Int32} (hf : X12_best n x_s x_pile x_saved x_plan x_bestPlan x_most x_many x_few x_everRight v1 = some res) : MC l E0 D t yX12_best cX12_best 2 (some .int) 34 0 0 [.ref (a 0), .int v1] (mW a t x_s x_kept x_laid x_isKept x_pile x_tape x_taped x_letters x_at x_begun x_token x_value x_opened x_steps x_code0 x_read x_saved x_plan x_bestPlan x_most x_many x_few x_everRight x_lagThen x_shadedThen x_firstFit x_rows x_rowMany x_sorts x_sizes x_number x_holds x_heldOne x_trace x_traced x_own x_isParted) (Qi res.1 (mW a t res.2.1 x_kept x_laid x_isKept res.2.2.1 x_tape x_taped x_letters x_at x_begun x_token x_value x_opened x_steps x_code0 x_read res.2.2.2.1 res.2.2.2.2.1 res.2.2.2.2.2.1 res.2.2.2.2.2.2.1 res.2.2.2.2.2.2.2.1 res.2.2.2.2.2.2.2.2.1 res.2.2.2.2.2.2.2.2.2 x_lagThen x_shadedThen x_firstFit x_rows x_rowMany x_sorts x_sizes x_number x_holds x_heldOne x_trace x_traced x_own x_isParted)) := by
  unfold X12_best at hf
  refine MC.ofI pn_X12 (Nat.le_of_ble_eq_true rfl) ?_
  intro p e s m args below meth c A Q ls cx hR hw hl
  have hx := cx.1
  have hb := cx.2.1
  have hl : lv_has ls 2 [(0, .ref (a 0)), (1, .int v1)] := hl
  refine lv_iload_n hx hb dX12_best_0 rfl (lv_at hl 1 rfl) ?_
  refine calSi cx hw hl.1 (c_X12_isPlan rfl) q_1501 k_X12_isPlan rfl dX12_best_1 rfl (Nat.le_of_ble_eq_true rfl) ⟨Nat.le_of_ble_eq_true rfl, Nat.le_of_ble_eq_true rfl⟩ ⟨Nat.le_refl _, Nat.le_refl _⟩ (fun H locs hw => ?_)
  refine lv_if_ne (tgt := 9) hx hb dX12_best_4 (by decide) (fun hc => ?_) (fun hc => ?_)
  · have hf := ifF hf hc
    refine lv_aload_n hx hb dX12_best_9 rfl (lv_at hl 0 rfl) ?_
    refine lv_iload_n hx hb dX12_best_10 rfl (lv_at hl 1 rfl) ?_
    refine lv_iconst (v := 0) hx hb dX12_best_11 (by decide) ?_
    obtain ⟨r1, h2, hf⟩ := bnS hf
    refine calVv (k := 0) cx hw hl.1 (c_X12_triesAll h2) q_1504 k_X12_triesAll rfl rfl rfl dX12_best_12 rfl (Nat.le_of_ble_eq_true rfl) ⟨Nat.le_of_ble_eq_true rfl, Nat.le_of_ble_eq_true rfl⟩ ⟨Nat.le_refl _, Nat.le_refl _⟩ (fun H locs hw => ?_)
    refine lv_aload_n hx hb dX12_best_15 rfl (lv_at hl 0 rfl) ?_
    refine mg_most cx hw dX12_best_16 ?_
    have hf := Option.some.inj hf
    subst hf
    exact hR _ _ _ _ _ _ hw rfl ⟨rfl, rfl⟩ dX12_best_19
  · have hf := ifT hf hc
    refine lv_iconst (v := (-1)) hx hb dX12_best_7 (by decide) ?_
    have hf := Option.some.inj hf
    subst hf
    exact hR _ _ _ _ _ _ hw rfl ⟨rfl, rfl⟩ dX12_best_8
theorem dX12_ith_0 : decode cX12_ith 0 = .ok (.iload_n 1, 1) := by decide +kernel
theorem dX12_ith_1 : decode cX12_ith 1 = .ok (.invokestatic 293, 3) := by decide +kernel
theorem dX12_ith_4 : decode cX12_ith 4 = .ok (.ifCond .eq 12, 3) := by decide +kernel
theorem dX12_ith_7 : decode cX12_ith 7 = .ok (.iload_n 2, 1) := by decide +kernel
theorem dX12_ith_8 : decode cX12_ith 8 = .ok (.iconst 0, 1) := by decide +kernel
theorem dX12_ith_9 : decode cX12_ith 9 = .ok (.iconst 3, 1) := by decide +kernel
theorem dX12_ith_10 : decode cX12_ith 10 = .ok (.invokestatic 71, 3) := by decide +kernel
theorem dX12_ith_13 : decode cX12_ith 13 = .ok (.ifCond .ne 5, 3) := by decide +kernel
theorem dX12_ith_16 : decode cX12_ith 16 = .ok (.iconst (-1), 1) := by decide +kernel
theorem dX12_ith_17 : decode cX12_ith 17 = .ok (.ireturn, 1) := by decide +kernel
theorem dX12_ith_18 : decode cX12_ith 18 = .ok (.aload_n 0, 1) := by decide +kernel
theorem dX12_ith_19 : decode cX12_ith 19 = .ok (.iload_n 1, 1) := by decide +kernel
theorem dX12_ith_20 : decode cX12_ith 20 = .ok (.iconst 0, 1) := by decide +kernel
theorem dX12_ith_21 : decode cX12_ith 21 = .ok (.invokevirtual 296, 3) := by decide +kernel
theorem dX12_ith_24 : decode cX12_ith 24 = .ok (.iload_n 2, 1) := by decide +kernel
theorem dX12_ith_25 : decode cX12_ith 25 = .ok (.aload_n 0, 1) := by decide +kernel
theorem dX12_ith_26 : decode cX12_ith 26 = .ok (.iload_n 1, 1) := by decide +kernel
theorem dX12_ith_27 : decode cX12_ith 27 = .ok (.invokevirtual 290, 3) := by decide +kernel
theorem dX12_ith_30 : decode cX12_ith 30 = .ok (.if_icmp .ge 12, 3) := by decide +kernel
theorem dX12_ith_33 : decode cX12_ith 33 = .ok (.aload_n 0, 1) := by decide +kernel
theorem dX12_ith_34 : decode cX12_ith 34 = .ok (.getfield 41, 3) := by decide +kernel
theorem dX12_ith_37 : decode cX12_ith 37 = .ok (.iload_n 2, 1) := by decide +kernel
theorem dX12_ith_38 : decode cX12_ith 38 = .ok (.iaload, 1) := by decide +kernel
theorem dX12_ith_39 : decode cX12_ith 39 = .ok (.goto 5, 3) := by decide +kernel
theorem dX12_ith_42 : decode cX12_ith 42 = .ok (.bipush (-3), 2) := by decide +kernel
theorem dX12_ith_44 : decode cX12_ith 44 = .ok (.ireturn, 1) := by decide +kernel
theorem k_X12_ith : MV yX12_ith cX12_ith 3 (some .int) 2 := ⟨q_1529, q_1530, q_14, q_1531, ⟨by decide, by decide, by decide +kernel⟩⟩
theorem c_X12_ith {res : Int32 × (Nat → Int32) × (Nat → Int32) × (Nat → Int32) × (Nat → Int32) × (Nat → Int32) × Int32 × Int32 × Int32 × Int32} (hf : X12_ith n x_s x_pile x_saved x_plan x_bestPlan x_most x_many x_few x_everRight v1 v2 = some res) : MC l E0 D t yX12_ith cX12_ith 3 (some .int) 34 0 0 [.ref (a 0), .int v1, .int v2] (mW a t x_s x_kept x_laid x_isKept x_pile x_tape x_taped x_letters x_at x_begun x_token x_value x_opened x_steps x_code0 x_read x_saved x_plan x_bestPlan x_most x_many x_few x_everRight x_lagThen x_shadedThen x_firstFit x_rows x_rowMany x_sorts x_sizes x_number x_holds x_heldOne x_trace x_traced x_own x_isParted) (Qi res.1 (mW a t res.2.1 x_kept x_laid x_isKept res.2.2.1 x_tape x_taped x_letters x_at x_begun x_token x_value x_opened x_steps x_code0 x_read res.2.2.2.1 res.2.2.2.2.1 res.2.2.2.2.2.1 res.2.2.2.2.2.2.1 res.2.2.2.2.2.2.2.1 res.2.2.2.2.2.2.2.2.1 res.2.2.2.2.2.2.2.2.2 x_lagThen x_shadedThen x_firstFit x_rows x_rowMany x_sorts x_sizes x_number x_holds x_heldOne x_trace x_traced x_own x_isParted)) := by
  unfold X12_ith at hf
  refine MC.ofI pn_X12 (Nat.le_of_ble_eq_true rfl) ?_
  intro p e s m args below meth c A Q ls cx hR hw hl
  have hx := cx.1
  have hb := cx.2.1
  have hl : lv_has ls 3 [(0, .ref (a 0)), (1, .int v1), (2, .int v2)] := hl
  refine lv_iload_n hx hb dX12_ith_0 rfl (lv_at hl 1 rfl) ?_
  refine calSi cx hw hl.1 (c_X12_isPlan rfl) q_1501 k_X12_isPlan rfl dX12_ith_1 rfl (Nat.le_of_ble_eq_true rfl) ⟨Nat.le_of_ble_eq_true rfl, Nat.le_of_ble_eq_true rfl⟩ ⟨Nat.le_refl _, Nat.le_refl _⟩ (fun H locs hw => ?_)
  refine lv_if_eq (tgt := 16) hx hb dX12_ith_4 (by decide) (fun hc => ?_) (fun hc => ?_)
  · have hf := ifT hf hc
    refine lv_iconst (v := (-1)) hx hb dX12_ith_16 (by decide) ?_
    have hf := Option.some.inj hf
    subst hf
    exact hR _ _ _ _ _ _ hw rfl ⟨rfl, rfl⟩ dX12_ith_17
  · have hf := ifF hf hc
    refine lv_iload_n hx hb dX12_ith_7 rfl (lv_at hl 2 rfl) ?_
    refine lv_iconst (v := 0) hx hb dX12_ith_8 (by decide) ?_
    refine lv_iconst (v := 3) hx hb dX12_ith_9 (by decide) ?_
    refine calSi cx hw hl.1 (c_X12_in1 rfl) q_1214 k_X12_in1 rfl dX12_ith_10 rfl (Nat.le_of_ble_eq_true rfl) ⟨Nat.le_of_ble_eq_true rfl, Nat.le_of_ble_eq_true rfl⟩ ⟨Nat.le_refl _, Nat.le_refl _⟩ (fun H locs hw => ?_)
    refine lv_if_ne (tgt := 18) hx hb dX12_ith_13 (by decide) (fun hc => ?_) (fun hc => ?_)
    · have hf := ifF hf hc
      refine lv_aload_n hx hb dX12_ith_18 rfl (lv_at hl 0 rfl) ?_
      refine lv_iload_n hx hb dX12_ith_19 rfl (lv_at hl 1 rfl) ?_
      refine lv_iconst (v := 0) hx hb dX12_ith_20 (by decide) ?_
      obtain ⟨r1, h2, hf⟩ := bnS hf
      refine calVv (k := 0) cx hw hl.1 (c_X12_triesAll h2) q_1504 k_X12_triesAll rfl rfl rfl dX12_ith_21 rfl (Nat.le_of_ble_eq_true rfl) ⟨Nat.le_of_ble_eq_true rfl, Nat.le_of_ble_eq_true rfl⟩ ⟨Nat.le_refl _, Nat.le_refl _⟩ (fun H locs hw => ?_)
      refine lv_iload_n hx hb dX12_ith_24 rfl (lv_at hl 2 rfl) ?_
      refine lv_aload_n hx hb dX12_ith_25 rfl (lv_at hl 0 rfl) ?_
      refine lv_iload_n hx hb dX12_ith_26 rfl (lv_at hl 1 rfl) ?_
      refine calVi (k := 0) cx hw hl.1 (c_X12_daysOf rfl) q_1508 k_X12_daysOf rfl rfl rfl dX12_ith_27 rfl (Nat.le_of_ble_eq_true rfl) ⟨Nat.le_of_ble_eq_true rfl, Nat.le_of_ble_eq_true rfl⟩ ⟨Nat.le_refl _, Nat.le_refl _⟩ (fun H locs hw => ?_)
      refine lv_icmp_ge (tgt := 42) hx hb dX12_ith_30 (by decide) (fun hc => ?_) (fun hc => ?_)
      · have hf := ifT hf hc
        refine lv_bipush (v := (-3)) hx hb dX12_ith_42 (by decide) ?_
        have hf := Option.some.inj hf
        subst hf
        exact hR _ _ _ _ _ _ hw rfl ⟨rfl, rfl⟩ dX12_ith_44
      · have hf := ifF hf hc
        refine lv_aload_n hx hb dX12_ith_33 rfl (lv_at hl 0 rfl) ?_
        refine mg_bestPlan cx hw dX12_ith_34 ?_
        refine lv_iload_n hx hb dX12_ith_37 rfl (lv_at hl 2 rfl) ?_
        obtain ⟨h3, hf⟩ := ckS hf
        refine ml_bestPlan (j := v2.toNatClampNeg) cx hw (ib_in h3) rfl dX12_ith_38 ?_
        refine lv_goto (tgt := 44) hx hb dX12_ith_39 (by decide) ?_
        have hf := Option.some.inj hf
        subst hf
        exact hR _ _ _ _ _ _ hw rfl ⟨rfl, rfl⟩ dX12_ith_44
    · have hf := ifT hf hc
      refine lv_iconst (v := (-1)) hx hb dX12_ith_16 (by decide) ?_
      have hf := Option.some.inj hf
      subst hf
      exact hR _ _ _ _ _ _ hw rfl ⟨rfl, rfl⟩ dX12_ith_17
theorem dX12_ways_0 : decode cX12_ways 0 = .ok (.iload_n 1, 1) := by decide +kernel
theorem dX12_ways_1 : decode cX12_ways 1 = .ok (.invokestatic 293, 3) := by decide +kernel
theorem dX12_ways_4 : decode cX12_ways 4 = .ok (.ifCond .ne 5, 3) := by decide +kernel
theorem dX12_ways_7 : decode cX12_ways 7 = .ok (.iconst (-1), 1) := by decide +kernel
theorem dX12_ways_8 : decode cX12_ways 8 = .ok (.ireturn, 1) := by decide +kernel
theorem dX12_ways_9 : decode cX12_ways 9 = .ok (.aload_n 0, 1) := by decide +kernel
theorem dX12_ways_10 : decode cX12_ways 10 = .ok (.iload_n 1, 1) := by decide +kernel
theorem dX12_ways_11 : decode cX12_ways 11 = .ok (.iconst 0, 1) := by decide +kernel
theorem dX12_ways_12 : decode cX12_ways 12 = .ok (.invokevirtual 296, 3) := by decide +kernel
theorem dX12_ways_15 : decode cX12_ways 15 = .ok (.aload_n 0, 1) := by decide +kernel
theorem dX12_ways_16 : decode cX12_ways 16 = .ok (.getfield 267, 3) := by decide +kernel
theorem dX12_ways_19 : decode cX12_ways 19 = .ok (.ireturn, 1) := by decide +kernel
theorem k_X12_ways : MV yX12_ways cX12_ways 2 (some .int) 1 := ⟨q_1533, q_1534, q_14, q_1535, ⟨by decide, by decide, by decide +kernel⟩⟩
theorem c_X12_ways {res : Int32 × (Nat → Int32) × (Nat → Int32) × (Nat → Int32) × (Nat → Int32) × (Nat → Int32) × Int32 × Int32 × Int32 × Int32} (hf : X12_ways n x_s x_pile x_saved x_plan x_bestPlan x_most x_many x_few x_everRight v1 = some res) : MC l E0 D t yX12_ways cX12_ways 2 (some .int) 34 0 0 [.ref (a 0), .int v1] (mW a t x_s x_kept x_laid x_isKept x_pile x_tape x_taped x_letters x_at x_begun x_token x_value x_opened x_steps x_code0 x_read x_saved x_plan x_bestPlan x_most x_many x_few x_everRight x_lagThen x_shadedThen x_firstFit x_rows x_rowMany x_sorts x_sizes x_number x_holds x_heldOne x_trace x_traced x_own x_isParted) (Qi res.1 (mW a t res.2.1 x_kept x_laid x_isKept res.2.2.1 x_tape x_taped x_letters x_at x_begun x_token x_value x_opened x_steps x_code0 x_read res.2.2.2.1 res.2.2.2.2.1 res.2.2.2.2.2.1 res.2.2.2.2.2.2.1 res.2.2.2.2.2.2.2.1 res.2.2.2.2.2.2.2.2.1 res.2.2.2.2.2.2.2.2.2 x_lagThen x_shadedThen x_firstFit x_rows x_rowMany x_sorts x_sizes x_number x_holds x_heldOne x_trace x_traced x_own x_isParted)) := by
  unfold X12_ways at hf
  refine MC.ofI pn_X12 (Nat.le_of_ble_eq_true rfl) ?_
  intro p e s m args below meth c A Q ls cx hR hw hl
  have hx := cx.1
  have hb := cx.2.1
  have hl : lv_has ls 2 [(0, .ref (a 0)), (1, .int v1)] := hl
  refine lv_iload_n hx hb dX12_ways_0 rfl (lv_at hl 1 rfl) ?_
  refine calSi cx hw hl.1 (c_X12_isPlan rfl) q_1501 k_X12_isPlan rfl dX12_ways_1 rfl (Nat.le_of_ble_eq_true rfl) ⟨Nat.le_of_ble_eq_true rfl, Nat.le_of_ble_eq_true rfl⟩ ⟨Nat.le_refl _, Nat.le_refl _⟩ (fun H locs hw => ?_)
  refine lv_if_ne (tgt := 9) hx hb dX12_ways_4 (by decide) (fun hc => ?_) (fun hc => ?_)
  · have hf := ifF hf hc
    refine lv_aload_n hx hb dX12_ways_9 rfl (lv_at hl 0 rfl) ?_
    refine lv_iload_n hx hb dX12_ways_10 rfl (lv_at hl 1 rfl) ?_
    refine lv_iconst (v := 0) hx hb dX12_ways_11 (by decide) ?_
    obtain ⟨r1, h2, hf⟩ := bnS hf
    refine calVv (k := 0) cx hw hl.1 (c_X12_triesAll h2) q_1504 k_X12_triesAll rfl rfl rfl dX12_ways_12 rfl (Nat.le_of_ble_eq_true rfl) ⟨Nat.le_of_ble_eq_true rfl, Nat.le_of_ble_eq_true rfl⟩ ⟨Nat.le_refl _, Nat.le_refl _⟩ (fun H locs hw => ?_)
    refine lv_aload_n hx hb dX12_ways_15 rfl (lv_at hl 0 rfl) ?_
    refine mg_many cx hw dX12_ways_16 ?_
    have hf := Option.some.inj hf
    subst hf
    exact hR _ _ _ _ _ _ hw rfl ⟨rfl, rfl⟩ dX12_ways_19
  · have hf := ifT hf hc
    refine lv_iconst (v := (-1)) hx hb dX12_ways_7 (by decide) ?_
    have hf := Option.some.inj hf
    subst hf
    exact hR _ _ _ _ _ _ hw rfl ⟨rfl, rfl⟩ dX12_ways_8
end MW4
