section MW6
variable {l : Launch} {D : va_G} {t : Nat → ClassId} {a : Nat → Nat} {n : Nat} {x_s : Nat → Int32} {x_kept : Nat → Int32} {x_laid : Nat → Int32} {x_isKept : Int32} {x_pile : Nat → Int32} {x_tape : Nat → Int32} {x_taped : Int32} {x_letters : Nat → Int32} {x_at : Int32} {x_begun : Int32} {x_token : Int32} {x_value : Int32} {x_opened : Int32} {x_steps : Int32} {x_code0 : Nat → Int32} {x_read : Nat → Int32} {x_saved : Nat → Int32} {x_plan : Nat → Int32} {x_bestPlan : Nat → Int32} {x_most : Int32} {x_many : Int32} {x_few : Int32} {x_everRight : Int32} {x_lagThen : Nat → Int32} {x_shadedThen : Nat → Int32} {x_firstFit : Int32} {x_rows : Nat → Int32} {x_rowMany : Int32} {x_sorts : Nat → Int32} {x_sizes : Nat → Int32} {x_number : Nat → Int32} {x_holds : Nat → Int32} {x_heldOne : Nat → Int32} {x_trace : Nat → Int32} {x_traced : Int32} {x_own : Int32} {x_isParted : Int32} {v0 v1 v2 v3 v4 v5 : Int32}
theorem dX12_prove_0 : decode cX12_prove 0 = .ok (.iload_n 1, 1) := by decide +kernel
theorem dX12_prove_1 : decode cX12_prove 1 = .ok (.invokestatic 293, 3) := by decide +kernel
theorem dX12_prove_4 : decode cX12_prove 4 = .ok (.ifCond .ne 5, 3) := by decide +kernel
theorem dX12_prove_7 : decode cX12_prove 7 = .ok (.iconst (-1), 1) := by decide +kernel
theorem dX12_prove_8 : decode cX12_prove 8 = .ok (.ireturn, 1) := by decide +kernel
theorem dX12_prove_9 : decode cX12_prove 9 = .ok (.aload_n 0, 1) := by decide +kernel
theorem dX12_prove_10 : decode cX12_prove 10 = .ok (.iload_n 1, 1) := by decide +kernel
theorem dX12_prove_11 : decode cX12_prove 11 = .ok (.iconst 0, 1) := by decide +kernel
theorem dX12_prove_12 : decode cX12_prove 12 = .ok (.invokevirtual 296, 3) := by decide +kernel
theorem dX12_prove_15 : decode cX12_prove 15 = .ok (.aload_n 0, 1) := by decide +kernel
theorem dX12_prove_16 : decode cX12_prove 16 = .ok (.aload_n 0, 1) := by decide +kernel
theorem dX12_prove_17 : decode cX12_prove 17 = .ok (.iload_n 1, 1) := by decide +kernel
theorem dX12_prove_18 : decode cX12_prove 18 = .ok (.invokevirtual 290, 3) := by decide +kernel
theorem dX12_prove_21 : decode cX12_prove 21 = .ok (.putfield 322, 3) := by decide +kernel
theorem dX12_prove_24 : decode cX12_prove 24 = .ok (.aload_n 0, 1) := by decide +kernel
theorem dX12_prove_25 : decode cX12_prove 25 = .ok (.invokevirtual 246, 3) := by decide +kernel
theorem dX12_prove_28 : decode cX12_prove 28 = .ok (.iconst 0, 1) := by decide +kernel
theorem dX12_prove_29 : decode cX12_prove 29 = .ok (.istore_n 2, 1) := by decide +kernel
theorem dX12_prove_30 : decode cX12_prove 30 = .ok (.iload_n 2, 1) := by decide +kernel
theorem dX12_prove_31 : decode cX12_prove 31 = .ok (.aload_n 0, 1) := by decide +kernel
theorem dX12_prove_32 : decode cX12_prove 32 = .ok (.getfield 322, 3) := by decide +kernel
theorem dX12_prove_35 : decode cX12_prove 35 = .ok (.if_icmp .ge 58, 3) := by decide +kernel
theorem dX12_prove_38 : decode cX12_prove 38 = .ok (.aload_n 0, 1) := by decide +kernel
theorem dX12_prove_39 : decode cX12_prove 39 = .ok (.getfield 50, 3) := by decide +kernel
theorem dX12_prove_42 : decode cX12_prove 42 = .ok (.iconst 3, 1) := by decide +kernel
theorem dX12_prove_43 : decode cX12_prove 43 = .ok (.iload_n 2, 1) := by decide +kernel
theorem dX12_prove_44 : decode cX12_prove 44 = .ok (.imul, 1) := by decide +kernel
theorem dX12_prove_45 : decode cX12_prove 45 = .ok (.aload_n 0, 1) := by decide +kernel
theorem dX12_prove_46 : decode cX12_prove 46 = .ok (.getfield 41, 3) := by decide +kernel
theorem dX12_prove_49 : decode cX12_prove 49 = .ok (.iload_n 2, 1) := by decide +kernel
theorem dX12_prove_50 : decode cX12_prove 50 = .ok (.iaload, 1) := by decide +kernel
theorem dX12_prove_51 : decode cX12_prove 51 = .ok (.iastore, 1) := by decide +kernel
theorem dX12_prove_52 : decode cX12_prove 52 = .ok (.aload_n 0, 1) := by decide +kernel
theorem dX12_prove_53 : decode cX12_prove 53 = .ok (.getfield 50, 3) := by decide +kernel
theorem dX12_prove_56 : decode cX12_prove 56 = .ok (.iconst 3, 1) := by decide +kernel
theorem dX12_prove_57 : decode cX12_prove 57 = .ok (.iload_n 2, 1) := by decide +kernel
theorem dX12_prove_58 : decode cX12_prove 58 = .ok (.imul, 1) := by decide +kernel
theorem dX12_prove_59 : decode cX12_prove 59 = .ok (.iconst 1, 1) := by decide +kernel
theorem dX12_prove_60 : decode cX12_prove 60 = .ok (.iadd, 1) := by decide +kernel
theorem dX12_prove_61 : decode cX12_prove 61 = .ok (.aload_n 0, 1) := by decide +kernel
theorem dX12_prove_62 : decode cX12_prove 62 = .ok (.aload_n 0, 1) := by decide +kernel
theorem dX12_prove_63 : decode cX12_prove 63 = .ok (.getfield 41, 3) := by decide +kernel
theorem dX12_prove_66 : decode cX12_prove 66 = .ok (.iload_n 2, 1) := by decide +kernel
theorem dX12_prove_67 : decode cX12_prove 67 = .ok (.iaload, 1) := by decide +kernel
theorem dX12_prove_68 : decode cX12_prove 68 = .ok (.invokevirtual 243, 3) := by decide +kernel
theorem dX12_prove_71 : decode cX12_prove 71 = .ok (.iastore, 1) := by decide +kernel
theorem dX12_prove_72 : decode cX12_prove 72 = .ok (.aload_n 0, 1) := by decide +kernel
theorem dX12_prove_73 : decode cX12_prove 73 = .ok (.getfield 50, 3) := by decide +kernel
theorem dX12_prove_76 : decode cX12_prove 76 = .ok (.iconst 3, 1) := by decide +kernel
theorem dX12_prove_77 : decode cX12_prove 77 = .ok (.iload_n 2, 1) := by decide +kernel
theorem dX12_prove_78 : decode cX12_prove 78 = .ok (.imul, 1) := by decide +kernel
theorem dX12_prove_79 : decode cX12_prove 79 = .ok (.iconst 2, 1) := by decide +kernel
theorem dX12_prove_80 : decode cX12_prove 80 = .ok (.iadd, 1) := by decide +kernel
theorem dX12_prove_81 : decode cX12_prove 81 = .ok (.aload_n 0, 1) := by decide +kernel
theorem dX12_prove_82 : decode cX12_prove 82 = .ok (.iconst 4, 1) := by decide +kernel
theorem dX12_prove_83 : decode cX12_prove 83 = .ok (.invokevirtual 240, 3) := by decide +kernel
theorem dX12_prove_86 : decode cX12_prove 86 = .ok (.iastore, 1) := by decide +kernel
theorem dX12_prove_87 : decode cX12_prove 87 = .ok (.iinc 2 1, 3) := by decide +kernel
theorem dX12_prove_90 : decode cX12_prove 90 = .ok (.goto (-60), 3) := by decide +kernel
theorem dX12_prove_93 : decode cX12_prove 93 = .ok (.aload_n 0, 1) := by decide +kernel
theorem dX12_prove_94 : decode cX12_prove 94 = .ok (.invokevirtual 252, 3) := by decide +kernel
theorem dX12_prove_97 : decode cX12_prove 97 = .ok (.aload_n 0, 1) := by decide +kernel
theorem dX12_prove_98 : decode cX12_prove 98 = .ok (.getfield 322, 3) := by decide +kernel
theorem dX12_prove_101 : decode cX12_prove 101 = .ok (.ireturn, 1) := by decide +kernel
theorem k_X12_prove : MV yX12_prove cX12_prove 3 (some .int) 1 := ⟨q_1606, q_1607, q_14, q_1608, ⟨by decide, by decide, by decide +kernel⟩⟩
theorem c_X12_prove {res : Int32 × (Nat → Int32) × (Nat → Int32) × (Nat → Int32) × (Nat → Int32) × (Nat → Int32) × (Nat → Int32) × Int32 × Int32 × Int32 × Int32 × (Nat → Int32) × Int32} (hf : X12_prove n x_s x_laid x_pile x_saved x_plan x_bestPlan x_most x_many x_few x_everRight x_rows x_rowMany v1 = some res) : MC l E0 D t yX12_prove cX12_prove 3 (some .int) 34 0 0 [.ref (a 0), .int v1] (mW a t x_s x_kept x_laid x_isKept x_pile x_tape x_taped x_letters x_at x_begun x_token x_value x_opened x_steps x_code0 x_read x_saved x_plan x_bestPlan x_most x_many x_few x_everRight x_lagThen x_shadedThen x_firstFit x_rows x_rowMany x_sorts x_sizes x_number x_holds x_heldOne x_trace x_traced x_own x_isParted) (Qi res.1 (mW a t res.2.1 x_kept res.2.2.1 x_isKept res.2.2.2.1 x_tape x_taped x_letters x_at x_begun x_token x_value x_opened x_steps x_code0 x_read res.2.2.2.2.1 res.2.2.2.2.2.1 res.2.2.2.2.2.2.1 res.2.2.2.2.2.2.2.1 res.2.2.2.2.2.2.2.2.1 res.2.2.2.2.2.2.2.2.2.1 res.2.2.2.2.2.2.2.2.2.2.1 x_lagThen x_shadedThen x_firstFit res.2.2.2.2.2.2.2.2.2.2.2.1 res.2.2.2.2.2.2.2.2.2.2.2.2 x_sorts x_sizes x_number x_holds x_heldOne x_trace x_traced x_own x_isParted)) := by
  unfold X12_prove at hf
  refine MC.ofI pn_X12 (Nat.le_of_ble_eq_true rfl) ?_
  intro p e s m args below meth c A Q ls cx hR hw hl
  have hx := cx.1
  have hb := cx.2.1
  have hl : lv_has ls 3 [(0, .ref (a 0)), (1, .int v1)] := hl
  refine lv_iload_n hx hb dX12_prove_0 rfl (lv_at hl 1 rfl) ?_
  refine calSi cx hw hl.1 (c_X12_isPlan rfl) q_1501 k_X12_isPlan rfl dX12_prove_1 rfl (Nat.le_of_ble_eq_true rfl) ⟨Nat.le_of_ble_eq_true rfl, Nat.le_of_ble_eq_true rfl⟩ ⟨Nat.le_refl _, Nat.le_refl _⟩ (fun H locs hw => ?_)
  refine lv_if_ne (tgt := 9) hx hb dX12_prove_4 (by decide) (fun hc => ?_) (fun hc => ?_)
  · have hf := ifF hf hc
    refine lv_aload_n hx hb dX12_prove_9 rfl (lv_at hl 0 rfl) ?_
    refine lv_iload_n hx hb dX12_prove_10 rfl (lv_at hl 1 rfl) ?_
    refine lv_iconst (v := 0) hx hb dX12_prove_11 (by decide) ?_
    obtain ⟨r1, h2, hf⟩ := bnS hf
    refine calVv (k := 0) cx hw hl.1 (c_X12_triesAll h2) q_1504 k_X12_triesAll rfl rfl rfl dX12_prove_12 rfl (Nat.le_of_ble_eq_true rfl) ⟨Nat.le_of_ble_eq_true rfl, Nat.le_of_ble_eq_true rfl⟩ ⟨Nat.le_refl _, Nat.le_refl _⟩ (fun H locs hw => ?_)
    refine lv_aload_n hx hb dX12_prove_15 rfl (lv_at hl 0 rfl) ?_
    refine lv_aload_n hx hb dX12_prove_16 rfl (lv_at hl 0 rfl) ?_
    refine lv_iload_n hx hb dX12_prove_17 rfl (lv_at hl 1 rfl) ?_
    refine calVi (k := 0) cx hw hl.1 (c_X12_daysOf rfl) q_1508 k_X12_daysOf rfl rfl rfl dX12_prove_18 rfl (Nat.le_of_ble_eq_true rfl) ⟨Nat.le_of_ble_eq_true rfl, Nat.le_of_ble_eq_true rfl⟩ ⟨Nat.le_refl _, Nat.le_refl _⟩ (fun H locs hw => ?_)
    refine mp_rowMany cx hw dX12_prove_21 (fun H locs hw => ?_)
    refine lv_aload_n hx hb dX12_prove_24 rfl (lv_at hl 0 rfl) ?_
    obtain ⟨r3, h4, hf⟩ := bnS hf
    refine calVv (k := 0) cx hw hl.1 (c_X12_layDown h4) q_1445 k_X12_layDown rfl rfl rfl dX12_prove_25 rfl (Nat.le_of_ble_eq_true rfl) ⟨Nat.le_of_ble_eq_true rfl, Nat.le_of_ble_eq_true rfl⟩ ⟨Nat.le_refl _, Nat.le_refl _⟩ (fun H locs hw => ?_)
    refine lv_iconst (v := 0) hx hb dX12_prove_28 (by decide) ?_
    refine lv_istore_n (lv' := [(2, .int (0 : Int32)), (0, .ref (a 0)), (1, .int v1)]) hx hb dX12_prove_29 rfl hl (by decide) rfl (fun ls hl => ?_)
    obtain ⟨o14, ho14, hf⟩ := bnS hf
    have wL1 : ∀ (k : Nat) {v1 : Int32} {v2 : Int32} {x_s : Nat → Int32} {x_laid : Nat → Int32} {x_pile : Nat → Int32} {x_saved : Nat → Int32} {x_plan : Nat → Int32} {x_bestPlan : Nat → Int32} {x_most : Int32} {x_many : Int32} {x_few : Int32} {x_everRight : Int32} {x_rows : Nat → Int32} {x_rowMany : Int32} {H : Heap} {locs : List Loc} {ls : Array Slot} {o : Int32 × (Nat → Int32) × (Nat → Int32) × (Nat → Int32)}, X12_prove_L1 n x_bestPlan x_rowMany k v2 x_s x_pile x_rows = some o → Wd D A s (mW a t x_s x_kept x_laid x_isKept x_pile x_tape x_taped x_letters x_at x_begun x_token x_value x_opened x_steps x_code0 x_read x_saved x_plan x_bestPlan x_most x_many x_few x_everRight x_lagThen x_shadedThen x_firstFit x_rows x_rowMany x_sorts x_sizes x_number x_holds x_heldOne x_trace x_traced x_own x_isParted) H locs → lv_has ls 3 [(0, .ref (a 0)), (1, .int v1), (2, .int v2)] → (∀ (H : Heap) (locs : List Loc) (ls : Array Slot), Wd D A s (mW a t o.2.1 x_kept x_laid x_isKept o.2.2.1 x_tape x_taped x_letters x_at x_begun x_token x_value x_opened x_steps x_code0 x_read x_saved x_plan x_bestPlan x_most x_many x_few x_everRight x_lagThen x_shadedThen x_firstFit o.2.2.2 x_rowMany x_sorts x_sizes x_number x_holds x_heldOne x_trace x_traced x_own x_isParted) H locs → lv_has ls 3 [(0, .ref (a 0)), (1, .int v1), (2, .int o.1)] → W p l e (rmz 34 0 0) s m args below meth c H locs 0 0 Q (F0 m 93 ls [])) → W p l e (rmz 34 0 0) s m args below meth c H locs 0 0 Q (F0 m 30 ls []) := by
      clear hf ho14 hw hl
      intro k
      induction k with
      | zero => intro v1 v2 x_s x_laid x_pile x_saved x_plan x_bestPlan x_most x_many x_few x_everRight x_rows x_rowMany H locs ls o hf hw hl kx; simp [X12_prove_L1] at hf
      | succ k ih =>
        intro v1 v2 x_s x_laid x_pile x_saved x_plan x_bestPlan x_most x_many x_few x_everRight x_rows x_rowMany H locs ls o hf hw hl kx
        rw [X12_prove_L1] at hf
        refine lv_iload_n hx hb dX12_prove_30 rfl (lv_at hl 2 rfl) ?_
        refine lv_aload_n hx hb dX12_prove_31 rfl (lv_at hl 0 rfl) ?_
        refine mg_rowMany cx hw dX12_prove_32 ?_
        refine lv_icmp_ge (tgt := 93) hx hb dX12_prove_35 (by decide) (fun hc => ?_) (fun hc => ?_)
        · have hf := ifT hf hc
          have hf := Option.some.inj hf
          subst hf
          exact kx _ _ _ hw (lv_sub hl [0, 1, 2] rfl)
        · have hf := ifF hf hc
          refine lv_aload_n hx hb dX12_prove_38 rfl (lv_at hl 0 rfl) ?_
          refine mg_rows cx hw dX12_prove_39 ?_
          refine lv_iconst (v := 3) hx hb dX12_prove_42 (by decide) ?_
          refine lv_iload_n hx hb dX12_prove_43 rfl (lv_at hl 2 rfl) ?_
          refine lv_imul hx hb dX12_prove_44 ?_
          refine lv_aload_n hx hb dX12_prove_45 rfl (lv_at hl 0 rfl) ?_
          refine mg_bestPlan cx hw dX12_prove_46 ?_
          refine lv_iload_n hx hb dX12_prove_49 rfl (lv_at hl 2 rfl) ?_
          obtain ⟨h5, hf⟩ := ckS hf
          refine ml_bestPlan (j := v2.toNatClampNeg) cx hw (ib_in h5) rfl dX12_prove_50 ?_
          obtain ⟨h6, hf⟩ := ckS hf
          refine ms_rows (j := ((3 : Int32) * v2).toNatClampNeg) cx hw (ib_in h6) rfl dX12_prove_51 (fun H locs hw => ?_)
          refine lv_aload_n hx hb dX12_prove_52 rfl (lv_at hl 0 rfl) ?_
          refine mg_rows cx hw dX12_prove_53 ?_
          refine lv_iconst (v := 3) hx hb dX12_prove_56 (by decide) ?_
          refine lv_iload_n hx hb dX12_prove_57 rfl (lv_at hl 2 rfl) ?_
          refine lv_imul hx hb dX12_prove_58 ?_
          refine lv_iconst (v := 1) hx hb dX12_prove_59 (by decide) ?_
          refine lv_iadd hx hb dX12_prove_60 ?_
          refine lv_aload_n hx hb dX12_prove_61 rfl (lv_at hl 0 rfl) ?_
          refine lv_aload_n hx hb dX12_prove_62 rfl (lv_at hl 0 rfl) ?_
          refine mg_bestPlan cx hw dX12_prove_63 ?_
          refine lv_iload_n hx hb dX12_prove_66 rfl (lv_at hl 2 rfl) ?_
          obtain ⟨h7, hf⟩ := ckS hf
          refine ml_bestPlan (j := v2.toNatClampNeg) cx hw (ib_in h7) rfl dX12_prove_67 ?_
          obtain ⟨r8, h9, hf⟩ := bnS hf
          refine calVi (k := 0) cx hw hl.1 (c_X12_goesBy h9) q_1418 k_X12_goesBy rfl rfl rfl dX12_prove_68 rfl (Nat.le_of_ble_eq_true rfl) ⟨Nat.le_of_ble_eq_true rfl, Nat.le_of_ble_eq_true rfl⟩ ⟨Nat.le_refl _, Nat.le_refl _⟩ (fun H locs hw => ?_)
          obtain ⟨h10, hf⟩ := ckS hf
          refine ms_rows (j := (((3 : Int32) * v2) + (1 : Int32)).toNatClampNeg) cx hw (ib_in h10) rfl dX12_prove_71 (fun H locs hw => ?_)
          refine lv_aload_n hx hb dX12_prove_72 rfl (lv_at hl 0 rfl) ?_
          refine mg_rows cx hw dX12_prove_73 ?_
          refine lv_iconst (v := 3) hx hb dX12_prove_76 (by decide) ?_
          refine lv_iload_n hx hb dX12_prove_77 rfl (lv_at hl 2 rfl) ?_
          refine lv_imul hx hb dX12_prove_78 ?_
          refine lv_iconst (v := 2) hx hb dX12_prove_79 (by decide) ?_
          refine lv_iadd hx hb dX12_prove_80 ?_
          refine lv_aload_n hx hb dX12_prove_81 rfl (lv_at hl 0 rfl) ?_
          refine lv_iconst (v := 4) hx hb dX12_prove_82 (by decide) ?_
          obtain ⟨r11, h12, hf⟩ := bnS hf
          refine calVi (k := 0) cx hw hl.1 (c_X12_those h12) q_1399 k_X12_those rfl rfl rfl dX12_prove_83 rfl (Nat.le_of_ble_eq_true rfl) ⟨Nat.le_of_ble_eq_true rfl, Nat.le_of_ble_eq_true rfl⟩ ⟨Nat.le_refl _, Nat.le_refl _⟩ (fun H locs hw => ?_)
          obtain ⟨h13, hf⟩ := ckS hf
          refine ms_rows (j := (((3 : Int32) * v2) + (2 : Int32)).toNatClampNeg) cx hw (ib_in h13) rfl dX12_prove_86 (fun H locs hw => ?_)
          refine lv_iinc (v := (v2 + (1 : Int32))) (lv' := [(2, .int (v2 + (1 : Int32))), (0, .ref (a 0)), (1, .int v1)]) hx hb dX12_prove_87 hl (k := 2) rfl rfl (by decide) rfl (fun ls hl => ?_)
          refine lv_goto (tgt := 30) hx hb dX12_prove_90 (by decide) ?_
          exact ih hf hw (lv_sub hl [1, 2, 0] rfl) kx
    refine wL1 n ho14 hw (lv_sub hl [1, 2, 0] rfl) (fun H locs ls hw hl => ?_)
    clear wL1 ho14
    refine lv_aload_n hx hb dX12_prove_93 rfl (lv_at hl 0 rfl) ?_
    obtain ⟨r15, h16, hf⟩ := bnS hf
    refine calVv (k := 0) cx hw hl.1 (c_X12_layBack h16) q_1453 k_X12_layBack rfl rfl rfl dX12_prove_94 rfl (Nat.le_of_ble_eq_true rfl) ⟨Nat.le_of_ble_eq_true rfl, Nat.le_of_ble_eq_true rfl⟩ ⟨Nat.le_refl _, Nat.le_refl _⟩ (fun H locs hw => ?_)
    refine lv_aload_n hx hb dX12_prove_97 rfl (lv_at hl 0 rfl) ?_
    refine mg_rowMany cx hw dX12_prove_98 ?_
    have hf := Option.some.inj hf
    subst hf
    exact hR _ _ _ _ _ _ hw rfl ⟨rfl, rfl⟩ dX12_prove_101
  · have hf := ifT hf hc
    refine lv_iconst (v := (-1)) hx hb dX12_prove_7 (by decide) ?_
    have hf := Option.some.inj hf
    subst hf
    exact hR _ _ _ _ _ _ hw rfl ⟨rfl, rfl⟩ dX12_prove_8
theorem dX12_isRow_0 : decode cX12_isRow 0 = .ok (.iload_n 1, 1) := by decide +kernel
theorem dX12_isRow_1 : decode cX12_isRow 1 = .ok (.iconst 0, 1) := by decide +kernel
theorem dX12_isRow_2 : decode cX12_isRow 2 = .ok (.aload_n 0, 1) := by decide +kernel
theorem dX12_isRow_3 : decode cX12_isRow 3 = .ok (.getfield 322, 3) := by decide +kernel
theorem dX12_isRow_6 : decode cX12_isRow 6 = .ok (.iconst 1, 1) := by decide +kernel
theorem dX12_isRow_7 : decode cX12_isRow 7 = .ok (.isub, 1) := by decide +kernel
theorem dX12_isRow_8 : decode cX12_isRow 8 = .ok (.invokestatic 71, 3) := by decide +kernel
theorem dX12_isRow_11 : decode cX12_isRow 11 = .ok (.ifCond .eq 16, 3) := by decide +kernel
theorem dX12_isRow_14 : decode cX12_isRow 14 = .ok (.iload_n 2, 1) := by decide +kernel
theorem dX12_isRow_15 : decode cX12_isRow 15 = .ok (.iconst 0, 1) := by decide +kernel
theorem dX12_isRow_16 : decode cX12_isRow 16 = .ok (.iconst 2, 1) := by decide +kernel
theorem dX12_isRow_17 : decode cX12_isRow 17 = .ok (.invokestatic 71, 3) := by decide +kernel
theorem dX12_isRow_20 : decode cX12_isRow 20 = .ok (.ifCond .eq 7, 3) := by decide +kernel
theorem dX12_isRow_23 : decode cX12_isRow 23 = .ok (.iconst 1, 1) := by decide +kernel
theorem dX12_isRow_24 : decode cX12_isRow 24 = .ok (.goto 4, 3) := by decide +kernel
theorem dX12_isRow_27 : decode cX12_isRow 27 = .ok (.iconst 0, 1) := by decide +kernel
theorem dX12_isRow_28 : decode cX12_isRow 28 = .ok (.ireturn, 1) := by decide +kernel
theorem k_X12_isRow : MV yX12_isRow cX12_isRow 3 (some .boolean) 2 := ⟨q_1615, qs_85, q_14, q_1616, ⟨by decide, by decide, by decide +kernel⟩⟩
theorem c_X12_isRow {res : Int32} (hf : X12_isRow x_rowMany v1 v2 = res) : MC l E0 D t yX12_isRow cX12_isRow 3 (some .boolean) 2 0 0 [.ref (a 0), .int v1, .int v2] (mW a t x_s x_kept x_laid x_isKept x_pile x_tape x_taped x_letters x_at x_begun x_token x_value x_opened x_steps x_code0 x_read x_saved x_plan x_bestPlan x_most x_many x_few x_everRight x_lagThen x_shadedThen x_firstFit x_rows x_rowMany x_sorts x_sizes x_number x_holds x_heldOne x_trace x_traced x_own x_isParted) (Qi res (mW a t x_s x_kept x_laid x_isKept x_pile x_tape x_taped x_letters x_at x_begun x_token x_value x_opened x_steps x_code0 x_read x_saved x_plan x_bestPlan x_most x_many x_few x_everRight x_lagThen x_shadedThen x_firstFit x_rows x_rowMany x_sorts x_sizes x_number x_holds x_heldOne x_trace x_traced x_own x_isParted)) := by
  unfold X12_isRow at hf
  refine MC.ofI pn_X12 (Nat.le_of_ble_eq_true rfl) ?_
  intro p e s m args below meth c A Q ls cx hR hw hl
  have hx := cx.1
  have hb := cx.2.1
  have hl : lv_has ls 3 [(0, .ref (a 0)), (1, .int v1), (2, .int v2)] := hl
  refine lv_iload_n hx hb dX12_isRow_0 rfl (lv_at hl 1 rfl) ?_
  refine lv_iconst (v := 0) hx hb dX12_isRow_1 (by decide) ?_
  refine lv_aload_n hx hb dX12_isRow_2 rfl (lv_at hl 0 rfl) ?_
  refine mg_rowMany cx hw dX12_isRow_3 ?_
  refine lv_iconst (v := 1) hx hb dX12_isRow_6 (by decide) ?_
  refine lv_isub hx hb dX12_isRow_7 ?_
  refine calSi cx hw hl.1 (c_X12_in1 rfl) q_1214 k_X12_in1 rfl dX12_isRow_8 rfl (Nat.le_of_ble_eq_true rfl) ⟨Nat.le_of_ble_eq_true rfl, Nat.le_of_ble_eq_true rfl⟩ ⟨Nat.le_refl _, Nat.le_refl _⟩ (fun H locs hw => ?_)
  refine lv_if_eq (tgt := 27) hx hb dX12_isRow_11 (by decide) (fun hc => ?_) (fun hc => ?_)
  · have hf := ifT hf hc
    refine lv_iconst (v := 0) hx hb dX12_isRow_27 (by decide) ?_
    subst hf
    exact hR _ _ _ _ _ _ hw rfl ⟨rfl, rfl⟩ dX12_isRow_28
  · have hf := ifF hf hc
    refine lv_iload_n hx hb dX12_isRow_14 rfl (lv_at hl 2 rfl) ?_
    refine lv_iconst (v := 0) hx hb dX12_isRow_15 (by decide) ?_
    refine lv_iconst (v := 2) hx hb dX12_isRow_16 (by decide) ?_
    refine calSi cx hw hl.1 (c_X12_in1 rfl) q_1214 k_X12_in1 rfl dX12_isRow_17 rfl (Nat.le_of_ble_eq_true rfl) ⟨Nat.le_of_ble_eq_true rfl, Nat.le_of_ble_eq_true rfl⟩ ⟨Nat.le_refl _, Nat.le_refl _⟩ (fun H locs hw => ?_)
    refine lv_if_eq (tgt := 27) hx hb dX12_isRow_20 (by decide) (fun hc => ?_) (fun hc => ?_)
    · have hf := ifT hf hc
      refine lv_iconst (v := 0) hx hb dX12_isRow_27 (by decide) ?_
      subst hf
      exact hR _ _ _ _ _ _ hw rfl ⟨rfl, rfl⟩ dX12_isRow_28
    · have hf := ifF hf hc
      refine lv_iconst (v := 1) hx hb dX12_isRow_23 (by decide) ?_
      refine lv_goto (tgt := 28) hx hb dX12_isRow_24 (by decide) ?_
      subst hf
      exact hR _ _ _ _ _ _ hw rfl ⟨rfl, rfl⟩ dX12_isRow_28
theorem b_X12_isRow (x_rowMany : Int32) (v1 : Int32) (v2 : Int32) : X12_isRow x_rowMany v1 v2 = 0 ∨ X12_isRow x_rowMany v1 v2 = 1 := by unfold X12_isRow; repeat (first | exact Or.inl rfl | exact Or.inr rfl | split)
theorem dX12_row_0 : decode cX12_row 0 = .ok (.aload_n 0, 1) := by decide +kernel
theorem dX12_row_1 : decode cX12_row 1 = .ok (.iload_n 1, 1) := by decide +kernel
theorem dX12_row_2 : decode cX12_row 2 = .ok (.iload_n 2, 1) := by decide +kernel
theorem dX12_row_3 : decode cX12_row 3 = .ok (.invokevirtual 325, 3) := by decide +kernel
theorem dX12_row_6 : decode cX12_row 6 = .ok (.ifCond .eq 16, 3) := by decide +kernel
theorem dX12_row_9 : decode cX12_row 9 = .ok (.aload_n 0, 1) := by decide +kernel
theorem dX12_row_10 : decode cX12_row 10 = .ok (.getfield 50, 3) := by decide +kernel
theorem dX12_row_13 : decode cX12_row 13 = .ok (.iconst 3, 1) := by decide +kernel
theorem dX12_row_14 : decode cX12_row 14 = .ok (.iload_n 1, 1) := by decide +kernel
theorem dX12_row_15 : decode cX12_row 15 = .ok (.imul, 1) := by decide +kernel
theorem dX12_row_16 : decode cX12_row 16 = .ok (.iload_n 2, 1) := by decide +kernel
theorem dX12_row_17 : decode cX12_row 17 = .ok (.iadd, 1) := by decide +kernel
theorem dX12_row_18 : decode cX12_row 18 = .ok (.iaload, 1) := by decide +kernel
theorem dX12_row_19 : decode cX12_row 19 = .ok (.goto 5, 3) := by decide +kernel
theorem dX12_row_22 : decode cX12_row 22 = .ok (.bipush (-9), 2) := by decide +kernel
theorem dX12_row_24 : decode cX12_row 24 = .ok (.ireturn, 1) := by decide +kernel
theorem k_X12_row : MV yX12_row cX12_row 3 (some .int) 2 := ⟨q_1610, q_1611, q_14, q_1612, ⟨by decide, by decide, by decide +kernel⟩⟩
theorem c_X12_row {res : Int32} (hf : X12_row x_rows x_rowMany v1 v2 = some res) : MC l E0 D t yX12_row cX12_row 3 (some .int) 3 0 0 [.ref (a 0), .int v1, .int v2] (mW a t x_s x_kept x_laid x_isKept x_pile x_tape x_taped x_letters x_at x_begun x_token x_value x_opened x_steps x_code0 x_read x_saved x_plan x_bestPlan x_most x_many x_few x_everRight x_lagThen x_shadedThen x_firstFit x_rows x_rowMany x_sorts x_sizes x_number x_holds x_heldOne x_trace x_traced x_own x_isParted) (Qi res (mW a t x_s x_kept x_laid x_isKept x_pile x_tape x_taped x_letters x_at x_begun x_token x_value x_opened x_steps x_code0 x_read x_saved x_plan x_bestPlan x_most x_many x_few x_everRight x_lagThen x_shadedThen x_firstFit x_rows x_rowMany x_sorts x_sizes x_number x_holds x_heldOne x_trace x_traced x_own x_isParted)) := by
  unfold X12_row at hf
  refine MC.ofI pn_X12 (Nat.le_of_ble_eq_true rfl) ?_
  intro p e s m args below meth c A Q ls cx hR hw hl
  have hx := cx.1
  have hb := cx.2.1
  have hl : lv_has ls 3 [(0, .ref (a 0)), (1, .int v1), (2, .int v2)] := hl
  refine lv_aload_n hx hb dX12_row_0 rfl (lv_at hl 0 rfl) ?_
  refine lv_iload_n hx hb dX12_row_1 rfl (lv_at hl 1 rfl) ?_
  refine lv_iload_n hx hb dX12_row_2 rfl (lv_at hl 2 rfl) ?_
  refine calVi (k := 0) cx hw hl.1 (c_X12_isRow rfl) q_1613 k_X12_isRow rfl rfl rfl dX12_row_3 rfl (Nat.le_of_ble_eq_true rfl) ⟨Nat.le_of_ble_eq_true rfl, Nat.le_of_ble_eq_true rfl⟩ ⟨Nat.le_refl _, Nat.le_refl _⟩ (fun H locs hw => ?_)
  refine lv_if_eq (tgt := 22) hx hb dX12_row_6 (by decide) (fun hc => ?_) (fun hc => ?_)
  · have hf := ifT hf hc
    refine lv_bipush (v := (-9)) hx hb dX12_row_22 (by decide) ?_
    have hf := Option.some.inj hf
    subst hf
    exact hR _ _ _ _ _ _ hw rfl ⟨rfl, rfl⟩ dX12_row_24
  · have hf := ifF hf hc
    refine lv_aload_n hx hb dX12_row_9 rfl (lv_at hl 0 rfl) ?_
    refine mg_rows cx hw dX12_row_10 ?_
    refine lv_iconst (v := 3) hx hb dX12_row_13 (by decide) ?_
    refine lv_iload_n hx hb dX12_row_14 rfl (lv_at hl 1 rfl) ?_
    refine lv_imul hx hb dX12_row_15 ?_
    refine lv_iload_n hx hb dX12_row_16 rfl (lv_at hl 2 rfl) ?_
    refine lv_iadd hx hb dX12_row_17 ?_
    obtain ⟨h1, hf⟩ := ckS hf
    refine ml_rows (j := (((3 : Int32) * v1) + v2).toNatClampNeg) cx hw (ib_in h1) rfl dX12_row_18 ?_
    refine lv_goto (tgt := 24) hx hb dX12_row_19 (by decide) ?_
    have hf := Option.some.inj hf
    subst hf
    exact hR _ _ _ _ _ _ hw rfl ⟨rfl, rfl⟩ dX12_row_24
theorem dX12_alterRow_0 : decode cX12_alterRow 0 = .ok (.aload_n 0, 1) := by decide +kernel
theorem dX12_alterRow_1 : decode cX12_alterRow 1 = .ok (.iload_n 1, 1) := by decide +kernel
theorem dX12_alterRow_2 : decode cX12_alterRow 2 = .ok (.iload_n 2, 1) := by decide +kernel
theorem dX12_alterRow_3 : decode cX12_alterRow 3 = .ok (.invokevirtual 325, 3) := by decide +kernel
theorem dX12_alterRow_6 : decode cX12_alterRow 6 = .ok (.ifCond .ne 6, 3) := by decide +kernel
theorem dX12_alterRow_9 : decode cX12_alterRow 9 = .ok (.bipush (-9), 2) := by decide +kernel
theorem dX12_alterRow_11 : decode cX12_alterRow 11 = .ok (.ireturn, 1) := by decide +kernel
theorem dX12_alterRow_12 : decode cX12_alterRow 12 = .ok (.aload_n 0, 1) := by decide +kernel
theorem dX12_alterRow_13 : decode cX12_alterRow 13 = .ok (.getfield 50, 3) := by decide +kernel
theorem dX12_alterRow_16 : decode cX12_alterRow 16 = .ok (.iconst 3, 1) := by decide +kernel
theorem dX12_alterRow_17 : decode cX12_alterRow 17 = .ok (.iload_n 1, 1) := by decide +kernel
theorem dX12_alterRow_18 : decode cX12_alterRow 18 = .ok (.imul, 1) := by decide +kernel
theorem dX12_alterRow_19 : decode cX12_alterRow 19 = .ok (.iload_n 2, 1) := by decide +kernel
theorem dX12_alterRow_20 : decode cX12_alterRow 20 = .ok (.iadd, 1) := by decide +kernel
theorem dX12_alterRow_21 : decode cX12_alterRow 21 = .ok (.iaload, 1) := by decide +kernel
theorem dX12_alterRow_22 : decode cX12_alterRow 22 = .ok (.istore 4, 2) := by decide +kernel
theorem dX12_alterRow_24 : decode cX12_alterRow 24 = .ok (.aload_n 0, 1) := by decide +kernel
theorem dX12_alterRow_25 : decode cX12_alterRow 25 = .ok (.getfield 50, 3) := by decide +kernel
theorem dX12_alterRow_28 : decode cX12_alterRow 28 = .ok (.iconst 3, 1) := by decide +kernel
theorem dX12_alterRow_29 : decode cX12_alterRow 29 = .ok (.iload_n 1, 1) := by decide +kernel
theorem dX12_alterRow_30 : decode cX12_alterRow 30 = .ok (.imul, 1) := by decide +kernel
theorem dX12_alterRow_31 : decode cX12_alterRow 31 = .ok (.iload_n 2, 1) := by decide +kernel
theorem dX12_alterRow_32 : decode cX12_alterRow 32 = .ok (.iadd, 1) := by decide +kernel
theorem dX12_alterRow_33 : decode cX12_alterRow 33 = .ok (.iload_n 3, 1) := by decide +kernel
theorem dX12_alterRow_34 : decode cX12_alterRow 34 = .ok (.iastore, 1) := by decide +kernel
theorem dX12_alterRow_35 : decode cX12_alterRow 35 = .ok (.iload 4, 2) := by decide +kernel
theorem dX12_alterRow_37 : decode cX12_alterRow 37 = .ok (.ireturn, 1) := by decide +kernel
theorem k_X12_alterRow : MV yX12_alterRow cX12_alterRow 5 (some .int) 3 := ⟨q_1618, q_1619, q_14, q_1620, ⟨by decide, by decide, by decide +kernel⟩⟩
theorem c_X12_alterRow {res : Int32 × (Nat → Int32)} (hf : X12_alterRow x_rows x_rowMany v1 v2 v3 = some res) : MC l E0 D t yX12_alterRow cX12_alterRow 5 (some .int) 3 0 0 [.ref (a 0), .int v1, .int v2, .int v3] (mW a t x_s x_kept x_laid x_isKept x_pile x_tape x_taped x_letters x_at x_begun x_token x_value x_opened x_steps x_code0 x_read x_saved x_plan x_bestPlan x_most x_many x_few x_everRight x_lagThen x_shadedThen x_firstFit x_rows x_rowMany x_sorts x_sizes x_number x_holds x_heldOne x_trace x_traced x_own x_isParted) (Qi res.1 (mW a t x_s x_kept x_laid x_isKept x_pile x_tape x_taped x_letters x_at x_begun x_token x_value x_opened x_steps x_code0 x_read x_saved x_plan x_bestPlan x_most x_many x_few x_everRight x_lagThen x_shadedThen x_firstFit res.2 x_rowMany x_sorts x_sizes x_number x_holds x_heldOne x_trace x_traced x_own x_isParted)) := by
  unfold X12_alterRow at hf
  refine MC.ofI pn_X12 (Nat.le_of_ble_eq_true rfl) ?_
  intro p e s m args below meth c A Q ls cx hR hw hl
  have hx := cx.1
  have hb := cx.2.1
  have hl : lv_has ls 5 [(0, .ref (a 0)), (1, .int v1), (2, .int v2), (3, .int v3)] := hl
  refine lv_aload_n hx hb dX12_alterRow_0 rfl (lv_at hl 0 rfl) ?_
  refine lv_iload_n hx hb dX12_alterRow_1 rfl (lv_at hl 1 rfl) ?_
  refine lv_iload_n hx hb dX12_alterRow_2 rfl (lv_at hl 2 rfl) ?_
  refine calVi (k := 0) cx hw hl.1 (c_X12_isRow rfl) q_1613 k_X12_isRow rfl rfl rfl dX12_alterRow_3 rfl (Nat.le_of_ble_eq_true rfl) ⟨Nat.le_of_ble_eq_true rfl, Nat.le_of_ble_eq_true rfl⟩ ⟨Nat.le_refl _, Nat.le_refl _⟩ (fun H locs hw => ?_)
  refine lv_if_ne (tgt := 12) hx hb dX12_alterRow_6 (by decide) (fun hc => ?_) (fun hc => ?_)
  · have hf := ifF hf hc
    refine lv_aload_n hx hb dX12_alterRow_12 rfl (lv_at hl 0 rfl) ?_
    refine mg_rows cx hw dX12_alterRow_13 ?_
    refine lv_iconst (v := 3) hx hb dX12_alterRow_16 (by decide) ?_
    refine lv_iload_n hx hb dX12_alterRow_17 rfl (lv_at hl 1 rfl) ?_
    refine lv_imul hx hb dX12_alterRow_18 ?_
    refine lv_iload_n hx hb dX12_alterRow_19 rfl (lv_at hl 2 rfl) ?_
    refine lv_iadd hx hb dX12_alterRow_20 ?_
    obtain ⟨h1, hf⟩ := ckS hf
    refine ml_rows (j := (((3 : Int32) * v1) + v2).toNatClampNeg) cx hw (ib_in h1) rfl dX12_alterRow_21 ?_
    refine lv_istore (lv' := [(4, .int (x_rows ((((3 : Int32) * v1) + v2).toNatClampNeg))), (0, .ref (a 0)), (1, .int v1), (2, .int v2), (3, .int v3)]) hx hb dX12_alterRow_22 hl (by decide) rfl (fun ls hl => ?_)
    refine lv_aload_n hx hb dX12_alterRow_24 rfl (lv_at hl 1 rfl) ?_
    refine mg_rows cx hw dX12_alterRow_25 ?_
    refine lv_iconst (v := 3) hx hb dX12_alterRow_28 (by decide) ?_
    refine lv_iload_n hx hb dX12_alterRow_29 rfl (lv_at hl 2 rfl) ?_
    refine lv_imul hx hb dX12_alterRow_30 ?_
    refine lv_iload_n hx hb dX12_alterRow_31 rfl (lv_at hl 3 rfl) ?_
    refine lv_iadd hx hb dX12_alterRow_32 ?_
    refine lv_iload_n hx hb dX12_alterRow_33 rfl (lv_at hl 4 rfl) ?_
    obtain ⟨h2, hf⟩ := ckS hf
    refine ms_rows (j := (((3 : Int32) * v1) + v2).toNatClampNeg) cx hw (ib_in h2) rfl dX12_alterRow_34 (fun H locs hw => ?_)
    refine lv_iload hx hb dX12_alterRow_35 (lv_at hl 0 rfl) ?_
    have hf := Option.some.inj hf
    subst hf
    exact hR _ _ _ _ _ _ hw rfl ⟨rfl, rfl⟩ dX12_alterRow_37
  · have hf := ifT hf hc
    refine lv_bipush (v := (-9)) hx hb dX12_alterRow_9 (by decide) ?_
    have hf := Option.some.inj hf
    subst hf
    exact hR _ _ _ _ _ _ hw rfl ⟨rfl, rfl⟩ dX12_alterRow_11
theorem dX12_judge_0 : decode cX12_judge 0 = .ok (.aload_n 0, 1) := by decide +kernel
theorem dX12_judge_1 : decode cX12_judge 1 = .ok (.invokevirtual 246, 3) := by decide +kernel
theorem dX12_judge_4 : decode cX12_judge 4 = .ok (.iconst 0, 1) := by decide +kernel
theorem dX12_judge_5 : decode cX12_judge 5 = .ok (.istore_n 1, 1) := by decide +kernel
theorem dX12_judge_6 : decode cX12_judge 6 = .ok (.iconst 0, 1) := by decide +kernel
theorem dX12_judge_7 : decode cX12_judge 7 = .ok (.istore_n 2, 1) := by decide +kernel
theorem dX12_judge_8 : decode cX12_judge 8 = .ok (.iload_n 2, 1) := by decide +kernel
theorem dX12_judge_9 : decode cX12_judge 9 = .ok (.aload_n 0, 1) := by decide +kernel
theorem dX12_judge_10 : decode cX12_judge 10 = .ok (.getfield 322, 3) := by decide +kernel
theorem dX12_judge_13 : decode cX12_judge 13 = .ok (.if_icmp .ge 120, 3) := by decide +kernel
theorem dX12_judge_16 : decode cX12_judge 16 = .ok (.iload_n 1, 1) := by decide +kernel
theorem dX12_judge_17 : decode cX12_judge 17 = .ok (.ifCond .ne 116, 3) := by decide +kernel
theorem dX12_judge_20 : decode cX12_judge 20 = .ok (.aload_n 0, 1) := by decide +kernel
theorem dX12_judge_21 : decode cX12_judge 21 = .ok (.aload_n 0, 1) := by decide +kernel
theorem dX12_judge_22 : decode cX12_judge 22 = .ok (.getfield 50, 3) := by decide +kernel
theorem dX12_judge_25 : decode cX12_judge 25 = .ok (.iconst 3, 1) := by decide +kernel
theorem dX12_judge_26 : decode cX12_judge 26 = .ok (.iload_n 2, 1) := by decide +kernel
theorem dX12_judge_27 : decode cX12_judge 27 = .ok (.imul, 1) := by decide +kernel
theorem dX12_judge_28 : decode cX12_judge 28 = .ok (.iaload, 1) := by decide +kernel
theorem dX12_judge_29 : decode cX12_judge 29 = .ok (.invokevirtual 328, 3) := by decide +kernel
theorem dX12_judge_32 : decode cX12_judge 32 = .ok (.ifCond .eq 14, 3) := by decide +kernel
theorem dX12_judge_35 : decode cX12_judge 35 = .ok (.aload_n 0, 1) := by decide +kernel
theorem dX12_judge_36 : decode cX12_judge 36 = .ok (.invokevirtual 237, 3) := by decide +kernel
theorem dX12_judge_39 : decode cX12_judge 39 = .ok (.ifCond .ne 7, 3) := by decide +kernel
theorem dX12_judge_42 : decode cX12_judge 42 = .ok (.iconst 1, 1) := by decide +kernel
theorem dX12_judge_43 : decode cX12_judge 43 = .ok (.goto 4, 3) := by decide +kernel
theorem dX12_judge_46 : decode cX12_judge 46 = .ok (.iconst 0, 1) := by decide +kernel
theorem dX12_judge_47 : decode cX12_judge 47 = .ok (.istore_n 3, 1) := by decide +kernel
theorem dX12_judge_48 : decode cX12_judge 48 = .ok (.iload_n 3, 1) := by decide +kernel
theorem dX12_judge_49 : decode cX12_judge 49 = .ok (.ifCond .eq 18, 3) := by decide +kernel
theorem dX12_judge_52 : decode cX12_judge 52 = .ok (.aload_n 0, 1) := by decide +kernel
theorem dX12_judge_53 : decode cX12_judge 53 = .ok (.aload_n 0, 1) := by decide +kernel
theorem dX12_judge_54 : decode cX12_judge 54 = .ok (.getfield 50, 3) := by decide +kernel
theorem dX12_judge_57 : decode cX12_judge 57 = .ok (.iconst 3, 1) := by decide +kernel
theorem dX12_judge_58 : decode cX12_judge 58 = .ok (.iload_n 2, 1) := by decide +kernel
theorem dX12_judge_59 : decode cX12_judge 59 = .ok (.imul, 1) := by decide +kernel
theorem dX12_judge_60 : decode cX12_judge 60 = .ok (.iaload, 1) := by decide +kernel
theorem dX12_judge_61 : decode cX12_judge 61 = .ok (.invokevirtual 243, 3) := by decide +kernel
theorem dX12_judge_64 : decode cX12_judge 64 = .ok (.goto 4, 3) := by decide +kernel
theorem dX12_judge_67 : decode cX12_judge 67 = .ok (.iconst 0, 1) := by decide +kernel
theorem dX12_judge_68 : decode cX12_judge 68 = .ok (.istore 4, 2) := by decide +kernel
theorem dX12_judge_70 : decode cX12_judge 70 = .ok (.iload_n 3, 1) := by decide +kernel
theorem dX12_judge_71 : decode cX12_judge 71 = .ok (.ifCond .eq 40, 3) := by decide +kernel
theorem dX12_judge_74 : decode cX12_judge 74 = .ok (.iload 4, 2) := by decide +kernel
theorem dX12_judge_76 : decode cX12_judge 76 = .ok (.aload_n 0, 1) := by decide +kernel
theorem dX12_judge_77 : decode cX12_judge 77 = .ok (.getfield 50, 3) := by decide +kernel
theorem dX12_judge_80 : decode cX12_judge 80 = .ok (.iconst 3, 1) := by decide +kernel
theorem dX12_judge_81 : decode cX12_judge 81 = .ok (.iload_n 2, 1) := by decide +kernel
theorem dX12_judge_82 : decode cX12_judge 82 = .ok (.imul, 1) := by decide +kernel
theorem dX12_judge_83 : decode cX12_judge 83 = .ok (.iconst 1, 1) := by decide +kernel
theorem dX12_judge_84 : decode cX12_judge 84 = .ok (.iadd, 1) := by decide +kernel
theorem dX12_judge_85 : decode cX12_judge 85 = .ok (.iaload, 1) := by decide +kernel
theorem dX12_judge_86 : decode cX12_judge 86 = .ok (.if_icmp .ne 25, 3) := by decide +kernel
theorem dX12_judge_89 : decode cX12_judge 89 = .ok (.aload_n 0, 1) := by decide +kernel
theorem dX12_judge_90 : decode cX12_judge 90 = .ok (.iconst 4, 1) := by decide +kernel
theorem dX12_judge_91 : decode cX12_judge 91 = .ok (.invokevirtual 240, 3) := by decide +kernel
theorem dX12_judge_94 : decode cX12_judge 94 = .ok (.aload_n 0, 1) := by decide +kernel
theorem dX12_judge_95 : decode cX12_judge 95 = .ok (.getfield 50, 3) := by decide +kernel
theorem dX12_judge_98 : decode cX12_judge 98 = .ok (.iconst 3, 1) := by decide +kernel
theorem dX12_judge_99 : decode cX12_judge 99 = .ok (.iload_n 2, 1) := by decide +kernel
theorem dX12_judge_100 : decode cX12_judge 100 = .ok (.imul, 1) := by decide +kernel
theorem dX12_judge_101 : decode cX12_judge 101 = .ok (.iconst 2, 1) := by decide +kernel
theorem dX12_judge_102 : decode cX12_judge 102 = .ok (.iadd, 1) := by decide +kernel
theorem dX12_judge_103 : decode cX12_judge 103 = .ok (.iaload, 1) := by decide +kernel
theorem dX12_judge_104 : decode cX12_judge 104 = .ok (.if_icmp .ne 7, 3) := by decide +kernel
theorem dX12_judge_107 : decode cX12_judge 107 = .ok (.iconst 1, 1) := by decide +kernel
theorem dX12_judge_108 : decode cX12_judge 108 = .ok (.goto 4, 3) := by decide +kernel
theorem dX12_judge_111 : decode cX12_judge 111 = .ok (.iconst 0, 1) := by decide +kernel
theorem dX12_judge_112 : decode cX12_judge 112 = .ok (.istore 5, 2) := by decide +kernel
theorem dX12_judge_114 : decode cX12_judge 114 = .ok (.iload 5, 2) := by decide +kernel
theorem dX12_judge_116 : decode cX12_judge 116 = .ok (.ifCond .eq 7, 3) := by decide +kernel
theorem dX12_judge_119 : decode cX12_judge 119 = .ok (.iconst 0, 1) := by decide +kernel
theorem dX12_judge_120 : decode cX12_judge 120 = .ok (.goto 6, 3) := by decide +kernel
theorem dX12_judge_123 : decode cX12_judge 123 = .ok (.iconst 1, 1) := by decide +kernel
theorem dX12_judge_124 : decode cX12_judge 124 = .ok (.iload_n 2, 1) := by decide +kernel
theorem dX12_judge_125 : decode cX12_judge 125 = .ok (.iadd, 1) := by decide +kernel
theorem dX12_judge_126 : decode cX12_judge 126 = .ok (.istore_n 1, 1) := by decide +kernel
theorem dX12_judge_127 : decode cX12_judge 127 = .ok (.iinc 2 1, 3) := by decide +kernel
theorem dX12_judge_130 : decode cX12_judge 130 = .ok (.goto (-122), 3) := by decide +kernel
theorem dX12_judge_133 : decode cX12_judge 133 = .ok (.aload_n 0, 1) := by decide +kernel
theorem dX12_judge_134 : decode cX12_judge 134 = .ok (.invokevirtual 252, 3) := by decide +kernel
theorem dX12_judge_137 : decode cX12_judge 137 = .ok (.iload_n 1, 1) := by decide +kernel
theorem dX12_judge_138 : decode cX12_judge 138 = .ok (.ireturn, 1) := by decide +kernel
theorem k_X12_judge : MV yX12_judge cX12_judge 6 (some .int) 0 := ⟨q_1622, q_1623, q_14, q_1624, ⟨by decide, by decide, by decide +kernel⟩⟩
theorem c_X12_judge {res : Int32 × (Nat → Int32) × (Nat → Int32) × (Nat → Int32)} (hf : X12_judge n x_s x_laid x_pile x_rows x_rowMany = some res) : MC l E0 D t yX12_judge cX12_judge 6 (some .int) 8 0 0 [.ref (a 0)] (mW a t x_s x_kept x_laid x_isKept x_pile x_tape x_taped x_letters x_at x_begun x_token x_value x_opened x_steps x_code0 x_read x_saved x_plan x_bestPlan x_most x_many x_few x_everRight x_lagThen x_shadedThen x_firstFit x_rows x_rowMany x_sorts x_sizes x_number x_holds x_heldOne x_trace x_traced x_own x_isParted) (Qi res.1 (mW a t res.2.1 x_kept res.2.2.1 x_isKept res.2.2.2 x_tape x_taped x_letters x_at x_begun x_token x_value x_opened x_steps x_code0 x_read x_saved x_plan x_bestPlan x_most x_many x_few x_everRight x_lagThen x_shadedThen x_firstFit x_rows x_rowMany x_sorts x_sizes x_number x_holds x_heldOne x_trace x_traced x_own x_isParted)) := by
  unfold X12_judge at hf
  refine MC.ofI pn_X12 (Nat.le_of_ble_eq_true rfl) ?_
  intro p e s m args below meth c A Q ls cx hR hw hl
  have hx := cx.1
  have hb := cx.2.1
  have hl : lv_has ls 6 [(0, .ref (a 0))] := hl
  refine lv_aload_n hx hb dX12_judge_0 rfl (lv_at hl 0 rfl) ?_
  obtain ⟨r1, h2, hf⟩ := bnS hf
  refine calVv (k := 0) cx hw hl.1 (c_X12_layDown h2) q_1445 k_X12_layDown rfl rfl rfl dX12_judge_1 rfl (Nat.le_of_ble_eq_true rfl) ⟨Nat.le_of_ble_eq_true rfl, Nat.le_of_ble_eq_true rfl⟩ ⟨Nat.le_refl _, Nat.le_refl _⟩ (fun H locs hw => ?_)
  refine lv_iconst (v := 0) hx hb dX12_judge_4 (by decide) ?_
  refine lv_istore_n (lv' := [(1, .int (0 : Int32)), (0, .ref (a 0))]) hx hb dX12_judge_5 rfl hl (by decide) rfl (fun ls hl => ?_)
  refine lv_iconst (v := 0) hx hb dX12_judge_6 (by decide) ?_
  refine lv_istore_n (lv' := [(2, .int (0 : Int32)), (1, .int (0 : Int32)), (0, .ref (a 0))]) hx hb dX12_judge_7 rfl hl (by decide) rfl (fun ls hl => ?_)
  obtain ⟨o16, ho16, hf⟩ := bnS hf
  have wL1 : ∀ (k : Nat) {v1 : Int32} {v2 : Int32} {x_s : Nat → Int32} {x_laid : Nat → Int32} {x_pile : Nat → Int32} {H : Heap} {locs : List Loc} {ls : Array Slot} {o : Int32 × Int32 × (Nat → Int32) × (Nat → Int32)}, X12_judge_L1 n x_rows x_rowMany k v1 v2 x_s x_pile = some o → Wd D A s (mW a t x_s x_kept x_laid x_isKept x_pile x_tape x_taped x_letters x_at x_begun x_token x_value x_opened x_steps x_code0 x_read x_saved x_plan x_bestPlan x_most x_many x_few x_everRight x_lagThen x_shadedThen x_firstFit x_rows x_rowMany x_sorts x_sizes x_number x_holds x_heldOne x_trace x_traced x_own x_isParted) H locs → lv_has ls 6 [(0, .ref (a 0)), (1, .int v1), (2, .int v2)] → (∀ (H : Heap) (locs : List Loc) (ls : Array Slot), Wd D A s (mW a t o.2.2.1 x_kept x_laid x_isKept o.2.2.2 x_tape x_taped x_letters x_at x_begun x_token x_value x_opened x_steps x_code0 x_read x_saved x_plan x_bestPlan x_most x_many x_few x_everRight x_lagThen x_shadedThen x_firstFit x_rows x_rowMany x_sorts x_sizes x_number x_holds x_heldOne x_trace x_traced x_own x_isParted) H locs → lv_has ls 6 [(0, .ref (a 0)), (1, .int o.1), (2, .int o.2.1)] → W p l e (rmz 8 0 0) s m args below meth c H locs 0 0 Q (F0 m 133 ls [])) → W p l e (rmz 8 0 0) s m args below meth c H locs 0 0 Q (F0 m 8 ls []) := by
    clear hf ho16 hw hl
    intro k
    induction k with
    | zero => intro v1 v2 x_s x_laid x_pile H locs ls o hf hw hl kx; simp [X12_judge_L1] at hf
    | succ k ih =>
      intro v1 v2 x_s x_laid x_pile H locs ls o hf hw hl kx
      rw [X12_judge_L1] at hf
      refine lv_iload_n hx hb dX12_judge_8 rfl (lv_at hl 2 rfl) ?_
      refine lv_aload_n hx hb dX12_judge_9 rfl (lv_at hl 0 rfl) ?_
      refine mg_rowMany cx hw dX12_judge_10 ?_
      refine lv_icmp_ge (tgt := 133) hx hb dX12_judge_13 (by decide) (fun hc => ?_) (fun hc => ?_)
      · have hf := ifT hf hc
        have hf := Option.some.inj hf
        subst hf
        exact kx _ _ _ hw (lv_sub hl [0, 1, 2] rfl)
      · have hf := ifF hf hc
        refine lv_iload_n hx hb dX12_judge_16 rfl (lv_at hl 1 rfl) ?_
        refine lv_if_ne (tgt := 133) hx hb dX12_judge_17 (by decide) (fun hc => ?_) (fun hc => ?_)
        · have hf := ifF hf hc
          have hf := Option.some.inj hf
          subst hf
          exact kx _ _ _ hw (lv_sub hl [0, 1, 2] rfl)
        · have hf := ifT hf hc
          refine lv_aload_n hx hb dX12_judge_20 rfl (lv_at hl 0 rfl) ?_
          refine lv_aload_n hx hb dX12_judge_21 rfl (lv_at hl 0 rfl) ?_
          refine mg_rows cx hw dX12_judge_22 ?_
          refine lv_iconst (v := 3) hx hb dX12_judge_25 (by decide) ?_
          refine lv_iload_n hx hb dX12_judge_26 rfl (lv_at hl 2 rfl) ?_
          refine lv_imul hx hb dX12_judge_27 ?_
          obtain ⟨h3, hf⟩ := ckS hf
          refine ml_rows (j := ((3 : Int32) * v2).toNatClampNeg) cx hw (ib_in h3) rfl dX12_judge_28 ?_
          refine calVi (k := 0) cx hw hl.1 (c_X12_isAct rfl) q_1625 k_X12_isAct rfl rfl rfl dX12_judge_29 rfl (Nat.le_of_ble_eq_true rfl) ⟨Nat.le_of_ble_eq_true rfl, Nat.le_of_ble_eq_true rfl⟩ ⟨Nat.le_refl _, Nat.le_refl _⟩ (fun H locs hw => ?_)
          obtain ⟨j4, hj4, hf⟩ := pbS hf
          have wj4 : ∀ (H : Heap) (locs : List Loc) (ls : Array Slot), Wd D A s (mW a t x_s x_kept x_laid x_isKept x_pile x_tape x_taped x_letters x_at x_begun x_token x_value x_opened x_steps x_code0 x_read x_saved x_plan x_bestPlan x_most x_many x_few x_everRight x_lagThen x_shadedThen x_firstFit x_rows x_rowMany x_sorts x_sizes x_number x_holds x_heldOne x_trace x_traced x_own x_isParted) H locs → lv_has ls 6 [(0, .ref (a 0)), (1, .int v1), (2, .int v2)] → W p l e (rmz 8 0 0) s m args below meth c H locs 0 0 Q (F0 m 47 ls [.int j4]) := by
            intro H locs ls hw hl
            refine lv_istore_n (lv' := [(3, .int j4), (0, .ref (a 0)), (1, .int v1), (2, .int v2)]) hx hb dX12_judge_47 rfl hl (by decide) rfl (fun ls hl => ?_)
            refine lv_iload_n hx hb dX12_judge_48 rfl (lv_at hl 0 rfl) ?_
            obtain ⟨j8, hj8, hf⟩ := bnS hf
            have wj8 : ∀ (H : Heap) (locs : List Loc) (ls : Array Slot), Wd D A s (mW a t j8.2.1 x_kept x_laid x_isKept j8.2.2 x_tape x_taped x_letters x_at x_begun x_token x_value x_opened x_steps x_code0 x_read x_saved x_plan x_bestPlan x_most x_many x_few x_everRight x_lagThen x_shadedThen x_firstFit x_rows x_rowMany x_sorts x_sizes x_number x_holds x_heldOne x_trace x_traced x_own x_isParted) H locs → lv_has ls 6 [(0, .ref (a 0)), (1, .int v1), (2, .int v2), (3, .int j4)] → W p l e (rmz 8 0 0) s m args below meth c H locs 0 0 Q (F0 m 68 ls [.int j8.1]) := by
              intro H locs ls hw hl
              refine lv_istore (lv' := [(4, .int j8.1), (0, .ref (a 0)), (1, .int v1), (2, .int v2), (3, .int j4)]) hx hb dX12_judge_68 hl (by decide) rfl (fun ls hl => ?_)
              refine lv_iload_n hx hb dX12_judge_70 rfl (lv_at hl 4 rfl) ?_
              obtain ⟨j14, hj14, hf⟩ := bnS hf
              have wj14 : ∀ (H : Heap) (locs : List Loc) (ls : Array Slot), Wd D A s (mW a t j8.2.1 x_kept x_laid x_isKept j8.2.2 x_tape x_taped x_letters x_at x_begun x_token x_value x_opened x_steps x_code0 x_read x_saved x_plan x_bestPlan x_most x_many x_few x_everRight x_lagThen x_shadedThen x_firstFit x_rows x_rowMany x_sorts x_sizes x_number x_holds x_heldOne x_trace x_traced x_own x_isParted) H locs → lv_has ls 6 [(0, .ref (a 0)), (1, .int v1), (2, .int v2), (3, .int j4), (4, .int j8.1)] → W p l e (rmz 8 0 0) s m args below meth c H locs 0 0 Q (F0 m 112 ls [.int j14]) := by
                intro H locs ls hw hl
                refine lv_istore (lv' := [(5, .int j14), (0, .ref (a 0)), (1, .int v1), (2, .int v2), (3, .int j4), (4, .int j8.1)]) hx hb dX12_judge_112 hl (by decide) rfl (fun ls hl => ?_)
                refine lv_iload hx hb dX12_judge_114 (lv_at hl 0 rfl) ?_
                obtain ⟨j15, hj15, hf⟩ := pbS hf
                have wj15 : ∀ (H : Heap) (locs : List Loc) (ls : Array Slot), Wd D A s (mW a t j8.2.1 x_kept x_laid x_isKept j8.2.2 x_tape x_taped x_letters x_at x_begun x_token x_value x_opened x_steps x_code0 x_read x_saved x_plan x_bestPlan x_most x_many x_few x_everRight x_lagThen x_shadedThen x_firstFit x_rows x_rowMany x_sorts x_sizes x_number x_holds x_heldOne x_trace x_traced x_own x_isParted) H locs → lv_has ls 6 [(0, .ref (a 0)), (1, .int v1), (2, .int v2), (3, .int j4), (4, .int j8.1), (5, .int j14)] → W p l e (rmz 8 0 0) s m args below meth c H locs 0 0 Q (F0 m 126 ls [.int j15]) := by
                  intro H locs ls hw hl
                  refine lv_istore_n (lv' := [(1, .int j15), (0, .ref (a 0)), (2, .int v2), (3, .int j4), (4, .int j8.1), (5, .int j14)]) hx hb dX12_judge_126 rfl hl (by decide) rfl (fun ls hl => ?_)
                  refine lv_iinc (v := (v2 + (1 : Int32))) (lv' := [(2, .int (v2 + (1 : Int32))), (1, .int j15), (0, .ref (a 0)), (3, .int j4), (4, .int j8.1), (5, .int j14)]) hx hb dX12_judge_127 hl (k := 2) rfl rfl (by decide) rfl (fun ls hl => ?_)
                  refine lv_goto (tgt := 8) hx hb dX12_judge_130 (by decide) ?_
                  exact ih hf hw (lv_sub hl [2, 1, 0] rfl) kx
                clear hf
                have hf := hj15
                clear hj15
                refine lv_if_eq (tgt := 123) hx hb dX12_judge_116 (by decide) (fun hc => ?_) (fun hc => ?_)
                · have hf := ifT hf hc
                  refine lv_iconst (v := 1) hx hb dX12_judge_123 (by decide) ?_
                  refine lv_iload_n hx hb dX12_judge_124 rfl (lv_at hl 3 rfl) ?_
                  refine lv_iadd hx hb dX12_judge_125 ?_
                  subst hf
                  exact wj15 _ _ _ hw (lv_sub hl [1, 2, 3, 4, 5, 0] rfl)
                · have hf := ifF hf hc
                  refine lv_iconst (v := 0) hx hb dX12_judge_119 (by decide) ?_
                  refine lv_goto (tgt := 126) hx hb dX12_judge_120 (by decide) ?_
                  subst hf
                  exact wj15 _ _ _ hw (lv_sub hl [1, 2, 3, 4, 5, 0] rfl)
              clear hf
              have hf := hj14
              clear hj14
              refine lv_if_eq (tgt := 111) hx hb dX12_judge_71 (by decide) (fun hc => ?_) (fun hc => ?_)
              · have hf := ifT hf hc
                refine lv_iconst (v := 0) hx hb dX12_judge_111 (by decide) ?_
                have hf := Option.some.inj hf
                subst hf
                exact wj14 _ _ _ hw (lv_sub hl [1, 2, 3, 4, 0] rfl)
              · have hf := ifF hf hc
                refine lv_iload hx hb dX12_judge_74 (lv_at hl 0 rfl) ?_
                refine lv_aload_n hx hb dX12_judge_76 rfl (lv_at hl 1 rfl) ?_
                refine mg_rows cx hw dX12_judge_77 ?_
                refine lv_iconst (v := 3) hx hb dX12_judge_80 (by decide) ?_
                refine lv_iload_n hx hb dX12_judge_81 rfl (lv_at hl 3 rfl) ?_
                refine lv_imul hx hb dX12_judge_82 ?_
                refine lv_iconst (v := 1) hx hb dX12_judge_83 (by decide) ?_
                refine lv_iadd hx hb dX12_judge_84 ?_
                obtain ⟨h9, hf⟩ := ckS hf
                refine ml_rows (j := (((3 : Int32) * v2) + (1 : Int32)).toNatClampNeg) cx hw (ib_in h9) rfl dX12_judge_85 ?_
                obtain ⟨J13, hJ13, hf⟩ := jnS hf
                have wj13 : ∀ (j13 : Unit) (H : Heap) (locs : List Loc) (ls : Array Slot), J13 j13 = some j14 → Wd D A s (mW a t j8.2.1 x_kept x_laid x_isKept j8.2.2 x_tape x_taped x_letters x_at x_begun x_token x_value x_opened x_steps x_code0 x_read x_saved x_plan x_bestPlan x_most x_many x_few x_everRight x_lagThen x_shadedThen x_firstFit x_rows x_rowMany x_sorts x_sizes x_number x_holds x_heldOne x_trace x_traced x_own x_isParted) H locs → lv_has ls 6 [(0, .ref (a 0)), (1, .int v1), (2, .int v2), (3, .int j4), (4, .int j8.1)] → W p l e (rmz 8 0 0) s m args below meth c H locs 0 0 Q (F0 m 111 ls []) := by
                  intro j13 H locs ls hf hw hl
                  have hf := hJ13 _ hf
                  refine lv_iconst (v := 0) hx hb dX12_judge_111 (by decide) ?_
                  have hf := Option.some.inj hf
                  subst hf
                  exact wj14 _ _ _ hw (lv_sub hl [0, 1, 2, 3, 4] rfl)
                clear hJ13
                refine lv_icmp_ne (tgt := 111) hx hb dX12_judge_86 (by decide) (fun hc => ?_) (fun hc => ?_)
                · have hf := ifF hf hc
                  exact wj13 _ _ _ _ hf hw (lv_sub hl [1, 2, 3, 4, 0] rfl)
                · have hf := ifT hf hc
                  refine lv_aload_n hx hb dX12_judge_89 rfl (lv_at hl 1 rfl) ?_
                  refine lv_iconst (v := 4) hx hb dX12_judge_90 (by decide) ?_
                  obtain ⟨r10, h11, hf⟩ := bnS hf
                  refine calVi (k := 0) cx hw hl.1 (c_X12_those h11) q_1399 k_X12_those rfl rfl rfl dX12_judge_91 rfl (Nat.le_of_ble_eq_true rfl) ⟨Nat.le_of_ble_eq_true rfl, Nat.le_of_ble_eq_true rfl⟩ ⟨Nat.le_refl _, Nat.le_refl _⟩ (fun H locs hw => ?_)
                  refine lv_aload_n hx hb dX12_judge_94 rfl (lv_at hl 1 rfl) ?_
                  refine mg_rows cx hw dX12_judge_95 ?_
                  refine lv_iconst (v := 3) hx hb dX12_judge_98 (by decide) ?_
                  refine lv_iload_n hx hb dX12_judge_99 rfl (lv_at hl 3 rfl) ?_
                  refine lv_imul hx hb dX12_judge_100 ?_
                  refine lv_iconst (v := 2) hx hb dX12_judge_101 (by decide) ?_
                  refine lv_iadd hx hb dX12_judge_102 ?_
                  obtain ⟨h12, hf⟩ := ckS hf
                  refine ml_rows (j := (((3 : Int32) * v2) + (2 : Int32)).toNatClampNeg) cx hw (ib_in h12) rfl dX12_judge_103 ?_
                  refine lv_icmp_ne (tgt := 111) hx hb dX12_judge_104 (by decide) (fun hc => ?_) (fun hc => ?_)
                  · have hf := ifF hf hc
                    exact wj13 _ _ _ _ hf hw (lv_sub hl [1, 2, 3, 4, 0] rfl)
                  · have hf := ifT hf hc
                    refine lv_iconst (v := 1) hx hb dX12_judge_107 (by decide) ?_
                    refine lv_goto (tgt := 112) hx hb dX12_judge_108 (by decide) ?_
                    have hf := Option.some.inj hf
                    subst hf
                    exact wj14 _ _ _ hw (lv_sub hl [1, 2, 3, 4, 0] rfl)
            clear hf
            have hf := hj8
            clear hj8
            refine lv_if_eq (tgt := 67) hx hb dX12_judge_49 (by decide) (fun hc => ?_) (fun hc => ?_)
            · have hf := ifT hf hc
              refine lv_iconst (v := 0) hx hb dX12_judge_67 (by decide) ?_
              have hf := Option.some.inj hf
              subst hf
              exact wj8 _ _ _ hw (lv_sub hl [1, 2, 3, 0] rfl)
            · have hf := ifF hf hc
              refine lv_aload_n hx hb dX12_judge_52 rfl (lv_at hl 1 rfl) ?_
              refine lv_aload_n hx hb dX12_judge_53 rfl (lv_at hl 1 rfl) ?_
              refine mg_rows cx hw dX12_judge_54 ?_
              refine lv_iconst (v := 3) hx hb dX12_judge_57 (by decide) ?_
              refine lv_iload_n hx hb dX12_judge_58 rfl (lv_at hl 3 rfl) ?_
              refine lv_imul hx hb dX12_judge_59 ?_
              obtain ⟨h5, hf⟩ := ckS hf
              refine ml_rows (j := ((3 : Int32) * v2).toNatClampNeg) cx hw (ib_in h5) rfl dX12_judge_60 ?_
              obtain ⟨r6, h7, hf⟩ := bnS hf
              refine calVi (k := 0) cx hw hl.1 (c_X12_goesBy h7) q_1418 k_X12_goesBy rfl rfl rfl dX12_judge_61 rfl (Nat.le_of_ble_eq_true rfl) ⟨Nat.le_of_ble_eq_true rfl, Nat.le_of_ble_eq_true rfl⟩ ⟨Nat.le_refl _, Nat.le_refl _⟩ (fun H locs hw => ?_)
              refine lv_goto (tgt := 68) hx hb dX12_judge_64 (by decide) ?_
              have hf := Option.some.inj hf
              subst hf
              exact wj8 _ _ _ hw (lv_sub hl [1, 2, 3, 0] rfl)
          clear hf
          have hf := hj4
          clear hj4
          refine lv_if_eq (tgt := 46) hx hb dX12_judge_32 (by decide) (fun hc => ?_) (fun hc => ?_)
          · have hf := ifT hf hc
            refine lv_iconst (v := 0) hx hb dX12_judge_46 (by decide) ?_
            subst hf
            exact wj4 _ _ _ hw (lv_sub hl [0, 1, 2] rfl)
          · have hf := ifF hf hc
            refine lv_aload_n hx hb dX12_judge_35 rfl (lv_at hl 0 rfl) ?_
            refine calVi (k := 0) cx hw hl.1 (c_X12_isOver rfl) q_1395 k_X12_isOver rfl rfl rfl dX12_judge_36 rfl (Nat.le_of_ble_eq_true rfl) ⟨Nat.le_of_ble_eq_true rfl, Nat.le_of_ble_eq_true rfl⟩ ⟨Nat.le_refl _, Nat.le_refl _⟩ (fun H locs hw => ?_)
            refine lv_if_ne (tgt := 46) hx hb dX12_judge_39 (by decide) (fun hc => ?_) (fun hc => ?_)
            · have hf := ifF hf hc
              refine lv_iconst (v := 0) hx hb dX12_judge_46 (by decide) ?_
              subst hf
              exact wj4 _ _ _ hw (lv_sub hl [0, 1, 2] rfl)
            · have hf := ifT hf hc
              refine lv_iconst (v := 1) hx hb dX12_judge_42 (by decide) ?_
              refine lv_goto (tgt := 47) hx hb dX12_judge_43 (by decide) ?_
              subst hf
              exact wj4 _ _ _ hw (lv_sub hl [0, 1, 2] rfl)
  refine wL1 n ho16 hw (lv_sub hl [2, 1, 0] rfl) (fun H locs ls hw hl => ?_)
  clear wL1 ho16
  refine lv_aload_n hx hb dX12_judge_133 rfl (lv_at hl 0 rfl) ?_
  obtain ⟨r17, h18, hf⟩ := bnS hf
  refine calVv (k := 0) cx hw hl.1 (c_X12_layBack h18) q_1453 k_X12_layBack rfl rfl rfl dX12_judge_134 rfl (Nat.le_of_ble_eq_true rfl) ⟨Nat.le_of_ble_eq_true rfl, Nat.le_of_ble_eq_true rfl⟩ ⟨Nat.le_refl _, Nat.le_refl _⟩ (fun H locs hw => ?_)
  refine lv_iload_n hx hb dX12_judge_137 rfl (lv_at hl 1 rfl) ?_
  have hf := Option.some.inj hf
  subst hf
  exact hR _ _ _ _ _ _ hw rfl ⟨rfl, rfl⟩ dX12_judge_138
theorem dX12_isSheet_0 : decode cX12_isSheet 0 = .ok (.iload_n 0, 1) := by decide +kernel
theorem dX12_isSheet_1 : decode cX12_isSheet 1 = .ok (.iconst 0, 1) := by decide +kernel
theorem dX12_isSheet_2 : decode cX12_isSheet 2 = .ok (.iconst 3, 1) := by decide +kernel
theorem dX12_isSheet_3 : decode cX12_isSheet 3 = .ok (.invokestatic 71, 3) := by decide +kernel
theorem dX12_isSheet_6 : decode cX12_isSheet 6 = .ok (.ireturn, 1) := by decide +kernel
theorem k_X12_isSheet : MS yX12_isSheet cX12_isSheet 1 (some .boolean) 1 := ⟨q_1634, q_14, q_1635, ⟨by decide, by decide, by decide +kernel⟩⟩
theorem c_X12_isSheet {res : Int32} (hf : X12_isSheet v0 = res) : MC l E0 D t yX12_isSheet cX12_isSheet 1 (some .boolean) 2 0 0 [.int v0] (mW a t x_s x_kept x_laid x_isKept x_pile x_tape x_taped x_letters x_at x_begun x_token x_value x_opened x_steps x_code0 x_read x_saved x_plan x_bestPlan x_most x_many x_few x_everRight x_lagThen x_shadedThen x_firstFit x_rows x_rowMany x_sorts x_sizes x_number x_holds x_heldOne x_trace x_traced x_own x_isParted) (Qi res (mW a t x_s x_kept x_laid x_isKept x_pile x_tape x_taped x_letters x_at x_begun x_token x_value x_opened x_steps x_code0 x_read x_saved x_plan x_bestPlan x_most x_many x_few x_everRight x_lagThen x_shadedThen x_firstFit x_rows x_rowMany x_sorts x_sizes x_number x_holds x_heldOne x_trace x_traced x_own x_isParted)) := by
  unfold X12_isSheet at hf
  refine MC.ofI pn_X12 (Nat.le_of_ble_eq_true rfl) ?_
  intro p e s m args below meth c A Q ls cx hR hw hl
  have hx := cx.1
  have hb := cx.2.1
  have hl : lv_has ls 1 [(0, .int v0)] := hl
  refine lv_iload_n hx hb dX12_isSheet_0 rfl (lv_at hl 0 rfl) ?_
  refine lv_iconst (v := 0) hx hb dX12_isSheet_1 (by decide) ?_
  refine lv_iconst (v := 3) hx hb dX12_isSheet_2 (by decide) ?_
  refine calSi cx hw hl.1 (c_X12_in1 rfl) q_1214 k_X12_in1 rfl dX12_isSheet_3 rfl (Nat.le_of_ble_eq_true rfl) ⟨Nat.le_of_ble_eq_true rfl, Nat.le_of_ble_eq_true rfl⟩ ⟨Nat.le_refl _, Nat.le_refl _⟩ (fun H locs hw => ?_)
  subst hf
  exact hR _ _ _ _ _ _ hw (nb (b_X12_in1 _ _ _)) ⟨rfl, rfl⟩ dX12_isSheet_6
theorem b_X12_isSheet (v0 : Int32) : X12_isSheet v0 = 0 ∨ X12_isSheet v0 = 1 := by unfold X12_isSheet; repeat (first | exact Or.inl rfl | exact Or.inr rfl | apply b_X12_in1 | split)
theorem dX12_sheet_0 : decode cX12_sheet 0 = .ok (.iload_n 1, 1) := by decide +kernel
theorem dX12_sheet_1 : decode cX12_sheet 1 = .ok (.invokestatic 331, 3) := by decide +kernel
theorem dX12_sheet_4 : decode cX12_sheet 4 = .ok (.ifCond .eq 22, 3) := by decide +kernel
theorem dX12_sheet_7 : decode cX12_sheet 7 = .ok (.iload_n 2, 1) := by decide +kernel
theorem dX12_sheet_8 : decode cX12_sheet 8 = .ok (.iconst (-1), 1) := by decide +kernel
theorem dX12_sheet_9 : decode cX12_sheet 9 = .ok (.iconst 4, 1) := by decide +kernel
theorem dX12_sheet_10 : decode cX12_sheet 10 = .ok (.invokestatic 71, 3) := by decide +kernel
theorem dX12_sheet_13 : decode cX12_sheet 13 = .ok (.ifCond .eq 13, 3) := by decide +kernel
theorem dX12_sheet_16 : decode cX12_sheet 16 = .ok (.iload_n 2, 1) := by decide +kernel
theorem dX12_sheet_17 : decode cX12_sheet 17 = .ok (.ifCond .lt 11, 3) := by decide +kernel
theorem dX12_sheet_20 : decode cX12_sheet 20 = .ok (.iload_n 3, 1) := by decide +kernel
theorem dX12_sheet_21 : decode cX12_sheet 21 = .ok (.bipush 40, 2) := by decide +kernel
theorem dX12_sheet_23 : decode cX12_sheet 23 = .ok (.if_icmp .le 5, 3) := by decide +kernel
theorem dX12_sheet_26 : decode cX12_sheet 26 = .ok (.iconst (-1), 1) := by decide +kernel
theorem dX12_sheet_27 : decode cX12_sheet 27 = .ok (.ireturn, 1) := by decide +kernel
theorem dX12_sheet_28 : decode cX12_sheet 28 = .ok (.iload_n 2, 1) := by decide +kernel
theorem dX12_sheet_29 : decode cX12_sheet 29 = .ok (.ifCond .lt 10, 3) := by decide +kernel
theorem dX12_sheet_32 : decode cX12_sheet 32 = .ok (.iload_n 3, 1) := by decide +kernel
theorem dX12_sheet_33 : decode cX12_sheet 33 = .ok (.ifCond .ge 6, 3) := by decide +kernel
theorem dX12_sheet_36 : decode cX12_sheet 36 = .ok (.bipush (-14), 2) := by decide +kernel
theorem dX12_sheet_38 : decode cX12_sheet 38 = .ok (.ireturn, 1) := by decide +kernel
theorem dX12_sheet_39 : decode cX12_sheet 39 = .ok (.aload_n 0, 1) := by decide +kernel
theorem dX12_sheet_40 : decode cX12_sheet 40 = .ok (.getfield 53, 3) := by decide +kernel
theorem dX12_sheet_43 : decode cX12_sheet 43 = .ok (.iload_n 1, 1) := by decide +kernel
theorem dX12_sheet_44 : decode cX12_sheet 44 = .ok (.iload_n 2, 1) := by decide +kernel
theorem dX12_sheet_45 : decode cX12_sheet 45 = .ok (.iastore, 1) := by decide +kernel
theorem dX12_sheet_46 : decode cX12_sheet 46 = .ok (.aload_n 0, 1) := by decide +kernel
theorem dX12_sheet_47 : decode cX12_sheet 47 = .ok (.getfield 56, 3) := by decide +kernel
theorem dX12_sheet_50 : decode cX12_sheet 50 = .ok (.iload_n 1, 1) := by decide +kernel
theorem dX12_sheet_51 : decode cX12_sheet 51 = .ok (.iload_n 2, 1) := by decide +kernel
theorem dX12_sheet_52 : decode cX12_sheet 52 = .ok (.ifCond .ge 7, 3) := by decide +kernel
theorem dX12_sheet_55 : decode cX12_sheet 55 = .ok (.iconst 0, 1) := by decide +kernel
theorem dX12_sheet_56 : decode cX12_sheet 56 = .ok (.goto 4, 3) := by decide +kernel
theorem dX12_sheet_59 : decode cX12_sheet 59 = .ok (.iload_n 3, 1) := by decide +kernel
theorem dX12_sheet_60 : decode cX12_sheet 60 = .ok (.iastore, 1) := by decide +kernel
theorem dX12_sheet_61 : decode cX12_sheet 61 = .ok (.iconst 0, 1) := by decide +kernel
theorem dX12_sheet_62 : decode cX12_sheet 62 = .ok (.istore 4, 2) := by decide +kernel
theorem dX12_sheet_64 : decode cX12_sheet 64 = .ok (.iload 4, 2) := by decide +kernel
theorem dX12_sheet_66 : decode cX12_sheet 66 = .ok (.bipush 40, 2) := by decide +kernel
theorem dX12_sheet_68 : decode cX12_sheet 68 = .ok (.if_icmp .ge 22, 3) := by decide +kernel
theorem dX12_sheet_71 : decode cX12_sheet 71 = .ok (.aload_n 0, 1) := by decide +kernel
theorem dX12_sheet_72 : decode cX12_sheet 72 = .ok (.getfield 59, 3) := by decide +kernel
theorem dX12_sheet_75 : decode cX12_sheet 75 = .ok (.bipush 40, 2) := by decide +kernel
theorem dX12_sheet_77 : decode cX12_sheet 77 = .ok (.iload_n 1, 1) := by decide +kernel
theorem dX12_sheet_78 : decode cX12_sheet 78 = .ok (.imul, 1) := by decide +kernel
theorem dX12_sheet_79 : decode cX12_sheet 79 = .ok (.iload 4, 2) := by decide +kernel
theorem dX12_sheet_81 : decode cX12_sheet 81 = .ok (.iadd, 1) := by decide +kernel
theorem dX12_sheet_82 : decode cX12_sheet 82 = .ok (.iconst 0, 1) := by decide +kernel
theorem dX12_sheet_83 : decode cX12_sheet 83 = .ok (.iastore, 1) := by decide +kernel
theorem dX12_sheet_84 : decode cX12_sheet 84 = .ok (.iinc 4 1, 3) := by decide +kernel
theorem dX12_sheet_87 : decode cX12_sheet 87 = .ok (.goto (-23), 3) := by decide +kernel
theorem dX12_sheet_90 : decode cX12_sheet 90 = .ok (.iconst 1, 1) := by decide +kernel
theorem dX12_sheet_91 : decode cX12_sheet 91 = .ok (.ireturn, 1) := by decide +kernel
theorem k_X12_sheet : MV yX12_sheet cX12_sheet 5 (some .int) 3 := ⟨q_1630, q_1631, q_14, q_1632, ⟨by decide, by decide, by decide +kernel⟩⟩
theorem c_X12_sheet {res : Int32 × (Nat → Int32) × (Nat → Int32) × (Nat → Int32)} (hf : X12_sheet n x_sorts x_sizes x_number v1 v2 v3 = some res) : MC l E0 D t yX12_sheet cX12_sheet 5 (some .int) 3 0 0 [.ref (a 0), .int v1, .int v2, .int v3] (mW a t x_s x_kept x_laid x_isKept x_pile x_tape x_taped x_letters x_at x_begun x_token x_value x_opened x_steps x_code0 x_read x_saved x_plan x_bestPlan x_most x_many x_few x_everRight x_lagThen x_shadedThen x_firstFit x_rows x_rowMany x_sorts x_sizes x_number x_holds x_heldOne x_trace x_traced x_own x_isParted) (Qi res.1 (mW a t x_s x_kept x_laid x_isKept x_pile x_tape x_taped x_letters x_at x_begun x_token x_value x_opened x_steps x_code0 x_read x_saved x_plan x_bestPlan x_most x_many x_few x_everRight x_lagThen x_shadedThen x_firstFit x_rows x_rowMany res.2.1 res.2.2.1 res.2.2.2 x_holds x_heldOne x_trace x_traced x_own x_isParted)) := by
  unfold X12_sheet at hf
  refine MC.ofI pn_X12 (Nat.le_of_ble_eq_true rfl) ?_
  intro p e s m args below meth c A Q ls cx hR hw hl
  have hx := cx.1
  have hb := cx.2.1
  have hl : lv_has ls 5 [(0, .ref (a 0)), (1, .int v1), (2, .int v2), (3, .int v3)] := hl
  refine lv_iload_n hx hb dX12_sheet_0 rfl (lv_at hl 1 rfl) ?_
  refine calSi cx hw hl.1 (c_X12_isSheet rfl) q_1633 k_X12_isSheet rfl dX12_sheet_1 rfl (Nat.le_of_ble_eq_true rfl) ⟨Nat.le_of_ble_eq_true rfl, Nat.le_of_ble_eq_true rfl⟩ ⟨Nat.le_refl _, Nat.le_refl _⟩ (fun H locs hw => ?_)
  refine lv_if_eq (tgt := 26) hx hb dX12_sheet_4 (by decide) (fun hc => ?_) (fun hc => ?_)
  · have hf := ifT hf hc
    refine lv_iconst (v := (-1)) hx hb dX12_sheet_26 (by decide) ?_
    have hf := Option.some.inj hf
    subst hf
    exact hR _ _ _ _ _ _ hw rfl ⟨rfl, rfl⟩ dX12_sheet_27
  · have hf := ifF hf hc
    refine lv_iload_n hx hb dX12_sheet_7 rfl (lv_at hl 2 rfl) ?_
    refine lv_iconst (v := (-1)) hx hb dX12_sheet_8 (by decide) ?_
    refine lv_iconst (v := 4) hx hb dX12_sheet_9 (by decide) ?_
    refine calSi cx hw hl.1 (c_X12_in1 rfl) q_1214 k_X12_in1 rfl dX12_sheet_10 rfl (Nat.le_of_ble_eq_true rfl) ⟨Nat.le_of_ble_eq_true rfl, Nat.le_of_ble_eq_true rfl⟩ ⟨Nat.le_refl _, Nat.le_refl _⟩ (fun H locs hw => ?_)
    refine lv_if_eq (tgt := 26) hx hb dX12_sheet_13 (by decide) (fun hc => ?_) (fun hc => ?_)
    · have hf := ifT hf hc
      refine lv_iconst (v := (-1)) hx hb dX12_sheet_26 (by decide) ?_
      have hf := Option.some.inj hf
      subst hf
      exact hR _ _ _ _ _ _ hw rfl ⟨rfl, rfl⟩ dX12_sheet_27
    · have hf := ifF hf hc
      refine lv_iload_n hx hb dX12_sheet_16 rfl (lv_at hl 2 rfl) ?_
      obtain ⟨J1, hJ1, hf⟩ := jnS hf
      have wj1 : ∀ (j1 : Unit) (H : Heap) (locs : List Loc) (ls : Array Slot), J1 j1 = some res → Wd D A s (mW a t x_s x_kept x_laid x_isKept x_pile x_tape x_taped x_letters x_at x_begun x_token x_value x_opened x_steps x_code0 x_read x_saved x_plan x_bestPlan x_most x_many x_few x_everRight x_lagThen x_shadedThen x_firstFit x_rows x_rowMany x_sorts x_sizes x_number x_holds x_heldOne x_trace x_traced x_own x_isParted) H locs → lv_has ls 5 [(0, .ref (a 0)), (1, .int v1), (2, .int v2), (3, .int v3)] → W p l e (rmz 3 0 0) s m args below meth c H locs 0 0 Q (F0 m 28 ls []) := by
        intro j1 H locs ls hf hw hl
        have hf := hJ1 _ hf
        refine lv_iload_n hx hb dX12_sheet_28 rfl (lv_at hl 2 rfl) ?_
        obtain ⟨J2, hJ2, hf⟩ := jnS hf
        have wj2 : ∀ (j2 : Unit) (H : Heap) (locs : List Loc) (ls : Array Slot), J2 j2 = some res → Wd D A s (mW a t x_s x_kept x_laid x_isKept x_pile x_tape x_taped x_letters x_at x_begun x_token x_value x_opened x_steps x_code0 x_read x_saved x_plan x_bestPlan x_most x_many x_few x_everRight x_lagThen x_shadedThen x_firstFit x_rows x_rowMany x_sorts x_sizes x_number x_holds x_heldOne x_trace x_traced x_own x_isParted) H locs → lv_has ls 5 [(0, .ref (a 0)), (1, .int v1), (2, .int v2), (3, .int v3)] → W p l e (rmz 3 0 0) s m args below meth c H locs 0 0 Q (F0 m 39 ls []) := by
          intro j2 H locs ls hf hw hl
          have hf := hJ2 _ hf
          refine lv_aload_n hx hb dX12_sheet_39 rfl (lv_at hl 0 rfl) ?_
          refine mg_sorts cx hw dX12_sheet_40 ?_
          refine lv_iload_n hx hb dX12_sheet_43 rfl (lv_at hl 1 rfl) ?_
          refine lv_iload_n hx hb dX12_sheet_44 rfl (lv_at hl 2 rfl) ?_
          obtain ⟨h3, hf⟩ := ckS hf
          refine ms_sorts (j := v1.toNatClampNeg) cx hw (ib_in h3) rfl dX12_sheet_45 (fun H locs hw => ?_)
          refine lv_aload_n hx hb dX12_sheet_46 rfl (lv_at hl 0 rfl) ?_
          refine mg_sizes cx hw dX12_sheet_47 ?_
          refine lv_iload_n hx hb dX12_sheet_50 rfl (lv_at hl 1 rfl) ?_
          refine lv_iload_n hx hb dX12_sheet_51 rfl (lv_at hl 2 rfl) ?_
          obtain ⟨j4, hj4, hf⟩ := pbS hf
          have wj4 : ∀ (H : Heap) (locs : List Loc) (ls : Array Slot), Wd D A s (mW a t x_s x_kept x_laid x_isKept x_pile x_tape x_taped x_letters x_at x_begun x_token x_value x_opened x_steps x_code0 x_read x_saved x_plan x_bestPlan x_most x_many x_few x_everRight x_lagThen x_shadedThen x_firstFit x_rows x_rowMany (upd x_sorts v1.toNatClampNeg v2) x_sizes x_number x_holds x_heldOne x_trace x_traced x_own x_isParted) H locs → lv_has ls 5 [(0, .ref (a 0)), (1, .int v1), (2, .int v2), (3, .int v3)] → W p l e (rmz 3 0 0) s m args below meth c H locs 0 0 Q (F0 m 60 ls [.int j4, .int v1, .ref (a 16)]) := by
            intro H locs ls hw hl
            obtain ⟨h5, hf⟩ := ckS hf
            refine ms_sizes (j := v1.toNatClampNeg) cx hw (ib_in h5) rfl dX12_sheet_60 (fun H locs hw => ?_)
            refine lv_iconst (v := 0) hx hb dX12_sheet_61 (by decide) ?_
            refine lv_istore (lv' := [(4, .int (0 : Int32)), (0, .ref (a 0)), (1, .int v1), (2, .int v2), (3, .int v3)]) hx hb dX12_sheet_62 hl (by decide) rfl (fun ls hl => ?_)
            obtain ⟨o7, ho7, hf⟩ := bnS hf
            have wL1 : ∀ (k : Nat) {v1 : Int32} {v2 : Int32} {v3 : Int32} {v4 : Int32} {x_sorts : Nat → Int32} {x_sizes : Nat → Int32} {x_number : Nat → Int32} {H : Heap} {locs : List Loc} {ls : Array Slot} {o : Int32 × (Nat → Int32)}, X12_sheet_L1 n v1 k v4 x_number = some o → Wd D A s (mW a t x_s x_kept x_laid x_isKept x_pile x_tape x_taped x_letters x_at x_begun x_token x_value x_opened x_steps x_code0 x_read x_saved x_plan x_bestPlan x_most x_many x_few x_everRight x_lagThen x_shadedThen x_firstFit x_rows x_rowMany x_sorts x_sizes x_number x_holds x_heldOne x_trace x_traced x_own x_isParted) H locs → lv_has ls 5 [(0, .ref (a 0)), (1, .int v1), (2, .int v2), (3, .int v3), (4, .int v4)] → (∀ (H : Heap) (locs : List Loc) (ls : Array Slot), Wd D A s (mW a t x_s x_kept x_laid x_isKept x_pile x_tape x_taped x_letters x_at x_begun x_token x_value x_opened x_steps x_code0 x_read x_saved x_plan x_bestPlan x_most x_many x_few x_everRight x_lagThen x_shadedThen x_firstFit x_rows x_rowMany x_sorts x_sizes o.2 x_holds x_heldOne x_trace x_traced x_own x_isParted) H locs → lv_has ls 5 [(0, .ref (a 0)), (1, .int v1), (2, .int v2), (3, .int v3), (4, .int o.1)] → W p l e (rmz 3 0 0) s m args below meth c H locs 0 0 Q (F0 m 90 ls [])) → W p l e (rmz 3 0 0) s m args below meth c H locs 0 0 Q (F0 m 64 ls []) := by
              clear hf ho7 hw hl
              intro k
              induction k with
              | zero => intro v1 v2 v3 v4 x_sorts x_sizes x_number H locs ls o hf hw hl kx; simp [X12_sheet_L1] at hf
              | succ k ih =>
                intro v1 v2 v3 v4 x_sorts x_sizes x_number H locs ls o hf hw hl kx
                rw [X12_sheet_L1] at hf
                refine lv_iload hx hb dX12_sheet_64 (lv_at hl 4 rfl) ?_
                refine lv_bipush (v := 40) hx hb dX12_sheet_66 (by decide) ?_
                refine lv_icmp_ge (tgt := 90) hx hb dX12_sheet_68 (by decide) (fun hc => ?_) (fun hc => ?_)
                · have hf := ifT hf hc
                  have hf := Option.some.inj hf
                  subst hf
                  exact kx _ _ _ hw (lv_sub hl [0, 1, 2, 3, 4] rfl)
                · have hf := ifF hf hc
                  refine lv_aload_n hx hb dX12_sheet_71 rfl (lv_at hl 0 rfl) ?_
                  refine mg_number cx hw dX12_sheet_72 ?_
                  refine lv_bipush (v := 40) hx hb dX12_sheet_75 (by decide) ?_
                  refine lv_iload_n hx hb dX12_sheet_77 rfl (lv_at hl 1 rfl) ?_
                  refine lv_imul hx hb dX12_sheet_78 ?_
                  refine lv_iload hx hb dX12_sheet_79 (lv_at hl 4 rfl) ?_
                  refine lv_iadd hx hb dX12_sheet_81 ?_
                  refine lv_iconst (v := 0) hx hb dX12_sheet_82 (by decide) ?_
                  obtain ⟨h6, hf⟩ := ckS hf
                  refine ms_number (j := (((40 : Int32) * v1) + v4).toNatClampNeg) cx hw (ib_in h6) rfl dX12_sheet_83 (fun H locs hw => ?_)
                  refine lv_iinc (v := (v4 + (1 : Int32))) (lv' := [(4, .int (v4 + (1 : Int32))), (0, .ref (a 0)), (1, .int v1), (2, .int v2), (3, .int v3)]) hx hb dX12_sheet_84 hl (k := 4) rfl rfl (by decide) rfl (fun ls hl => ?_)
                  refine lv_goto (tgt := 64) hx hb dX12_sheet_87 (by decide) ?_
                  exact ih hf hw (lv_sub hl [1, 2, 3, 4, 0] rfl) kx
            refine wL1 n ho7 hw (lv_sub hl [1, 2, 3, 4, 0] rfl) (fun H locs ls hw hl => ?_)
            clear wL1 ho7
            refine lv_iconst (v := 1) hx hb dX12_sheet_90 (by decide) ?_
            have hf := Option.some.inj hf
            subst hf
            exact hR _ _ _ _ _ _ hw rfl ⟨rfl, rfl⟩ dX12_sheet_91
          clear hf
          have hf := hj4
          clear hj4
          refine lv_if_ge (tgt := 59) hx hb dX12_sheet_52 (by decide) (fun hc => ?_) (fun hc => ?_)
          · have hf := ifT hf hc
            refine lv_iload_n hx hb dX12_sheet_59 rfl (lv_at hl 3 rfl) ?_
            subst hf
            exact wj4 _ _ _ hw (lv_sub hl [0, 1, 2, 3] rfl)
          · have hf := ifF hf hc
            refine lv_iconst (v := 0) hx hb dX12_sheet_55 (by decide) ?_
            refine lv_goto (tgt := 60) hx hb dX12_sheet_56 (by decide) ?_
            subst hf
            exact wj4 _ _ _ hw (lv_sub hl [0, 1, 2, 3] rfl)
        clear hJ2
        refine lv_if_lt (tgt := 39) hx hb dX12_sheet_29 (by decide) (fun hc => ?_) (fun hc => ?_)
        · have hf := ifT hf hc
          exact wj2 _ _ _ _ hf hw (lv_sub hl [0, 1, 2, 3] rfl)
        · have hf := ifF hf hc
          refine lv_iload_n hx hb dX12_sheet_32 rfl (lv_at hl 3 rfl) ?_
          refine lv_if_ge (tgt := 39) hx hb dX12_sheet_33 (by decide) (fun hc => ?_) (fun hc => ?_)
          · have hf := ifT hf hc
            exact wj2 _ _ _ _ hf hw (lv_sub hl [0, 1, 2, 3] rfl)
          · have hf := ifF hf hc
            refine lv_bipush (v := (-14)) hx hb dX12_sheet_36 (by decide) ?_
            have hf := Option.some.inj hf
            subst hf
            exact hR _ _ _ _ _ _ hw rfl ⟨rfl, rfl⟩ dX12_sheet_38
      clear hJ1
      refine lv_if_lt (tgt := 28) hx hb dX12_sheet_17 (by decide) (fun hc => ?_) (fun hc => ?_)
      · have hf := ifT hf hc
        exact wj1 _ _ _ _ hf hw (lv_sub hl [0, 1, 2, 3] rfl)
      · have hf := ifF hf hc
        refine lv_iload_n hx hb dX12_sheet_20 rfl (lv_at hl 3 rfl) ?_
        refine lv_bipush (v := 40) hx hb dX12_sheet_21 (by decide) ?_
        refine lv_icmp_le (tgt := 28) hx hb dX12_sheet_23 (by decide) (fun hc => ?_) (fun hc => ?_)
        · have hf := ifT hf hc
          exact wj1 _ _ _ _ hf hw (lv_sub hl [0, 1, 2, 3] rfl)
        · have hf := ifF hf hc
          refine lv_iconst (v := (-1)) hx hb dX12_sheet_26 (by decide) ?_
          have hf := Option.some.inj hf
          subst hf
          exact hR _ _ _ _ _ _ hw rfl ⟨rfl, rfl⟩ dX12_sheet_27
theorem dX12_narrowed_0 : decode cX12_narrowed 0 = .ok (.iload_n 1, 1) := by decide +kernel
theorem dX12_narrowed_1 : decode cX12_narrowed 1 = .ok (.ifCond .ne 8, 3) := by decide +kernel
theorem dX12_narrowed_4 : decode cX12_narrowed 4 = .ok (.iload_n 0, 1) := by decide +kernel
theorem dX12_narrowed_5 : decode cX12_narrowed 5 = .ok (.i2b, 1) := by decide +kernel
theorem dX12_narrowed_6 : decode cX12_narrowed 6 = .ok (.goto 31, 3) := by decide +kernel
theorem dX12_narrowed_9 : decode cX12_narrowed 9 = .ok (.iload_n 1, 1) := by decide +kernel
theorem dX12_narrowed_10 : decode cX12_narrowed 10 = .ok (.iconst 1, 1) := by decide +kernel
theorem dX12_narrowed_11 : decode cX12_narrowed 11 = .ok (.if_icmp .ne 8, 3) := by decide +kernel
theorem dX12_narrowed_14 : decode cX12_narrowed 14 = .ok (.iload_n 0, 1) := by decide +kernel
theorem dX12_narrowed_15 : decode cX12_narrowed 15 = .ok (.i2s, 1) := by decide +kernel
theorem dX12_narrowed_16 : decode cX12_narrowed 16 = .ok (.goto 21, 3) := by decide +kernel
theorem dX12_narrowed_19 : decode cX12_narrowed 19 = .ok (.iload_n 1, 1) := by decide +kernel
theorem dX12_narrowed_20 : decode cX12_narrowed 20 = .ok (.iconst 4, 1) := by decide +kernel
theorem dX12_narrowed_21 : decode cX12_narrowed 21 = .ok (.if_icmp .ne 15, 3) := by decide +kernel
theorem dX12_narrowed_24 : decode cX12_narrowed 24 = .ok (.iload_n 0, 1) := by decide +kernel
theorem dX12_narrowed_25 : decode cX12_narrowed 25 = .ok (.ifCond .eq 7, 3) := by decide +kernel
theorem dX12_narrowed_28 : decode cX12_narrowed 28 = .ok (.iconst 1, 1) := by decide +kernel
theorem dX12_narrowed_29 : decode cX12_narrowed 29 = .ok (.goto 8, 3) := by decide +kernel
theorem dX12_narrowed_32 : decode cX12_narrowed 32 = .ok (.iconst 0, 1) := by decide +kernel
theorem dX12_narrowed_33 : decode cX12_narrowed 33 = .ok (.goto 4, 3) := by decide +kernel
theorem dX12_narrowed_36 : decode cX12_narrowed 36 = .ok (.iload_n 0, 1) := by decide +kernel
theorem dX12_narrowed_37 : decode cX12_narrowed 37 = .ok (.ireturn, 1) := by decide +kernel
theorem k_X12_narrowed : MS yX12_narrowed cX12_narrowed 2 (some .int) 2 := ⟨q_1641, q_14, q_1642, ⟨by decide, by decide, by decide +kernel⟩⟩
theorem c_X12_narrowed {res : Int32} (hf : X12_narrowed v0 v1 = res) : MC l E0 D t yX12_narrowed cX12_narrowed 2 (some .int) 1 0 0 [.int v0, .int v1] (mW a t x_s x_kept x_laid x_isKept x_pile x_tape x_taped x_letters x_at x_begun x_token x_value x_opened x_steps x_code0 x_read x_saved x_plan x_bestPlan x_most x_many x_few x_everRight x_lagThen x_shadedThen x_firstFit x_rows x_rowMany x_sorts x_sizes x_number x_holds x_heldOne x_trace x_traced x_own x_isParted) (Qi res (mW a t x_s x_kept x_laid x_isKept x_pile x_tape x_taped x_letters x_at x_begun x_token x_value x_opened x_steps x_code0 x_read x_saved x_plan x_bestPlan x_most x_many x_few x_everRight x_lagThen x_shadedThen x_firstFit x_rows x_rowMany x_sorts x_sizes x_number x_holds x_heldOne x_trace x_traced x_own x_isParted)) := by
  unfold X12_narrowed at hf
  refine MC.ofI pn_X12 (Nat.le_of_ble_eq_true rfl) ?_
  intro p e s m args below meth c A Q ls cx hR hw hl
  have hx := cx.1
  have hb := cx.2.1
  have hl : lv_has ls 2 [(0, .int v0), (1, .int v1)] := hl
  refine lv_iload_n hx hb dX12_narrowed_0 rfl (lv_at hl 1 rfl) ?_
  refine lv_if_ne (tgt := 9) hx hb dX12_narrowed_1 (by decide) (fun hc => ?_) (fun hc => ?_)
  · have hf := ifF hf hc
    refine lv_iload_n hx hb dX12_narrowed_9 rfl (lv_at hl 1 rfl) ?_
    refine lv_iconst (v := 1) hx hb dX12_narrowed_10 (by decide) ?_
    refine lv_icmp_ne (tgt := 19) hx hb dX12_narrowed_11 (by decide) (fun hc => ?_) (fun hc => ?_)
    · have hf := ifF hf hc
      refine lv_iload_n hx hb dX12_narrowed_19 rfl (lv_at hl 1 rfl) ?_
      refine lv_iconst (v := 4) hx hb dX12_narrowed_20 (by decide) ?_
      refine lv_icmp_ne (tgt := 36) hx hb dX12_narrowed_21 (by decide) (fun hc => ?_) (fun hc => ?_)
      · have hf := ifF hf hc
        refine lv_iload_n hx hb dX12_narrowed_36 rfl (lv_at hl 0 rfl) ?_
        subst hf
        exact hR _ _ _ _ _ _ hw rfl ⟨rfl, rfl⟩ dX12_narrowed_37
      · have hf := ifT hf hc
        refine lv_iload_n hx hb dX12_narrowed_24 rfl (lv_at hl 0 rfl) ?_
        refine lv_if_eq (tgt := 32) hx hb dX12_narrowed_25 (by decide) (fun hc => ?_) (fun hc => ?_)
        · have hf := ifT hf hc
          refine lv_iconst (v := 0) hx hb dX12_narrowed_32 (by decide) ?_
          refine lv_goto (tgt := 37) hx hb dX12_narrowed_33 (by decide) ?_
          subst hf
          exact hR _ _ _ _ _ _ hw rfl ⟨rfl, rfl⟩ dX12_narrowed_37
        · have hf := ifF hf hc
          refine lv_iconst (v := 1) hx hb dX12_narrowed_28 (by decide) ?_
          refine lv_goto (tgt := 37) hx hb dX12_narrowed_29 (by decide) ?_
          subst hf
          exact hR _ _ _ _ _ _ hw rfl ⟨rfl, rfl⟩ dX12_narrowed_37
    · have hf := ifT hf hc
      refine lv_iload_n hx hb dX12_narrowed_14 rfl (lv_at hl 0 rfl) ?_
      refine lv_i2s hx hb dX12_narrowed_15 rfl ?_
      refine lv_goto (tgt := 37) hx hb dX12_narrowed_16 (by decide) ?_
      subst hf
      exact hR _ _ _ _ _ _ hw rfl ⟨rfl, rfl⟩ dX12_narrowed_37
  · have hf := ifT hf hc
    refine lv_iload_n hx hb dX12_narrowed_4 rfl (lv_at hl 0 rfl) ?_
    refine lv_i2b hx hb dX12_narrowed_5 rfl ?_
    refine lv_goto (tgt := 37) hx hb dX12_narrowed_6 (by decide) ?_
    subst hf
    exact hR _ _ _ _ _ _ hw rfl ⟨rfl, rfl⟩ dX12_narrowed_37
theorem dX12_write_0 : decode cX12_write 0 = .ok (.iload_n 1, 1) := by decide +kernel
theorem dX12_write_1 : decode cX12_write 1 = .ok (.invokestatic 331, 3) := by decide +kernel
theorem dX12_write_4 : decode cX12_write 4 = .ok (.ifCond .ne 5, 3) := by decide +kernel
theorem dX12_write_7 : decode cX12_write 7 = .ok (.iconst (-1), 1) := by decide +kernel
theorem dX12_write_8 : decode cX12_write 8 = .ok (.ireturn, 1) := by decide +kernel
theorem dX12_write_9 : decode cX12_write 9 = .ok (.aload_n 0, 1) := by decide +kernel
theorem dX12_write_10 : decode cX12_write 10 = .ok (.getfield 53, 3) := by decide +kernel
theorem dX12_write_13 : decode cX12_write 13 = .ok (.iload_n 1, 1) := by decide +kernel
theorem dX12_write_14 : decode cX12_write 14 = .ok (.iaload, 1) := by decide +kernel
theorem dX12_write_15 : decode cX12_write 15 = .ok (.ifCond .ge 6, 3) := by decide +kernel
theorem dX12_write_18 : decode cX12_write 18 = .ok (.bipush (-11), 2) := by decide +kernel
theorem dX12_write_20 : decode cX12_write 20 = .ok (.ireturn, 1) := by decide +kernel
theorem dX12_write_21 : decode cX12_write 21 = .ok (.iload_n 2, 1) := by decide +kernel
theorem dX12_write_22 : decode cX12_write 22 = .ok (.iconst 0, 1) := by decide +kernel
theorem dX12_write_23 : decode cX12_write 23 = .ok (.aload_n 0, 1) := by decide +kernel
theorem dX12_write_24 : decode cX12_write 24 = .ok (.getfield 56, 3) := by decide +kernel
theorem dX12_write_27 : decode cX12_write 27 = .ok (.iload_n 1, 1) := by decide +kernel
theorem dX12_write_28 : decode cX12_write 28 = .ok (.iaload, 1) := by decide +kernel
theorem dX12_write_29 : decode cX12_write 29 = .ok (.iconst 1, 1) := by decide +kernel
theorem dX12_write_30 : decode cX12_write 30 = .ok (.isub, 1) := by decide +kernel
theorem dX12_write_31 : decode cX12_write 31 = .ok (.invokestatic 71, 3) := by decide +kernel
theorem dX12_write_34 : decode cX12_write 34 = .ok (.ifCond .ne 6, 3) := by decide +kernel
theorem dX12_write_37 : decode cX12_write 37 = .ok (.bipush (-12), 2) := by decide +kernel
theorem dX12_write_39 : decode cX12_write 39 = .ok (.ireturn, 1) := by decide +kernel
theorem dX12_write_40 : decode cX12_write 40 = .ok (.aload_n 0, 1) := by decide +kernel
theorem dX12_write_41 : decode cX12_write 41 = .ok (.getfield 59, 3) := by decide +kernel
theorem dX12_write_44 : decode cX12_write 44 = .ok (.bipush 40, 2) := by decide +kernel
theorem dX12_write_46 : decode cX12_write 46 = .ok (.iload_n 1, 1) := by decide +kernel
theorem dX12_write_47 : decode cX12_write 47 = .ok (.imul, 1) := by decide +kernel
theorem dX12_write_48 : decode cX12_write 48 = .ok (.iload_n 2, 1) := by decide +kernel
theorem dX12_write_49 : decode cX12_write 49 = .ok (.iadd, 1) := by decide +kernel
theorem dX12_write_50 : decode cX12_write 50 = .ok (.iload_n 3, 1) := by decide +kernel
theorem dX12_write_51 : decode cX12_write 51 = .ok (.aload_n 0, 1) := by decide +kernel
theorem dX12_write_52 : decode cX12_write 52 = .ok (.getfield 53, 3) := by decide +kernel
theorem dX12_write_55 : decode cX12_write 55 = .ok (.iload_n 1, 1) := by decide +kernel
theorem dX12_write_56 : decode cX12_write 56 = .ok (.iaload, 1) := by decide +kernel
theorem dX12_write_57 : decode cX12_write 57 = .ok (.invokestatic 334, 3) := by decide +kernel
theorem dX12_write_60 : decode cX12_write 60 = .ok (.iastore, 1) := by decide +kernel
theorem dX12_write_61 : decode cX12_write 61 = .ok (.iconst 1, 1) := by decide +kernel
theorem dX12_write_62 : decode cX12_write 62 = .ok (.ireturn, 1) := by decide +kernel
theorem k_X12_write : MV yX12_write cX12_write 4 (some .int) 3 := ⟨q_1637, q_1638, q_14, q_1639, ⟨by decide, by decide, by decide +kernel⟩⟩
theorem c_X12_write {res : Int32 × (Nat → Int32)} (hf : X12_write x_sorts x_sizes x_number v1 v2 v3 = some res) : MC l E0 D t yX12_write cX12_write 4 (some .int) 3 0 0 [.ref (a 0), .int v1, .int v2, .int v3] (mW a t x_s x_kept x_laid x_isKept x_pile x_tape x_taped x_letters x_at x_begun x_token x_value x_opened x_steps x_code0 x_read x_saved x_plan x_bestPlan x_most x_many x_few x_everRight x_lagThen x_shadedThen x_firstFit x_rows x_rowMany x_sorts x_sizes x_number x_holds x_heldOne x_trace x_traced x_own x_isParted) (Qi res.1 (mW a t x_s x_kept x_laid x_isKept x_pile x_tape x_taped x_letters x_at x_begun x_token x_value x_opened x_steps x_code0 x_read x_saved x_plan x_bestPlan x_most x_many x_few x_everRight x_lagThen x_shadedThen x_firstFit x_rows x_rowMany x_sorts x_sizes res.2 x_holds x_heldOne x_trace x_traced x_own x_isParted)) := by
  unfold X12_write at hf
  refine MC.ofI pn_X12 (Nat.le_of_ble_eq_true rfl) ?_
  intro p e s m args below meth c A Q ls cx hR hw hl
  have hx := cx.1
  have hb := cx.2.1
  have hl : lv_has ls 4 [(0, .ref (a 0)), (1, .int v1), (2, .int v2), (3, .int v3)] := hl
  refine lv_iload_n hx hb dX12_write_0 rfl (lv_at hl 1 rfl) ?_
  refine calSi cx hw hl.1 (c_X12_isSheet rfl) q_1633 k_X12_isSheet rfl dX12_write_1 rfl (Nat.le_of_ble_eq_true rfl) ⟨Nat.le_of_ble_eq_true rfl, Nat.le_of_ble_eq_true rfl⟩ ⟨Nat.le_refl _, Nat.le_refl _⟩ (fun H locs hw => ?_)
  refine lv_if_ne (tgt := 9) hx hb dX12_write_4 (by decide) (fun hc => ?_) (fun hc => ?_)
  · have hf := ifF hf hc
    refine lv_aload_n hx hb dX12_write_9 rfl (lv_at hl 0 rfl) ?_
    refine mg_sorts cx hw dX12_write_10 ?_
    refine lv_iload_n hx hb dX12_write_13 rfl (lv_at hl 1 rfl) ?_
    obtain ⟨h1, hf⟩ := ckS hf
    refine ml_sorts (j := v1.toNatClampNeg) cx hw (ib_in h1) rfl dX12_write_14 ?_
    refine lv_if_ge (tgt := 21) hx hb dX12_write_15 (by decide) (fun hc => ?_) (fun hc => ?_)
    · have hf := ifT hf hc
      refine lv_iload_n hx hb dX12_write_21 rfl (lv_at hl 2 rfl) ?_
      refine lv_iconst (v := 0) hx hb dX12_write_22 (by decide) ?_
      refine lv_aload_n hx hb dX12_write_23 rfl (lv_at hl 0 rfl) ?_
      refine mg_sizes cx hw dX12_write_24 ?_
      refine lv_iload_n hx hb dX12_write_27 rfl (lv_at hl 1 rfl) ?_
      obtain ⟨h2, hf⟩ := ckS hf
      refine ml_sizes (j := v1.toNatClampNeg) cx hw (ib_in h2) rfl dX12_write_28 ?_
      refine lv_iconst (v := 1) hx hb dX12_write_29 (by decide) ?_
      refine lv_isub hx hb dX12_write_30 ?_
      refine calSi cx hw hl.1 (c_X12_in1 rfl) q_1214 k_X12_in1 rfl dX12_write_31 rfl (Nat.le_of_ble_eq_true rfl) ⟨Nat.le_of_ble_eq_true rfl, Nat.le_of_ble_eq_true rfl⟩ ⟨Nat.le_refl _, Nat.le_refl _⟩ (fun H locs hw => ?_)
      refine lv_if_ne (tgt := 40) hx hb dX12_write_34 (by decide) (fun hc => ?_) (fun hc => ?_)
      · have hf := ifF hf hc
        refine lv_aload_n hx hb dX12_write_40 rfl (lv_at hl 0 rfl) ?_
        refine mg_number cx hw dX12_write_41 ?_
        refine lv_bipush (v := 40) hx hb dX12_write_44 (by decide) ?_
        refine lv_iload_n hx hb dX12_write_46 rfl (lv_at hl 1 rfl) ?_
        refine lv_imul hx hb dX12_write_47 ?_
        refine lv_iload_n hx hb dX12_write_48 rfl (lv_at hl 2 rfl) ?_
        refine lv_iadd hx hb dX12_write_49 ?_
        refine lv_iload_n hx hb dX12_write_50 rfl (lv_at hl 3 rfl) ?_
        refine lv_aload_n hx hb dX12_write_51 rfl (lv_at hl 0 rfl) ?_
        refine mg_sorts cx hw dX12_write_52 ?_
        refine lv_iload_n hx hb dX12_write_55 rfl (lv_at hl 1 rfl) ?_
        obtain ⟨h3, hf⟩ := ckS hf
        refine ml_sorts (j := v1.toNatClampNeg) cx hw (ib_in h3) rfl dX12_write_56 ?_
        refine calSi cx hw hl.1 (c_X12_narrowed rfl) q_1640 k_X12_narrowed rfl dX12_write_57 rfl (Nat.le_of_ble_eq_true rfl) ⟨Nat.le_of_ble_eq_true rfl, Nat.le_of_ble_eq_true rfl⟩ ⟨Nat.le_refl _, Nat.le_refl _⟩ (fun H locs hw => ?_)
        obtain ⟨h4, hf⟩ := ckS hf
        refine ms_number (j := (((40 : Int32) * v1) + v2).toNatClampNeg) cx hw (ib_in h4) rfl dX12_write_60 (fun H locs hw => ?_)
        refine lv_iconst (v := 1) hx hb dX12_write_61 (by decide) ?_
        have hf := Option.some.inj hf
        subst hf
        exact hR _ _ _ _ _ _ hw rfl ⟨rfl, rfl⟩ dX12_write_62
      · have hf := ifT hf hc
        refine lv_bipush (v := (-12)) hx hb dX12_write_37 (by decide) ?_
        have hf := Option.some.inj hf
        subst hf
        exact hR _ _ _ _ _ _ hw rfl ⟨rfl, rfl⟩ dX12_write_39
    · have hf := ifF hf hc
      refine lv_bipush (v := (-11)) hx hb dX12_write_18 (by decide) ?_
      have hf := Option.some.inj hf
      subst hf
      exact hR _ _ _ _ _ _ hw rfl ⟨rfl, rfl⟩ dX12_write_20
  · have hf := ifT hf hc
    refine lv_iconst (v := (-1)) hx hb dX12_write_7 (by decide) ?_
    have hf := Option.some.inj hf
    subst hf
    exact hR _ _ _ _ _ _ hw rfl ⟨rfl, rfl⟩ dX12_write_8
theorem dX12_lacks_0 : decode cX12_lacks 0 = .ok (.aload_n 0, 1) := by decide +kernel
theorem dX12_lacks_1 : decode cX12_lacks 1 = .ok (.getfield 53, 3) := by decide +kernel
theorem dX12_lacks_4 : decode cX12_lacks 4 = .ok (.iload_n 1, 1) := by decide +kernel
theorem dX12_lacks_5 : decode cX12_lacks 5 = .ok (.iaload, 1) := by decide +kernel
theorem dX12_lacks_6 : decode cX12_lacks 6 = .ok (.ifCond .ge 8, 3) := by decide +kernel
theorem dX12_lacks_9 : decode cX12_lacks 9 = .ok (.bipush (-11), 2) := by decide +kernel
theorem dX12_lacks_11 : decode cX12_lacks 11 = .ok (.goto 19, 3) := by decide +kernel
theorem dX12_lacks_14 : decode cX12_lacks 14 = .ok (.aload_n 0, 1) := by decide +kernel
theorem dX12_lacks_15 : decode cX12_lacks 15 = .ok (.getfield 53, 3) := by decide +kernel
theorem dX12_lacks_18 : decode cX12_lacks 18 = .ok (.iload_n 1, 1) := by decide +kernel
theorem dX12_lacks_19 : decode cX12_lacks 19 = .ok (.iaload, 1) := by decide +kernel
theorem dX12_lacks_20 : decode cX12_lacks 20 = .ok (.iload_n 2, 1) := by decide +kernel
theorem dX12_lacks_21 : decode cX12_lacks 21 = .ok (.if_icmp .eq 8, 3) := by decide +kernel
theorem dX12_lacks_24 : decode cX12_lacks 24 = .ok (.bipush (-13), 2) := by decide +kernel
theorem dX12_lacks_26 : decode cX12_lacks 26 = .ok (.goto 4, 3) := by decide +kernel
theorem dX12_lacks_29 : decode cX12_lacks 29 = .ok (.iconst 0, 1) := by decide +kernel
theorem dX12_lacks_30 : decode cX12_lacks 30 = .ok (.ireturn, 1) := by decide +kernel
theorem k_X12_lacks : MV yX12_lacks cX12_lacks 3 (some .int) 2 := ⟨q_1649, qs_87, q_14, q_1650, ⟨by decide, by decide, by decide +kernel⟩⟩
theorem c_X12_lacks {res : Int32} (hf : X12_lacks x_sorts v1 v2 = some res) : MC l E0 D t yX12_lacks cX12_lacks 3 (some .int) 1 0 0 [.ref (a 0), .int v1, .int v2] (mW a t x_s x_kept x_laid x_isKept x_pile x_tape x_taped x_letters x_at x_begun x_token x_value x_opened x_steps x_code0 x_read x_saved x_plan x_bestPlan x_most x_many x_few x_everRight x_lagThen x_shadedThen x_firstFit x_rows x_rowMany x_sorts x_sizes x_number x_holds x_heldOne x_trace x_traced x_own x_isParted) (Qi res (mW a t x_s x_kept x_laid x_isKept x_pile x_tape x_taped x_letters x_at x_begun x_token x_value x_opened x_steps x_code0 x_read x_saved x_plan x_bestPlan x_most x_many x_few x_everRight x_lagThen x_shadedThen x_firstFit x_rows x_rowMany x_sorts x_sizes x_number x_holds x_heldOne x_trace x_traced x_own x_isParted)) := by
  unfold X12_lacks at hf
  refine MC.ofI pn_X12 (Nat.le_of_ble_eq_true rfl) ?_
  intro p e s m args below meth c A Q ls cx hR hw hl
  have hx := cx.1
  have hb := cx.2.1
  have hl : lv_has ls 3 [(0, .ref (a 0)), (1, .int v1), (2, .int v2)] := hl
  refine lv_aload_n hx hb dX12_lacks_0 rfl (lv_at hl 0 rfl) ?_
  refine mg_sorts cx hw dX12_lacks_1 ?_
  refine lv_iload_n hx hb dX12_lacks_4 rfl (lv_at hl 1 rfl) ?_
  obtain ⟨h1, hf⟩ := ckS hf
  refine ml_sorts (j := v1.toNatClampNeg) cx hw (ib_in h1) rfl dX12_lacks_5 ?_
  refine lv_if_ge (tgt := 14) hx hb dX12_lacks_6 (by decide) (fun hc => ?_) (fun hc => ?_)
  · have hf := ifT hf hc
    refine lv_aload_n hx hb dX12_lacks_14 rfl (lv_at hl 0 rfl) ?_
    refine mg_sorts cx hw dX12_lacks_15 ?_
    refine lv_iload_n hx hb dX12_lacks_18 rfl (lv_at hl 1 rfl) ?_
    obtain ⟨h2, hf⟩ := ckS hf
    refine ml_sorts (j := v1.toNatClampNeg) cx hw (ib_in h2) rfl dX12_lacks_19 ?_
    refine lv_iload_n hx hb dX12_lacks_20 rfl (lv_at hl 2 rfl) ?_
    refine lv_icmp_eq (tgt := 29) hx hb dX12_lacks_21 (by decide) (fun hc => ?_) (fun hc => ?_)
    · have hf := ifT hf hc
      refine lv_iconst (v := 0) hx hb dX12_lacks_29 (by decide) ?_
      have hf := Option.some.inj hf
      subst hf
      exact hR _ _ _ _ _ _ hw rfl ⟨rfl, rfl⟩ dX12_lacks_30
    · have hf := ifF hf hc
      refine lv_bipush (v := (-13)) hx hb dX12_lacks_24 (by decide) ?_
      refine lv_goto (tgt := 30) hx hb dX12_lacks_26 (by decide) ?_
      have hf := Option.some.inj hf
      subst hf
      exact hR _ _ _ _ _ _ hw rfl ⟨rfl, rfl⟩ dX12_lacks_30
  · have hf := ifF hf hc
    refine lv_bipush (v := (-11)) hx hb dX12_lacks_9 (by decide) ?_
    refine lv_goto (tgt := 30) hx hb dX12_lacks_11 (by decide) ?_
    have hf := Option.some.inj hf
    subst hf
    exact hR _ _ _ _ _ _ hw rfl ⟨rfl, rfl⟩ dX12_lacks_30
theorem dX12_item_0 : decode cX12_item 0 = .ok (.iload_n 1, 1) := by decide +kernel
theorem dX12_item_1 : decode cX12_item 1 = .ok (.invokestatic 331, 3) := by decide +kernel
theorem dX12_item_4 : decode cX12_item 4 = .ok (.ifCond .eq 12, 3) := by decide +kernel
theorem dX12_item_7 : decode cX12_item 7 = .ok (.iload_n 2, 1) := by decide +kernel
theorem dX12_item_8 : decode cX12_item 8 = .ok (.iconst 0, 1) := by decide +kernel
theorem dX12_item_9 : decode cX12_item 9 = .ok (.iconst 4, 1) := by decide +kernel
theorem dX12_item_10 : decode cX12_item 10 = .ok (.invokestatic 71, 3) := by decide +kernel
theorem dX12_item_13 : decode cX12_item 13 = .ok (.ifCond .ne 5, 3) := by decide +kernel
theorem dX12_item_16 : decode cX12_item 16 = .ok (.iconst (-1), 1) := by decide +kernel
theorem dX12_item_17 : decode cX12_item 17 = .ok (.ireturn, 1) := by decide +kernel
theorem dX12_item_18 : decode cX12_item 18 = .ok (.aload_n 0, 1) := by decide +kernel
theorem dX12_item_19 : decode cX12_item 19 = .ok (.iload_n 1, 1) := by decide +kernel
theorem dX12_item_20 : decode cX12_item 20 = .ok (.iload_n 2, 1) := by decide +kernel
theorem dX12_item_21 : decode cX12_item 21 = .ok (.invokevirtual 337, 3) := by decide +kernel
theorem dX12_item_24 : decode cX12_item 24 = .ok (.istore 4, 2) := by decide +kernel
theorem dX12_item_26 : decode cX12_item 26 = .ok (.iload 4, 2) := by decide +kernel
theorem dX12_item_28 : decode cX12_item 28 = .ok (.ifCond .eq 8, 3) := by decide +kernel
theorem dX12_item_31 : decode cX12_item 31 = .ok (.iload 4, 2) := by decide +kernel
theorem dX12_item_33 : decode cX12_item 33 = .ok (.goto 35, 3) := by decide +kernel
theorem dX12_item_36 : decode cX12_item 36 = .ok (.iload_n 3, 1) := by decide +kernel
theorem dX12_item_37 : decode cX12_item 37 = .ok (.iconst 0, 1) := by decide +kernel
theorem dX12_item_38 : decode cX12_item 38 = .ok (.aload_n 0, 1) := by decide +kernel
theorem dX12_item_39 : decode cX12_item 39 = .ok (.getfield 56, 3) := by decide +kernel
theorem dX12_item_42 : decode cX12_item 42 = .ok (.iload_n 1, 1) := by decide +kernel
theorem dX12_item_43 : decode cX12_item 43 = .ok (.iaload, 1) := by decide +kernel
theorem dX12_item_44 : decode cX12_item 44 = .ok (.iconst 1, 1) := by decide +kernel
theorem dX12_item_45 : decode cX12_item 45 = .ok (.isub, 1) := by decide +kernel
theorem dX12_item_46 : decode cX12_item 46 = .ok (.invokestatic 71, 3) := by decide +kernel
theorem dX12_item_49 : decode cX12_item 49 = .ok (.ifCond .eq 17, 3) := by decide +kernel
theorem dX12_item_52 : decode cX12_item 52 = .ok (.aload_n 0, 1) := by decide +kernel
theorem dX12_item_53 : decode cX12_item 53 = .ok (.getfield 59, 3) := by decide +kernel
theorem dX12_item_56 : decode cX12_item 56 = .ok (.bipush 40, 2) := by decide +kernel
theorem dX12_item_58 : decode cX12_item 58 = .ok (.iload_n 1, 1) := by decide +kernel
theorem dX12_item_59 : decode cX12_item 59 = .ok (.imul, 1) := by decide +kernel
theorem dX12_item_60 : decode cX12_item 60 = .ok (.iload_n 3, 1) := by decide +kernel
theorem dX12_item_61 : decode cX12_item 61 = .ok (.iadd, 1) := by decide +kernel
theorem dX12_item_62 : decode cX12_item 62 = .ok (.iaload, 1) := by decide +kernel
theorem dX12_item_63 : decode cX12_item 63 = .ok (.goto 5, 3) := by decide +kernel
theorem dX12_item_66 : decode cX12_item 66 = .ok (.bipush (-12), 2) := by decide +kernel
theorem dX12_item_68 : decode cX12_item 68 = .ok (.ireturn, 1) := by decide +kernel
theorem k_X12_item : MV yX12_item cX12_item 5 (some .int) 3 := ⟨q_1644, q_1645, q_14, q_1646, ⟨by decide, by decide, by decide +kernel⟩⟩
theorem c_X12_item {res : Int32} (hf : X12_item x_sorts x_sizes x_number v1 v2 v3 = some res) : MC l E0 D t yX12_item cX12_item 5 (some .int) 3 0 0 [.ref (a 0), .int v1, .int v2, .int v3] (mW a t x_s x_kept x_laid x_isKept x_pile x_tape x_taped x_letters x_at x_begun x_token x_value x_opened x_steps x_code0 x_read x_saved x_plan x_bestPlan x_most x_many x_few x_everRight x_lagThen x_shadedThen x_firstFit x_rows x_rowMany x_sorts x_sizes x_number x_holds x_heldOne x_trace x_traced x_own x_isParted) (Qi res (mW a t x_s x_kept x_laid x_isKept x_pile x_tape x_taped x_letters x_at x_begun x_token x_value x_opened x_steps x_code0 x_read x_saved x_plan x_bestPlan x_most x_many x_few x_everRight x_lagThen x_shadedThen x_firstFit x_rows x_rowMany x_sorts x_sizes x_number x_holds x_heldOne x_trace x_traced x_own x_isParted)) := by
  unfold X12_item at hf
  refine MC.ofI pn_X12 (Nat.le_of_ble_eq_true rfl) ?_
  intro p e s m args below meth c A Q ls cx hR hw hl
  have hx := cx.1
  have hb := cx.2.1
  have hl : lv_has ls 5 [(0, .ref (a 0)), (1, .int v1), (2, .int v2), (3, .int v3)] := hl
  refine lv_iload_n hx hb dX12_item_0 rfl (lv_at hl 1 rfl) ?_
  refine calSi cx hw hl.1 (c_X12_isSheet rfl) q_1633 k_X12_isSheet rfl dX12_item_1 rfl (Nat.le_of_ble_eq_true rfl) ⟨Nat.le_of_ble_eq_true rfl, Nat.le_of_ble_eq_true rfl⟩ ⟨Nat.le_refl _, Nat.le_refl _⟩ (fun H locs hw => ?_)
  refine lv_if_eq (tgt := 16) hx hb dX12_item_4 (by decide) (fun hc => ?_) (fun hc => ?_)
  · have hf := ifT hf hc
    refine lv_iconst (v := (-1)) hx hb dX12_item_16 (by decide) ?_
    have hf := Option.some.inj hf
    subst hf
    exact hR _ _ _ _ _ _ hw rfl ⟨rfl, rfl⟩ dX12_item_17
  · have hf := ifF hf hc
    refine lv_iload_n hx hb dX12_item_7 rfl (lv_at hl 2 rfl) ?_
    refine lv_iconst (v := 0) hx hb dX12_item_8 (by decide) ?_
    refine lv_iconst (v := 4) hx hb dX12_item_9 (by decide) ?_
    refine calSi cx hw hl.1 (c_X12_in1 rfl) q_1214 k_X12_in1 rfl dX12_item_10 rfl (Nat.le_of_ble_eq_true rfl) ⟨Nat.le_of_ble_eq_true rfl, Nat.le_of_ble_eq_true rfl⟩ ⟨Nat.le_refl _, Nat.le_refl _⟩ (fun H locs hw => ?_)
    refine lv_if_ne (tgt := 18) hx hb dX12_item_13 (by decide) (fun hc => ?_) (fun hc => ?_)
    · have hf := ifF hf hc
      refine lv_aload_n hx hb dX12_item_18 rfl (lv_at hl 0 rfl) ?_
      refine lv_iload_n hx hb dX12_item_19 rfl (lv_at hl 1 rfl) ?_
      refine lv_iload_n hx hb dX12_item_20 rfl (lv_at hl 2 rfl) ?_
      obtain ⟨r1, h2, hf⟩ := bnS hf
      refine calVi (k := 0) cx hw hl.1 (c_X12_lacks h2) q_1647 k_X12_lacks rfl rfl rfl dX12_item_21 rfl (Nat.le_of_ble_eq_true rfl) ⟨Nat.le_of_ble_eq_true rfl, Nat.le_of_ble_eq_true rfl⟩ ⟨Nat.le_refl _, Nat.le_refl _⟩ (fun H locs hw => ?_)
      refine lv_istore (lv' := [(4, .int r1), (0, .ref (a 0)), (1, .int v1), (2, .int v2), (3, .int v3)]) hx hb dX12_item_24 hl (by decide) rfl (fun ls hl => ?_)
      refine lv_iload hx hb dX12_item_26 (lv_at hl 0 rfl) ?_
      refine lv_if_eq (tgt := 36) hx hb dX12_item_28 (by decide) (fun hc => ?_) (fun hc => ?_)
      · have hf := ifT hf hc
        refine lv_iload_n hx hb dX12_item_36 rfl (lv_at hl 4 rfl) ?_
        refine lv_iconst (v := 0) hx hb dX12_item_37 (by decide) ?_
        refine lv_aload_n hx hb dX12_item_38 rfl (lv_at hl 1 rfl) ?_
        refine mg_sizes cx hw dX12_item_39 ?_
        refine lv_iload_n hx hb dX12_item_42 rfl (lv_at hl 2 rfl) ?_
        obtain ⟨h3, hf⟩ := ckS hf
        refine ml_sizes (j := v1.toNatClampNeg) cx hw (ib_in h3) rfl dX12_item_43 ?_
        refine lv_iconst (v := 1) hx hb dX12_item_44 (by decide) ?_
        refine lv_isub hx hb dX12_item_45 ?_
        refine calSi cx hw hl.1 (c_X12_in1 rfl) q_1214 k_X12_in1 rfl dX12_item_46 rfl (Nat.le_of_ble_eq_true rfl) ⟨Nat.le_of_ble_eq_true rfl, Nat.le_of_ble_eq_true rfl⟩ ⟨Nat.le_refl _, Nat.le_refl _⟩ (fun H locs hw => ?_)
        refine lv_if_eq (tgt := 66) hx hb dX12_item_49 (by decide) (fun hc => ?_) (fun hc => ?_)
        · have hf := ifT hf hc
          refine lv_bipush (v := (-12)) hx hb dX12_item_66 (by decide) ?_
          have hf := Option.some.inj hf
          subst hf
          exact hR _ _ _ _ _ _ hw rfl ⟨rfl, rfl⟩ dX12_item_68
        · have hf := ifF hf hc
          refine lv_aload_n hx hb dX12_item_52 rfl (lv_at hl 1 rfl) ?_
          refine mg_number cx hw dX12_item_53 ?_
          refine lv_bipush (v := 40) hx hb dX12_item_56 (by decide) ?_
          refine lv_iload_n hx hb dX12_item_58 rfl (lv_at hl 2 rfl) ?_
          refine lv_imul hx hb dX12_item_59 ?_
          refine lv_iload_n hx hb dX12_item_60 rfl (lv_at hl 4 rfl) ?_
          refine lv_iadd hx hb dX12_item_61 ?_
          obtain ⟨h4, hf⟩ := ckS hf
          refine ml_number (j := (((40 : Int32) * v1) + v3).toNatClampNeg) cx hw (ib_in h4) rfl dX12_item_62 ?_
          refine lv_goto (tgt := 68) hx hb dX12_item_63 (by decide) ?_
          have hf := Option.some.inj hf
          subst hf
          exact hR _ _ _ _ _ _ hw rfl ⟨rfl, rfl⟩ dX12_item_68
      · have hf := ifF hf hc
        refine lv_iload hx hb dX12_item_31 (lv_at hl 0 rfl) ?_
        refine lv_goto (tgt := 68) hx hb dX12_item_33 (by decide) ?_
        have hf := Option.some.inj hf
        subst hf
        exact hR _ _ _ _ _ _ hw rfl ⟨rfl, rfl⟩ dX12_item_68
    · have hf := ifT hf hc
      refine lv_iconst (v := (-1)) hx hb dX12_item_16 (by decide) ?_
      have hf := Option.some.inj hf
      subst hf
      exact hR _ _ _ _ _ _ hw rfl ⟨rfl, rfl⟩ dX12_item_17
theorem dX12_isItem_0 : decode cX12_isItem 0 = .ok (.iload_n 2, 1) := by decide +kernel
theorem dX12_isItem_1 : decode cX12_isItem 1 = .ok (.ifCond .lt 19, 3) := by decide +kernel
theorem dX12_isItem_4 : decode cX12_isItem 4 = .ok (.iload_n 2, 1) := by decide +kernel
theorem dX12_isItem_5 : decode cX12_isItem 5 = .ok (.aload_n 0, 1) := by decide +kernel
theorem dX12_isItem_6 : decode cX12_isItem 6 = .ok (.getfield 56, 3) := by decide +kernel
theorem dX12_isItem_9 : decode cX12_isItem 9 = .ok (.iload_n 1, 1) := by decide +kernel
theorem dX12_isItem_10 : decode cX12_isItem 10 = .ok (.iaload, 1) := by decide +kernel
theorem dX12_isItem_11 : decode cX12_isItem 11 = .ok (.iload_n 3, 1) := by decide +kernel
theorem dX12_isItem_12 : decode cX12_isItem 12 = .ok (.isub, 1) := by decide +kernel
theorem dX12_isItem_13 : decode cX12_isItem 13 = .ok (.if_icmp .ge 7, 3) := by decide +kernel
theorem dX12_isItem_16 : decode cX12_isItem 16 = .ok (.iconst 1, 1) := by decide +kernel
theorem dX12_isItem_17 : decode cX12_isItem 17 = .ok (.goto 4, 3) := by decide +kernel
theorem dX12_isItem_20 : decode cX12_isItem 20 = .ok (.iconst 0, 1) := by decide +kernel
theorem dX12_isItem_21 : decode cX12_isItem 21 = .ok (.ireturn, 1) := by decide +kernel
theorem k_X12_isItem : MV yX12_isItem cX12_isItem 4 (some .boolean) 3 := ⟨q_1657, qs_88, q_14, q_1658, ⟨by decide, by decide, by decide +kernel⟩⟩
theorem c_X12_isItem {res : Int32} (hf : X12_isItem x_sizes v1 v2 v3 = some res) : MC l E0 D t yX12_isItem cX12_isItem 4 (some .boolean) 1 0 0 [.ref (a 0), .int v1, .int v2, .int v3] (mW a t x_s x_kept x_laid x_isKept x_pile x_tape x_taped x_letters x_at x_begun x_token x_value x_opened x_steps x_code0 x_read x_saved x_plan x_bestPlan x_most x_many x_few x_everRight x_lagThen x_shadedThen x_firstFit x_rows x_rowMany x_sorts x_sizes x_number x_holds x_heldOne x_trace x_traced x_own x_isParted) (Qi res (mW a t x_s x_kept x_laid x_isKept x_pile x_tape x_taped x_letters x_at x_begun x_token x_value x_opened x_steps x_code0 x_read x_saved x_plan x_bestPlan x_most x_many x_few x_everRight x_lagThen x_shadedThen x_firstFit x_rows x_rowMany x_sorts x_sizes x_number x_holds x_heldOne x_trace x_traced x_own x_isParted)) := by
  unfold X12_isItem at hf
  refine MC.ofI pn_X12 (Nat.le_of_ble_eq_true rfl) ?_
  intro p e s m args below meth c A Q ls cx hR hw hl
  have hx := cx.1
  have hb := cx.2.1
  have hl : lv_has ls 4 [(0, .ref (a 0)), (1, .int v1), (2, .int v2), (3, .int v3)] := hl
  refine lv_iload_n hx hb dX12_isItem_0 rfl (lv_at hl 2 rfl) ?_
  refine lv_if_lt (tgt := 20) hx hb dX12_isItem_1 (by decide) (fun hc => ?_) (fun hc => ?_)
  · have hf := ifT hf hc
    refine lv_iconst (v := 0) hx hb dX12_isItem_20 (by decide) ?_
    have hf := Option.some.inj hf
    subst hf
    exact hR _ _ _ _ _ _ hw rfl ⟨rfl, rfl⟩ dX12_isItem_21
  · have hf := ifF hf hc
    refine lv_iload_n hx hb dX12_isItem_4 rfl (lv_at hl 2 rfl) ?_
    refine lv_aload_n hx hb dX12_isItem_5 rfl (lv_at hl 0 rfl) ?_
    refine mg_sizes cx hw dX12_isItem_6 ?_
    refine lv_iload_n hx hb dX12_isItem_9 rfl (lv_at hl 1 rfl) ?_
    obtain ⟨h1, hf⟩ := ckS hf
    refine ml_sizes (j := v1.toNatClampNeg) cx hw (ib_in h1) rfl dX12_isItem_10 ?_
    refine lv_iload_n hx hb dX12_isItem_11 rfl (lv_at hl 3 rfl) ?_
    refine lv_isub hx hb dX12_isItem_12 ?_
    refine lv_icmp_ge (tgt := 20) hx hb dX12_isItem_13 (by decide) (fun hc => ?_) (fun hc => ?_)
    · have hf := ifT hf hc
      refine lv_iconst (v := 0) hx hb dX12_isItem_20 (by decide) ?_
      have hf := Option.some.inj hf
      subst hf
      exact hR _ _ _ _ _ _ hw rfl ⟨rfl, rfl⟩ dX12_isItem_21
    · have hf := ifF hf hc
      refine lv_iconst (v := 1) hx hb dX12_isItem_16 (by decide) ?_
      refine lv_goto (tgt := 21) hx hb dX12_isItem_17 (by decide) ?_
      have hf := Option.some.inj hf
      subst hf
      exact hR _ _ _ _ _ _ hw rfl ⟨rfl, rfl⟩ dX12_isItem_21
theorem dX12_goAll_0 : decode cX12_goAll 0 = .ok (.iload_n 1, 1) := by decide +kernel
theorem dX12_goAll_1 : decode cX12_goAll 1 = .ok (.invokestatic 331, 3) := by decide +kernel
theorem dX12_goAll_4 : decode cX12_goAll 4 = .ok (.ifCond .eq 13, 3) := by decide +kernel
theorem dX12_goAll_7 : decode cX12_goAll 7 = .ok (.iload_n 3, 1) := by decide +kernel
theorem dX12_goAll_8 : decode cX12_goAll 8 = .ok (.iconst 0, 1) := by decide +kernel
theorem dX12_goAll_9 : decode cX12_goAll 9 = .ok (.bipush 20, 2) := by decide +kernel
theorem dX12_goAll_11 : decode cX12_goAll 11 = .ok (.invokestatic 71, 3) := by decide +kernel
theorem dX12_goAll_14 : decode cX12_goAll 14 = .ok (.ifCond .ne 5, 3) := by decide +kernel
theorem dX12_goAll_17 : decode cX12_goAll 17 = .ok (.iconst (-1), 1) := by decide +kernel
theorem dX12_goAll_18 : decode cX12_goAll 18 = .ok (.ireturn, 1) := by decide +kernel
theorem dX12_goAll_19 : decode cX12_goAll 19 = .ok (.aload_n 0, 1) := by decide +kernel
theorem dX12_goAll_20 : decode cX12_goAll 20 = .ok (.iload_n 1, 1) := by decide +kernel
theorem dX12_goAll_21 : decode cX12_goAll 21 = .ok (.iconst 0, 1) := by decide +kernel
theorem dX12_goAll_22 : decode cX12_goAll 22 = .ok (.invokevirtual 337, 3) := by decide +kernel
theorem dX12_goAll_25 : decode cX12_goAll 25 = .ok (.istore 4, 2) := by decide +kernel
theorem dX12_goAll_27 : decode cX12_goAll 27 = .ok (.iload 4, 2) := by decide +kernel
theorem dX12_goAll_29 : decode cX12_goAll 29 = .ok (.ifCond .eq 6, 3) := by decide +kernel
theorem dX12_goAll_32 : decode cX12_goAll 32 = .ok (.iload 4, 2) := by decide +kernel
theorem dX12_goAll_34 : decode cX12_goAll 34 = .ok (.ireturn, 1) := by decide +kernel
theorem dX12_goAll_35 : decode cX12_goAll 35 = .ok (.iconst 0, 1) := by decide +kernel
theorem dX12_goAll_36 : decode cX12_goAll 36 = .ok (.istore 5, 2) := by decide +kernel
theorem dX12_goAll_38 : decode cX12_goAll 38 = .ok (.iconst 0, 1) := by decide +kernel
theorem dX12_goAll_39 : decode cX12_goAll 39 = .ok (.istore 6, 2) := by decide +kernel
theorem dX12_goAll_41 : decode cX12_goAll 41 = .ok (.iload 6, 2) := by decide +kernel
theorem dX12_goAll_43 : decode cX12_goAll 43 = .ok (.iload_n 3, 1) := by decide +kernel
theorem dX12_goAll_44 : decode cX12_goAll 44 = .ok (.if_icmp .ge 70, 3) := by decide +kernel
theorem dX12_goAll_47 : decode cX12_goAll 47 = .ok (.aload_n 0, 1) := by decide +kernel
theorem dX12_goAll_48 : decode cX12_goAll 48 = .ok (.iload_n 1, 1) := by decide +kernel
theorem dX12_goAll_49 : decode cX12_goAll 49 = .ok (.iload_n 2, 1) := by decide +kernel
theorem dX12_goAll_50 : decode cX12_goAll 50 = .ok (.iload 6, 2) := by decide +kernel
theorem dX12_goAll_52 : decode cX12_goAll 52 = .ok (.invokevirtual 340, 3) := by decide +kernel
theorem dX12_goAll_55 : decode cX12_goAll 55 = .ok (.ifCond .ne 6, 3) := by decide +kernel
theorem dX12_goAll_58 : decode cX12_goAll 58 = .ok (.bipush (-12), 2) := by decide +kernel
theorem dX12_goAll_60 : decode cX12_goAll 60 = .ok (.ireturn, 1) := by decide +kernel
theorem dX12_goAll_61 : decode cX12_goAll 61 = .ok (.aload_n 0, 1) := by decide +kernel
theorem dX12_goAll_62 : decode cX12_goAll 62 = .ok (.getfield 59, 3) := by decide +kernel
theorem dX12_goAll_65 : decode cX12_goAll 65 = .ok (.bipush 40, 2) := by decide +kernel
theorem dX12_goAll_67 : decode cX12_goAll 67 = .ok (.iload_n 1, 1) := by decide +kernel
theorem dX12_goAll_68 : decode cX12_goAll 68 = .ok (.imul, 1) := by decide +kernel
theorem dX12_goAll_69 : decode cX12_goAll 69 = .ok (.iload_n 2, 1) := by decide +kernel
theorem dX12_goAll_70 : decode cX12_goAll 70 = .ok (.iadd, 1) := by decide +kernel
theorem dX12_goAll_71 : decode cX12_goAll 71 = .ok (.iload 6, 2) := by decide +kernel
theorem dX12_goAll_73 : decode cX12_goAll 73 = .ok (.iadd, 1) := by decide +kernel
theorem dX12_goAll_74 : decode cX12_goAll 74 = .ok (.iaload, 1) := by decide +kernel
theorem dX12_goAll_75 : decode cX12_goAll 75 = .ok (.istore 7, 2) := by decide +kernel
theorem dX12_goAll_77 : decode cX12_goAll 77 = .ok (.iload 5, 2) := by decide +kernel
theorem dX12_goAll_79 : decode cX12_goAll 79 = .ok (.aload_n 0, 1) := by decide +kernel
theorem dX12_goAll_80 : decode cX12_goAll 80 = .ok (.iload 7, 2) := by decide +kernel
theorem dX12_goAll_82 : decode cX12_goAll 82 = .ok (.invokevirtual 328, 3) := by decide +kernel
theorem dX12_goAll_85 : decode cX12_goAll 85 = .ok (.ifCond .eq 19, 3) := by decide +kernel
theorem dX12_goAll_88 : decode cX12_goAll 88 = .ok (.aload_n 0, 1) := by decide +kernel
theorem dX12_goAll_89 : decode cX12_goAll 89 = .ok (.invokevirtual 237, 3) := by decide +kernel
theorem dX12_goAll_92 : decode cX12_goAll 92 = .ok (.ifCond .ne 12, 3) := by decide +kernel
theorem dX12_goAll_95 : decode cX12_goAll 95 = .ok (.aload_n 0, 1) := by decide +kernel
theorem dX12_goAll_96 : decode cX12_goAll 96 = .ok (.iload 7, 2) := by decide +kernel
theorem dX12_goAll_98 : decode cX12_goAll 98 = .ok (.invokevirtual 243, 3) := by decide +kernel
theorem dX12_goAll_101 : decode cX12_goAll 101 = .ok (.goto 4, 3) := by decide +kernel
theorem dX12_goAll_104 : decode cX12_goAll 104 = .ok (.iconst 0, 1) := by decide +kernel
theorem dX12_goAll_105 : decode cX12_goAll 105 = .ok (.iadd, 1) := by decide +kernel
theorem dX12_goAll_106 : decode cX12_goAll 106 = .ok (.istore 5, 2) := by decide +kernel
theorem dX12_goAll_108 : decode cX12_goAll 108 = .ok (.iinc 6 1, 3) := by decide +kernel
theorem dX12_goAll_111 : decode cX12_goAll 111 = .ok (.goto (-70), 3) := by decide +kernel
theorem dX12_goAll_114 : decode cX12_goAll 114 = .ok (.iload 5, 2) := by decide +kernel
theorem dX12_goAll_116 : decode cX12_goAll 116 = .ok (.ireturn, 1) := by decide +kernel
theorem k_X12_goAll : MV yX12_goAll cX12_goAll 8 (some .int) 3 := ⟨q_1652, q_1653, q_14, q_1654, ⟨by decide, by decide, by decide +kernel⟩⟩
theorem c_X12_goAll {res : Int32 × (Nat → Int32) × (Nat → Int32)} (hf : X12_goAll n x_s x_pile x_sorts x_sizes x_number v1 v2 v3 = some res) : MC l E0 D t yX12_goAll cX12_goAll 8 (some .int) 8 0 0 [.ref (a 0), .int v1, .int v2, .int v3] (mW a t x_s x_kept x_laid x_isKept x_pile x_tape x_taped x_letters x_at x_begun x_token x_value x_opened x_steps x_code0 x_read x_saved x_plan x_bestPlan x_most x_many x_few x_everRight x_lagThen x_shadedThen x_firstFit x_rows x_rowMany x_sorts x_sizes x_number x_holds x_heldOne x_trace x_traced x_own x_isParted) (Qi res.1 (mW a t res.2.1 x_kept x_laid x_isKept res.2.2 x_tape x_taped x_letters x_at x_begun x_token x_value x_opened x_steps x_code0 x_read x_saved x_plan x_bestPlan x_most x_many x_few x_everRight x_lagThen x_shadedThen x_firstFit x_rows x_rowMany x_sorts x_sizes x_number x_holds x_heldOne x_trace x_traced x_own x_isParted)) := by
  unfold X12_goAll at hf
  refine MC.ofI pn_X12 (Nat.le_of_ble_eq_true rfl) ?_
  intro p e s m args below meth c A Q ls cx hR hw hl
  have hx := cx.1
  have hb := cx.2.1
  have hl : lv_has ls 8 [(0, .ref (a 0)), (1, .int v1), (2, .int v2), (3, .int v3)] := hl
  refine lv_iload_n hx hb dX12_goAll_0 rfl (lv_at hl 1 rfl) ?_
  refine calSi cx hw hl.1 (c_X12_isSheet rfl) q_1633 k_X12_isSheet rfl dX12_goAll_1 rfl (Nat.le_of_ble_eq_true rfl) ⟨Nat.le_of_ble_eq_true rfl, Nat.le_of_ble_eq_true rfl⟩ ⟨Nat.le_refl _, Nat.le_refl _⟩ (fun H locs hw => ?_)
  refine lv_if_eq (tgt := 17) hx hb dX12_goAll_4 (by decide) (fun hc => ?_) (fun hc => ?_)
  · have hf := ifT hf hc
    refine lv_iconst (v := (-1)) hx hb dX12_goAll_17 (by decide) ?_
    have hf := Option.some.inj hf
    subst hf
    exact hR _ _ _ _ _ _ hw rfl ⟨rfl, rfl⟩ dX12_goAll_18
  · have hf := ifF hf hc
    refine lv_iload_n hx hb dX12_goAll_7 rfl (lv_at hl 3 rfl) ?_
    refine lv_iconst (v := 0) hx hb dX12_goAll_8 (by decide) ?_
    refine lv_bipush (v := 20) hx hb dX12_goAll_9 (by decide) ?_
    refine calSi cx hw hl.1 (c_X12_in1 rfl) q_1214 k_X12_in1 rfl dX12_goAll_11 rfl (Nat.le_of_ble_eq_true rfl) ⟨Nat.le_of_ble_eq_true rfl, Nat.le_of_ble_eq_true rfl⟩ ⟨Nat.le_refl _, Nat.le_refl _⟩ (fun H locs hw => ?_)
    refine lv_if_ne (tgt := 19) hx hb dX12_goAll_14 (by decide) (fun hc => ?_) (fun hc => ?_)
    · have hf := ifF hf hc
      refine lv_aload_n hx hb dX12_goAll_19 rfl (lv_at hl 0 rfl) ?_
      refine lv_iload_n hx hb dX12_goAll_20 rfl (lv_at hl 1 rfl) ?_
      refine lv_iconst (v := 0) hx hb dX12_goAll_21 (by decide) ?_
      obtain ⟨r1, h2, hf⟩ := bnS hf
      refine calVi (k := 0) cx hw hl.1 (c_X12_lacks h2) q_1647 k_X12_lacks rfl rfl rfl dX12_goAll_22 rfl (Nat.le_of_ble_eq_true rfl) ⟨Nat.le_of_ble_eq_true rfl, Nat.le_of_ble_eq_true rfl⟩ ⟨Nat.le_refl _, Nat.le_refl _⟩ (fun H locs hw => ?_)
      refine lv_istore (lv' := [(4, .int r1), (0, .ref (a 0)), (1, .int v1), (2, .int v2), (3, .int v3)]) hx hb dX12_goAll_25 hl (by decide) rfl (fun ls hl => ?_)
      refine lv_iload hx hb dX12_goAll_27 (lv_at hl 0 rfl) ?_
      refine lv_if_eq (tgt := 35) hx hb dX12_goAll_29 (by decide) (fun hc => ?_) (fun hc => ?_)
      · have hf := ifT hf hc
        refine lv_iconst (v := 0) hx hb dX12_goAll_35 (by decide) ?_
        refine lv_istore (lv' := [(5, .int (0 : Int32)), (4, .int r1), (0, .ref (a 0)), (1, .int v1), (2, .int v2), (3, .int v3)]) hx hb dX12_goAll_36 hl (by decide) rfl (fun ls hl => ?_)
        refine lv_iconst (v := 0) hx hb dX12_goAll_38 (by decide) ?_
        refine lv_istore (lv' := [(6, .int (0 : Int32)), (5, .int (0 : Int32)), (4, .int r1), (0, .ref (a 0)), (1, .int v1), (2, .int v2), (3, .int v3)]) hx hb dX12_goAll_39 hl (by decide) rfl (fun ls hl => ?_)
        obtain ⟨K1, hK1, hf⟩ := jnS hf
        have kx1 : ∀ (o9 : Int32 × Int32 × (Nat → Int32) × (Nat → Int32)) (H : Heap) (locs : List Loc) (ls : Array Slot), K1 o9 = some res → Wd D A s (mW a t o9.2.2.1 x_kept x_laid x_isKept o9.2.2.2 x_tape x_taped x_letters x_at x_begun x_token x_value x_opened x_steps x_code0 x_read x_saved x_plan x_bestPlan x_most x_many x_few x_everRight x_lagThen x_shadedThen x_firstFit x_rows x_rowMany x_sorts x_sizes x_number x_holds x_heldOne x_trace x_traced x_own x_isParted) H locs → lv_has ls 8 [(0, .ref (a 0)), (1, .int v1), (2, .int v2), (3, .int v3), (4, .int r1), (5, .int o9.1), (6, .int o9.2.1)] → W p l e (rmz 8 0 0) s m args below meth c H locs 0 0 Q (F0 m 114 ls []) := by
          intro o9 H locs ls hf hw hl
          have hf := hK1 _ hf
          refine lv_iload hx hb dX12_goAll_114 (lv_at hl 5 rfl) ?_
          have hf := Option.some.inj hf
          subst hf
          exact hR _ _ _ _ _ _ hw rfl ⟨rfl, rfl⟩ dX12_goAll_116
        have wL1 : ∀ (k : Nat) {v1 : Int32} {v2 : Int32} {v3 : Int32} {v4 : Int32} {v5 : Int32} {v6 : Int32} {x_s : Nat → Int32} {x_pile : Nat → Int32} {H : Heap} {locs : List Loc} {ls : Array Slot}, X12_goAll_L1 n x_sizes x_number v1 v2 v3 K1 k v5 v6 x_s x_pile = some res → Wd D A s (mW a t x_s x_kept x_laid x_isKept x_pile x_tape x_taped x_letters x_at x_begun x_token x_value x_opened x_steps x_code0 x_read x_saved x_plan x_bestPlan x_most x_many x_few x_everRight x_lagThen x_shadedThen x_firstFit x_rows x_rowMany x_sorts x_sizes x_number x_holds x_heldOne x_trace x_traced x_own x_isParted) H locs → lv_has ls 8 [(0, .ref (a 0)), (1, .int v1), (2, .int v2), (3, .int v3), (4, .int v4), (5, .int v5), (6, .int v6)] → (∀ (o : Int32 × Int32 × (Nat → Int32) × (Nat → Int32)) (H : Heap) (locs : List Loc) (ls : Array Slot), K1 o = some res → Wd D A s (mW a t o.2.2.1 x_kept x_laid x_isKept o.2.2.2 x_tape x_taped x_letters x_at x_begun x_token x_value x_opened x_steps x_code0 x_read x_saved x_plan x_bestPlan x_most x_many x_few x_everRight x_lagThen x_shadedThen x_firstFit x_rows x_rowMany x_sorts x_sizes x_number x_holds x_heldOne x_trace x_traced x_own x_isParted) H locs → lv_has ls 8 [(0, .ref (a 0)), (1, .int v1), (2, .int v2), (3, .int v3), (4, .int v4), (5, .int o.1), (6, .int o.2.1)] → W p l e (rmz 8 0 0) s m args below meth c H locs 0 0 Q (F0 m 114 ls [])) → W p l e (rmz 8 0 0) s m args below meth c H locs 0 0 Q (F0 m 41 ls []) := by
          clear hf hw hl hK1 kx1
          intro k
          induction k with
          | zero => intro v1 v2 v3 v4 v5 v6 x_s x_pile H locs ls hf hw hl kx; simp [X12_goAll_L1] at hf
          | succ k ih =>
            intro v1 v2 v3 v4 v5 v6 x_s x_pile H locs ls hf hw hl kx
            rw [X12_goAll_L1] at hf
            refine lv_iload hx hb dX12_goAll_41 (lv_at hl 6 rfl) ?_
            refine lv_iload_n hx hb dX12_goAll_43 rfl (lv_at hl 3 rfl) ?_
            refine lv_icmp_ge (tgt := 114) hx hb dX12_goAll_44 (by decide) (fun hc => ?_) (fun hc => ?_)
            · have hf := ifT hf hc
              exact kx _ _ _ _ hf hw (lv_sub hl [0, 1, 2, 3, 4, 5, 6] rfl)
            · have hf := ifF hf hc
              refine lv_aload_n hx hb dX12_goAll_47 rfl (lv_at hl 0 rfl) ?_
              refine lv_iload_n hx hb dX12_goAll_48 rfl (lv_at hl 1 rfl) ?_
              refine lv_iload_n hx hb dX12_goAll_49 rfl (lv_at hl 2 rfl) ?_
              refine lv_iload hx hb dX12_goAll_50 (lv_at hl 6 rfl) ?_
              obtain ⟨r3, h4, hf⟩ := bnS hf
              refine calVi (k := 0) cx hw hl.1 (c_X12_isItem h4) q_1655 k_X12_isItem rfl rfl rfl dX12_goAll_52 rfl (Nat.le_of_ble_eq_true rfl) ⟨Nat.le_of_ble_eq_true rfl, Nat.le_of_ble_eq_true rfl⟩ ⟨Nat.le_refl _, Nat.le_refl _⟩ (fun H locs hw => ?_)
              refine lv_if_ne (tgt := 61) hx hb dX12_goAll_55 (by decide) (fun hc => ?_) (fun hc => ?_)
              · have hf := ifF hf hc
                refine lv_aload_n hx hb dX12_goAll_61 rfl (lv_at hl 0 rfl) ?_
                refine mg_number cx hw dX12_goAll_62 ?_
                refine lv_bipush (v := 40) hx hb dX12_goAll_65 (by decide) ?_
                refine lv_iload_n hx hb dX12_goAll_67 rfl (lv_at hl 1 rfl) ?_
                refine lv_imul hx hb dX12_goAll_68 ?_
                refine lv_iload_n hx hb dX12_goAll_69 rfl (lv_at hl 2 rfl) ?_
                refine lv_iadd hx hb dX12_goAll_70 ?_
                refine lv_iload hx hb dX12_goAll_71 (lv_at hl 6 rfl) ?_
                refine lv_iadd hx hb dX12_goAll_73 ?_
                obtain ⟨h5, hf⟩ := ckS hf
                refine ml_number (j := ((((40 : Int32) * v1) + v2) + v6).toNatClampNeg) cx hw (ib_in h5) rfl dX12_goAll_74 ?_
                refine lv_istore (lv' := [(7, .int (x_number (((((40 : Int32) * v1) + v2) + v6).toNatClampNeg))), (0, .ref (a 0)), (1, .int v1), (2, .int v2), (3, .int v3), (4, .int v4), (5, .int v5), (6, .int v6)]) hx hb dX12_goAll_75 hl (by decide) rfl (fun ls hl => ?_)
                refine lv_iload hx hb dX12_goAll_77 (lv_at hl 6 rfl) ?_
                refine lv_aload_n hx hb dX12_goAll_79 rfl (lv_at hl 1 rfl) ?_
                refine lv_iload hx hb dX12_goAll_80 (lv_at hl 0 rfl) ?_
                refine calVi (k := 0) cx hw hl.1 (c_X12_isAct rfl) q_1625 k_X12_isAct rfl rfl rfl dX12_goAll_82 rfl (Nat.le_of_ble_eq_true rfl) ⟨Nat.le_of_ble_eq_true rfl, Nat.le_of_ble_eq_true rfl⟩ ⟨Nat.le_refl _, Nat.le_refl _⟩ (fun H locs hw => ?_)
                obtain ⟨j8, hj8, hf⟩ := bnS hf
                have wj8 : ∀ (H : Heap) (locs : List Loc) (ls : Array Slot), Wd D A s (mW a t j8.2.1 x_kept x_laid x_isKept j8.2.2 x_tape x_taped x_letters x_at x_begun x_token x_value x_opened x_steps x_code0 x_read x_saved x_plan x_bestPlan x_most x_many x_few x_everRight x_lagThen x_shadedThen x_firstFit x_rows x_rowMany x_sorts x_sizes x_number x_holds x_heldOne x_trace x_traced x_own x_isParted) H locs → lv_has ls 8 [(0, .ref (a 0)), (1, .int v1), (2, .int v2), (3, .int v3), (4, .int v4), (5, .int v5), (6, .int v6), (7, .int (x_number (((((40 : Int32) * v1) + v2) + v6).toNatClampNeg)))] → W p l e (rmz 8 0 0) s m args below meth c H locs 0 0 Q (F0 m 105 ls [.int j8.1, .int v5]) := by
                  intro H locs ls hw hl
                  refine lv_iadd hx hb dX12_goAll_105 ?_
                  refine lv_istore (lv' := [(5, .int (v5 + j8.1)), (0, .ref (a 0)), (1, .int v1), (2, .int v2), (3, .int v3), (4, .int v4), (6, .int v6), (7, .int (x_number (((((40 : Int32) * v1) + v2) + v6).toNatClampNeg)))]) hx hb dX12_goAll_106 hl (by decide) rfl (fun ls hl => ?_)
                  refine lv_iinc (v := (v6 + (1 : Int32))) (lv' := [(6, .int (v6 + (1 : Int32))), (5, .int (v5 + j8.1)), (0, .ref (a 0)), (1, .int v1), (2, .int v2), (3, .int v3), (4, .int v4), (7, .int (x_number (((((40 : Int32) * v1) + v2) + v6).toNatClampNeg)))]) hx hb dX12_goAll_108 hl (k := 6) rfl rfl (by decide) rfl (fun ls hl => ?_)
                  refine lv_goto (tgt := 41) hx hb dX12_goAll_111 (by decide) ?_
                  exact ih hf hw (lv_sub hl [2, 3, 4, 5, 6, 1, 0] rfl) kx
                clear hf
                have hf := hj8
                clear hj8
                refine lv_if_eq (tgt := 104) hx hb dX12_goAll_85 (by decide) (fun hc => ?_) (fun hc => ?_)
                · have hf := ifT hf hc
                  refine lv_iconst (v := 0) hx hb dX12_goAll_104 (by decide) ?_
                  have hf := Option.some.inj hf
                  subst hf
                  exact wj8 _ _ _ hw (lv_sub hl [1, 2, 3, 4, 5, 6, 7, 0] rfl)
                · have hf := ifF hf hc
                  refine lv_aload_n hx hb dX12_goAll_88 rfl (lv_at hl 1 rfl) ?_
                  refine calVi (k := 0) cx hw hl.1 (c_X12_isOver rfl) q_1395 k_X12_isOver rfl rfl rfl dX12_goAll_89 rfl (Nat.le_of_ble_eq_true rfl) ⟨Nat.le_of_ble_eq_true rfl, Nat.le_of_ble_eq_true rfl⟩ ⟨Nat.le_refl _, Nat.le_refl _⟩ (fun H locs hw => ?_)
                  refine lv_if_ne (tgt := 104) hx hb dX12_goAll_92 (by decide) (fun hc => ?_) (fun hc => ?_)
                  · have hf := ifF hf hc
                    refine lv_iconst (v := 0) hx hb dX12_goAll_104 (by decide) ?_
                    have hf := Option.some.inj hf
                    subst hf
                    exact wj8 _ _ _ hw (lv_sub hl [1, 2, 3, 4, 5, 6, 7, 0] rfl)
                  · have hf := ifT hf hc
                    refine lv_aload_n hx hb dX12_goAll_95 rfl (lv_at hl 1 rfl) ?_
                    refine lv_iload hx hb dX12_goAll_96 (lv_at hl 0 rfl) ?_
                    obtain ⟨r6, h7, hf⟩ := bnS hf
                    refine calVi (k := 0) cx hw hl.1 (c_X12_goesBy h7) q_1418 k_X12_goesBy rfl rfl rfl dX12_goAll_98 rfl (Nat.le_of_ble_eq_true rfl) ⟨Nat.le_of_ble_eq_true rfl, Nat.le_of_ble_eq_true rfl⟩ ⟨Nat.le_refl _, Nat.le_refl _⟩ (fun H locs hw => ?_)
                    refine lv_goto (tgt := 105) hx hb dX12_goAll_101 (by decide) ?_
                    have hf := Option.some.inj hf
                    subst hf
                    exact wj8 _ _ _ hw (lv_sub hl [1, 2, 3, 4, 5, 6, 7, 0] rfl)
              · have hf := ifT hf hc
                refine lv_bipush (v := (-12)) hx hb dX12_goAll_58 (by decide) ?_
                have hf := Option.some.inj hf
                subst hf
                exact hR _ _ _ _ _ _ hw rfl ⟨rfl, rfl⟩ dX12_goAll_60
        exact wL1 n hf hw (lv_sub hl [3, 4, 5, 6, 2, 1, 0] rfl) kx1
      · have hf := ifF hf hc
        refine lv_iload hx hb dX12_goAll_32 (lv_at hl 0 rfl) ?_
        have hf := Option.some.inj hf
        subst hf
        exact hR _ _ _ _ _ _ hw rfl ⟨rfl, rfl⟩ dX12_goAll_34
    · have hf := ifT hf hc
      refine lv_iconst (v := (-1)) hx hb dX12_goAll_17 (by decide) ?_
      have hf := Option.some.inj hf
      subst hf
      exact hR _ _ _ _ _ _ hw rfl ⟨rfl, rfl⟩ dX12_goAll_18
theorem dX12_wouldBe_0 : decode cX12_wouldBe 0 = .ok (.iload_n 1, 1) := by decide +kernel
theorem dX12_wouldBe_1 : decode cX12_wouldBe 1 = .ok (.invokestatic 331, 3) := by decide +kernel
theorem dX12_wouldBe_4 : decode cX12_wouldBe 4 = .ok (.ifCond .eq 13, 3) := by decide +kernel
theorem dX12_wouldBe_7 : decode cX12_wouldBe 7 = .ok (.iload_n 3, 1) := by decide +kernel
theorem dX12_wouldBe_8 : decode cX12_wouldBe 8 = .ok (.iconst 0, 1) := by decide +kernel
theorem dX12_wouldBe_9 : decode cX12_wouldBe 9 = .ok (.bipush 20, 2) := by decide +kernel
theorem dX12_wouldBe_11 : decode cX12_wouldBe 11 = .ok (.invokestatic 71, 3) := by decide +kernel
theorem dX12_wouldBe_14 : decode cX12_wouldBe 14 = .ok (.ifCond .ne 5, 3) := by decide +kernel
theorem dX12_wouldBe_17 : decode cX12_wouldBe 17 = .ok (.iconst (-1), 1) := by decide +kernel
theorem dX12_wouldBe_18 : decode cX12_wouldBe 18 = .ok (.ireturn, 1) := by decide +kernel
theorem dX12_wouldBe_19 : decode cX12_wouldBe 19 = .ok (.aload_n 0, 1) := by decide +kernel
theorem dX12_wouldBe_20 : decode cX12_wouldBe 20 = .ok (.iload_n 1, 1) := by decide +kernel
theorem dX12_wouldBe_21 : decode cX12_wouldBe 21 = .ok (.iconst 0, 1) := by decide +kernel
theorem dX12_wouldBe_22 : decode cX12_wouldBe 22 = .ok (.invokevirtual 337, 3) := by decide +kernel
theorem dX12_wouldBe_25 : decode cX12_wouldBe 25 = .ok (.istore 4, 2) := by decide +kernel
theorem dX12_wouldBe_27 : decode cX12_wouldBe 27 = .ok (.iconst 0, 1) := by decide +kernel
theorem dX12_wouldBe_28 : decode cX12_wouldBe 28 = .ok (.istore 5, 2) := by decide +kernel
theorem dX12_wouldBe_30 : decode cX12_wouldBe 30 = .ok (.aload_n 0, 1) := by decide +kernel
theorem dX12_wouldBe_31 : decode cX12_wouldBe 31 = .ok (.invokevirtual 246, 3) := by decide +kernel
theorem dX12_wouldBe_34 : decode cX12_wouldBe 34 = .ok (.iconst 0, 1) := by decide +kernel
theorem dX12_wouldBe_35 : decode cX12_wouldBe 35 = .ok (.istore 6, 2) := by decide +kernel
theorem dX12_wouldBe_37 : decode cX12_wouldBe 37 = .ok (.iload 6, 2) := by decide +kernel
theorem dX12_wouldBe_39 : decode cX12_wouldBe 39 = .ok (.iload_n 3, 1) := by decide +kernel
theorem dX12_wouldBe_40 : decode cX12_wouldBe 40 = .ok (.if_icmp .ge 105, 3) := by decide +kernel
theorem dX12_wouldBe_43 : decode cX12_wouldBe 43 = .ok (.iload 4, 2) := by decide +kernel
theorem dX12_wouldBe_45 : decode cX12_wouldBe 45 = .ok (.ifCond .ne 100, 3) := by decide +kernel
theorem dX12_wouldBe_48 : decode cX12_wouldBe 48 = .ok (.aload_n 0, 1) := by decide +kernel
theorem dX12_wouldBe_49 : decode cX12_wouldBe 49 = .ok (.iload_n 1, 1) := by decide +kernel
theorem dX12_wouldBe_50 : decode cX12_wouldBe 50 = .ok (.iload_n 2, 1) := by decide +kernel
theorem dX12_wouldBe_51 : decode cX12_wouldBe 51 = .ok (.iload 6, 2) := by decide +kernel
theorem dX12_wouldBe_53 : decode cX12_wouldBe 53 = .ok (.invokevirtual 340, 3) := by decide +kernel
theorem dX12_wouldBe_56 : decode cX12_wouldBe 56 = .ok (.ifCond .eq 20, 3) := by decide +kernel
theorem dX12_wouldBe_59 : decode cX12_wouldBe 59 = .ok (.aload_n 0, 1) := by decide +kernel
theorem dX12_wouldBe_60 : decode cX12_wouldBe 60 = .ok (.getfield 59, 3) := by decide +kernel
theorem dX12_wouldBe_63 : decode cX12_wouldBe 63 = .ok (.bipush 40, 2) := by decide +kernel
theorem dX12_wouldBe_65 : decode cX12_wouldBe 65 = .ok (.iload_n 1, 1) := by decide +kernel
theorem dX12_wouldBe_66 : decode cX12_wouldBe 66 = .ok (.imul, 1) := by decide +kernel
theorem dX12_wouldBe_67 : decode cX12_wouldBe 67 = .ok (.iload_n 2, 1) := by decide +kernel
theorem dX12_wouldBe_68 : decode cX12_wouldBe 68 = .ok (.iadd, 1) := by decide +kernel
theorem dX12_wouldBe_69 : decode cX12_wouldBe 69 = .ok (.iload 6, 2) := by decide +kernel
theorem dX12_wouldBe_71 : decode cX12_wouldBe 71 = .ok (.iadd, 1) := by decide +kernel
theorem dX12_wouldBe_72 : decode cX12_wouldBe 72 = .ok (.iaload, 1) := by decide +kernel
theorem dX12_wouldBe_73 : decode cX12_wouldBe 73 = .ok (.goto 4, 3) := by decide +kernel
theorem dX12_wouldBe_76 : decode cX12_wouldBe 76 = .ok (.iconst (-1), 1) := by decide +kernel
theorem dX12_wouldBe_77 : decode cX12_wouldBe 77 = .ok (.istore 7, 2) := by decide +kernel
theorem dX12_wouldBe_79 : decode cX12_wouldBe 79 = .ok (.aload_n 0, 1) := by decide +kernel
theorem dX12_wouldBe_80 : decode cX12_wouldBe 80 = .ok (.iload_n 1, 1) := by decide +kernel
theorem dX12_wouldBe_81 : decode cX12_wouldBe 81 = .ok (.iload_n 2, 1) := by decide +kernel
theorem dX12_wouldBe_82 : decode cX12_wouldBe 82 = .ok (.iload 6, 2) := by decide +kernel
theorem dX12_wouldBe_84 : decode cX12_wouldBe 84 = .ok (.invokevirtual 340, 3) := by decide +kernel
theorem dX12_wouldBe_87 : decode cX12_wouldBe 87 = .ok (.ifCond .ne 8, 3) := by decide +kernel
theorem dX12_wouldBe_90 : decode cX12_wouldBe 90 = .ok (.bipush (-12), 2) := by decide +kernel
theorem dX12_wouldBe_92 : decode cX12_wouldBe 92 = .ok (.goto 25, 3) := by decide +kernel
theorem dX12_wouldBe_95 : decode cX12_wouldBe 95 = .ok (.aload_n 0, 1) := by decide +kernel
theorem dX12_wouldBe_96 : decode cX12_wouldBe 96 = .ok (.iload 7, 2) := by decide +kernel
theorem dX12_wouldBe_98 : decode cX12_wouldBe 98 = .ok (.invokevirtual 328, 3) := by decide +kernel
theorem dX12_wouldBe_101 : decode cX12_wouldBe 101 = .ok (.ifCond .eq 10, 3) := by decide +kernel
theorem dX12_wouldBe_104 : decode cX12_wouldBe 104 = .ok (.aload_n 0, 1) := by decide +kernel
theorem dX12_wouldBe_105 : decode cX12_wouldBe 105 = .ok (.invokevirtual 237, 3) := by decide +kernel
theorem dX12_wouldBe_108 : decode cX12_wouldBe 108 = .ok (.ifCond .eq 8, 3) := by decide +kernel
theorem dX12_wouldBe_111 : decode cX12_wouldBe 111 = .ok (.bipush (-4), 2) := by decide +kernel
theorem dX12_wouldBe_113 : decode cX12_wouldBe 113 = .ok (.goto 4, 3) := by decide +kernel
theorem dX12_wouldBe_116 : decode cX12_wouldBe 116 = .ok (.iconst 0, 1) := by decide +kernel
theorem dX12_wouldBe_117 : decode cX12_wouldBe 117 = .ok (.istore 4, 2) := by decide +kernel
theorem dX12_wouldBe_119 : decode cX12_wouldBe 119 = .ok (.iload 5, 2) := by decide +kernel
theorem dX12_wouldBe_121 : decode cX12_wouldBe 121 = .ok (.iload 4, 2) := by decide +kernel
theorem dX12_wouldBe_123 : decode cX12_wouldBe 123 = .ok (.ifCond .ne 12, 3) := by decide +kernel
theorem dX12_wouldBe_126 : decode cX12_wouldBe 126 = .ok (.aload_n 0, 1) := by decide +kernel
theorem dX12_wouldBe_127 : decode cX12_wouldBe 127 = .ok (.iload 7, 2) := by decide +kernel
theorem dX12_wouldBe_129 : decode cX12_wouldBe 129 = .ok (.invokevirtual 243, 3) := by decide +kernel
theorem dX12_wouldBe_132 : decode cX12_wouldBe 132 = .ok (.goto 4, 3) := by decide +kernel
theorem dX12_wouldBe_135 : decode cX12_wouldBe 135 = .ok (.iconst 0, 1) := by decide +kernel
theorem dX12_wouldBe_136 : decode cX12_wouldBe 136 = .ok (.iadd, 1) := by decide +kernel
theorem dX12_wouldBe_137 : decode cX12_wouldBe 137 = .ok (.istore 5, 2) := by decide +kernel
theorem dX12_wouldBe_139 : decode cX12_wouldBe 139 = .ok (.iinc 6 1, 3) := by decide +kernel
theorem dX12_wouldBe_142 : decode cX12_wouldBe 142 = .ok (.goto (-105), 3) := by decide +kernel
theorem dX12_wouldBe_145 : decode cX12_wouldBe 145 = .ok (.aload_n 0, 1) := by decide +kernel
theorem dX12_wouldBe_146 : decode cX12_wouldBe 146 = .ok (.invokevirtual 252, 3) := by decide +kernel
theorem dX12_wouldBe_149 : decode cX12_wouldBe 149 = .ok (.iload 4, 2) := by decide +kernel
theorem dX12_wouldBe_151 : decode cX12_wouldBe 151 = .ok (.ifCond .eq 8, 3) := by decide +kernel
theorem dX12_wouldBe_154 : decode cX12_wouldBe 154 = .ok (.iload 4, 2) := by decide +kernel
theorem dX12_wouldBe_156 : decode cX12_wouldBe 156 = .ok (.goto 5, 3) := by decide +kernel
theorem dX12_wouldBe_159 : decode cX12_wouldBe 159 = .ok (.iload 5, 2) := by decide +kernel
theorem dX12_wouldBe_161 : decode cX12_wouldBe 161 = .ok (.ireturn, 1) := by decide +kernel
theorem k_X12_wouldBe : MV yX12_wouldBe cX12_wouldBe 8 (some .int) 3 := ⟨q_1660, q_1661, q_14, q_1662, ⟨by decide, by decide, by decide +kernel⟩⟩
theorem c_X12_wouldBe {res : Int32 × (Nat → Int32) × (Nat → Int32) × (Nat → Int32)} (hf : X12_wouldBe n x_s x_laid x_pile x_sorts x_sizes x_number v1 v2 v3 = some res) : MC l E0 D t yX12_wouldBe cX12_wouldBe 8 (some .int) 8 0 0 [.ref (a 0), .int v1, .int v2, .int v3] (mW a t x_s x_kept x_laid x_isKept x_pile x_tape x_taped x_letters x_at x_begun x_token x_value x_opened x_steps x_code0 x_read x_saved x_plan x_bestPlan x_most x_many x_few x_everRight x_lagThen x_shadedThen x_firstFit x_rows x_rowMany x_sorts x_sizes x_number x_holds x_heldOne x_trace x_traced x_own x_isParted) (Qi res.1 (mW a t res.2.1 x_kept res.2.2.1 x_isKept res.2.2.2 x_tape x_taped x_letters x_at x_begun x_token x_value x_opened x_steps x_code0 x_read x_saved x_plan x_bestPlan x_most x_many x_few x_everRight x_lagThen x_shadedThen x_firstFit x_rows x_rowMany x_sorts x_sizes x_number x_holds x_heldOne x_trace x_traced x_own x_isParted)) := by
  unfold X12_wouldBe at hf
  refine MC.ofI pn_X12 (Nat.le_of_ble_eq_true rfl) ?_
  intro p e s m args below meth c A Q ls cx hR hw hl
  have hx := cx.1
  have hb := cx.2.1
  have hl : lv_has ls 8 [(0, .ref (a 0)), (1, .int v1), (2, .int v2), (3, .int v3)] := hl
  refine lv_iload_n hx hb dX12_wouldBe_0 rfl (lv_at hl 1 rfl) ?_
  refine calSi cx hw hl.1 (c_X12_isSheet rfl) q_1633 k_X12_isSheet rfl dX12_wouldBe_1 rfl (Nat.le_of_ble_eq_true rfl) ⟨Nat.le_of_ble_eq_true rfl, Nat.le_of_ble_eq_true rfl⟩ ⟨Nat.le_refl _, Nat.le_refl _⟩ (fun H locs hw => ?_)
  refine lv_if_eq (tgt := 17) hx hb dX12_wouldBe_4 (by decide) (fun hc => ?_) (fun hc => ?_)
  · have hf := ifT hf hc
    refine lv_iconst (v := (-1)) hx hb dX12_wouldBe_17 (by decide) ?_
    have hf := Option.some.inj hf
    subst hf
    exact hR _ _ _ _ _ _ hw rfl ⟨rfl, rfl⟩ dX12_wouldBe_18
  · have hf := ifF hf hc
    refine lv_iload_n hx hb dX12_wouldBe_7 rfl (lv_at hl 3 rfl) ?_
    refine lv_iconst (v := 0) hx hb dX12_wouldBe_8 (by decide) ?_
    refine lv_bipush (v := 20) hx hb dX12_wouldBe_9 (by decide) ?_
    refine calSi cx hw hl.1 (c_X12_in1 rfl) q_1214 k_X12_in1 rfl dX12_wouldBe_11 rfl (Nat.le_of_ble_eq_true rfl) ⟨Nat.le_of_ble_eq_true rfl, Nat.le_of_ble_eq_true rfl⟩ ⟨Nat.le_refl _, Nat.le_refl _⟩ (fun H locs hw => ?_)
    refine lv_if_ne (tgt := 19) hx hb dX12_wouldBe_14 (by decide) (fun hc => ?_) (fun hc => ?_)
    · have hf := ifF hf hc
      refine lv_aload_n hx hb dX12_wouldBe_19 rfl (lv_at hl 0 rfl) ?_
      refine lv_iload_n hx hb dX12_wouldBe_20 rfl (lv_at hl 1 rfl) ?_
      refine lv_iconst (v := 0) hx hb dX12_wouldBe_21 (by decide) ?_
      obtain ⟨r1, h2, hf⟩ := bnS hf
      refine calVi (k := 0) cx hw hl.1 (c_X12_lacks h2) q_1647 k_X12_lacks rfl rfl rfl dX12_wouldBe_22 rfl (Nat.le_of_ble_eq_true rfl) ⟨Nat.le_of_ble_eq_true rfl, Nat.le_of_ble_eq_true rfl⟩ ⟨Nat.le_refl _, Nat.le_refl _⟩ (fun H locs hw => ?_)
      refine lv_istore (lv' := [(4, .int r1), (0, .ref (a 0)), (1, .int v1), (2, .int v2), (3, .int v3)]) hx hb dX12_wouldBe_25 hl (by decide) rfl (fun ls hl => ?_)
      refine lv_iconst (v := 0) hx hb dX12_wouldBe_27 (by decide) ?_
      refine lv_istore (lv' := [(5, .int (0 : Int32)), (4, .int r1), (0, .ref (a 0)), (1, .int v1), (2, .int v2), (3, .int v3)]) hx hb dX12_wouldBe_28 hl (by decide) rfl (fun ls hl => ?_)
      refine lv_aload_n hx hb dX12_wouldBe_30 rfl (lv_at hl 2 rfl) ?_
      obtain ⟨r3, h4, hf⟩ := bnS hf
      refine calVv (k := 0) cx hw hl.1 (c_X12_layDown h4) q_1445 k_X12_layDown rfl rfl rfl dX12_wouldBe_31 rfl (Nat.le_of_ble_eq_true rfl) ⟨Nat.le_of_ble_eq_true rfl, Nat.le_of_ble_eq_true rfl⟩ ⟨Nat.le_refl _, Nat.le_refl _⟩ (fun H locs hw => ?_)
      refine lv_iconst (v := 0) hx hb dX12_wouldBe_34 (by decide) ?_
      refine lv_istore (lv' := [(6, .int (0 : Int32)), (5, .int (0 : Int32)), (4, .int r1), (0, .ref (a 0)), (1, .int v1), (2, .int v2), (3, .int v3)]) hx hb dX12_wouldBe_35 hl (by decide) rfl (fun ls hl => ?_)
      obtain ⟨o16, ho16, hf⟩ := bnS hf
      have wL1 : ∀ (k : Nat) {v1 : Int32} {v2 : Int32} {v3 : Int32} {v4 : Int32} {v5 : Int32} {v6 : Int32} {x_s : Nat → Int32} {x_laid : Nat → Int32} {x_pile : Nat → Int32} {H : Heap} {locs : List Loc} {ls : Array Slot} {o : Int32 × Int32 × Int32 × (Nat → Int32) × (Nat → Int32)}, X12_wouldBe_L1 n x_sizes x_number v1 v2 v3 k v4 v5 v6 x_s x_pile = some o → Wd D A s (mW a t x_s x_kept x_laid x_isKept x_pile x_tape x_taped x_letters x_at x_begun x_token x_value x_opened x_steps x_code0 x_read x_saved x_plan x_bestPlan x_most x_many x_few x_everRight x_lagThen x_shadedThen x_firstFit x_rows x_rowMany x_sorts x_sizes x_number x_holds x_heldOne x_trace x_traced x_own x_isParted) H locs → lv_has ls 8 [(0, .ref (a 0)), (1, .int v1), (2, .int v2), (3, .int v3), (4, .int v4), (5, .int v5), (6, .int v6)] → (∀ (H : Heap) (locs : List Loc) (ls : Array Slot), Wd D A s (mW a t o.2.2.2.1 x_kept x_laid x_isKept o.2.2.2.2 x_tape x_taped x_letters x_at x_begun x_token x_value x_opened x_steps x_code0 x_read x_saved x_plan x_bestPlan x_most x_many x_few x_everRight x_lagThen x_shadedThen x_firstFit x_rows x_rowMany x_sorts x_sizes x_number x_holds x_heldOne x_trace x_traced x_own x_isParted) H locs → lv_has ls 8 [(0, .ref (a 0)), (1, .int v1), (2, .int v2), (3, .int v3), (4, .int o.1), (5, .int o.2.1), (6, .int o.2.2.1)] → W p l e (rmz 8 0 0) s m args below meth c H locs 0 0 Q (F0 m 145 ls [])) → W p l e (rmz 8 0 0) s m args below meth c H locs 0 0 Q (F0 m 37 ls []) := by
        clear hf ho16 hw hl
        intro k
        induction k with
        | zero => intro v1 v2 v3 v4 v5 v6 x_s x_laid x_pile H locs ls o hf hw hl kx; simp [X12_wouldBe_L1] at hf
        | succ k ih =>
          intro v1 v2 v3 v4 v5 v6 x_s x_laid x_pile H locs ls o hf hw hl kx
          rw [X12_wouldBe_L1] at hf
          refine lv_iload hx hb dX12_wouldBe_37 (lv_at hl 6 rfl) ?_
          refine lv_iload_n hx hb dX12_wouldBe_39 rfl (lv_at hl 3 rfl) ?_
          refine lv_icmp_ge (tgt := 145) hx hb dX12_wouldBe_40 (by decide) (fun hc => ?_) (fun hc => ?_)
          · have hf := ifT hf hc
            have hf := Option.some.inj hf
            subst hf
            exact kx _ _ _ hw (lv_sub hl [0, 1, 2, 3, 4, 5, 6] rfl)
          · have hf := ifF hf hc
            refine lv_iload hx hb dX12_wouldBe_43 (lv_at hl 4 rfl) ?_
            refine lv_if_ne (tgt := 145) hx hb dX12_wouldBe_45 (by decide) (fun hc => ?_) (fun hc => ?_)
            · have hf := ifF hf hc
              have hf := Option.some.inj hf
              subst hf
              exact kx _ _ _ hw (lv_sub hl [0, 1, 2, 3, 4, 5, 6] rfl)
            · have hf := ifT hf hc
              refine lv_aload_n hx hb dX12_wouldBe_48 rfl (lv_at hl 0 rfl) ?_
              refine lv_iload_n hx hb dX12_wouldBe_49 rfl (lv_at hl 1 rfl) ?_
              refine lv_iload_n hx hb dX12_wouldBe_50 rfl (lv_at hl 2 rfl) ?_
              refine lv_iload hx hb dX12_wouldBe_51 (lv_at hl 6 rfl) ?_
              obtain ⟨r5, h6, hf⟩ := bnS hf
              refine calVi (k := 0) cx hw hl.1 (c_X12_isItem h6) q_1655 k_X12_isItem rfl rfl rfl dX12_wouldBe_53 rfl (Nat.le_of_ble_eq_true rfl) ⟨Nat.le_of_ble_eq_true rfl, Nat.le_of_ble_eq_true rfl⟩ ⟨Nat.le_refl _, Nat.le_refl _⟩ (fun H locs hw => ?_)
              obtain ⟨j8, hj8, hf⟩ := bnS hf
              have wj8 : ∀ (H : Heap) (locs : List Loc) (ls : Array Slot), Wd D A s (mW a t x_s x_kept x_laid x_isKept x_pile x_tape x_taped x_letters x_at x_begun x_token x_value x_opened x_steps x_code0 x_read x_saved x_plan x_bestPlan x_most x_many x_few x_everRight x_lagThen x_shadedThen x_firstFit x_rows x_rowMany x_sorts x_sizes x_number x_holds x_heldOne x_trace x_traced x_own x_isParted) H locs → lv_has ls 8 [(0, .ref (a 0)), (1, .int v1), (2, .int v2), (3, .int v3), (4, .int v4), (5, .int v5), (6, .int v6)] → W p l e (rmz 8 0 0) s m args below meth c H locs 0 0 Q (F0 m 77 ls [.int j8]) := by
                intro H locs ls hw hl
                refine lv_istore (lv' := [(7, .int j8), (0, .ref (a 0)), (1, .int v1), (2, .int v2), (3, .int v3), (4, .int v4), (5, .int v5), (6, .int v6)]) hx hb dX12_wouldBe_77 hl (by decide) rfl (fun ls hl => ?_)
                refine lv_aload_n hx hb dX12_wouldBe_79 rfl (lv_at hl 1 rfl) ?_
                refine lv_iload_n hx hb dX12_wouldBe_80 rfl (lv_at hl 2 rfl) ?_
                refine lv_iload_n hx hb dX12_wouldBe_81 rfl (lv_at hl 3 rfl) ?_
                refine lv_iload hx hb dX12_wouldBe_82 (lv_at hl 7 rfl) ?_
                obtain ⟨r9, h10, hf⟩ := bnS hf
                refine calVi (k := 0) cx hw hl.1 (c_X12_isItem h10) q_1655 k_X12_isItem rfl rfl rfl dX12_wouldBe_84 rfl (Nat.le_of_ble_eq_true rfl) ⟨Nat.le_of_ble_eq_true rfl, Nat.le_of_ble_eq_true rfl⟩ ⟨Nat.le_refl _, Nat.le_refl _⟩ (fun H locs hw => ?_)
                obtain ⟨j12, hj12, hf⟩ := bnS hf
                have wj12 : ∀ (H : Heap) (locs : List Loc) (ls : Array Slot), Wd D A s (mW a t x_s x_kept x_laid x_isKept x_pile x_tape x_taped x_letters x_at x_begun x_token x_value x_opened x_steps x_code0 x_read x_saved x_plan x_bestPlan x_most x_many x_few x_everRight x_lagThen x_shadedThen x_firstFit x_rows x_rowMany x_sorts x_sizes x_number x_holds x_heldOne x_trace x_traced x_own x_isParted) H locs → lv_has ls 8 [(0, .ref (a 0)), (1, .int v1), (2, .int v2), (3, .int v3), (4, .int v4), (5, .int v5), (6, .int v6), (7, .int j8)] → W p l e (rmz 8 0 0) s m args below meth c H locs 0 0 Q (F0 m 117 ls [.int j12]) := by
                  intro H locs ls hw hl
                  refine lv_istore (lv' := [(4, .int j12), (0, .ref (a 0)), (1, .int v1), (2, .int v2), (3, .int v3), (5, .int v5), (6, .int v6), (7, .int j8)]) hx hb dX12_wouldBe_117 hl (by decide) rfl (fun ls hl => ?_)
                  refine lv_iload hx hb dX12_wouldBe_119 (lv_at hl 5 rfl) ?_
                  refine lv_iload hx hb dX12_wouldBe_121 (lv_at hl 0 rfl) ?_
                  obtain ⟨j15, hj15, hf⟩ := bnS hf
                  have wj15 : ∀ (H : Heap) (locs : List Loc) (ls : Array Slot), Wd D A s (mW a t j15.2.1 x_kept x_laid x_isKept j15.2.2 x_tape x_taped x_letters x_at x_begun x_token x_value x_opened x_steps x_code0 x_read x_saved x_plan x_bestPlan x_most x_many x_few x_everRight x_lagThen x_shadedThen x_firstFit x_rows x_rowMany x_sorts x_sizes x_number x_holds x_heldOne x_trace x_traced x_own x_isParted) H locs → lv_has ls 8 [(0, .ref (a 0)), (1, .int v1), (2, .int v2), (3, .int v3), (4, .int j12), (5, .int v5), (6, .int v6), (7, .int j8)] → W p l e (rmz 8 0 0) s m args below meth c H locs 0 0 Q (F0 m 136 ls [.int j15.1, .int v5]) := by
                    intro H locs ls hw hl
                    refine lv_iadd hx hb dX12_wouldBe_136 ?_
                    refine lv_istore (lv' := [(5, .int (v5 + j15.1)), (0, .ref (a 0)), (1, .int v1), (2, .int v2), (3, .int v3), (4, .int j12), (6, .int v6), (7, .int j8)]) hx hb dX12_wouldBe_137 hl (by decide) rfl (fun ls hl => ?_)
                    refine lv_iinc (v := (v6 + (1 : Int32))) (lv' := [(6, .int (v6 + (1 : Int32))), (5, .int (v5 + j15.1)), (0, .ref (a 0)), (1, .int v1), (2, .int v2), (3, .int v3), (4, .int j12), (7, .int j8)]) hx hb dX12_wouldBe_139 hl (k := 6) rfl rfl (by decide) rfl (fun ls hl => ?_)
                    refine lv_goto (tgt := 37) hx hb dX12_wouldBe_142 (by decide) ?_
                    exact ih hf hw (lv_sub hl [2, 3, 4, 5, 6, 1, 0] rfl) kx
                  clear hf
                  have hf := hj15
                  clear hj15
                  refine lv_if_ne (tgt := 135) hx hb dX12_wouldBe_123 (by decide) (fun hc => ?_) (fun hc => ?_)
                  · have hf := ifF hf hc
                    refine lv_iconst (v := 0) hx hb dX12_wouldBe_135 (by decide) ?_
                    have hf := Option.some.inj hf
                    subst hf
                    exact wj15 _ _ _ hw (lv_sub hl [1, 2, 3, 4, 0, 5, 6, 7] rfl)
                  · have hf := ifT hf hc
                    refine lv_aload_n hx hb dX12_wouldBe_126 rfl (lv_at hl 1 rfl) ?_
                    refine lv_iload hx hb dX12_wouldBe_127 (lv_at hl 7 rfl) ?_
                    obtain ⟨r13, h14, hf⟩ := bnS hf
                    refine calVi (k := 0) cx hw hl.1 (c_X12_goesBy h14) q_1418 k_X12_goesBy rfl rfl rfl dX12_wouldBe_129 rfl (Nat.le_of_ble_eq_true rfl) ⟨Nat.le_of_ble_eq_true rfl, Nat.le_of_ble_eq_true rfl⟩ ⟨Nat.le_refl _, Nat.le_refl _⟩ (fun H locs hw => ?_)
                    refine lv_goto (tgt := 136) hx hb dX12_wouldBe_132 (by decide) ?_
                    have hf := Option.some.inj hf
                    subst hf
                    exact wj15 _ _ _ hw (lv_sub hl [1, 2, 3, 4, 0, 5, 6, 7] rfl)
                clear hf
                have hf := hj12
                clear hj12
                refine lv_if_ne (tgt := 95) hx hb dX12_wouldBe_87 (by decide) (fun hc => ?_) (fun hc => ?_)
                · have hf := ifF hf hc
                  refine lv_aload_n hx hb dX12_wouldBe_95 rfl (lv_at hl 1 rfl) ?_
                  refine lv_iload hx hb dX12_wouldBe_96 (lv_at hl 0 rfl) ?_
                  refine calVi (k := 0) cx hw hl.1 (c_X12_isAct rfl) q_1625 k_X12_isAct rfl rfl rfl dX12_wouldBe_98 rfl (Nat.le_of_ble_eq_true rfl) ⟨Nat.le_of_ble_eq_true rfl, Nat.le_of_ble_eq_true rfl⟩ ⟨Nat.le_refl _, Nat.le_refl _⟩ (fun H locs hw => ?_)
                  obtain ⟨J11, hJ11, hf⟩ := jnS hf
                  have wj11 : ∀ (j11 : Unit) (H : Heap) (locs : List Loc) (ls : Array Slot), J11 j11 = some j12 → Wd D A s (mW a t x_s x_kept x_laid x_isKept x_pile x_tape x_taped x_letters x_at x_begun x_token x_value x_opened x_steps x_code0 x_read x_saved x_plan x_bestPlan x_most x_many x_few x_everRight x_lagThen x_shadedThen x_firstFit x_rows x_rowMany x_sorts x_sizes x_number x_holds x_heldOne x_trace x_traced x_own x_isParted) H locs → lv_has ls 8 [(0, .ref (a 0)), (1, .int v1), (2, .int v2), (3, .int v3), (4, .int v4), (5, .int v5), (6, .int v6), (7, .int j8)] → W p l e (rmz 8 0 0) s m args below meth c H locs 0 0 Q (F0 m 111 ls []) := by
                    intro j11 H locs ls hf hw hl
                    have hf := hJ11 _ hf
                    refine lv_bipush (v := (-4)) hx hb dX12_wouldBe_111 (by decide) ?_
                    refine lv_goto (tgt := 117) hx hb dX12_wouldBe_113 (by decide) ?_
                    have hf := Option.some.inj hf
                    subst hf
                    exact wj12 _ _ _ hw (lv_sub hl [0, 1, 2, 3, 4, 5, 6, 7] rfl)
                  clear hJ11
                  refine lv_if_eq (tgt := 111) hx hb dX12_wouldBe_101 (by decide) (fun hc => ?_) (fun hc => ?_)
                  · have hf := ifT hf hc
                    exact wj11 _ _ _ _ hf hw (lv_sub hl [1, 2, 3, 4, 5, 6, 7, 0] rfl)
                  · have hf := ifF hf hc
                    refine lv_aload_n hx hb dX12_wouldBe_104 rfl (lv_at hl 1 rfl) ?_
                    refine calVi (k := 0) cx hw hl.1 (c_X12_isOver rfl) q_1395 k_X12_isOver rfl rfl rfl dX12_wouldBe_105 rfl (Nat.le_of_ble_eq_true rfl) ⟨Nat.le_of_ble_eq_true rfl, Nat.le_of_ble_eq_true rfl⟩ ⟨Nat.le_refl _, Nat.le_refl _⟩ (fun H locs hw => ?_)
                    refine lv_if_eq (tgt := 116) hx hb dX12_wouldBe_108 (by decide) (fun hc => ?_) (fun hc => ?_)
                    · have hf := ifT hf hc
                      refine lv_iconst (v := 0) hx hb dX12_wouldBe_116 (by decide) ?_
                      have hf := Option.some.inj hf
                      subst hf
                      exact wj12 _ _ _ hw (lv_sub hl [1, 2, 3, 4, 5, 6, 7, 0] rfl)
                    · have hf := ifF hf hc
                      exact wj11 _ _ _ _ hf hw (lv_sub hl [1, 2, 3, 4, 5, 6, 7, 0] rfl)
                · have hf := ifT hf hc
                  refine lv_bipush (v := (-12)) hx hb dX12_wouldBe_90 (by decide) ?_
                  refine lv_goto (tgt := 117) hx hb dX12_wouldBe_92 (by decide) ?_
                  have hf := Option.some.inj hf
                  subst hf
                  exact wj12 _ _ _ hw (lv_sub hl [1, 2, 3, 4, 5, 6, 7, 0] rfl)
              clear hf
              have hf := hj8
              clear hj8
              refine lv_if_eq (tgt := 76) hx hb dX12_wouldBe_56 (by decide) (fun hc => ?_) (fun hc => ?_)
              · have hf := ifT hf hc
                refine lv_iconst (v := (-1)) hx hb dX12_wouldBe_76 (by decide) ?_
                have hf := Option.some.inj hf
                subst hf
                exact wj8 _ _ _ hw (lv_sub hl [0, 1, 2, 3, 4, 5, 6] rfl)
              · have hf := ifF hf hc
                refine lv_aload_n hx hb dX12_wouldBe_59 rfl (lv_at hl 0 rfl) ?_
                refine mg_number cx hw dX12_wouldBe_60 ?_
                refine lv_bipush (v := 40) hx hb dX12_wouldBe_63 (by decide) ?_
                refine lv_iload_n hx hb dX12_wouldBe_65 rfl (lv_at hl 1 rfl) ?_
                refine lv_imul hx hb dX12_wouldBe_66 ?_
                refine lv_iload_n hx hb dX12_wouldBe_67 rfl (lv_at hl 2 rfl) ?_
                refine lv_iadd hx hb dX12_wouldBe_68 ?_
                refine lv_iload hx hb dX12_wouldBe_69 (lv_at hl 6 rfl) ?_
                refine lv_iadd hx hb dX12_wouldBe_71 ?_
                obtain ⟨h7, hf⟩ := ckS hf
                refine ml_number (j := ((((40 : Int32) * v1) + v2) + v6).toNatClampNeg) cx hw (ib_in h7) rfl dX12_wouldBe_72 ?_
                refine lv_goto (tgt := 77) hx hb dX12_wouldBe_73 (by decide) ?_
                have hf := Option.some.inj hf
                subst hf
                exact wj8 _ _ _ hw (lv_sub hl [0, 1, 2, 3, 4, 5, 6] rfl)
      refine wL1 n ho16 hw (lv_sub hl [3, 4, 5, 6, 2, 1, 0] rfl) (fun H locs ls hw hl => ?_)
      clear wL1 ho16
      refine lv_aload_n hx hb dX12_wouldBe_145 rfl (lv_at hl 0 rfl) ?_
      obtain ⟨r17, h18, hf⟩ := bnS hf
      refine calVv (k := 0) cx hw hl.1 (c_X12_layBack h18) q_1453 k_X12_layBack rfl rfl rfl dX12_wouldBe_146 rfl (Nat.le_of_ble_eq_true rfl) ⟨Nat.le_of_ble_eq_true rfl, Nat.le_of_ble_eq_true rfl⟩ ⟨Nat.le_refl _, Nat.le_refl _⟩ (fun H locs hw => ?_)
      refine lv_iload hx hb dX12_wouldBe_149 (lv_at hl 4 rfl) ?_
      refine lv_if_eq (tgt := 159) hx hb dX12_wouldBe_151 (by decide) (fun hc => ?_) (fun hc => ?_)
      · have hf := ifT hf hc
        refine lv_iload hx hb dX12_wouldBe_159 (lv_at hl 5 rfl) ?_
        have hf := Option.some.inj hf
        subst hf
        exact hR _ _ _ _ _ _ hw rfl ⟨rfl, rfl⟩ dX12_wouldBe_161
      · have hf := ifF hf hc
        refine lv_iload hx hb dX12_wouldBe_154 (lv_at hl 4 rfl) ?_
        refine lv_goto (tgt := 161) hx hb dX12_wouldBe_156 (by decide) ?_
        have hf := Option.some.inj hf
        subst hf
        exact hR _ _ _ _ _ _ hw rfl ⟨rfl, rfl⟩ dX12_wouldBe_161
    · have hf := ifT hf hc
      refine lv_iconst (v := (-1)) hx hb dX12_wouldBe_17 (by decide) ?_
      have hf := Option.some.inj hf
      subst hf
      exact hR _ _ _ _ _ _ hw rfl ⟨rfl, rfl⟩ dX12_wouldBe_18
theorem dX12_shelf_0 : decode cX12_shelf 0 = .ok (.iload_n 1, 1) := by decide +kernel
theorem dX12_shelf_1 : decode cX12_shelf 1 = .ok (.invokestatic 331, 3) := by decide +kernel
theorem dX12_shelf_4 : decode cX12_shelf 4 = .ok (.ifCond .eq 36, 3) := by decide +kernel
theorem dX12_shelf_7 : decode cX12_shelf 7 = .ok (.iload_n 2, 1) := by decide +kernel
theorem dX12_shelf_8 : decode cX12_shelf 8 = .ok (.iconst 0, 1) := by decide +kernel
theorem dX12_shelf_9 : decode cX12_shelf 9 = .ok (.iconst 2, 1) := by decide +kernel
theorem dX12_shelf_10 : decode cX12_shelf 10 = .ok (.invokestatic 71, 3) := by decide +kernel
theorem dX12_shelf_13 : decode cX12_shelf 13 = .ok (.ifCond .eq 27, 3) := by decide +kernel
theorem dX12_shelf_16 : decode cX12_shelf 16 = .ok (.iload_n 2, 1) := by decide +kernel
theorem dX12_shelf_17 : decode cX12_shelf 17 = .ok (.ifCond .ne 11, 3) := by decide +kernel
theorem dX12_shelf_20 : decode cX12_shelf 20 = .ok (.aload_n 0, 1) := by decide +kernel
theorem dX12_shelf_21 : decode cX12_shelf 21 = .ok (.iload_n 3, 1) := by decide +kernel
theorem dX12_shelf_22 : decode cX12_shelf 22 = .ok (.invokevirtual 231, 3) := by decide +kernel
theorem dX12_shelf_25 : decode cX12_shelf 25 = .ok (.ifCond .eq 15, 3) := by decide +kernel
theorem dX12_shelf_28 : decode cX12_shelf 28 = .ok (.iload_n 2, 1) := by decide +kernel
theorem dX12_shelf_29 : decode cX12_shelf 29 = .ok (.iconst 1, 1) := by decide +kernel
theorem dX12_shelf_30 : decode cX12_shelf 30 = .ok (.if_icmp .ne 12, 3) := by decide +kernel
theorem dX12_shelf_33 : decode cX12_shelf 33 = .ok (.iload_n 3, 1) := by decide +kernel
theorem dX12_shelf_34 : decode cX12_shelf 34 = .ok (.invokestatic 331, 3) := by decide +kernel
theorem dX12_shelf_37 : decode cX12_shelf 37 = .ok (.ifCond .ne 5, 3) := by decide +kernel
theorem dX12_shelf_40 : decode cX12_shelf 40 = .ok (.iconst (-1), 1) := by decide +kernel
theorem dX12_shelf_41 : decode cX12_shelf 41 = .ok (.ireturn, 1) := by decide +kernel
theorem dX12_shelf_42 : decode cX12_shelf 42 = .ok (.aload_n 0, 1) := by decide +kernel
theorem dX12_shelf_43 : decode cX12_shelf 43 = .ok (.getfield 62, 3) := by decide +kernel
theorem dX12_shelf_46 : decode cX12_shelf 46 = .ok (.iload_n 1, 1) := by decide +kernel
theorem dX12_shelf_47 : decode cX12_shelf 47 = .ok (.iload_n 2, 1) := by decide +kernel
theorem dX12_shelf_48 : decode cX12_shelf 48 = .ok (.ifCond .ne 7, 3) := by decide +kernel
theorem dX12_shelf_51 : decode cX12_shelf 51 = .ok (.iconst 0, 1) := by decide +kernel
theorem dX12_shelf_52 : decode cX12_shelf 52 = .ok (.goto 30, 3) := by decide +kernel
theorem dX12_shelf_55 : decode cX12_shelf 55 = .ok (.iload_n 2, 1) := by decide +kernel
theorem dX12_shelf_56 : decode cX12_shelf 56 = .ok (.iconst 1, 1) := by decide +kernel
theorem dX12_shelf_57 : decode cX12_shelf 57 = .ok (.if_icmp .ne 24, 3) := by decide +kernel
theorem dX12_shelf_60 : decode cX12_shelf 60 = .ok (.aload_n 0, 1) := by decide +kernel
theorem dX12_shelf_61 : decode cX12_shelf 61 = .ok (.getfield 53, 3) := by decide +kernel
theorem dX12_shelf_64 : decode cX12_shelf 64 = .ok (.iload_n 3, 1) := by decide +kernel
theorem dX12_shelf_65 : decode cX12_shelf 65 = .ok (.iaload, 1) := by decide +kernel
theorem dX12_shelf_66 : decode cX12_shelf 66 = .ok (.ifCond .lt 15, 3) := by decide +kernel
theorem dX12_shelf_69 : decode cX12_shelf 69 = .ok (.bipush 10, 2) := by decide +kernel
theorem dX12_shelf_71 : decode cX12_shelf 71 = .ok (.aload_n 0, 1) := by decide +kernel
theorem dX12_shelf_72 : decode cX12_shelf 72 = .ok (.getfield 53, 3) := by decide +kernel
theorem dX12_shelf_75 : decode cX12_shelf 75 = .ok (.iload_n 3, 1) := by decide +kernel
theorem dX12_shelf_76 : decode cX12_shelf 76 = .ok (.iaload, 1) := by decide +kernel
theorem dX12_shelf_77 : decode cX12_shelf 77 = .ok (.iadd, 1) := by decide +kernel
theorem dX12_shelf_78 : decode cX12_shelf 78 = .ok (.goto 4, 3) := by decide +kernel
theorem dX12_shelf_81 : decode cX12_shelf 81 = .ok (.iconst (-1), 1) := by decide +kernel
theorem dX12_shelf_82 : decode cX12_shelf 82 = .ok (.iastore, 1) := by decide +kernel
theorem dX12_shelf_83 : decode cX12_shelf 83 = .ok (.aload_n 0, 1) := by decide +kernel
theorem dX12_shelf_84 : decode cX12_shelf 84 = .ok (.getfield 65, 3) := by decide +kernel
theorem dX12_shelf_87 : decode cX12_shelf 87 = .ok (.iload_n 1, 1) := by decide +kernel
theorem dX12_shelf_88 : decode cX12_shelf 88 = .ok (.iload_n 2, 1) := by decide +kernel
theorem dX12_shelf_89 : decode cX12_shelf 89 = .ok (.ifCond .ne 7, 3) := by decide +kernel
theorem dX12_shelf_92 : decode cX12_shelf 92 = .ok (.iload_n 3, 1) := by decide +kernel
theorem dX12_shelf_93 : decode cX12_shelf 93 = .ok (.goto 18, 3) := by decide +kernel
theorem dX12_shelf_96 : decode cX12_shelf 96 = .ok (.iload_n 2, 1) := by decide +kernel
theorem dX12_shelf_97 : decode cX12_shelf 97 = .ok (.iconst 1, 1) := by decide +kernel
theorem dX12_shelf_98 : decode cX12_shelf 98 = .ok (.if_icmp .ne 12, 3) := by decide +kernel
theorem dX12_shelf_101 : decode cX12_shelf 101 = .ok (.aload_n 0, 1) := by decide +kernel
theorem dX12_shelf_102 : decode cX12_shelf 102 = .ok (.getfield 56, 3) := by decide +kernel
theorem dX12_shelf_105 : decode cX12_shelf 105 = .ok (.iload_n 3, 1) := by decide +kernel
theorem dX12_shelf_106 : decode cX12_shelf 106 = .ok (.iaload, 1) := by decide +kernel
theorem dX12_shelf_107 : decode cX12_shelf 107 = .ok (.goto 4, 3) := by decide +kernel
theorem dX12_shelf_110 : decode cX12_shelf 110 = .ok (.iconst 0, 1) := by decide +kernel
theorem dX12_shelf_111 : decode cX12_shelf 111 = .ok (.iastore, 1) := by decide +kernel
theorem dX12_shelf_112 : decode cX12_shelf 112 = .ok (.iconst 1, 1) := by decide +kernel
theorem dX12_shelf_113 : decode cX12_shelf 113 = .ok (.ireturn, 1) := by decide +kernel
theorem k_X12_shelf : MV yX12_shelf cX12_shelf 4 (some .int) 3 := ⟨q_1664, q_1665, q_14, q_1666, ⟨by decide, by decide, by decide +kernel⟩⟩
theorem c_X12_shelf {res : Int32 × (Nat → Int32) × (Nat → Int32)} (hf : X12_shelf x_s x_sorts x_sizes x_holds x_heldOne v1 v2 v3 = some res) : MC l E0 D t yX12_shelf cX12_shelf 4 (some .int) 3 0 0 [.ref (a 0), .int v1, .int v2, .int v3] (mW a t x_s x_kept x_laid x_isKept x_pile x_tape x_taped x_letters x_at x_begun x_token x_value x_opened x_steps x_code0 x_read x_saved x_plan x_bestPlan x_most x_many x_few x_everRight x_lagThen x_shadedThen x_firstFit x_rows x_rowMany x_sorts x_sizes x_number x_holds x_heldOne x_trace x_traced x_own x_isParted) (Qi res.1 (mW a t x_s x_kept x_laid x_isKept x_pile x_tape x_taped x_letters x_at x_begun x_token x_value x_opened x_steps x_code0 x_read x_saved x_plan x_bestPlan x_most x_many x_few x_everRight x_lagThen x_shadedThen x_firstFit x_rows x_rowMany x_sorts x_sizes x_number res.2.1 res.2.2 x_trace x_traced x_own x_isParted)) := by
  unfold X12_shelf at hf
  refine MC.ofI pn_X12 (Nat.le_of_ble_eq_true rfl) ?_
  intro p e s m args below meth c A Q ls cx hR hw hl
  have hx := cx.1
  have hb := cx.2.1
  have hl : lv_has ls 4 [(0, .ref (a 0)), (1, .int v1), (2, .int v2), (3, .int v3)] := hl
  refine lv_iload_n hx hb dX12_shelf_0 rfl (lv_at hl 1 rfl) ?_
  refine calSi cx hw hl.1 (c_X12_isSheet rfl) q_1633 k_X12_isSheet rfl dX12_shelf_1 rfl (Nat.le_of_ble_eq_true rfl) ⟨Nat.le_of_ble_eq_true rfl, Nat.le_of_ble_eq_true rfl⟩ ⟨Nat.le_refl _, Nat.le_refl _⟩ (fun H locs hw => ?_)
  refine lv_if_eq (tgt := 40) hx hb dX12_shelf_4 (by decide) (fun hc => ?_) (fun hc => ?_)
  · have hf := ifT hf hc
    refine lv_iconst (v := (-1)) hx hb dX12_shelf_40 (by decide) ?_
    have hf := Option.some.inj hf
    subst hf
    exact hR _ _ _ _ _ _ hw rfl ⟨rfl, rfl⟩ dX12_shelf_41
  · have hf := ifF hf hc
    refine lv_iload_n hx hb dX12_shelf_7 rfl (lv_at hl 2 rfl) ?_
    refine lv_iconst (v := 0) hx hb dX12_shelf_8 (by decide) ?_
    refine lv_iconst (v := 2) hx hb dX12_shelf_9 (by decide) ?_
    refine calSi cx hw hl.1 (c_X12_in1 rfl) q_1214 k_X12_in1 rfl dX12_shelf_10 rfl (Nat.le_of_ble_eq_true rfl) ⟨Nat.le_of_ble_eq_true rfl, Nat.le_of_ble_eq_true rfl⟩ ⟨Nat.le_refl _, Nat.le_refl _⟩ (fun H locs hw => ?_)
    refine lv_if_eq (tgt := 40) hx hb dX12_shelf_13 (by decide) (fun hc => ?_) (fun hc => ?_)
    · have hf := ifT hf hc
      refine lv_iconst (v := (-1)) hx hb dX12_shelf_40 (by decide) ?_
      have hf := Option.some.inj hf
      subst hf
      exact hR _ _ _ _ _ _ hw rfl ⟨rfl, rfl⟩ dX12_shelf_41
    · have hf := ifF hf hc
      refine lv_iload_n hx hb dX12_shelf_16 rfl (lv_at hl 2 rfl) ?_
      obtain ⟨J1, hJ1, hf⟩ := jnS hf
      have wj1 : ∀ (j1 : Unit) (H : Heap) (locs : List Loc) (ls : Array Slot), J1 j1 = some res → Wd D A s (mW a t x_s x_kept x_laid x_isKept x_pile x_tape x_taped x_letters x_at x_begun x_token x_value x_opened x_steps x_code0 x_read x_saved x_plan x_bestPlan x_most x_many x_few x_everRight x_lagThen x_shadedThen x_firstFit x_rows x_rowMany x_sorts x_sizes x_number x_holds x_heldOne x_trace x_traced x_own x_isParted) H locs → lv_has ls 4 [(0, .ref (a 0)), (1, .int v1), (2, .int v2), (3, .int v3)] → W p l e (rmz 3 0 0) s m args below meth c H locs 0 0 Q (F0 m 28 ls []) := by
        intro j1 H locs ls hf hw hl
        have hf := hJ1 _ hf
        refine lv_iload_n hx hb dX12_shelf_28 rfl (lv_at hl 2 rfl) ?_
        refine lv_iconst (v := 1) hx hb dX12_shelf_29 (by decide) ?_
        obtain ⟨J2, hJ2, hf⟩ := jnS hf
        have wj2 : ∀ (j2 : Unit) (H : Heap) (locs : List Loc) (ls : Array Slot), J2 j2 = some res → Wd D A s (mW a t x_s x_kept x_laid x_isKept x_pile x_tape x_taped x_letters x_at x_begun x_token x_value x_opened x_steps x_code0 x_read x_saved x_plan x_bestPlan x_most x_many x_few x_everRight x_lagThen x_shadedThen x_firstFit x_rows x_rowMany x_sorts x_sizes x_number x_holds x_heldOne x_trace x_traced x_own x_isParted) H locs → lv_has ls 4 [(0, .ref (a 0)), (1, .int v1), (2, .int v2), (3, .int v3)] → W p l e (rmz 3 0 0) s m args below meth c H locs 0 0 Q (F0 m 42 ls []) := by
          intro j2 H locs ls hf hw hl
          have hf := hJ2 _ hf
          refine lv_aload_n hx hb dX12_shelf_42 rfl (lv_at hl 0 rfl) ?_
          refine mg_holds cx hw dX12_shelf_43 ?_
          refine lv_iload_n hx hb dX12_shelf_46 rfl (lv_at hl 1 rfl) ?_
          refine lv_iload_n hx hb dX12_shelf_47 rfl (lv_at hl 2 rfl) ?_
          obtain ⟨j6, hj6, hf⟩ := bnS hf
          have wj6 : ∀ (H : Heap) (locs : List Loc) (ls : Array Slot), Wd D A s (mW a t x_s x_kept x_laid x_isKept x_pile x_tape x_taped x_letters x_at x_begun x_token x_value x_opened x_steps x_code0 x_read x_saved x_plan x_bestPlan x_most x_many x_few x_everRight x_lagThen x_shadedThen x_firstFit x_rows x_rowMany x_sorts x_sizes x_number x_holds x_heldOne x_trace x_traced x_own x_isParted) H locs → lv_has ls 4 [(0, .ref (a 0)), (1, .int v1), (2, .int v2), (3, .int v3)] → W p l e (rmz 3 0 0) s m args below meth c H locs 0 0 Q (F0 m 82 ls [.int j6, .int v1, .ref (a 18)]) := by
            intro H locs ls hw hl
            obtain ⟨h7, hf⟩ := ckS hf
            refine ms_holds (j := v1.toNatClampNeg) cx hw (ib_in h7) rfl dX12_shelf_82 (fun H locs hw => ?_)
            refine lv_aload_n hx hb dX12_shelf_83 rfl (lv_at hl 0 rfl) ?_
            refine mg_heldOne cx hw dX12_shelf_84 ?_
            refine lv_iload_n hx hb dX12_shelf_87 rfl (lv_at hl 1 rfl) ?_
            refine lv_iload_n hx hb dX12_shelf_88 rfl (lv_at hl 2 rfl) ?_
            obtain ⟨j9, hj9, hf⟩ := bnS hf
            have wj9 : ∀ (H : Heap) (locs : List Loc) (ls : Array Slot), Wd D A s (mW a t x_s x_kept x_laid x_isKept x_pile x_tape x_taped x_letters x_at x_begun x_token x_value x_opened x_steps x_code0 x_read x_saved x_plan x_bestPlan x_most x_many x_few x_everRight x_lagThen x_shadedThen x_firstFit x_rows x_rowMany x_sorts x_sizes x_number (upd x_holds v1.toNatClampNeg j6) x_heldOne x_trace x_traced x_own x_isParted) H locs → lv_has ls 4 [(0, .ref (a 0)), (1, .int v1), (2, .int v2), (3, .int v3)] → W p l e (rmz 3 0 0) s m args below meth c H locs 0 0 Q (F0 m 111 ls [.int j9, .int v1, .ref (a 19)]) := by
              intro H locs ls hw hl
              obtain ⟨h10, hf⟩ := ckS hf
              refine ms_heldOne (j := v1.toNatClampNeg) cx hw (ib_in h10) rfl dX12_shelf_111 (fun H locs hw => ?_)
              refine lv_iconst (v := 1) hx hb dX12_shelf_112 (by decide) ?_
              have hf := Option.some.inj hf
              subst hf
              exact hR _ _ _ _ _ _ hw rfl ⟨rfl, rfl⟩ dX12_shelf_113
            clear hf
            have hf := hj9
            clear hj9
            refine lv_if_ne (tgt := 96) hx hb dX12_shelf_89 (by decide) (fun hc => ?_) (fun hc => ?_)
            · have hf := ifF hf hc
              refine lv_iload_n hx hb dX12_shelf_96 rfl (lv_at hl 2 rfl) ?_
              refine lv_iconst (v := 1) hx hb dX12_shelf_97 (by decide) ?_
              refine lv_icmp_ne (tgt := 110) hx hb dX12_shelf_98 (by decide) (fun hc => ?_) (fun hc => ?_)
              · have hf := ifF hf hc
                refine lv_iconst (v := 0) hx hb dX12_shelf_110 (by decide) ?_
                have hf := Option.some.inj hf
                subst hf
                exact wj9 _ _ _ hw (lv_sub hl [0, 1, 2, 3] rfl)
              · have hf := ifT hf hc
                refine lv_aload_n hx hb dX12_shelf_101 rfl (lv_at hl 0 rfl) ?_
                refine mg_sizes cx hw dX12_shelf_102 ?_
                refine lv_iload_n hx hb dX12_shelf_105 rfl (lv_at hl 3 rfl) ?_
                obtain ⟨h8, hf⟩ := ckS hf
                refine ml_sizes (j := v3.toNatClampNeg) cx hw (ib_in h8) rfl dX12_shelf_106 ?_
                refine lv_goto (tgt := 111) hx hb dX12_shelf_107 (by decide) ?_
                have hf := Option.some.inj hf
                subst hf
                exact wj9 _ _ _ hw (lv_sub hl [0, 1, 2, 3] rfl)
            · have hf := ifT hf hc
              refine lv_iload_n hx hb dX12_shelf_92 rfl (lv_at hl 3 rfl) ?_
              refine lv_goto (tgt := 111) hx hb dX12_shelf_93 (by decide) ?_
              have hf := Option.some.inj hf
              subst hf
              exact wj9 _ _ _ hw (lv_sub hl [0, 1, 2, 3] rfl)
          clear hf
          have hf := hj6
          clear hj6
          refine lv_if_ne (tgt := 55) hx hb dX12_shelf_48 (by decide) (fun hc => ?_) (fun hc => ?_)
          · have hf := ifF hf hc
            refine lv_iload_n hx hb dX12_shelf_55 rfl (lv_at hl 2 rfl) ?_
            refine lv_iconst (v := 1) hx hb dX12_shelf_56 (by decide) ?_
            obtain ⟨J5, hJ5, hf⟩ := jnS hf
            have wj5 : ∀ (j5 : Unit) (H : Heap) (locs : List Loc) (ls : Array Slot), J5 j5 = some j6 → Wd D A s (mW a t x_s x_kept x_laid x_isKept x_pile x_tape x_taped x_letters x_at x_begun x_token x_value x_opened x_steps x_code0 x_read x_saved x_plan x_bestPlan x_most x_many x_few x_everRight x_lagThen x_shadedThen x_firstFit x_rows x_rowMany x_sorts x_sizes x_number x_holds x_heldOne x_trace x_traced x_own x_isParted) H locs → lv_has ls 4 [(0, .ref (a 0)), (1, .int v1), (2, .int v2), (3, .int v3)] → W p l e (rmz 3 0 0) s m args below meth c H locs 0 0 Q (F0 m 81 ls [.int v1, .ref (a 18)]) := by
              intro j5 H locs ls hf hw hl
              have hf := hJ5 _ hf
              refine lv_iconst (v := (-1)) hx hb dX12_shelf_81 (by decide) ?_
              have hf := Option.some.inj hf
              subst hf
              exact wj6 _ _ _ hw (lv_sub hl [0, 1, 2, 3] rfl)
            clear hJ5
            refine lv_icmp_ne (tgt := 81) hx hb dX12_shelf_57 (by decide) (fun hc => ?_) (fun hc => ?_)
            · have hf := ifF hf hc
              exact wj5 _ _ _ _ hf hw (lv_sub hl [0, 1, 2, 3] rfl)
            · have hf := ifT hf hc
              refine lv_aload_n hx hb dX12_shelf_60 rfl (lv_at hl 0 rfl) ?_
              refine mg_sorts cx hw dX12_shelf_61 ?_
              refine lv_iload_n hx hb dX12_shelf_64 rfl (lv_at hl 3 rfl) ?_
              obtain ⟨h3, hf⟩ := ckS hf
              refine ml_sorts (j := v3.toNatClampNeg) cx hw (ib_in h3) rfl dX12_shelf_65 ?_
              refine lv_if_lt (tgt := 81) hx hb dX12_shelf_66 (by decide) (fun hc => ?_) (fun hc => ?_)
              · have hf := ifT hf hc
                exact wj5 _ _ _ _ hf hw (lv_sub hl [0, 1, 2, 3] rfl)
              · have hf := ifF hf hc
                refine lv_bipush (v := 10) hx hb dX12_shelf_69 (by decide) ?_
                refine lv_aload_n hx hb dX12_shelf_71 rfl (lv_at hl 0 rfl) ?_
                refine mg_sorts cx hw dX12_shelf_72 ?_
                refine lv_iload_n hx hb dX12_shelf_75 rfl (lv_at hl 3 rfl) ?_
                obtain ⟨h4, hf⟩ := ckS hf
                refine ml_sorts (j := v3.toNatClampNeg) cx hw (ib_in h4) rfl dX12_shelf_76 ?_
                refine lv_iadd hx hb dX12_shelf_77 ?_
                refine lv_goto (tgt := 82) hx hb dX12_shelf_78 (by decide) ?_
                have hf := Option.some.inj hf
                subst hf
                exact wj6 _ _ _ hw (lv_sub hl [0, 1, 2, 3] rfl)
          · have hf := ifT hf hc
            refine lv_iconst (v := 0) hx hb dX12_shelf_51 (by decide) ?_
            refine lv_goto (tgt := 82) hx hb dX12_shelf_52 (by decide) ?_
            have hf := Option.some.inj hf
            subst hf
            exact wj6 _ _ _ hw (lv_sub hl [0, 1, 2, 3] rfl)
        clear hJ2
        refine lv_icmp_ne (tgt := 42) hx hb dX12_shelf_30 (by decide) (fun hc => ?_) (fun hc => ?_)
        · have hf := ifF hf hc
          exact wj2 _ _ _ _ hf hw (lv_sub hl [0, 1, 2, 3] rfl)
        · have hf := ifT hf hc
          refine lv_iload_n hx hb dX12_shelf_33 rfl (lv_at hl 3 rfl) ?_
          refine calSi cx hw hl.1 (c_X12_isSheet rfl) q_1633 k_X12_isSheet rfl dX12_shelf_34 rfl (Nat.le_of_ble_eq_true rfl) ⟨Nat.le_of_ble_eq_true rfl, Nat.le_of_ble_eq_true rfl⟩ ⟨Nat.le_refl _, Nat.le_refl _⟩ (fun H locs hw => ?_)
          refine lv_if_ne (tgt := 42) hx hb dX12_shelf_37 (by decide) (fun hc => ?_) (fun hc => ?_)
          · have hf := ifF hf hc
            exact wj2 _ _ _ _ hf hw (lv_sub hl [0, 1, 2, 3] rfl)
          · have hf := ifT hf hc
            refine lv_iconst (v := (-1)) hx hb dX12_shelf_40 (by decide) ?_
            have hf := Option.some.inj hf
            subst hf
            exact hR _ _ _ _ _ _ hw rfl ⟨rfl, rfl⟩ dX12_shelf_41
      clear hJ1
      refine lv_if_ne (tgt := 28) hx hb dX12_shelf_17 (by decide) (fun hc => ?_) (fun hc => ?_)
      · have hf := ifF hf hc
        exact wj1 _ _ _ _ hf hw (lv_sub hl [0, 1, 2, 3] rfl)
      · have hf := ifT hf hc
        refine lv_aload_n hx hb dX12_shelf_20 rfl (lv_at hl 0 rfl) ?_
        refine lv_iload_n hx hb dX12_shelf_21 rfl (lv_at hl 3 rfl) ?_
        refine calVi (k := 0) cx hw hl.1 (c_X12_isDial rfl) q_1296 k_X12_isDial rfl rfl rfl dX12_shelf_22 rfl (Nat.le_of_ble_eq_true rfl) ⟨Nat.le_of_ble_eq_true rfl, Nat.le_of_ble_eq_true rfl⟩ ⟨Nat.le_refl _, Nat.le_refl _⟩ (fun H locs hw => ?_)
        refine lv_if_eq (tgt := 40) hx hb dX12_shelf_25 (by decide) (fun hc => ?_) (fun hc => ?_)
        · have hf := ifT hf hc
          refine lv_iconst (v := (-1)) hx hb dX12_shelf_40 (by decide) ?_
          have hf := Option.some.inj hf
          subst hf
          exact hR _ _ _ _ _ _ hw rfl ⟨rfl, rfl⟩ dX12_shelf_41
        · have hf := ifF hf hc
          exact wj1 _ _ _ _ hf hw (lv_sub hl [0, 1, 2, 3] rfl)
end MW6
