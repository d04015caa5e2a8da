section MW4
variable {l : Launch} {D : va_G} {t : Nat → ClassId} {a : Nat → Nat} {n : Nat} {x_s : Nat → Int32} {x_kept : Nat → Int32} {x_laid : Nat → Int32} {x_isKept : Int32} {x_pile : Nat → Int32} {x_tape : Nat → Int32} {x_taped : Int32} {x_letters : Nat → Int32} {x_at : Int32} {x_begun : Int32} {x_token : Int32} {x_value : Int32} {x_opened : Int32} {x_steps : Int32} {x_code0 : Nat → Int32} {x_read : Nat → Int32} {x_saved : Nat → Int32} {x_plan : Nat → Int32} {x_bestPlan : Nat → Int32} {x_most : Int32} {x_many : Int32} {x_few : Int32} {x_everRight : Int32} {x_lagThen : Nat → Int32} {x_shadedThen : Nat → Int32} {x_firstFit : Int32} {x_rows : Nat → Int32} {x_rowMany : Int32} {x_sorts : Nat → Int32} {x_sizes : Nat → Int32} {x_number : Nat → Int32} {x_holds : Nat → Int32} {x_heldOne : Nat → Int32} {x_trace : Nat → Int32} {x_traced : Int32} {x_own : Int32} {x_isParted : Int32} {v0 v1 v2 v3 v4 v5 : Int32}
theorem dX12_knots_0 : decode cX12_knots 0 = .ok (.iload_n 1, 1) := by decide +kernel
theorem dX12_knots_1 : decode cX12_knots 1 = .ok (.iconst (-1), 1) := by decide +kernel
theorem dX12_knots_2 : decode cX12_knots 2 = .ok (.if_icmp .eq 13, 3) := by decide +kernel
theorem dX12_knots_5 : decode cX12_knots 5 = .ok (.aload_n 0, 1) := by decide +kernel
theorem dX12_knots_6 : decode cX12_knots 6 = .ok (.iload_n 1, 1) := by decide +kernel
theorem dX12_knots_7 : decode cX12_knots 7 = .ok (.invokevirtual 231, 3) := by decide +kernel
theorem dX12_knots_10 : decode cX12_knots 10 = .ok (.ifCond .ne 5, 3) := by decide +kernel
theorem dX12_knots_13 : decode cX12_knots 13 = .ok (.iconst (-1), 1) := by decide +kernel
theorem dX12_knots_14 : decode cX12_knots 14 = .ok (.ireturn, 1) := by decide +kernel
theorem dX12_knots_15 : decode cX12_knots 15 = .ok (.iload_n 1, 1) := by decide +kernel
theorem dX12_knots_16 : decode cX12_knots 16 = .ok (.ifCond .lt 9, 3) := by decide +kernel
theorem dX12_knots_19 : decode cX12_knots 19 = .ok (.aload_n 0, 1) := by decide +kernel
theorem dX12_knots_20 : decode cX12_knots 20 = .ok (.iload_n 1, 1) := by decide +kernel
theorem dX12_knots_21 : decode cX12_knots 21 = .ok (.invokevirtual 261, 3) := by decide +kernel
theorem dX12_knots_24 : decode cX12_knots 24 = .ok (.ireturn, 1) := by decide +kernel
theorem dX12_knots_25 : decode cX12_knots 25 = .ok (.iconst 0, 1) := by decide +kernel
theorem dX12_knots_26 : decode cX12_knots 26 = .ok (.istore_n 2, 1) := by decide +kernel
theorem dX12_knots_27 : decode cX12_knots 27 = .ok (.iconst 0, 1) := by decide +kernel
theorem dX12_knots_28 : decode cX12_knots 28 = .ok (.istore_n 3, 1) := by decide +kernel
theorem dX12_knots_29 : decode cX12_knots 29 = .ok (.iload_n 3, 1) := by decide +kernel
theorem dX12_knots_30 : decode cX12_knots 30 = .ok (.aload_n 0, 1) := by decide +kernel
theorem dX12_knots_31 : decode cX12_knots 31 = .ok (.getfield 9, 3) := by decide +kernel
theorem dX12_knots_34 : decode cX12_knots 34 = .ok (.iconst 4, 1) := by decide +kernel
theorem dX12_knots_35 : decode cX12_knots 35 = .ok (.iaload, 1) := by decide +kernel
theorem dX12_knots_36 : decode cX12_knots 36 = .ok (.if_icmp .ge 38, 3) := by decide +kernel
theorem dX12_knots_39 : decode cX12_knots 39 = .ok (.aload_n 0, 1) := by decide +kernel
theorem dX12_knots_40 : decode cX12_knots 40 = .ok (.iload_n 3, 1) := by decide +kernel
theorem dX12_knots_41 : decode cX12_knots 41 = .ok (.invokevirtual 261, 3) := by decide +kernel
theorem dX12_knots_44 : decode cX12_knots 44 = .ok (.istore 4, 2) := by decide +kernel
theorem dX12_knots_46 : decode cX12_knots 46 = .ok (.iload_n 2, 1) := by decide +kernel
theorem dX12_knots_47 : decode cX12_knots 47 = .ok (.iload 4, 2) := by decide +kernel
theorem dX12_knots_49 : decode cX12_knots 49 = .ok (.ifCond .eq 16, 3) := by decide +kernel
theorem dX12_knots_52 : decode cX12_knots 52 = .ok (.iload 4, 2) := by decide +kernel
theorem dX12_knots_54 : decode cX12_knots 54 = .ok (.iconst 1, 1) := by decide +kernel
theorem dX12_knots_55 : decode cX12_knots 55 = .ok (.iload_n 3, 1) := by decide +kernel
theorem dX12_knots_56 : decode cX12_knots 56 = .ok (.ishl, 1) := by decide +kernel
theorem dX12_knots_57 : decode cX12_knots 57 = .ok (.irem, 1) := by decide +kernel
theorem dX12_knots_58 : decode cX12_knots 58 = .ok (.ifCond .ne 7, 3) := by decide +kernel
theorem dX12_knots_61 : decode cX12_knots 61 = .ok (.iconst 1, 1) := by decide +kernel
theorem dX12_knots_62 : decode cX12_knots 62 = .ok (.goto 4, 3) := by decide +kernel
theorem dX12_knots_65 : decode cX12_knots 65 = .ok (.iconst 0, 1) := by decide +kernel
theorem dX12_knots_66 : decode cX12_knots 66 = .ok (.iadd, 1) := by decide +kernel
theorem dX12_knots_67 : decode cX12_knots 67 = .ok (.istore_n 2, 1) := by decide +kernel
theorem dX12_knots_68 : decode cX12_knots 68 = .ok (.iinc 3 1, 3) := by decide +kernel
theorem dX12_knots_71 : decode cX12_knots 71 = .ok (.goto (-42), 3) := by decide +kernel
theorem dX12_knots_74 : decode cX12_knots 74 = .ok (.iload_n 2, 1) := by decide +kernel
theorem dX12_knots_75 : decode cX12_knots 75 = .ok (.ireturn, 1) := by decide +kernel
theorem k_X12_knots : MV yX12_knots cX12_knots 5 (some .int) 1 := ⟨q_1482, q_1483, q_14, q_1484, ⟨by decide, by decide, by decide +kernel⟩⟩
theorem c_X12_knots {res : Int32} (hf : X12_knots n x_s v1 = some res) : MC l E0 D t yX12_knots cX12_knots 5 (some .int) 5 0 0 [.ref (a 0), .int v1] (mW a t x_s x_kept x_laid x_isKept x_pile x_tape x_taped x_letters x_at x_begun x_token x_value x_opened x_steps x_code0 x_read x_saved x_plan x_bestPlan x_most x_many x_few x_everRight x_lagThen x_shadedThen x_firstFit x_rows x_rowMany x_sorts x_sizes x_number x_holds x_heldOne x_trace x_traced x_own x_isParted) (Qi res (mW a t x_s x_kept x_laid x_isKept x_pile x_tape x_taped x_letters x_at x_begun x_token x_value x_opened x_steps x_code0 x_read x_saved x_plan x_bestPlan x_most x_many x_few x_everRight x_lagThen x_shadedThen x_firstFit x_rows x_rowMany x_sorts x_sizes x_number x_holds x_heldOne x_trace x_traced x_own x_isParted)) := by
  unfold X12_knots at hf
  refine MC.ofI pn_X12 (Nat.le_of_ble_eq_true rfl) ?_
  intro p e s m args below meth c A Q ls cx hR hw hl
  have hx := cx.1
  have hb := cx.2.1
  have hl : lv_has ls 5 [(0, .ref (a 0)), (1, .int v1)] := hl
  refine lv_iload_n hx hb dX12_knots_0 rfl (lv_at hl 1 rfl) ?_
  refine lv_iconst (v := (-1)) hx hb dX12_knots_1 (by decide) ?_
  obtain ⟨J1, hJ1, hf⟩ := jnS hf
  have wj1 : ∀ (j1 : Unit) (H : Heap) (locs : List Loc) (ls : Array Slot), J1 j1 = some res → Wd D A s (mW a t x_s x_kept x_laid x_isKept x_pile x_tape x_taped x_letters x_at x_begun x_token x_value x_opened x_steps x_code0 x_read x_saved x_plan x_bestPlan x_most x_many x_few x_everRight x_lagThen x_shadedThen x_firstFit x_rows x_rowMany x_sorts x_sizes x_number x_holds x_heldOne x_trace x_traced x_own x_isParted) H locs → lv_has ls 5 [(0, .ref (a 0)), (1, .int v1)] → W p l e (rmz 5 0 0) s m args below meth c H locs 0 0 Q (F0 m 15 ls []) := by
    intro j1 H locs ls hf hw hl
    have hf := hJ1 _ hf
    refine lv_iload_n hx hb dX12_knots_15 rfl (lv_at hl 1 rfl) ?_
    refine lv_if_lt (tgt := 25) hx hb dX12_knots_16 (by decide) (fun hc => ?_) (fun hc => ?_)
    · have hf := ifT hf hc
      refine lv_iconst (v := 0) hx hb dX12_knots_25 (by decide) ?_
      refine lv_istore_n (lv' := [(2, .int (0 : Int32)), (0, .ref (a 0)), (1, .int v1)]) hx hb dX12_knots_26 rfl hl (by decide) rfl (fun ls hl => ?_)
      refine lv_iconst (v := 0) hx hb dX12_knots_27 (by decide) ?_
      refine lv_istore_n (lv' := [(3, .int (0 : Int32)), (2, .int (0 : Int32)), (0, .ref (a 0)), (1, .int v1)]) hx hb dX12_knots_28 rfl hl (by decide) rfl (fun ls hl => ?_)
      obtain ⟨o6, ho6, hf⟩ := bnS hf
      have wL1 : ∀ (k : Nat) {v1 : Int32} {v2 : Int32} {v3 : Int32} {H : Heap} {locs : List Loc} {ls : Array Slot} {o : Int32 × Int32}, X12_knots_L1 n x_s k v2 v3 = some o → Wd D A s (mW a t x_s x_kept x_laid x_isKept x_pile x_tape x_taped x_letters x_at x_begun x_token x_value x_opened x_steps x_code0 x_read x_saved x_plan x_bestPlan x_most x_many x_few x_everRight x_lagThen x_shadedThen x_firstFit x_rows x_rowMany x_sorts x_sizes x_number x_holds x_heldOne x_trace x_traced x_own x_isParted) H locs → lv_has ls 5 [(0, .ref (a 0)), (1, .int v1), (2, .int v2), (3, .int v3)] → (∀ (H : Heap) (locs : List Loc) (ls : Array Slot), Wd D A s (mW a t x_s x_kept x_laid x_isKept x_pile x_tape x_taped x_letters x_at x_begun x_token x_value x_opened x_steps x_code0 x_read x_saved x_plan x_bestPlan x_most x_many x_few x_everRight x_lagThen x_shadedThen x_firstFit x_rows x_rowMany x_sorts x_sizes x_number x_holds x_heldOne x_trace x_traced x_own x_isParted) H locs → lv_has ls 5 [(0, .ref (a 0)), (1, .int v1), (2, .int o.1), (3, .int o.2)] → W p l e (rmz 5 0 0) s m args below meth c H locs 0 0 Q (F0 m 74 ls [])) → W p l e (rmz 5 0 0) s m args below meth c H locs 0 0 Q (F0 m 29 ls []) := by
        clear hf ho6 hw hl
        intro k
        induction k with
        | zero => intro v1 v2 v3 H locs ls o hf hw hl kx; simp [X12_knots_L1] at hf
        | succ k ih =>
          intro v1 v2 v3 H locs ls o hf hw hl kx
          rw [X12_knots_L1] at hf
          refine lv_iload_n hx hb dX12_knots_29 rfl (lv_at hl 3 rfl) ?_
          refine lv_aload_n hx hb dX12_knots_30 rfl (lv_at hl 0 rfl) ?_
          refine mg_s cx hw dX12_knots_31 ?_
          refine lv_iconst (v := 4) hx hb dX12_knots_34 (by decide) ?_
          refine ml_s (j := 4) cx hw (ib_in (by decide)) (by decide) dX12_knots_35 ?_
          refine lv_icmp_ge (tgt := 74) hx hb dX12_knots_36 (by decide) (fun hc => ?_) (fun hc => ?_)
          · have hf := ifT hf hc
            have hf := Option.some.inj hf
            subst hf
            exact kx _ _ _ hw (lv_sub hl [0, 1, 2, 3] rfl)
          · have hf := ifF hf hc
            refine lv_aload_n hx hb dX12_knots_39 rfl (lv_at hl 0 rfl) ?_
            refine lv_iload_n hx hb dX12_knots_40 rfl (lv_at hl 3 rfl) ?_
            obtain ⟨r2, h3, hf⟩ := bnS hf
            refine calVi (k := 0) cx hw hl.1 (c_X12_knotOf h3) q_1485 k_X12_knotOf rfl rfl rfl dX12_knots_41 rfl (Nat.le_of_ble_eq_true rfl) ⟨Nat.le_of_ble_eq_true rfl, Nat.le_of_ble_eq_true rfl⟩ ⟨Nat.le_refl _, Nat.le_refl _⟩ (fun H locs hw => ?_)
            refine lv_istore (lv' := [(4, .int r2), (0, .ref (a 0)), (1, .int v1), (2, .int v2), (3, .int v3)]) hx hb dX12_knots_44 hl (by decide) rfl (fun ls hl => ?_)
            refine lv_iload_n hx hb dX12_knots_46 rfl (lv_at hl 3 rfl) ?_
            refine lv_iload hx hb dX12_knots_47 (lv_at hl 0 rfl) ?_
            obtain ⟨j5, hj5, hf⟩ := bnS hf
            have wj5 : ∀ (H : Heap) (locs : List Loc) (ls : Array Slot), Wd D A s (mW a t x_s x_kept x_laid x_isKept x_pile x_tape x_taped x_letters x_at x_begun x_token x_value x_opened x_steps x_code0 x_read x_saved x_plan x_bestPlan x_most x_many x_few x_everRight x_lagThen x_shadedThen x_firstFit x_rows x_rowMany x_sorts x_sizes x_number x_holds x_heldOne x_trace x_traced x_own x_isParted) H locs → lv_has ls 5 [(0, .ref (a 0)), (1, .int v1), (2, .int v2), (3, .int v3), (4, .int r2)] → W p l e (rmz 5 0 0) s m args below meth c H locs 0 0 Q (F0 m 66 ls [.int j5, .int v2]) := by
              intro H locs ls hw hl
              refine lv_iadd hx hb dX12_knots_66 ?_
              refine lv_istore_n (lv' := [(2, .int (v2 + j5)), (0, .ref (a 0)), (1, .int v1), (3, .int v3), (4, .int r2)]) hx hb dX12_knots_67 rfl hl (by decide) rfl (fun ls hl => ?_)
              refine lv_iinc (v := (v3 + (1 : Int32))) (lv' := [(3, .int (v3 + (1 : Int32))), (2, .int (v2 + j5)), (0, .ref (a 0)), (1, .int v1), (4, .int r2)]) hx hb dX12_knots_68 hl (k := 3) rfl rfl (by decide) rfl (fun ls hl => ?_)
              refine lv_goto (tgt := 29) hx hb dX12_knots_71 (by decide) ?_
              exact ih hf hw (lv_sub hl [2, 3, 1, 0] rfl) kx
            clear hf
            have hf := hj5
            clear hj5
            refine lv_if_eq (tgt := 65) hx hb dX12_knots_49 (by decide) (fun hc => ?_) (fun hc => ?_)
            · have hf := ifT hf hc
              refine lv_iconst (v := 0) hx hb dX12_knots_65 (by decide) ?_
              have hf := Option.some.inj hf
              subst hf
              exact wj5 _ _ _ hw (lv_sub hl [1, 2, 3, 4, 0] rfl)
            · have hf := ifF hf hc
              refine lv_iload hx hb dX12_knots_52 (lv_at hl 0 rfl) ?_
              refine lv_iconst (v := 1) hx hb dX12_knots_54 (by decide) ?_
              refine lv_iload_n hx hb dX12_knots_55 rfl (lv_at hl 4 rfl) ?_
              refine lv_ishl hx hb dX12_knots_56 ?_
              obtain ⟨h4, hf⟩ := ckS hf
              refine lv_irem hx hb dX12_knots_57 (by simpa using h4) ?_
              refine lv_if_ne (tgt := 65) hx hb dX12_knots_58 (by decide) (fun hc => ?_) (fun hc => ?_)
              · have hf := ifF hf hc
                refine lv_iconst (v := 0) hx hb dX12_knots_65 (by decide) ?_
                have hf := Option.some.inj hf
                subst hf
                exact wj5 _ _ _ hw (lv_sub hl [1, 2, 3, 4, 0] rfl)
              · have hf := ifT hf hc
                refine lv_iconst (v := 1) hx hb dX12_knots_61 (by decide) ?_
                refine lv_goto (tgt := 66) hx hb dX12_knots_62 (by decide) ?_
                have hf := Option.some.inj hf
                subst hf
                exact wj5 _ _ _ hw (lv_sub hl [1, 2, 3, 4, 0] rfl)
      refine wL1 n ho6 hw (lv_sub hl [2, 3, 1, 0] rfl) (fun H locs ls hw hl => ?_)
      clear wL1 ho6
      refine lv_iload_n hx hb dX12_knots_74 rfl (lv_at hl 2 rfl) ?_
      have hf := Option.some.inj hf
      subst hf
      exact hR _ _ _ _ _ _ hw rfl ⟨rfl, rfl⟩ dX12_knots_75
    · have hf := ifF hf hc
      refine lv_aload_n hx hb dX12_knots_19 rfl (lv_at hl 0 rfl) ?_
      refine lv_iload_n hx hb dX12_knots_20 rfl (lv_at hl 1 rfl) ?_
      obtain ⟨r7, h8, hf⟩ := bnS hf
      refine calVi (k := 0) cx hw hl.1 (c_X12_knotOf h8) q_1485 k_X12_knotOf rfl rfl rfl dX12_knots_21 rfl (Nat.le_of_ble_eq_true rfl) ⟨Nat.le_of_ble_eq_true rfl, Nat.le_of_ble_eq_true rfl⟩ ⟨Nat.le_refl _, Nat.le_refl _⟩ (fun H locs hw => ?_)
      have hf := Option.some.inj hf
      subst hf
      exact hR _ _ _ _ _ _ hw rfl ⟨rfl, rfl⟩ dX12_knots_24
  clear hJ1
  refine lv_icmp_eq (tgt := 15) hx hb dX12_knots_2 (by decide) (fun hc => ?_) (fun hc => ?_)
  · have hf := ifT hf hc
    exact wj1 _ _ _ _ hf hw (lv_sub hl [0, 1] rfl)
  · have hf := ifF hf hc
    refine lv_aload_n hx hb dX12_knots_5 rfl (lv_at hl 0 rfl) ?_
    refine lv_iload_n hx hb dX12_knots_6 rfl (lv_at hl 1 rfl) ?_
    refine calVi (k := 0) cx hw hl.1 (c_X12_isDial rfl) q_1296 k_X12_isDial rfl rfl rfl dX12_knots_7 rfl (Nat.le_of_ble_eq_true rfl) ⟨Nat.le_of_ble_eq_true rfl, Nat.le_of_ble_eq_true rfl⟩ ⟨Nat.le_refl _, Nat.le_refl _⟩ (fun H locs hw => ?_)
    refine lv_if_ne (tgt := 15) hx hb dX12_knots_10 (by decide) (fun hc => ?_) (fun hc => ?_)
    · have hf := ifF hf hc
      exact wj1 _ _ _ _ hf hw (lv_sub hl [0, 1] rfl)
    · have hf := ifT hf hc
      refine lv_iconst (v := (-1)) hx hb dX12_knots_13 (by decide) ?_
      have hf := Option.some.inj hf
      subst hf
      exact hR _ _ _ _ _ _ hw rfl ⟨rfl, rfl⟩ dX12_knots_14
theorem dX12_seats_0 : decode cX12_seats 0 = .ok (.iload_n 1, 1) := by decide +kernel
theorem dX12_seats_1 : decode cX12_seats 1 = .ok (.iconst 0, 1) := by decide +kernel
theorem dX12_seats_2 : decode cX12_seats 2 = .ok (.bipush 99, 2) := by decide +kernel
theorem dX12_seats_4 : decode cX12_seats 4 = .ok (.invokestatic 71, 3) := by decide +kernel
theorem dX12_seats_7 : decode cX12_seats 7 = .ok (.ifCond .eq 12, 3) := by decide +kernel
theorem dX12_seats_10 : decode cX12_seats 10 = .ok (.iload_n 2, 1) := by decide +kernel
theorem dX12_seats_11 : decode cX12_seats 11 = .ok (.iconst 0, 1) := by decide +kernel
theorem dX12_seats_12 : decode cX12_seats 12 = .ok (.iconst 1, 1) := by decide +kernel
theorem dX12_seats_13 : decode cX12_seats 13 = .ok (.invokestatic 71, 3) := by decide +kernel
theorem dX12_seats_16 : decode cX12_seats 16 = .ok (.ifCond .ne 5, 3) := by decide +kernel
theorem dX12_seats_19 : decode cX12_seats 19 = .ok (.iconst (-1), 1) := by decide +kernel
theorem dX12_seats_20 : decode cX12_seats 20 = .ok (.ireturn, 1) := by decide +kernel
theorem dX12_seats_21 : decode cX12_seats 21 = .ok (.iconst 0, 1) := by decide +kernel
theorem dX12_seats_22 : decode cX12_seats 22 = .ok (.istore_n 3, 1) := by decide +kernel
theorem dX12_seats_23 : decode cX12_seats 23 = .ok (.iconst 0, 1) := by decide +kernel
theorem dX12_seats_24 : decode cX12_seats 24 = .ok (.istore 4, 2) := by decide +kernel
theorem dX12_seats_26 : decode cX12_seats 26 = .ok (.iconst 1, 1) := by decide +kernel
theorem dX12_seats_27 : decode cX12_seats 27 = .ok (.istore 5, 2) := by decide +kernel
theorem dX12_seats_29 : decode cX12_seats 29 = .ok (.iload 5, 2) := by decide +kernel
theorem dX12_seats_31 : decode cX12_seats 31 = .ok (.bipush 64, 2) := by decide +kernel
theorem dX12_seats_33 : decode cX12_seats 33 = .ok (.if_icmp .ge 154, 3) := by decide +kernel
theorem dX12_seats_36 : decode cX12_seats 36 = .ok (.iload 5, 2) := by decide +kernel
theorem dX12_seats_38 : decode cX12_seats 38 = .ok (.iload 5, 2) := by decide +kernel
theorem dX12_seats_40 : decode cX12_seats 40 = .ok (.iconst 1, 1) := by decide +kernel
theorem dX12_seats_41 : decode cX12_seats 41 = .ok (.ishl, 1) := by decide +kernel
theorem dX12_seats_42 : decode cX12_seats 42 = .ok (.iand, 1) := by decide +kernel
theorem dX12_seats_43 : decode cX12_seats 43 = .ok (.ifCond .ne 7, 3) := by decide +kernel
theorem dX12_seats_46 : decode cX12_seats 46 = .ok (.iconst 1, 1) := by decide +kernel
theorem dX12_seats_47 : decode cX12_seats 47 = .ok (.goto 4, 3) := by decide +kernel
theorem dX12_seats_50 : decode cX12_seats 50 = .ok (.iconst 0, 1) := by decide +kernel
theorem dX12_seats_51 : decode cX12_seats 51 = .ok (.istore 6, 2) := by decide +kernel
theorem dX12_seats_53 : decode cX12_seats 53 = .ok (.iconst 0, 1) := by decide +kernel
theorem dX12_seats_54 : decode cX12_seats 54 = .ok (.istore 7, 2) := by decide +kernel
theorem dX12_seats_56 : decode cX12_seats 56 = .ok (.iconst 0, 1) := by decide +kernel
theorem dX12_seats_57 : decode cX12_seats 57 = .ok (.istore 8, 2) := by decide +kernel
theorem dX12_seats_59 : decode cX12_seats 59 = .ok (.iload 8, 2) := by decide +kernel
theorem dX12_seats_61 : decode cX12_seats 61 = .ok (.bipush 6, 2) := by decide +kernel
theorem dX12_seats_63 : decode cX12_seats 63 = .ok (.if_icmp .ge 78, 3) := by decide +kernel
theorem dX12_seats_66 : decode cX12_seats 66 = .ok (.iload 5, 2) := by decide +kernel
theorem dX12_seats_68 : decode cX12_seats 68 = .ok (.iload 8, 2) := by decide +kernel
theorem dX12_seats_70 : decode cX12_seats 70 = .ok (.ishr, 1) := by decide +kernel
theorem dX12_seats_71 : decode cX12_seats 71 = .ok (.iconst 1, 1) := by decide +kernel
theorem dX12_seats_72 : decode cX12_seats 72 = .ok (.iand, 1) := by decide +kernel
theorem dX12_seats_73 : decode cX12_seats 73 = .ok (.iconst 1, 1) := by decide +kernel
theorem dX12_seats_74 : decode cX12_seats 74 = .ok (.if_icmp .ne 7, 3) := by decide +kernel
theorem dX12_seats_77 : decode cX12_seats 77 = .ok (.iconst 1, 1) := by decide +kernel
theorem dX12_seats_78 : decode cX12_seats 78 = .ok (.goto 4, 3) := by decide +kernel
theorem dX12_seats_81 : decode cX12_seats 81 = .ok (.iconst 0, 1) := by decide +kernel
theorem dX12_seats_82 : decode cX12_seats 82 = .ok (.istore 9, 2) := by decide +kernel
theorem dX12_seats_84 : decode cX12_seats 84 = .ok (.iload 6, 2) := by decide +kernel
theorem dX12_seats_86 : decode cX12_seats 86 = .ok (.ifCond .eq 22, 3) := by decide +kernel
theorem dX12_seats_89 : decode cX12_seats 89 = .ok (.iload 9, 2) := by decide +kernel
theorem dX12_seats_91 : decode cX12_seats 91 = .ok (.ifCond .eq 13, 3) := by decide +kernel
theorem dX12_seats_94 : decode cX12_seats 94 = .ok (.aload_n 0, 1) := by decide +kernel
theorem dX12_seats_95 : decode cX12_seats 95 = .ok (.iload 8, 2) := by decide +kernel
theorem dX12_seats_97 : decode cX12_seats 97 = .ok (.invokevirtual 94, 3) := by decide +kernel
theorem dX12_seats_100 : decode cX12_seats 100 = .ok (.iload_n 1, 1) := by decide +kernel
theorem dX12_seats_101 : decode cX12_seats 101 = .ok (.if_icmp .gt 7, 3) := by decide +kernel
theorem dX12_seats_104 : decode cX12_seats 104 = .ok (.iconst 1, 1) := by decide +kernel
theorem dX12_seats_105 : decode cX12_seats 105 = .ok (.goto 4, 3) := by decide +kernel
theorem dX12_seats_108 : decode cX12_seats 108 = .ok (.iconst 0, 1) := by decide +kernel
theorem dX12_seats_109 : decode cX12_seats 109 = .ok (.istore 6, 2) := by decide +kernel
theorem dX12_seats_111 : decode cX12_seats 111 = .ok (.iload 7, 2) := by decide +kernel
theorem dX12_seats_113 : decode cX12_seats 113 = .ok (.iload 9, 2) := by decide +kernel
theorem dX12_seats_115 : decode cX12_seats 115 = .ok (.ifCond .eq 16, 3) := by decide +kernel
theorem dX12_seats_118 : decode cX12_seats 118 = .ok (.aload_n 0, 1) := by decide +kernel
theorem dX12_seats_119 : decode cX12_seats 119 = .ok (.getfield 9, 3) := by decide +kernel
theorem dX12_seats_122 : decode cX12_seats 122 = .ok (.bipush 29, 2) := by decide +kernel
theorem dX12_seats_124 : decode cX12_seats 124 = .ok (.iload 8, 2) := by decide +kernel
theorem dX12_seats_126 : decode cX12_seats 126 = .ok (.iadd, 1) := by decide +kernel
theorem dX12_seats_127 : decode cX12_seats 127 = .ok (.iaload, 1) := by decide +kernel
theorem dX12_seats_128 : decode cX12_seats 128 = .ok (.goto 4, 3) := by decide +kernel
theorem dX12_seats_131 : decode cX12_seats 131 = .ok (.iconst 0, 1) := by decide +kernel
theorem dX12_seats_132 : decode cX12_seats 132 = .ok (.iadd, 1) := by decide +kernel
theorem dX12_seats_133 : decode cX12_seats 133 = .ok (.istore 7, 2) := by decide +kernel
theorem dX12_seats_135 : decode cX12_seats 135 = .ok (.iinc 8 1, 3) := by decide +kernel
theorem dX12_seats_138 : decode cX12_seats 138 = .ok (.goto (-79), 3) := by decide +kernel
theorem dX12_seats_141 : decode cX12_seats 141 = .ok (.iload 6, 2) := by decide +kernel
theorem dX12_seats_143 : decode cX12_seats 143 = .ok (.ifCond .eq 15, 3) := by decide +kernel
theorem dX12_seats_146 : decode cX12_seats 146 = .ok (.iload 7, 2) := by decide +kernel
theorem dX12_seats_148 : decode cX12_seats 148 = .ok (.iload 4, 2) := by decide +kernel
theorem dX12_seats_150 : decode cX12_seats 150 = .ok (.if_icmp .le 8, 3) := by decide +kernel
theorem dX12_seats_153 : decode cX12_seats 153 = .ok (.iload 5, 2) := by decide +kernel
theorem dX12_seats_155 : decode cX12_seats 155 = .ok (.goto 4, 3) := by decide +kernel
theorem dX12_seats_158 : decode cX12_seats 158 = .ok (.iload_n 3, 1) := by decide +kernel
theorem dX12_seats_159 : decode cX12_seats 159 = .ok (.istore_n 3, 1) := by decide +kernel
theorem dX12_seats_160 : decode cX12_seats 160 = .ok (.iload 6, 2) := by decide +kernel
theorem dX12_seats_162 : decode cX12_seats 162 = .ok (.ifCond .eq 15, 3) := by decide +kernel
theorem dX12_seats_165 : decode cX12_seats 165 = .ok (.iload 7, 2) := by decide +kernel
theorem dX12_seats_167 : decode cX12_seats 167 = .ok (.iload 4, 2) := by decide +kernel
theorem dX12_seats_169 : decode cX12_seats 169 = .ok (.if_icmp .le 8, 3) := by decide +kernel
theorem dX12_seats_172 : decode cX12_seats 172 = .ok (.iload 7, 2) := by decide +kernel
theorem dX12_seats_174 : decode cX12_seats 174 = .ok (.goto 5, 3) := by decide +kernel
theorem dX12_seats_177 : decode cX12_seats 177 = .ok (.iload 4, 2) := by decide +kernel
theorem dX12_seats_179 : decode cX12_seats 179 = .ok (.istore 4, 2) := by decide +kernel
theorem dX12_seats_181 : decode cX12_seats 181 = .ok (.iinc 5 1, 3) := by decide +kernel
theorem dX12_seats_184 : decode cX12_seats 184 = .ok (.goto (-155), 3) := by decide +kernel
theorem dX12_seats_187 : decode cX12_seats 187 = .ok (.iload_n 2, 1) := by decide +kernel
theorem dX12_seats_188 : decode cX12_seats 188 = .ok (.ifCond .ne 8, 3) := by decide +kernel
theorem dX12_seats_191 : decode cX12_seats 191 = .ok (.iload 4, 2) := by decide +kernel
theorem dX12_seats_193 : decode cX12_seats 193 = .ok (.goto 4, 3) := by decide +kernel
theorem dX12_seats_196 : decode cX12_seats 196 = .ok (.iload_n 3, 1) := by decide +kernel
theorem dX12_seats_197 : decode cX12_seats 197 = .ok (.ireturn, 1) := by decide +kernel
theorem k_X12_seats : MV yX12_seats cX12_seats 10 (some .int) 2 := ⟨q_1494, q_1495, q_14, q_1496, ⟨by decide, by decide, by decide +kernel⟩⟩
theorem c_X12_seats {res : Int32} (hf : X12_seats n x_s v1 v2 = some res) : MC l E0 D t yX12_seats cX12_seats 10 (some .int) 4 0 0 [.ref (a 0), .int v1, .int v2] (mW a t x_s x_kept x_laid x_isKept x_pile x_tape x_taped x_letters x_at x_begun x_token x_value x_opened x_steps x_code0 x_read x_saved x_plan x_bestPlan x_most x_many x_few x_everRight x_lagThen x_shadedThen x_firstFit x_rows x_rowMany x_sorts x_sizes x_number x_holds x_heldOne x_trace x_traced x_own x_isParted) (Qi res (mW a t x_s x_kept x_laid x_isKept x_pile x_tape x_taped x_letters x_at x_begun x_token x_value x_opened x_steps x_code0 x_read x_saved x_plan x_bestPlan x_most x_many x_few x_everRight x_lagThen x_shadedThen x_firstFit x_rows x_rowMany x_sorts x_sizes x_number x_holds x_heldOne x_trace x_traced x_own x_isParted)) := by
  unfold X12_seats at hf
  refine MC.ofI pn_X12 (Nat.le_of_ble_eq_true rfl) ?_
  intro p e s m args below meth c A Q ls cx hR hw hl
  have hx := cx.1
  have hb := cx.2.1
  have hl : lv_has ls 10 [(0, .ref (a 0)), (1, .int v1), (2, .int v2)] := hl
  refine lv_iload_n hx hb dX12_seats_0 rfl (lv_at hl 1 rfl) ?_
  refine lv_iconst (v := 0) hx hb dX12_seats_1 (by decide) ?_
  refine lv_bipush (v := 99) hx hb dX12_seats_2 (by decide) ?_
  refine calSi cx hw hl.1 (c_X12_in1 rfl) q_1214 k_X12_in1 rfl dX12_seats_4 rfl (Nat.le_of_ble_eq_true rfl) ⟨Nat.le_of_ble_eq_true rfl, Nat.le_of_ble_eq_true rfl⟩ ⟨Nat.le_refl _, Nat.le_refl _⟩ (fun H locs hw => ?_)
  refine lv_if_eq (tgt := 19) hx hb dX12_seats_7 (by decide) (fun hc => ?_) (fun hc => ?_)
  · have hf := ifT hf hc
    refine lv_iconst (v := (-1)) hx hb dX12_seats_19 (by decide) ?_
    have hf := Option.some.inj hf
    subst hf
    exact hR _ _ _ _ _ _ hw rfl ⟨rfl, rfl⟩ dX12_seats_20
  · have hf := ifF hf hc
    refine lv_iload_n hx hb dX12_seats_10 rfl (lv_at hl 2 rfl) ?_
    refine lv_iconst (v := 0) hx hb dX12_seats_11 (by decide) ?_
    refine lv_iconst (v := 1) hx hb dX12_seats_12 (by decide) ?_
    refine calSi cx hw hl.1 (c_X12_in1 rfl) q_1214 k_X12_in1 rfl dX12_seats_13 rfl (Nat.le_of_ble_eq_true rfl) ⟨Nat.le_of_ble_eq_true rfl, Nat.le_of_ble_eq_true rfl⟩ ⟨Nat.le_refl _, Nat.le_refl _⟩ (fun H locs hw => ?_)
    refine lv_if_ne (tgt := 21) hx hb dX12_seats_16 (by decide) (fun hc => ?_) (fun hc => ?_)
    · have hf := ifF hf hc
      refine lv_iconst (v := 0) hx hb dX12_seats_21 (by decide) ?_
      refine lv_istore_n (lv' := [(3, .int (0 : Int32)), (0, .ref (a 0)), (1, .int v1), (2, .int v2)]) hx hb dX12_seats_22 rfl hl (by decide) rfl (fun ls hl => ?_)
      refine lv_iconst (v := 0) hx hb dX12_seats_23 (by decide) ?_
      refine lv_istore (lv' := [(4, .int (0 : Int32)), (3, .int (0 : Int32)), (0, .ref (a 0)), (1, .int v1), (2, .int v2)]) hx hb dX12_seats_24 hl (by decide) rfl (fun ls hl => ?_)
      refine lv_iconst (v := 1) hx hb dX12_seats_26 (by decide) ?_
      refine lv_istore (lv' := [(5, .int (1 : Int32)), (4, .int (0 : Int32)), (3, .int (0 : Int32)), (0, .ref (a 0)), (1, .int v1), (2, .int v2)]) hx hb dX12_seats_27 hl (by decide) rfl (fun ls hl => ?_)
      obtain ⟨o12, ho12, hf⟩ := bnS hf
      have wL1 : ∀ (k : Nat) {v1 : Int32} {v2 : Int32} {v3 : Int32} {v4 : Int32} {v5 : Int32} {H : Heap} {locs : List Loc} {ls : Array Slot} {o : Int32 × Int32 × Int32}, X12_seats_L1 n x_s v1 k v3 v4 v5 = some o → Wd D A s (mW a t x_s x_kept x_laid x_isKept x_pile x_tape x_taped x_letters x_at x_begun x_token x_value x_opened x_steps x_code0 x_read x_saved x_plan x_bestPlan x_most x_many x_few x_everRight x_lagThen x_shadedThen x_firstFit x_rows x_rowMany x_sorts x_sizes x_number x_holds x_heldOne x_trace x_traced x_own x_isParted) H locs → lv_has ls 10 [(0, .ref (a 0)), (1, .int v1), (2, .int v2), (3, .int v3), (4, .int v4), (5, .int v5)] → (∀ (H : Heap) (locs : List Loc) (ls : Array Slot), Wd D A s (mW a t x_s x_kept x_laid x_isKept x_pile x_tape x_taped x_letters x_at x_begun x_token x_value x_opened x_steps x_code0 x_read x_saved x_plan x_bestPlan x_most x_many x_few x_everRight x_lagThen x_shadedThen x_firstFit x_rows x_rowMany x_sorts x_sizes x_number x_holds x_heldOne x_trace x_traced x_own x_isParted) H locs → lv_has ls 10 [(0, .ref (a 0)), (1, .int v1), (2, .int v2), (3, .int o.1), (4, .int o.2.1), (5, .int o.2.2)] → W p l e (rmz 4 0 0) s m args below meth c H locs 0 0 Q (F0 m 187 ls [])) → W p l e (rmz 4 0 0) s m args below meth c H locs 0 0 Q (F0 m 29 ls []) := by
        clear hf ho12 hw hl
        intro k
        induction k with
        | zero => intro v1 v2 v3 v4 v5 H locs ls o hf hw hl kx; simp [X12_seats_L1] at hf
        | succ k ih =>
          intro v1 v2 v3 v4 v5 H locs ls o hf hw hl kx
          rw [X12_seats_L1] at hf
          refine lv_iload hx hb dX12_seats_29 (lv_at hl 5 rfl) ?_
          refine lv_bipush (v := 64) hx hb dX12_seats_31 (by decide) ?_
          refine lv_icmp_ge (tgt := 187) hx hb dX12_seats_33 (by decide) (fun hc => ?_) (fun hc => ?_)
          · have hf := ifT hf hc
            have hf := Option.some.inj hf
            subst hf
            exact kx _ _ _ hw (lv_sub hl [0, 1, 2, 3, 4, 5] rfl)
          · have hf := ifF hf hc
            refine lv_iload hx hb dX12_seats_36 (lv_at hl 5 rfl) ?_
            refine lv_iload hx hb dX12_seats_38 (lv_at hl 5 rfl) ?_
            refine lv_iconst (v := 1) hx hb dX12_seats_40 (by decide) ?_
            refine lv_ishl hx hb dX12_seats_41 ?_
            refine lv_iand hx hb dX12_seats_42 ?_
            obtain ⟨j1, hj1, hf⟩ := pbS hf
            have wj1 : ∀ (H : Heap) (locs : List Loc) (ls : Array Slot), Wd D A s (mW a t x_s x_kept x_laid x_isKept x_pile x_tape x_taped x_letters x_at x_begun x_token x_value x_opened x_steps x_code0 x_read x_saved x_plan x_bestPlan x_most x_many x_few x_everRight x_lagThen x_shadedThen x_firstFit x_rows x_rowMany x_sorts x_sizes x_number x_holds x_heldOne x_trace x_traced x_own x_isParted) H locs → lv_has ls 10 [(0, .ref (a 0)), (1, .int v1), (2, .int v2), (3, .int v3), (4, .int v4), (5, .int v5)] → W p l e (rmz 4 0 0) s m args below meth c H locs 0 0 Q (F0 m 51 ls [.int j1]) := by
              intro H locs ls hw hl
              refine lv_istore (lv' := [(6, .int j1), (0, .ref (a 0)), (1, .int v1), (2, .int v2), (3, .int v3), (4, .int v4), (5, .int v5)]) hx hb dX12_seats_51 hl (by decide) rfl (fun ls hl => ?_)
              refine lv_iconst (v := 0) hx hb dX12_seats_53 (by decide) ?_
              refine lv_istore (lv' := [(7, .int (0 : Int32)), (6, .int j1), (0, .ref (a 0)), (1, .int v1), (2, .int v2), (3, .int v3), (4, .int v4), (5, .int v5)]) hx hb dX12_seats_54 hl (by decide) rfl (fun ls hl => ?_)
              refine lv_iconst (v := 0) hx hb dX12_seats_56 (by decide) ?_
              refine lv_istore (lv' := [(8, .int (0 : Int32)), (7, .int (0 : Int32)), (6, .int j1), (0, .ref (a 0)), (1, .int v1), (2, .int v2), (3, .int v3), (4, .int v4), (5, .int v5)]) hx hb dX12_seats_57 hl (by decide) rfl (fun ls hl => ?_)
              obtain ⟨o9, ho9, hf⟩ := bnS hf
              have wL2 : ∀ (k : Nat) {v1 : Int32} {v2 : Int32} {v3 : Int32} {v4 : Int32} {v5 : Int32} {v6 : Int32} {v7 : Int32} {v8 : Int32} {H : Heap} {locs : List Loc} {ls : Array Slot} {o : Int32 × Int32 × Int32}, X12_seats_L2 n x_s v1 v5 k v6 v7 v8 = some o → Wd D A s (mW a t x_s x_kept x_laid x_isKept x_pile x_tape x_taped x_letters x_at x_begun x_token x_value x_opened x_steps x_code0 x_read x_saved x_plan x_bestPlan x_most x_many x_few x_everRight x_lagThen x_shadedThen x_firstFit x_rows x_rowMany x_sorts x_sizes x_number x_holds x_heldOne x_trace x_traced x_own x_isParted) H locs → lv_has ls 10 [(0, .ref (a 0)), (1, .int v1), (2, .int v2), (3, .int v3), (4, .int v4), (5, .int v5), (6, .int v6), (7, .int v7), (8, .int v8)] → (∀ (H : Heap) (locs : List Loc) (ls : Array Slot), Wd D A s (mW a t x_s x_kept x_laid x_isKept x_pile x_tape x_taped x_letters x_at x_begun x_token x_value x_opened x_steps x_code0 x_read x_saved x_plan x_bestPlan x_most x_many x_few x_everRight x_lagThen x_shadedThen x_firstFit x_rows x_rowMany x_sorts x_sizes x_number x_holds x_heldOne x_trace x_traced x_own x_isParted) H locs → lv_has ls 10 [(0, .ref (a 0)), (1, .int v1), (2, .int v2), (3, .int v3), (4, .int v4), (5, .int v5), (6, .int o.1), (7, .int o.2.1), (8, .int o.2.2)] → W p l e (rmz 4 0 0) s m args below meth c H locs 0 0 Q (F0 m 141 ls [])) → W p l e (rmz 4 0 0) s m args below meth c H locs 0 0 Q (F0 m 59 ls []) := by
                clear hf ho9 hw hl
                intro k
                induction k with
                | zero => intro v1 v2 v3 v4 v5 v6 v7 v8 H locs ls o hf hw hl kx; simp [X12_seats_L2] at hf
                | succ k ih =>
                  intro v1 v2 v3 v4 v5 v6 v7 v8 H locs ls o hf hw hl kx
                  rw [X12_seats_L2] at hf
                  refine lv_iload hx hb dX12_seats_59 (lv_at hl 8 rfl) ?_
                  refine lv_bipush (v := 6) hx hb dX12_seats_61 (by decide) ?_
                  refine lv_icmp_ge (tgt := 141) hx hb dX12_seats_63 (by decide) (fun hc => ?_) (fun hc => ?_)
                  · have hf := ifT hf hc
                    have hf := Option.some.inj hf
                    subst hf
                    exact kx _ _ _ hw (lv_sub hl [0, 1, 2, 3, 4, 5, 6, 7, 8] rfl)
                  · have hf := ifF hf hc
                    refine lv_iload hx hb dX12_seats_66 (lv_at hl 5 rfl) ?_
                    refine lv_iload hx hb dX12_seats_68 (lv_at hl 8 rfl) ?_
                    refine lv_ishr hx hb dX12_seats_70 ?_
                    refine lv_iconst (v := 1) hx hb dX12_seats_71 (by decide) ?_
                    refine lv_iand hx hb dX12_seats_72 ?_
                    refine lv_iconst (v := 1) hx hb dX12_seats_73 (by decide) ?_
                    obtain ⟨j2, hj2, hf⟩ := pbS hf
                    have wj2 : ∀ (H : Heap) (locs : List Loc) (ls : Array Slot), Wd D A s (mW a t x_s x_kept x_laid x_isKept x_pile x_tape x_taped x_letters x_at x_begun x_token x_value x_opened x_steps x_code0 x_read x_saved x_plan x_bestPlan x_most x_many x_few x_everRight x_lagThen x_shadedThen x_firstFit x_rows x_rowMany x_sorts x_sizes x_number x_holds x_heldOne x_trace x_traced x_own x_isParted) H locs → lv_has ls 10 [(0, .ref (a 0)), (1, .int v1), (2, .int v2), (3, .int v3), (4, .int v4), (5, .int v5), (6, .int v6), (7, .int v7), (8, .int v8)] → W p l e (rmz 4 0 0) s m args below meth c H locs 0 0 Q (F0 m 82 ls [.int j2]) := by
                      intro H locs ls hw hl
                      refine lv_istore (lv' := [(9, .int j2), (0, .ref (a 0)), (1, .int v1), (2, .int v2), (3, .int v3), (4, .int v4), (5, .int v5), (6, .int v6), (7, .int v7), (8, .int v8)]) hx hb dX12_seats_82 hl (by decide) rfl (fun ls hl => ?_)
                      refine lv_iload hx hb dX12_seats_84 (lv_at hl 7 rfl) ?_
                      obtain ⟨j6, hj6, hf⟩ := bnS hf
                      have wj6 : ∀ (H : Heap) (locs : List Loc) (ls : Array Slot), Wd D A s (mW a t x_s x_kept x_laid x_isKept x_pile x_tape x_taped x_letters x_at x_begun x_token x_value x_opened x_steps x_code0 x_read x_saved x_plan x_bestPlan x_most x_many x_few x_everRight x_lagThen x_shadedThen x_firstFit x_rows x_rowMany x_sorts x_sizes x_number x_holds x_heldOne x_trace x_traced x_own x_isParted) H locs → lv_has ls 10 [(0, .ref (a 0)), (1, .int v1), (2, .int v2), (3, .int v3), (4, .int v4), (5, .int v5), (6, .int v6), (7, .int v7), (8, .int v8), (9, .int j2)] → W p l e (rmz 4 0 0) s m args below meth c H locs 0 0 Q (F0 m 109 ls [.int j6]) := by
                        intro H locs ls hw hl
                        refine lv_istore (lv' := [(6, .int j6), (0, .ref (a 0)), (1, .int v1), (2, .int v2), (3, .int v3), (4, .int v4), (5, .int v5), (7, .int v7), (8, .int v8), (9, .int j2)]) hx hb dX12_seats_109 hl (by decide) rfl (fun ls hl => ?_)
                        refine lv_iload hx hb dX12_seats_111 (lv_at hl 7 rfl) ?_
                        refine lv_iload hx hb dX12_seats_113 (lv_at hl 9 rfl) ?_
                        obtain ⟨j8, hj8, hf⟩ := bnS hf
                        have wj8 : ∀ (H : Heap) (locs : List Loc) (ls : Array Slot), Wd D A s (mW a t x_s x_kept x_laid x_isKept x_pile x_tape x_taped x_letters x_at x_begun x_token x_value x_opened x_steps x_code0 x_read x_saved x_plan x_bestPlan x_most x_many x_few x_everRight x_lagThen x_shadedThen x_firstFit x_rows x_rowMany x_sorts x_sizes x_number x_holds x_heldOne x_trace x_traced x_own x_isParted) H locs → lv_has ls 10 [(0, .ref (a 0)), (1, .int v1), (2, .int v2), (3, .int v3), (4, .int v4), (5, .int v5), (6, .int j6), (7, .int v7), (8, .int v8), (9, .int j2)] → W p l e (rmz 4 0 0) s m args below meth c H locs 0 0 Q (F0 m 132 ls [.int j8, .int v7]) := by
                          intro H locs ls hw hl
                          refine lv_iadd hx hb dX12_seats_132 ?_
                          refine lv_istore (lv' := [(7, .int (v7 + j8)), (0, .ref (a 0)), (1, .int v1), (2, .int v2), (3, .int v3), (4, .int v4), (5, .int v5), (6, .int j6), (8, .int v8), (9, .int j2)]) hx hb dX12_seats_133 hl (by decide) rfl (fun ls hl => ?_)
                          refine lv_iinc (v := (v8 + (1 : Int32))) (lv' := [(8, .int (v8 + (1 : Int32))), (7, .int (v7 + j8)), (0, .ref (a 0)), (1, .int v1), (2, .int v2), (3, .int v3), (4, .int v4), (5, .int v5), (6, .int j6), (9, .int j2)]) hx hb dX12_seats_135 hl (k := 8) rfl rfl (by decide) rfl (fun ls hl => ?_)
                          refine lv_goto (tgt := 59) hx hb dX12_seats_138 (by decide) ?_
                          exact ih hf hw (lv_sub hl [2, 3, 4, 5, 6, 7, 8, 1, 0] rfl) kx
                        clear hf
                        have hf := hj8
                        clear hj8
                        refine lv_if_eq (tgt := 131) hx hb dX12_seats_115 (by decide) (fun hc => ?_) (fun hc => ?_)
                        · have hf := ifT hf hc
                          refine lv_iconst (v := 0) hx hb dX12_seats_131 (by decide) ?_
                          have hf := Option.some.inj hf
                          subst hf
                          exact wj8 _ _ _ hw (lv_sub hl [1, 2, 3, 4, 5, 6, 0, 7, 8, 9] rfl)
                        · have hf := ifF hf hc
                          refine lv_aload_n hx hb dX12_seats_118 rfl (lv_at hl 1 rfl) ?_
                          refine mg_s cx hw dX12_seats_119 ?_
                          refine lv_bipush (v := 29) hx hb dX12_seats_122 (by decide) ?_
                          refine lv_iload hx hb dX12_seats_124 (lv_at hl 8 rfl) ?_
                          refine lv_iadd hx hb dX12_seats_126 ?_
                          obtain ⟨h7, hf⟩ := ckS hf
                          refine ml_s (j := ((29 : Int32) + v8).toNatClampNeg) cx hw (ib_in h7) rfl dX12_seats_127 ?_
                          refine lv_goto (tgt := 132) hx hb dX12_seats_128 (by decide) ?_
                          have hf := Option.some.inj hf
                          subst hf
                          exact wj8 _ _ _ hw (lv_sub hl [1, 2, 3, 4, 5, 6, 0, 7, 8, 9] rfl)
                      clear hf
                      have hf := hj6
                      clear hj6
                      refine lv_if_eq (tgt := 108) hx hb dX12_seats_86 (by decide) (fun hc => ?_) (fun hc => ?_)
                      · have hf := ifT hf hc
                        refine lv_iconst (v := 0) hx hb dX12_seats_108 (by decide) ?_
                        have hf := Option.some.inj hf
                        subst hf
                        exact wj6 _ _ _ hw (lv_sub hl [1, 2, 3, 4, 5, 6, 7, 8, 9, 0] rfl)
                      · have hf := ifF hf hc
                        refine lv_iload hx hb dX12_seats_89 (lv_at hl 0 rfl) ?_
                        obtain ⟨J5, hJ5, hf⟩ := jnS hf
                        have wj5 : ∀ (j5 : Unit) (H : Heap) (locs : List Loc) (ls : Array Slot), J5 j5 = some j6 → Wd D A s (mW a t x_s x_kept x_laid x_isKept x_pile x_tape x_taped x_letters x_at x_begun x_token x_value x_opened x_steps x_code0 x_read x_saved x_plan x_bestPlan x_most x_many x_few x_everRight x_lagThen x_shadedThen x_firstFit x_rows x_rowMany x_sorts x_sizes x_number x_holds x_heldOne x_trace x_traced x_own x_isParted) H locs → lv_has ls 10 [(0, .ref (a 0)), (1, .int v1), (2, .int v2), (3, .int v3), (4, .int v4), (5, .int v5), (6, .int v6), (7, .int v7), (8, .int v8), (9, .int j2)] → W p l e (rmz 4 0 0) s m args below meth c H locs 0 0 Q (F0 m 104 ls []) := by
                          intro j5 H locs ls hf hw hl
                          have hf := hJ5 _ hf
                          refine lv_iconst (v := 1) hx hb dX12_seats_104 (by decide) ?_
                          refine lv_goto (tgt := 109) hx hb dX12_seats_105 (by decide) ?_
                          have hf := Option.some.inj hf
                          subst hf
                          exact wj6 _ _ _ hw (lv_sub hl [0, 1, 2, 3, 4, 5, 6, 7, 8, 9] rfl)
                        clear hJ5
                        refine lv_if_eq (tgt := 104) hx hb dX12_seats_91 (by decide) (fun hc => ?_) (fun hc => ?_)
                        · have hf := ifT hf hc
                          exact wj5 _ _ _ _ hf hw (lv_sub hl [1, 2, 3, 4, 5, 6, 7, 8, 9, 0] rfl)
                        · have hf := ifF hf hc
                          refine lv_aload_n hx hb dX12_seats_94 rfl (lv_at hl 1 rfl) ?_
                          refine lv_iload hx hb dX12_seats_95 (lv_at hl 9 rfl) ?_
                          obtain ⟨r3, h4, hf⟩ := bnS hf
                          refine calVi (k := 0) cx hw hl.1 (c_X12_shadeAt h4) q_1319 k_X12_shadeAt rfl rfl rfl dX12_seats_97 rfl (Nat.le_of_ble_eq_true rfl) ⟨Nat.le_of_ble_eq_true rfl, Nat.le_of_ble_eq_true rfl⟩ ⟨Nat.le_refl _, Nat.le_refl _⟩ (fun H locs hw => ?_)
                          refine lv_iload_n hx hb dX12_seats_100 rfl (lv_at hl 2 rfl) ?_
                          refine lv_icmp_gt (tgt := 108) hx hb dX12_seats_101 (by decide) (fun hc => ?_) (fun hc => ?_)
                          · have hf := ifT hf hc
                            refine lv_iconst (v := 0) hx hb dX12_seats_108 (by decide) ?_
                            have hf := Option.some.inj hf
                            subst hf
                            exact wj6 _ _ _ hw (lv_sub hl [1, 2, 3, 4, 5, 6, 7, 8, 9, 0] rfl)
                          · have hf := ifF hf hc
                            exact wj5 _ _ _ _ hf hw (lv_sub hl [1, 2, 3, 4, 5, 6, 7, 8, 9, 0] rfl)
                    clear hf
                    have hf := hj2
                    clear hj2
                    refine lv_icmp_ne (tgt := 81) hx hb dX12_seats_74 (by decide) (fun hc => ?_) (fun hc => ?_)
                    · have hf := ifF hf hc
                      refine lv_iconst (v := 0) hx hb dX12_seats_81 (by decide) ?_
                      subst hf
                      exact wj2 _ _ _ hw (lv_sub hl [0, 1, 2, 3, 4, 5, 6, 7, 8] rfl)
                    · have hf := ifT hf hc
                      refine lv_iconst (v := 1) hx hb dX12_seats_77 (by decide) ?_
                      refine lv_goto (tgt := 82) hx hb dX12_seats_78 (by decide) ?_
                      subst hf
                      exact wj2 _ _ _ hw (lv_sub hl [0, 1, 2, 3, 4, 5, 6, 7, 8] rfl)
              refine wL2 n ho9 hw (lv_sub hl [3, 4, 5, 6, 7, 8, 2, 1, 0] rfl) (fun H locs ls hw hl => ?_)
              clear wL2 ho9
              refine lv_iload hx hb dX12_seats_141 (lv_at hl 6 rfl) ?_
              obtain ⟨j10, hj10, hf⟩ := pbS hf
              have wj10 : ∀ (H : Heap) (locs : List Loc) (ls : Array Slot), Wd D A s (mW a t x_s x_kept x_laid x_isKept x_pile x_tape x_taped x_letters x_at x_begun x_token x_value x_opened x_steps x_code0 x_read x_saved x_plan x_bestPlan x_most x_many x_few x_everRight x_lagThen x_shadedThen x_firstFit x_rows x_rowMany x_sorts x_sizes x_number x_holds x_heldOne x_trace x_traced x_own x_isParted) H locs → lv_has ls 10 [(0, .ref (a 0)), (1, .int v1), (2, .int v2), (3, .int v3), (4, .int v4), (5, .int v5), (6, .int o9.1), (7, .int o9.2.1), (8, .int o9.2.2)] → W p l e (rmz 4 0 0) s m args below meth c H locs 0 0 Q (F0 m 159 ls [.int j10]) := by
                intro H locs ls hw hl
                refine lv_istore_n (lv' := [(3, .int j10), (0, .ref (a 0)), (1, .int v1), (2, .int v2), (4, .int v4), (5, .int v5), (6, .int o9.1), (7, .int o9.2.1), (8, .int o9.2.2)]) hx hb dX12_seats_159 rfl hl (by decide) rfl (fun ls hl => ?_)
                refine lv_iload hx hb dX12_seats_160 (lv_at hl 6 rfl) ?_
                obtain ⟨j11, hj11, hf⟩ := pbS hf
                have wj11 : ∀ (H : Heap) (locs : List Loc) (ls : Array Slot), Wd D A s (mW a t x_s x_kept x_laid x_isKept x_pile x_tape x_taped x_letters x_at x_begun x_token x_value x_opened x_steps x_code0 x_read x_saved x_plan x_bestPlan x_most x_many x_few x_everRight x_lagThen x_shadedThen x_firstFit x_rows x_rowMany x_sorts x_sizes x_number x_holds x_heldOne x_trace x_traced x_own x_isParted) H locs → lv_has ls 10 [(0, .ref (a 0)), (1, .int v1), (2, .int v2), (3, .int j10), (4, .int v4), (5, .int v5), (6, .int o9.1), (7, .int o9.2.1), (8, .int o9.2.2)] → W p l e (rmz 4 0 0) s m args below meth c H locs 0 0 Q (F0 m 179 ls [.int j11]) := by
                  intro H locs ls hw hl
                  refine lv_istore (lv' := [(4, .int j11), (0, .ref (a 0)), (1, .int v1), (2, .int v2), (3, .int j10), (5, .int v5), (6, .int o9.1), (7, .int o9.2.1), (8, .int o9.2.2)]) hx hb dX12_seats_179 hl (by decide) rfl (fun ls hl => ?_)
                  refine lv_iinc (v := (v5 + (1 : Int32))) (lv' := [(5, .int (v5 + (1 : Int32))), (4, .int j11), (0, .ref (a 0)), (1, .int v1), (2, .int v2), (3, .int j10), (6, .int o9.1), (7, .int o9.2.1), (8, .int o9.2.2)]) hx hb dX12_seats_181 hl (k := 5) rfl rfl (by decide) rfl (fun ls hl => ?_)
                  refine lv_goto (tgt := 29) hx hb dX12_seats_184 (by decide) ?_
                  exact ih hf hw (lv_sub hl [2, 3, 4, 5, 1, 0] rfl) kx
                clear hf
                have hf := hj11
                clear hj11
                refine lv_if_eq (tgt := 177) hx hb dX12_seats_162 (by decide) (fun hc => ?_) (fun hc => ?_)
                · have hf := ifT hf hc
                  refine lv_iload hx hb dX12_seats_177 (lv_at hl 4 rfl) ?_
                  subst hf
                  exact wj11 _ _ _ hw (lv_sub hl [1, 2, 3, 0, 4, 5, 6, 7, 8] rfl)
                · have hf := ifF hf hc
                  refine lv_iload hx hb dX12_seats_165 (lv_at hl 7 rfl) ?_
                  refine lv_iload hx hb dX12_seats_167 (lv_at hl 4 rfl) ?_
                  refine lv_icmp_le (tgt := 177) hx hb dX12_seats_169 (by decide) (fun hc => ?_) (fun hc => ?_)
                  · have hf := ifT hf hc
                    refine lv_iload hx hb dX12_seats_177 (lv_at hl 4 rfl) ?_
                    subst hf
                    exact wj11 _ _ _ hw (lv_sub hl [1, 2, 3, 0, 4, 5, 6, 7, 8] rfl)
                  · have hf := ifF hf hc
                    refine lv_iload hx hb dX12_seats_172 (lv_at hl 7 rfl) ?_
                    refine lv_goto (tgt := 179) hx hb dX12_seats_174 (by decide) ?_
                    subst hf
                    exact wj11 _ _ _ hw (lv_sub hl [1, 2, 3, 0, 4, 5, 6, 7, 8] rfl)
              clear hf
              have hf := hj10
              clear hj10
              refine lv_if_eq (tgt := 158) hx hb dX12_seats_143 (by decide) (fun hc => ?_) (fun hc => ?_)
              · have hf := ifT hf hc
                refine lv_iload_n hx hb dX12_seats_158 rfl (lv_at hl 3 rfl) ?_
                subst hf
                exact wj10 _ _ _ hw (lv_sub hl [0, 1, 2, 3, 4, 5, 6, 7, 8] rfl)
              · have hf := ifF hf hc
                refine lv_iload hx hb dX12_seats_146 (lv_at hl 7 rfl) ?_
                refine lv_iload hx hb dX12_seats_148 (lv_at hl 4 rfl) ?_
                refine lv_icmp_le (tgt := 158) hx hb dX12_seats_150 (by decide) (fun hc => ?_) (fun hc => ?_)
                · have hf := ifT hf hc
                  refine lv_iload_n hx hb dX12_seats_158 rfl (lv_at hl 3 rfl) ?_
                  subst hf
                  exact wj10 _ _ _ hw (lv_sub hl [0, 1, 2, 3, 4, 5, 6, 7, 8] rfl)
                · have hf := ifF hf hc
                  refine lv_iload hx hb dX12_seats_153 (lv_at hl 5 rfl) ?_
                  refine lv_goto (tgt := 159) hx hb dX12_seats_155 (by decide) ?_
                  subst hf
                  exact wj10 _ _ _ hw (lv_sub hl [0, 1, 2, 3, 4, 5, 6, 7, 8] rfl)
            clear hf
            have hf := hj1
            clear hj1
            refine lv_if_ne (tgt := 50) hx hb dX12_seats_43 (by decide) (fun hc => ?_) (fun hc => ?_)
            · have hf := ifF hf hc
              refine lv_iconst (v := 0) hx hb dX12_seats_50 (by decide) ?_
              subst hf
              exact wj1 _ _ _ hw (lv_sub hl [0, 1, 2, 3, 4, 5] rfl)
            · have hf := ifT hf hc
              refine lv_iconst (v := 1) hx hb dX12_seats_46 (by decide) ?_
              refine lv_goto (tgt := 51) hx hb dX12_seats_47 (by decide) ?_
              subst hf
              exact wj1 _ _ _ hw (lv_sub hl [0, 1, 2, 3, 4, 5] rfl)
      refine wL1 n ho12 hw (lv_sub hl [3, 4, 5, 2, 1, 0] rfl) (fun H locs ls hw hl => ?_)
      clear wL1 ho12
      refine lv_iload_n hx hb dX12_seats_187 rfl (lv_at hl 2 rfl) ?_
      refine lv_if_ne (tgt := 196) hx hb dX12_seats_188 (by decide) (fun hc => ?_) (fun hc => ?_)
      · have hf := ifF hf hc
        refine lv_iload_n hx hb dX12_seats_196 rfl (lv_at hl 3 rfl) ?_
        have hf := Option.some.inj hf
        subst hf
        exact hR _ _ _ _ _ _ hw rfl ⟨rfl, rfl⟩ dX12_seats_197
      · have hf := ifT hf hc
        refine lv_iload hx hb dX12_seats_191 (lv_at hl 4 rfl) ?_
        refine lv_goto (tgt := 197) hx hb dX12_seats_193 (by decide) ?_
        have hf := Option.some.inj hf
        subst hf
        exact hR _ _ _ _ _ _ hw rfl ⟨rfl, rfl⟩ dX12_seats_197
    · have hf := ifT hf hc
      refine lv_iconst (v := (-1)) hx hb dX12_seats_19 (by decide) ?_
      have hf := Option.some.inj hf
      subst hf
      exact hR _ _ _ _ _ _ hw rfl ⟨rfl, rfl⟩ dX12_seats_20
theorem dX12_saves_0 : decode cX12_saves 0 = .ok (.iconst 0, 1) := by decide +kernel
theorem dX12_saves_1 : decode cX12_saves 1 = .ok (.istore_n 2, 1) := by decide +kernel
theorem dX12_saves_2 : decode cX12_saves 2 = .ok (.iload_n 2, 1) := by decide +kernel
theorem dX12_saves_3 : decode cX12_saves 3 = .ok (.bipush 65, 2) := by decide +kernel
theorem dX12_saves_5 : decode cX12_saves 5 = .ok (.if_icmp .ge 26, 3) := by decide +kernel
theorem dX12_saves_8 : decode cX12_saves 8 = .ok (.aload_n 0, 1) := by decide +kernel
theorem dX12_saves_9 : decode cX12_saves 9 = .ok (.getfield 35, 3) := by decide +kernel
theorem dX12_saves_12 : decode cX12_saves 12 = .ok (.bipush 65, 2) := by decide +kernel
theorem dX12_saves_14 : decode cX12_saves 14 = .ok (.iload_n 1, 1) := by decide +kernel
theorem dX12_saves_15 : decode cX12_saves 15 = .ok (.imul, 1) := by decide +kernel
theorem dX12_saves_16 : decode cX12_saves 16 = .ok (.iload_n 2, 1) := by decide +kernel
theorem dX12_saves_17 : decode cX12_saves 17 = .ok (.iadd, 1) := by decide +kernel
theorem dX12_saves_18 : decode cX12_saves 18 = .ok (.aload_n 0, 1) := by decide +kernel
theorem dX12_saves_19 : decode cX12_saves 19 = .ok (.getfield 9, 3) := by decide +kernel
theorem dX12_saves_22 : decode cX12_saves 22 = .ok (.iload_n 2, 1) := by decide +kernel
theorem dX12_saves_23 : decode cX12_saves 23 = .ok (.iaload, 1) := by decide +kernel
theorem dX12_saves_24 : decode cX12_saves 24 = .ok (.iastore, 1) := by decide +kernel
theorem dX12_saves_25 : decode cX12_saves 25 = .ok (.iinc 2 1, 3) := by decide +kernel
theorem dX12_saves_28 : decode cX12_saves 28 = .ok (.goto (-26), 3) := by decide +kernel
theorem dX12_saves_31 : decode cX12_saves 31 = .ok (.return_, 1) := by decide +kernel
theorem k_X12_saves : MV yX12_saves cX12_saves 3 none 1 := ⟨q_1522, qs_77, q_14, q_1523, ⟨by decide, by decide, by decide +kernel⟩⟩
theorem c_X12_saves {res : (Nat → Int32)} (hf : X12_saves n x_s x_saved v1 = some res) : MC l E0 D t yX12_saves cX12_saves 3 none 1 0 0 [.ref (a 0), .int v1] (mW a t x_s x_kept x_laid x_isKept x_pile x_tape x_taped x_letters x_at x_begun x_token x_value x_opened x_steps x_code0 x_read x_saved x_plan x_bestPlan x_most x_many x_few x_everRight x_lagThen x_shadedThen x_firstFit x_rows x_rowMany x_sorts x_sizes x_number x_holds x_heldOne x_trace x_traced x_own x_isParted) (Qn (mW a t x_s x_kept x_laid x_isKept x_pile x_tape x_taped x_letters x_at x_begun x_token x_value x_opened x_steps x_code0 x_read res x_plan x_bestPlan x_most x_many x_few x_everRight x_lagThen x_shadedThen x_firstFit x_rows x_rowMany x_sorts x_sizes x_number x_holds x_heldOne x_trace x_traced x_own x_isParted)) := by
  unfold X12_saves at hf
  refine MC.ofV pn_X12 (Nat.le_of_ble_eq_true rfl) ?_
  intro p e s m args below meth c A Q ls cx hR hw hl
  have hx := cx.1
  have hb := cx.2.1
  have hl : lv_has ls 3 [(0, .ref (a 0)), (1, .int v1)] := hl
  refine lv_iconst (v := 0) hx hb dX12_saves_0 (by decide) ?_
  refine lv_istore_n (lv' := [(2, .int (0 : Int32)), (0, .ref (a 0)), (1, .int v1)]) hx hb dX12_saves_1 rfl hl (by decide) rfl (fun ls hl => ?_)
  obtain ⟨o3, ho3, hf⟩ := bnS hf
  have wL1 : ∀ (k : Nat) {v1 : Int32} {v2 : Int32} {x_saved : Nat → Int32} {H : Heap} {locs : List Loc} {ls : Array Slot} {o : Int32 × (Nat → Int32)}, X12_saves_L1 n x_s v1 k v2 x_saved = some o → Wd D A s (mW a t x_s x_kept x_laid x_isKept x_pile x_tape x_taped x_letters x_at x_begun x_token x_value x_opened x_steps x_code0 x_read x_saved x_plan x_bestPlan x_most x_many x_few x_everRight x_lagThen x_shadedThen x_firstFit x_rows x_rowMany x_sorts x_sizes x_number x_holds x_heldOne x_trace x_traced x_own x_isParted) H locs → lv_has ls 3 [(0, .ref (a 0)), (1, .int v1), (2, .int v2)] → (∀ (H : Heap) (locs : List Loc) (ls : Array Slot), Wd D A s (mW a t x_s x_kept x_laid x_isKept x_pile x_tape x_taped x_letters x_at x_begun x_token x_value x_opened x_steps x_code0 x_read o.2 x_plan x_bestPlan x_most x_many x_few x_everRight x_lagThen x_shadedThen x_firstFit x_rows x_rowMany x_sorts x_sizes x_number x_holds x_heldOne x_trace x_traced x_own x_isParted) H locs → lv_has ls 3 [(0, .ref (a 0)), (1, .int v1), (2, .int o.1)] → W p l e (rmz 1 0 0) s m args below meth c H locs 0 0 Q (F0 m 31 ls [])) → W p l e (rmz 1 0 0) s m args below meth c H locs 0 0 Q (F0 m 2 ls []) := by
    clear hf ho3 hw hl
    intro k
    induction k with
    | zero => intro v1 v2 x_saved H locs ls o hf hw hl kx; simp [X12_saves_L1] at hf
    | succ k ih =>
      intro v1 v2 x_saved H locs ls o hf hw hl kx
      rw [X12_saves_L1] at hf
      refine lv_iload_n hx hb dX12_saves_2 rfl (lv_at hl 2 rfl) ?_
      refine lv_bipush (v := 65) hx hb dX12_saves_3 (by decide) ?_
      refine lv_icmp_ge (tgt := 31) hx hb dX12_saves_5 (by decide) (fun hc => ?_) (fun hc => ?_)
      · have hf := ifT hf hc
        have hf := Option.some.inj hf
        subst hf
        exact kx _ _ _ hw (lv_sub hl [0, 1, 2] rfl)
      · have hf := ifF hf hc
        refine lv_aload_n hx hb dX12_saves_8 rfl (lv_at hl 0 rfl) ?_
        refine mg_saved cx hw dX12_saves_9 ?_
        refine lv_bipush (v := 65) hx hb dX12_saves_12 (by decide) ?_
        refine lv_iload_n hx hb dX12_saves_14 rfl (lv_at hl 1 rfl) ?_
        refine lv_imul hx hb dX12_saves_15 ?_
        refine lv_iload_n hx hb dX12_saves_16 rfl (lv_at hl 2 rfl) ?_
        refine lv_iadd hx hb dX12_saves_17 ?_
        refine lv_aload_n hx hb dX12_saves_18 rfl (lv_at hl 0 rfl) ?_
        refine mg_s cx hw dX12_saves_19 ?_
        refine lv_iload_n hx hb dX12_saves_22 rfl (lv_at hl 2 rfl) ?_
        obtain ⟨h1, hf⟩ := ckS hf
        refine ml_s (j := v2.toNatClampNeg) cx hw (ib_in h1) rfl dX12_saves_23 ?_
        obtain ⟨h2, hf⟩ := ckS hf
        refine ms_saved (j := (((65 : Int32) * v1) + v2).toNatClampNeg) cx hw (ib_in h2) rfl dX12_saves_24 (fun H locs hw => ?_)
        refine lv_iinc (v := (v2 + (1 : Int32))) (lv' := [(2, .int (v2 + (1 : Int32))), (0, .ref (a 0)), (1, .int v1)]) hx hb dX12_saves_25 hl (k := 2) rfl rfl (by decide) rfl (fun ls hl => ?_)
        refine lv_goto (tgt := 2) hx hb dX12_saves_28 (by decide) ?_
        exact ih hf hw (lv_sub hl [1, 2, 0] rfl) kx
  refine wL1 n ho3 hw (lv_sub hl [1, 2, 0] rfl) (fun H locs ls hw hl => ?_)
  clear wL1 ho3
  have hf := Option.some.inj hf
  subst hf
  exact hR _ _ _ _ _ hw ⟨rfl, rfl⟩ dX12_saves_31
theorem dX12_restores_0 : decode cX12_restores 0 = .ok (.iconst 0, 1) := by decide +kernel
theorem dX12_restores_1 : decode cX12_restores 1 = .ok (.istore_n 2, 1) := by decide +kernel
theorem dX12_restores_2 : decode cX12_restores 2 = .ok (.iload_n 2, 1) := by decide +kernel
theorem dX12_restores_3 : decode cX12_restores 3 = .ok (.bipush 65, 2) := by decide +kernel
theorem dX12_restores_5 : decode cX12_restores 5 = .ok (.if_icmp .ge 26, 3) := by decide +kernel
theorem dX12_restores_8 : decode cX12_restores 8 = .ok (.aload_n 0, 1) := by decide +kernel
theorem dX12_restores_9 : decode cX12_restores 9 = .ok (.getfield 9, 3) := by decide +kernel
theorem dX12_restores_12 : decode cX12_restores 12 = .ok (.iload_n 2, 1) := by decide +kernel
theorem dX12_restores_13 : decode cX12_restores 13 = .ok (.aload_n 0, 1) := by decide +kernel
theorem dX12_restores_14 : decode cX12_restores 14 = .ok (.getfield 35, 3) := by decide +kernel
theorem dX12_restores_17 : decode cX12_restores 17 = .ok (.bipush 65, 2) := by decide +kernel
theorem dX12_restores_19 : decode cX12_restores 19 = .ok (.iload_n 1, 1) := by decide +kernel
theorem dX12_restores_20 : decode cX12_restores 20 = .ok (.imul, 1) := by decide +kernel
theorem dX12_restores_21 : decode cX12_restores 21 = .ok (.iload_n 2, 1) := by decide +kernel
theorem dX12_restores_22 : decode cX12_restores 22 = .ok (.iadd, 1) := by decide +kernel
theorem dX12_restores_23 : decode cX12_restores 23 = .ok (.iaload, 1) := by decide +kernel
theorem dX12_restores_24 : decode cX12_restores 24 = .ok (.iastore, 1) := by decide +kernel
theorem dX12_restores_25 : decode cX12_restores 25 = .ok (.iinc 2 1, 3) := by decide +kernel
theorem dX12_restores_28 : decode cX12_restores 28 = .ok (.goto (-26), 3) := by decide +kernel
theorem dX12_restores_31 : decode cX12_restores 31 = .ok (.return_, 1) := by decide +kernel
theorem k_X12_restores : MV yX12_restores cX12_restores 3 none 1 := ⟨q_1526, qs_78, q_14, q_1527, ⟨by decide, by decide, by decide +kernel⟩⟩
theorem c_X12_restores {res : (Nat → Int32)} (hf : X12_restores n x_s x_saved v1 = some res) : MC l E0 D t yX12_restores cX12_restores 3 none 1 0 0 [.ref (a 0), .int v1] (mW a t x_s x_kept x_laid x_isKept x_pile x_tape x_taped x_letters x_at x_begun x_token x_value x_opened x_steps x_code0 x_read x_saved x_plan x_bestPlan x_most x_many x_few x_everRight x_lagThen x_shadedThen x_firstFit x_rows x_rowMany x_sorts x_sizes x_number x_holds x_heldOne x_trace x_traced x_own x_isParted) (Qn (mW a t res x_kept x_laid x_isKept x_pile x_tape x_taped x_letters x_at x_begun x_token x_value x_opened x_steps x_code0 x_read x_saved x_plan x_bestPlan x_most x_many x_few x_everRight x_lagThen x_shadedThen x_firstFit x_rows x_rowMany x_sorts x_sizes x_number x_holds x_heldOne x_trace x_traced x_own x_isParted)) := by
  unfold X12_restores at hf
  refine MC.ofV pn_X12 (Nat.le_of_ble_eq_true rfl) ?_
  intro p e s m args below meth c A Q ls cx hR hw hl
  have hx := cx.1
  have hb := cx.2.1
  have hl : lv_has ls 3 [(0, .ref (a 0)), (1, .int v1)] := hl
  refine lv_iconst (v := 0) hx hb dX12_restores_0 (by decide) ?_
  refine lv_istore_n (lv' := [(2, .int (0 : Int32)), (0, .ref (a 0)), (1, .int v1)]) hx hb dX12_restores_1 rfl hl (by decide) rfl (fun ls hl => ?_)
  obtain ⟨o3, ho3, hf⟩ := bnS hf
  have wL1 : ∀ (k : Nat) {v1 : Int32} {v2 : Int32} {x_s : Nat → Int32} {H : Heap} {locs : List Loc} {ls : Array Slot} {o : Int32 × (Nat → Int32)}, X12_restores_L1 n x_saved v1 k v2 x_s = some o → Wd D A s (mW a t x_s x_kept x_laid x_isKept x_pile x_tape x_taped x_letters x_at x_begun x_token x_value x_opened x_steps x_code0 x_read x_saved x_plan x_bestPlan x_most x_many x_few x_everRight x_lagThen x_shadedThen x_firstFit x_rows x_rowMany x_sorts x_sizes x_number x_holds x_heldOne x_trace x_traced x_own x_isParted) H locs → lv_has ls 3 [(0, .ref (a 0)), (1, .int v1), (2, .int v2)] → (∀ (H : Heap) (locs : List Loc) (ls : Array Slot), Wd D A s (mW a t o.2 x_kept x_laid x_isKept x_pile x_tape x_taped x_letters x_at x_begun x_token x_value x_opened x_steps x_code0 x_read x_saved x_plan x_bestPlan x_most x_many x_few x_everRight x_lagThen x_shadedThen x_firstFit x_rows x_rowMany x_sorts x_sizes x_number x_holds x_heldOne x_trace x_traced x_own x_isParted) H locs → lv_has ls 3 [(0, .ref (a 0)), (1, .int v1), (2, .int o.1)] → W p l e (rmz 1 0 0) s m args below meth c H locs 0 0 Q (F0 m 31 ls [])) → W p l e (rmz 1 0 0) s m args below meth c H locs 0 0 Q (F0 m 2 ls []) := by
    clear hf ho3 hw hl
    intro k
    induction k with
    | zero => intro v1 v2 x_s H locs ls o hf hw hl kx; simp [X12_restores_L1] at hf
    | succ k ih =>
      intro v1 v2 x_s H locs ls o hf hw hl kx
      rw [X12_restores_L1] at hf
      refine lv_iload_n hx hb dX12_restores_2 rfl (lv_at hl 2 rfl) ?_
      refine lv_bipush (v := 65) hx hb dX12_restores_3 (by decide) ?_
      refine lv_icmp_ge (tgt := 31) hx hb dX12_restores_5 (by decide) (fun hc => ?_) (fun hc => ?_)
      · have hf := ifT hf hc
        have hf := Option.some.inj hf
        subst hf
        exact kx _ _ _ hw (lv_sub hl [0, 1, 2] rfl)
      · have hf := ifF hf hc
        refine lv_aload_n hx hb dX12_restores_8 rfl (lv_at hl 0 rfl) ?_
        refine mg_s cx hw dX12_restores_9 ?_
        refine lv_iload_n hx hb dX12_restores_12 rfl (lv_at hl 2 rfl) ?_
        refine lv_aload_n hx hb dX12_restores_13 rfl (lv_at hl 0 rfl) ?_
        refine mg_saved cx hw dX12_restores_14 ?_
        refine lv_bipush (v := 65) hx hb dX12_restores_17 (by decide) ?_
        refine lv_iload_n hx hb dX12_restores_19 rfl (lv_at hl 1 rfl) ?_
        refine lv_imul hx hb dX12_restores_20 ?_
        refine lv_iload_n hx hb dX12_restores_21 rfl (lv_at hl 2 rfl) ?_
        refine lv_iadd hx hb dX12_restores_22 ?_
        obtain ⟨h1, hf⟩ := ckS hf
        refine ml_saved (j := (((65 : Int32) * v1) + v2).toNatClampNeg) cx hw (ib_in h1) rfl dX12_restores_23 ?_
        obtain ⟨h2, hf⟩ := ckS hf
        refine ms_s (j := v2.toNatClampNeg) cx hw (ib_in h2) rfl dX12_restores_24 (fun H locs hw => ?_)
        refine lv_iinc (v := (v2 + (1 : Int32))) (lv' := [(2, .int (v2 + (1 : Int32))), (0, .ref (a 0)), (1, .int v1)]) hx hb dX12_restores_25 hl (k := 2) rfl rfl (by decide) rfl (fun ls hl => ?_)
        refine lv_goto (tgt := 2) hx hb dX12_restores_28 (by decide) ?_
        exact ih hf hw (lv_sub hl [1, 2, 0] rfl) kx
  refine wL1 n ho3 hw (lv_sub hl [1, 2, 0] rfl) (fun H locs ls hw hl => ?_)
  clear wL1 ho3
  have hf := Option.some.inj hf
  subst hf
  exact hR _ _ _ _ _ hw ⟨rfl, rfl⟩ dX12_restores_31
theorem dX12_daysOf_0 : decode cX12_daysOf 0 = .ok (.aload_n 0, 1) := by decide +kernel
theorem dX12_daysOf_1 : decode cX12_daysOf 1 = .ok (.invokevirtual 237, 3) := by decide +kernel
theorem dX12_daysOf_4 : decode cX12_daysOf 4 = .ok (.ifCond .eq 7, 3) := by decide +kernel
theorem dX12_daysOf_7 : decode cX12_daysOf 7 = .ok (.iconst 0, 1) := by decide +kernel
theorem dX12_daysOf_8 : decode cX12_daysOf 8 = .ok (.goto 16, 3) := by decide +kernel
theorem dX12_daysOf_11 : decode cX12_daysOf 11 = .ok (.aload_n 0, 1) := by decide +kernel
theorem dX12_daysOf_12 : decode cX12_daysOf 12 = .ok (.getfield 9, 3) := by decide +kernel
theorem dX12_daysOf_15 : decode cX12_daysOf 15 = .ok (.iconst 1, 1) := by decide +kernel
theorem dX12_daysOf_16 : decode cX12_daysOf 16 = .ok (.iaload, 1) := by decide +kernel
theorem dX12_daysOf_17 : decode cX12_daysOf 17 = .ok (.aload_n 0, 1) := by decide +kernel
theorem dX12_daysOf_18 : decode cX12_daysOf 18 = .ok (.getfield 9, 3) := by decide +kernel
theorem dX12_daysOf_21 : decode cX12_daysOf 21 = .ok (.iconst 0, 1) := by decide +kernel
theorem dX12_daysOf_22 : decode cX12_daysOf 22 = .ok (.iaload, 1) := by decide +kernel
theorem dX12_daysOf_23 : decode cX12_daysOf 23 = .ok (.isub, 1) := by decide +kernel
theorem dX12_daysOf_24 : decode cX12_daysOf 24 = .ok (.istore_n 2, 1) := by decide +kernel
theorem dX12_daysOf_25 : decode cX12_daysOf 25 = .ok (.iload_n 1, 1) := by decide +kernel
theorem dX12_daysOf_26 : decode cX12_daysOf 26 = .ok (.iload_n 2, 1) := by decide +kernel
theorem dX12_daysOf_27 : decode cX12_daysOf 27 = .ok (.if_icmp .ge 7, 3) := by decide +kernel
theorem dX12_daysOf_30 : decode cX12_daysOf 30 = .ok (.iload_n 1, 1) := by decide +kernel
theorem dX12_daysOf_31 : decode cX12_daysOf 31 = .ok (.goto 4, 3) := by decide +kernel
theorem dX12_daysOf_34 : decode cX12_daysOf 34 = .ok (.iload_n 2, 1) := by decide +kernel
theorem dX12_daysOf_35 : decode cX12_daysOf 35 = .ok (.ireturn, 1) := by decide +kernel
theorem k_X12_daysOf : MV yX12_daysOf cX12_daysOf 3 (some .int) 1 := ⟨q_1510, qs_74, q_14, q_1511, ⟨by decide, by decide, by decide +kernel⟩⟩
theorem c_X12_daysOf {res : Int32} (hf : X12_daysOf x_s v1 = res) : MC l E0 D t yX12_daysOf cX12_daysOf 3 (some .int) 2 0 0 [.ref (a 0), .int v1] (mW a t x_s x_kept x_laid x_isKept x_pile x_tape x_taped x_letters x_at x_begun x_token x_value x_opened x_steps x_code0 x_read x_saved x_plan x_bestPlan x_most x_many x_few x_everRight x_lagThen x_shadedThen x_firstFit x_rows x_rowMany x_sorts x_sizes x_number x_holds x_heldOne x_trace x_traced x_own x_isParted) (Qi res (mW a t x_s x_kept x_laid x_isKept x_pile x_tape x_taped x_letters x_at x_begun x_token x_value x_opened x_steps x_code0 x_read x_saved x_plan x_bestPlan x_most x_many x_few x_everRight x_lagThen x_shadedThen x_firstFit x_rows x_rowMany x_sorts x_sizes x_number x_holds x_heldOne x_trace x_traced x_own x_isParted)) := by
  unfold X12_daysOf at hf
  refine MC.ofI pn_X12 (Nat.le_of_ble_eq_true rfl) ?_
  intro p e s m args below meth c A Q ls cx hR hw hl
  have hx := cx.1
  have hb := cx.2.1
  have hl : lv_has ls 3 [(0, .ref (a 0)), (1, .int v1)] := hl
  refine lv_aload_n hx hb dX12_daysOf_0 rfl (lv_at hl 0 rfl) ?_
  refine calVi (k := 0) cx hw hl.1 (c_X12_isOver rfl) q_1395 k_X12_isOver rfl rfl rfl dX12_daysOf_1 rfl (Nat.le_of_ble_eq_true rfl) ⟨Nat.le_of_ble_eq_true rfl, Nat.le_of_ble_eq_true rfl⟩ ⟨Nat.le_refl _, Nat.le_refl _⟩ (fun H locs hw => ?_)
  obtain ⟨j1, hj1, hf⟩ := pbS hf
  have wj1 : ∀ (H : Heap) (locs : List Loc) (ls : Array Slot), Wd D A s (mW a t x_s x_kept x_laid x_isKept x_pile x_tape x_taped x_letters x_at x_begun x_token x_value x_opened x_steps x_code0 x_read x_saved x_plan x_bestPlan x_most x_many x_few x_everRight x_lagThen x_shadedThen x_firstFit x_rows x_rowMany x_sorts x_sizes x_number x_holds x_heldOne x_trace x_traced x_own x_isParted) H locs → lv_has ls 3 [(0, .ref (a 0)), (1, .int v1)] → W p l e (rmz 2 0 0) s m args below meth c H locs 0 0 Q (F0 m 24 ls [.int j1]) := by
    intro H locs ls hw hl
    refine lv_istore_n (lv' := [(2, .int j1), (0, .ref (a 0)), (1, .int v1)]) hx hb dX12_daysOf_24 rfl hl (by decide) rfl (fun ls hl => ?_)
    refine lv_iload_n hx hb dX12_daysOf_25 rfl (lv_at hl 2 rfl) ?_
    refine lv_iload_n hx hb dX12_daysOf_26 rfl (lv_at hl 0 rfl) ?_
    refine lv_icmp_ge (tgt := 34) hx hb dX12_daysOf_27 (by decide) (fun hc => ?_) (fun hc => ?_)
    · have hf := ifT hf hc
      refine lv_iload_n hx hb dX12_daysOf_34 rfl (lv_at hl 0 rfl) ?_
      subst hf
      exact hR _ _ _ _ _ _ hw rfl ⟨rfl, rfl⟩ dX12_daysOf_35
    · have hf := ifF hf hc
      refine lv_iload_n hx hb dX12_daysOf_30 rfl (lv_at hl 2 rfl) ?_
      refine lv_goto (tgt := 35) hx hb dX12_daysOf_31 (by decide) ?_
      subst hf
      exact hR _ _ _ _ _ _ hw rfl ⟨rfl, rfl⟩ dX12_daysOf_35
  clear hf
  have hf := hj1
  clear hj1
  refine lv_if_eq (tgt := 11) hx hb dX12_daysOf_4 (by decide) (fun hc => ?_) (fun hc => ?_)
  · have hf := ifT hf hc
    refine lv_aload_n hx hb dX12_daysOf_11 rfl (lv_at hl 0 rfl) ?_
    refine mg_s cx hw dX12_daysOf_12 ?_
    refine lv_iconst (v := 1) hx hb dX12_daysOf_15 (by decide) ?_
    refine ml_s (j := 1) cx hw (ib_in (by decide)) (by decide) dX12_daysOf_16 ?_
    refine lv_aload_n hx hb dX12_daysOf_17 rfl (lv_at hl 0 rfl) ?_
    refine mg_s cx hw dX12_daysOf_18 ?_
    refine lv_iconst (v := 0) hx hb dX12_daysOf_21 (by decide) ?_
    refine ml_s (j := 0) cx hw (ib_in (by decide)) (by decide) dX12_daysOf_22 ?_
    refine lv_isub hx hb dX12_daysOf_23 ?_
    subst hf
    exact wj1 _ _ _ hw (lv_sub hl [0, 1] rfl)
  · have hf := ifF hf hc
    refine lv_iconst (v := 0) hx hb dX12_daysOf_7 (by decide) ?_
    refine lv_goto (tgt := 24) hx hb dX12_daysOf_8 (by decide) ?_
    subst hf
    exact wj1 _ _ _ hw (lv_sub hl [0, 1] rfl)
theorem dX12_endsPlan_0 : decode cX12_endsPlan 0 = .ok (.iload_n 2, 1) := by decide +kernel
theorem dX12_endsPlan_1 : decode cX12_endsPlan 1 = .ok (.aload_n 0, 1) := by decide +kernel
theorem dX12_endsPlan_2 : decode cX12_endsPlan 2 = .ok (.getfield 264, 3) := by decide +kernel
theorem dX12_endsPlan_5 : decode cX12_endsPlan 5 = .ok (.if_icmp .le 42, 3) := by decide +kernel
theorem dX12_endsPlan_8 : decode cX12_endsPlan 8 = .ok (.aload_n 0, 1) := by decide +kernel
theorem dX12_endsPlan_9 : decode cX12_endsPlan 9 = .ok (.iconst 0, 1) := by decide +kernel
theorem dX12_endsPlan_10 : decode cX12_endsPlan 10 = .ok (.putfield 267, 3) := by decide +kernel
theorem dX12_endsPlan_13 : decode cX12_endsPlan 13 = .ok (.aload_n 0, 1) := by decide +kernel
theorem dX12_endsPlan_14 : decode cX12_endsPlan 14 = .ok (.iload_n 2, 1) := by decide +kernel
theorem dX12_endsPlan_15 : decode cX12_endsPlan 15 = .ok (.putfield 264, 3) := by decide +kernel
theorem dX12_endsPlan_18 : decode cX12_endsPlan 18 = .ok (.iconst 0, 1) := by decide +kernel
theorem dX12_endsPlan_19 : decode cX12_endsPlan 19 = .ok (.istore 5, 2) := by decide +kernel
theorem dX12_endsPlan_21 : decode cX12_endsPlan 21 = .ok (.iload 5, 2) := by decide +kernel
theorem dX12_endsPlan_23 : decode cX12_endsPlan 23 = .ok (.iload_n 1, 1) := by decide +kernel
theorem dX12_endsPlan_24 : decode cX12_endsPlan 24 = .ok (.if_icmp .ge 23, 3) := by decide +kernel
theorem dX12_endsPlan_27 : decode cX12_endsPlan 27 = .ok (.aload_n 0, 1) := by decide +kernel
theorem dX12_endsPlan_28 : decode cX12_endsPlan 28 = .ok (.getfield 41, 3) := by decide +kernel
theorem dX12_endsPlan_31 : decode cX12_endsPlan 31 = .ok (.iload 5, 2) := by decide +kernel
theorem dX12_endsPlan_33 : decode cX12_endsPlan 33 = .ok (.aload_n 0, 1) := by decide +kernel
theorem dX12_endsPlan_34 : decode cX12_endsPlan 34 = .ok (.getfield 38, 3) := by decide +kernel
theorem dX12_endsPlan_37 : decode cX12_endsPlan 37 = .ok (.iload 5, 2) := by decide +kernel
theorem dX12_endsPlan_39 : decode cX12_endsPlan 39 = .ok (.iaload, 1) := by decide +kernel
theorem dX12_endsPlan_40 : decode cX12_endsPlan 40 = .ok (.iastore, 1) := by decide +kernel
theorem dX12_endsPlan_41 : decode cX12_endsPlan 41 = .ok (.iinc 5 1, 3) := by decide +kernel
theorem dX12_endsPlan_44 : decode cX12_endsPlan 44 = .ok (.goto (-23), 3) := by decide +kernel
theorem dX12_endsPlan_47 : decode cX12_endsPlan 47 = .ok (.aload_n 0, 1) := by decide +kernel
theorem dX12_endsPlan_48 : decode cX12_endsPlan 48 = .ok (.dup, 1) := by decide +kernel
theorem dX12_endsPlan_49 : decode cX12_endsPlan 49 = .ok (.getfield 267, 3) := by decide +kernel
theorem dX12_endsPlan_52 : decode cX12_endsPlan 52 = .ok (.iload_n 2, 1) := by decide +kernel
theorem dX12_endsPlan_53 : decode cX12_endsPlan 53 = .ok (.aload_n 0, 1) := by decide +kernel
theorem dX12_endsPlan_54 : decode cX12_endsPlan 54 = .ok (.getfield 264, 3) := by decide +kernel
theorem dX12_endsPlan_57 : decode cX12_endsPlan 57 = .ok (.if_icmp .ne 7, 3) := by decide +kernel
theorem dX12_endsPlan_60 : decode cX12_endsPlan 60 = .ok (.iconst 1, 1) := by decide +kernel
theorem dX12_endsPlan_61 : decode cX12_endsPlan 61 = .ok (.goto 4, 3) := by decide +kernel
theorem dX12_endsPlan_64 : decode cX12_endsPlan 64 = .ok (.iconst 0, 1) := by decide +kernel
theorem dX12_endsPlan_65 : decode cX12_endsPlan 65 = .ok (.iadd, 1) := by decide +kernel
theorem dX12_endsPlan_66 : decode cX12_endsPlan 66 = .ok (.putfield 267, 3) := by decide +kernel
theorem dX12_endsPlan_69 : decode cX12_endsPlan 69 = .ok (.aload_n 0, 1) := by decide +kernel
theorem dX12_endsPlan_70 : decode cX12_endsPlan 70 = .ok (.iconst 4, 1) := by decide +kernel
theorem dX12_endsPlan_71 : decode cX12_endsPlan 71 = .ok (.invokevirtual 240, 3) := by decide +kernel
theorem dX12_endsPlan_74 : decode cX12_endsPlan 74 = .ok (.istore 5, 2) := by decide +kernel
theorem dX12_endsPlan_76 : decode cX12_endsPlan 76 = .ok (.aload_n 0, 1) := by decide +kernel
theorem dX12_endsPlan_77 : decode cX12_endsPlan 77 = .ok (.iload 4, 2) := by decide +kernel
theorem dX12_endsPlan_79 : decode cX12_endsPlan 79 = .ok (.iload 5, 2) := by decide +kernel
theorem dX12_endsPlan_81 : decode cX12_endsPlan 81 = .ok (.iconst (-1), 1) := by decide +kernel
theorem dX12_endsPlan_82 : decode cX12_endsPlan 82 = .ok (.ixor, 1) := by decide +kernel
theorem dX12_endsPlan_83 : decode cX12_endsPlan 83 = .ok (.iand, 1) := by decide +kernel
theorem dX12_endsPlan_84 : decode cX12_endsPlan 84 = .ok (.ifCond .ne 15, 3) := by decide +kernel
theorem dX12_endsPlan_87 : decode cX12_endsPlan 87 = .ok (.iload_n 3, 1) := by decide +kernel
theorem dX12_endsPlan_88 : decode cX12_endsPlan 88 = .ok (.aload_n 0, 1) := by decide +kernel
theorem dX12_endsPlan_89 : decode cX12_endsPlan 89 = .ok (.getfield 270, 3) := by decide +kernel
theorem dX12_endsPlan_92 : decode cX12_endsPlan 92 = .ok (.if_icmp .ge 7, 3) := by decide +kernel
theorem dX12_endsPlan_95 : decode cX12_endsPlan 95 = .ok (.iload_n 3, 1) := by decide +kernel
theorem dX12_endsPlan_96 : decode cX12_endsPlan 96 = .ok (.goto 7, 3) := by decide +kernel
theorem dX12_endsPlan_99 : decode cX12_endsPlan 99 = .ok (.aload_n 0, 1) := by decide +kernel
theorem dX12_endsPlan_100 : decode cX12_endsPlan 100 = .ok (.getfield 270, 3) := by decide +kernel
theorem dX12_endsPlan_103 : decode cX12_endsPlan 103 = .ok (.putfield 270, 3) := by decide +kernel
theorem dX12_endsPlan_106 : decode cX12_endsPlan 106 = .ok (.aload_n 0, 1) := by decide +kernel
theorem dX12_endsPlan_107 : decode cX12_endsPlan 107 = .ok (.dup, 1) := by decide +kernel
theorem dX12_endsPlan_108 : decode cX12_endsPlan 108 = .ok (.getfield 273, 3) := by decide +kernel
theorem dX12_endsPlan_111 : decode cX12_endsPlan 111 = .ok (.iload 5, 2) := by decide +kernel
theorem dX12_endsPlan_113 : decode cX12_endsPlan 113 = .ok (.ior, 1) := by decide +kernel
theorem dX12_endsPlan_114 : decode cX12_endsPlan 114 = .ok (.putfield 273, 3) := by decide +kernel
theorem dX12_endsPlan_117 : decode cX12_endsPlan 117 = .ok (.return_, 1) := by decide +kernel
theorem k_X12_endsPlan : MV yX12_endsPlan cX12_endsPlan 6 none 4 := ⟨q_1518, qs_76, q_14, q_1519, ⟨by decide, by decide, by decide +kernel⟩⟩
theorem c_X12_endsPlan {res : (Nat → Int32) × Int32 × Int32 × Int32 × Int32} (hf : X12_endsPlan n x_s x_plan x_bestPlan x_most x_many x_few x_everRight v1 v2 v3 v4 = some res) : MC l E0 D t yX12_endsPlan cX12_endsPlan 6 none 3 0 0 [.ref (a 0), .int v1, .int v2, .int v3, .int v4] (mW a t x_s x_kept x_laid x_isKept x_pile x_tape x_taped x_letters x_at x_begun x_token x_value x_opened x_steps x_code0 x_read x_saved x_plan x_bestPlan x_most x_many x_few x_everRight x_lagThen x_shadedThen x_firstFit x_rows x_rowMany x_sorts x_sizes x_number x_holds x_heldOne x_trace x_traced x_own x_isParted) (Qn (mW a t x_s x_kept x_laid x_isKept x_pile x_tape x_taped x_letters x_at x_begun x_token x_value x_opened x_steps x_code0 x_read x_saved x_plan res.1 res.2.1 res.2.2.1 res.2.2.2.1 res.2.2.2.2 x_lagThen x_shadedThen x_firstFit x_rows x_rowMany x_sorts x_sizes x_number x_holds x_heldOne x_trace x_traced x_own x_isParted)) := by
  unfold X12_endsPlan at hf
  refine MC.ofV pn_X12 (Nat.le_of_ble_eq_true rfl) ?_
  intro p e s m args below meth c A Q ls cx hR hw hl
  have hx := cx.1
  have hb := cx.2.1
  have hl : lv_has ls 6 [(0, .ref (a 0)), (1, .int v1), (2, .int v2), (3, .int v3), (4, .int v4)] := hl
  refine lv_iload_n hx hb dX12_endsPlan_0 rfl (lv_at hl 2 rfl) ?_
  refine lv_aload_n hx hb dX12_endsPlan_1 rfl (lv_at hl 0 rfl) ?_
  refine mg_most cx hw dX12_endsPlan_2 ?_
  obtain ⟨j4, hj4, hf⟩ := bnS hf
  have wj4 : ∀ (H : Heap) (locs : List Loc) (ls : Array Slot), Wd D A s (mW a t x_s x_kept x_laid x_isKept x_pile x_tape x_taped x_letters x_at x_begun x_token x_value x_opened x_steps x_code0 x_read x_saved x_plan j4.1 j4.2.1 j4.2.2 x_few x_everRight x_lagThen x_shadedThen x_firstFit x_rows x_rowMany x_sorts x_sizes x_number x_holds x_heldOne x_trace x_traced x_own x_isParted) H locs → lv_has ls 6 [(0, .ref (a 0)), (1, .int v1), (2, .int v2), (3, .int v3), (4, .int v4)] → W p l e (rmz 3 0 0) s m args below meth c H locs 0 0 Q (F0 m 47 ls []) := by
    intro H locs ls hw hl
    refine lv_aload_n hx hb dX12_endsPlan_47 rfl (lv_at hl 0 rfl) ?_
    refine lv_dup hx hb dX12_endsPlan_48 rfl ?_
    refine mg_many cx hw dX12_endsPlan_49 ?_
    refine lv_iload_n hx hb dX12_endsPlan_52 rfl (lv_at hl 2 rfl) ?_
    refine lv_aload_n hx hb dX12_endsPlan_53 rfl (lv_at hl 0 rfl) ?_
    refine mg_most cx hw dX12_endsPlan_54 ?_
    obtain ⟨j5, hj5, hf⟩ := pbS hf
    have wj5 : ∀ (H : Heap) (locs : List Loc) (ls : Array Slot), Wd D A s (mW a t x_s x_kept x_laid x_isKept x_pile x_tape x_taped x_letters x_at x_begun x_token x_value x_opened x_steps x_code0 x_read x_saved x_plan j4.1 j4.2.1 j4.2.2 x_few x_everRight x_lagThen x_shadedThen x_firstFit x_rows x_rowMany x_sorts x_sizes x_number x_holds x_heldOne x_trace x_traced x_own x_isParted) H locs → lv_has ls 6 [(0, .ref (a 0)), (1, .int v1), (2, .int v2), (3, .int v3), (4, .int v4)] → W p l e (rmz 3 0 0) s m args below meth c H locs 0 0 Q (F0 m 65 ls [.int j5, .int j4.2.2, .ref (a 0)]) := by
      intro H locs ls hw hl
      refine lv_iadd hx hb dX12_endsPlan_65 ?_
      refine mp_many cx hw dX12_endsPlan_66 (fun H locs hw => ?_)
      refine lv_aload_n hx hb dX12_endsPlan_69 rfl (lv_at hl 0 rfl) ?_
      refine lv_iconst (v := 4) hx hb dX12_endsPlan_70 (by decide) ?_
      obtain ⟨r6, h7, hf⟩ := bnS hf
      refine calVi (k := 0) cx hw hl.1 (c_X12_those h7) q_1399 k_X12_those rfl rfl rfl dX12_endsPlan_71 rfl (Nat.le_of_ble_eq_true rfl) ⟨Nat.le_of_ble_eq_true rfl, Nat.le_of_ble_eq_true rfl⟩ ⟨Nat.le_refl _, Nat.le_refl _⟩ (fun H locs hw => ?_)
      refine lv_istore (lv' := [(5, .int r6), (0, .ref (a 0)), (1, .int v1), (2, .int v2), (3, .int v3), (4, .int v4)]) hx hb dX12_endsPlan_74 hl (by decide) rfl (fun ls hl => ?_)
      refine lv_aload_n hx hb dX12_endsPlan_76 rfl (lv_at hl 1 rfl) ?_
      refine lv_iload hx hb dX12_endsPlan_77 (lv_at hl 5 rfl) ?_
      refine lv_iload hx hb dX12_endsPlan_79 (lv_at hl 0 rfl) ?_
      refine lv_iconst (v := (-1)) hx hb dX12_endsPlan_81 (by decide) ?_
      refine lv_ixor hx hb dX12_endsPlan_82 ?_
      refine lv_iand hx hb dX12_endsPlan_83 ?_
      obtain ⟨j8, hj8, hf⟩ := pbS hf
      have wj8 : ∀ (H : Heap) (locs : List Loc) (ls : Array Slot), Wd D A s (mW a t x_s x_kept x_laid x_isKept x_pile x_tape x_taped x_letters x_at x_begun x_token x_value x_opened x_steps x_code0 x_read x_saved x_plan j4.1 j4.2.1 (j4.2.2 + j5) x_few x_everRight x_lagThen x_shadedThen x_firstFit x_rows x_rowMany x_sorts x_sizes x_number x_holds x_heldOne x_trace x_traced x_own x_isParted) H locs → lv_has ls 6 [(0, .ref (a 0)), (1, .int v1), (2, .int v2), (3, .int v3), (4, .int v4), (5, .int r6)] → W p l e (rmz 3 0 0) s m args below meth c H locs 0 0 Q (F0 m 103 ls [.int j8, .ref (a 0)]) := by
        intro H locs ls hw hl
        refine mp_few cx hw dX12_endsPlan_103 (fun H locs hw => ?_)
        refine lv_aload_n hx hb dX12_endsPlan_106 rfl (lv_at hl 0 rfl) ?_
        refine lv_dup hx hb dX12_endsPlan_107 rfl ?_
        refine mg_everRight cx hw dX12_endsPlan_108 ?_
        refine lv_iload hx hb dX12_endsPlan_111 (lv_at hl 5 rfl) ?_
        refine lv_ior hx hb dX12_endsPlan_113 ?_
        refine mp_everRight cx hw dX12_endsPlan_114 (fun H locs hw => ?_)
        have hf := Option.some.inj hf
        subst hf
        exact hR _ _ _ _ _ hw ⟨rfl, rfl⟩ dX12_endsPlan_117
      clear hf
      have hf := hj8
      clear hj8
      refine lv_if_ne (tgt := 99) hx hb dX12_endsPlan_84 (by decide) (fun hc => ?_) (fun hc => ?_)
      · have hf := ifF hf hc
        refine lv_aload_n hx hb dX12_endsPlan_99 rfl (lv_at hl 1 rfl) ?_
        refine mg_few cx hw dX12_endsPlan_100 ?_
        subst hf
        exact wj8 _ _ _ hw (lv_sub hl [1, 2, 3, 4, 5, 0] rfl)
      · have hf := ifT hf hc
        refine lv_iload_n hx hb dX12_endsPlan_87 rfl (lv_at hl 4 rfl) ?_
        refine lv_aload_n hx hb dX12_endsPlan_88 rfl (lv_at hl 1 rfl) ?_
        refine mg_few cx hw dX12_endsPlan_89 ?_
        refine lv_icmp_ge (tgt := 99) hx hb dX12_endsPlan_92 (by decide) (fun hc => ?_) (fun hc => ?_)
        · have hf := ifT hf hc
          refine lv_aload_n hx hb dX12_endsPlan_99 rfl (lv_at hl 1 rfl) ?_
          refine mg_few cx hw dX12_endsPlan_100 ?_
          subst hf
          exact wj8 _ _ _ hw (lv_sub hl [1, 2, 3, 4, 5, 0] rfl)
        · have hf := ifF hf hc
          refine lv_iload_n hx hb dX12_endsPlan_95 rfl (lv_at hl 4 rfl) ?_
          refine lv_goto (tgt := 103) hx hb dX12_endsPlan_96 (by decide) ?_
          subst hf
          exact wj8 _ _ _ hw (lv_sub hl [1, 2, 3, 4, 5, 0] rfl)
    clear hf
    have hf := hj5
    clear hj5
    refine lv_icmp_ne (tgt := 64) hx hb dX12_endsPlan_57 (by decide) (fun hc => ?_) (fun hc => ?_)
    · have hf := ifF hf hc
      refine lv_iconst (v := 0) hx hb dX12_endsPlan_64 (by decide) ?_
      subst hf
      exact wj5 _ _ _ hw (lv_sub hl [0, 1, 2, 3, 4] rfl)
    · have hf := ifT hf hc
      refine lv_iconst (v := 1) hx hb dX12_endsPlan_60 (by decide) ?_
      refine lv_goto (tgt := 65) hx hb dX12_endsPlan_61 (by decide) ?_
      subst hf
      exact wj5 _ _ _ hw (lv_sub hl [0, 1, 2, 3, 4] rfl)
  clear hf
  have hf := hj4
  clear hj4
  refine lv_icmp_le (tgt := 47) hx hb dX12_endsPlan_5 (by decide) (fun hc => ?_) (fun hc => ?_)
  · have hf := ifT hf hc
    have hf := Option.some.inj hf
    subst hf
    exact wj4 _ _ _ hw (lv_sub hl [0, 1, 2, 3, 4] rfl)
  · have hf := ifF hf hc
    refine lv_aload_n hx hb dX12_endsPlan_8 rfl (lv_at hl 0 rfl) ?_
    refine lv_iconst (v := 0) hx hb dX12_endsPlan_9 (by decide) ?_
    refine mp_many cx hw dX12_endsPlan_10 (fun H locs hw => ?_)
    refine lv_aload_n hx hb dX12_endsPlan_13 rfl (lv_at hl 0 rfl) ?_
    refine lv_iload_n hx hb dX12_endsPlan_14 rfl (lv_at hl 2 rfl) ?_
    refine mp_most cx hw dX12_endsPlan_15 (fun H locs hw => ?_)
    refine lv_iconst (v := 0) hx hb dX12_endsPlan_18 (by decide) ?_
    refine lv_istore (lv' := [(5, .int (0 : Int32)), (0, .ref (a 0)), (1, .int v1), (2, .int v2), (3, .int v3), (4, .int v4)]) hx hb dX12_endsPlan_19 hl (by decide) rfl (fun ls hl => ?_)
    obtain ⟨o3, ho3, hf⟩ := bnS hf
    have wL1 : ∀ (k : Nat) {v1 : Int32} {v2 : Int32} {v3 : Int32} {v4 : Int32} {v5 : Int32} {x_bestPlan : Nat → Int32} {x_most : Int32} {x_many : Int32} {H : Heap} {locs : List Loc} {ls : Array Slot} {o : Int32 × (Nat → Int32)}, X12_endsPlan_L1 n x_plan v1 k v5 x_bestPlan = some o → Wd D A s (mW a t x_s x_kept x_laid x_isKept x_pile x_tape x_taped x_letters x_at x_begun x_token x_value x_opened x_steps x_code0 x_read x_saved x_plan x_bestPlan x_most x_many x_few x_everRight x_lagThen x_shadedThen x_firstFit x_rows x_rowMany x_sorts x_sizes x_number x_holds x_heldOne x_trace x_traced x_own x_isParted) H locs → lv_has ls 6 [(0, .ref (a 0)), (1, .int v1), (2, .int v2), (3, .int v3), (4, .int v4), (5, .int v5)] → (∀ (H : Heap) (locs : List Loc) (ls : Array Slot), Wd D A s (mW a t x_s x_kept x_laid x_isKept x_pile x_tape x_taped x_letters x_at x_begun x_token x_value x_opened x_steps x_code0 x_read x_saved x_plan o.2 x_most x_many x_few x_everRight x_lagThen x_shadedThen x_firstFit x_rows x_rowMany x_sorts x_sizes x_number x_holds x_heldOne x_trace x_traced x_own x_isParted) H locs → lv_has ls 6 [(0, .ref (a 0)), (1, .int v1), (2, .int v2), (3, .int v3), (4, .int v4), (5, .int o.1)] → W p l e (rmz 3 0 0) s m args below meth c H locs 0 0 Q (F0 m 47 ls [])) → W p l e (rmz 3 0 0) s m args below meth c H locs 0 0 Q (F0 m 21 ls []) := by
      clear hf ho3 hw hl
      intro k
      induction k with
      | zero => intro v1 v2 v3 v4 v5 x_bestPlan x_most x_many H locs ls o hf hw hl kx; simp [X12_endsPlan_L1] at hf
      | succ k ih =>
        intro v1 v2 v3 v4 v5 x_bestPlan x_most x_many H locs ls o hf hw hl kx
        rw [X12_endsPlan_L1] at hf
        refine lv_iload hx hb dX12_endsPlan_21 (lv_at hl 5 rfl) ?_
        refine lv_iload_n hx hb dX12_endsPlan_23 rfl (lv_at hl 1 rfl) ?_
        refine lv_icmp_ge (tgt := 47) hx hb dX12_endsPlan_24 (by decide) (fun hc => ?_) (fun hc => ?_)
        · have hf := ifT hf hc
          have hf := Option.some.inj hf
          subst hf
          exact kx _ _ _ hw (lv_sub hl [0, 1, 2, 3, 4, 5] rfl)
        · have hf := ifF hf hc
          refine lv_aload_n hx hb dX12_endsPlan_27 rfl (lv_at hl 0 rfl) ?_
          refine mg_bestPlan cx hw dX12_endsPlan_28 ?_
          refine lv_iload hx hb dX12_endsPlan_31 (lv_at hl 5 rfl) ?_
          refine lv_aload_n hx hb dX12_endsPlan_33 rfl (lv_at hl 0 rfl) ?_
          refine mg_plan cx hw dX12_endsPlan_34 ?_
          refine lv_iload hx hb dX12_endsPlan_37 (lv_at hl 5 rfl) ?_
          obtain ⟨h1, hf⟩ := ckS hf
          refine ml_plan (j := v5.toNatClampNeg) cx hw (ib_in h1) rfl dX12_endsPlan_39 ?_
          obtain ⟨h2, hf⟩ := ckS hf
          refine ms_bestPlan (j := v5.toNatClampNeg) cx hw (ib_in h2) rfl dX12_endsPlan_40 (fun H locs hw => ?_)
          refine lv_iinc (v := (v5 + (1 : Int32))) (lv' := [(5, .int (v5 + (1 : Int32))), (0, .ref (a 0)), (1, .int v1), (2, .int v2), (3, .int v3), (4, .int v4)]) hx hb dX12_endsPlan_41 hl (k := 5) rfl rfl (by decide) rfl (fun ls hl => ?_)
          refine lv_goto (tgt := 21) hx hb dX12_endsPlan_44 (by decide) ?_
          exact ih hf hw (lv_sub hl [1, 2, 3, 4, 5, 0] rfl) kx
    refine wL1 n ho3 hw (lv_sub hl [1, 2, 3, 4, 5, 0] rfl) (fun H locs ls hw hl => ?_)
    clear wL1 ho3
    have hf := Option.some.inj hf
    subst hf
    exact wj4 _ _ _ hw (lv_sub hl [0, 1, 2, 3, 4] rfl)
theorem dX12_isPlan_0 : decode cX12_isPlan 0 = .ok (.iload_n 0, 1) := by decide +kernel
theorem dX12_isPlan_1 : decode cX12_isPlan 1 = .ok (.iconst 0, 1) := by decide +kernel
theorem dX12_isPlan_2 : decode cX12_isPlan 2 = .ok (.iconst 4, 1) := by decide +kernel
theorem dX12_isPlan_3 : decode cX12_isPlan 3 = .ok (.invokestatic 71, 3) := by decide +kernel
theorem dX12_isPlan_6 : decode cX12_isPlan 6 = .ok (.ireturn, 1) := by decide +kernel
theorem k_X12_isPlan : MS yX12_isPlan cX12_isPlan 1 (some .boolean) 1 := ⟨q_1502, q_14, q_1503, ⟨by decide, by decide, by decide +kernel⟩⟩
theorem c_X12_isPlan {res : Int32} (hf : X12_isPlan v0 = res) : MC l E0 D t yX12_isPlan cX12_isPlan 1 (some .boolean) 2 0 0 [.int v0] (mW a t x_s x_kept x_laid x_isKept x_pile x_tape x_taped x_letters x_at x_begun x_token x_value x_opened x_steps x_code0 x_read x_saved x_plan x_bestPlan x_most x_many x_few x_everRight x_lagThen x_shadedThen x_firstFit x_rows x_rowMany x_sorts x_sizes x_number x_holds x_heldOne x_trace x_traced x_own x_isParted) (Qi res (mW a t x_s x_kept x_laid x_isKept x_pile x_tape x_taped x_letters x_at x_begun x_token x_value x_opened x_steps x_code0 x_read x_saved x_plan x_bestPlan x_most x_many x_few x_everRight x_lagThen x_shadedThen x_firstFit x_rows x_rowMany x_sorts x_sizes x_number x_holds x_heldOne x_trace x_traced x_own x_isParted)) := by
  unfold X12_isPlan at hf
  refine MC.ofI pn_X12 (Nat.le_of_ble_eq_true rfl) ?_
  intro p e s m args below meth c A Q ls cx hR hw hl
  have hx := cx.1
  have hb := cx.2.1
  have hl : lv_has ls 1 [(0, .int v0)] := hl
  refine lv_iload_n hx hb dX12_isPlan_0 rfl (lv_at hl 0 rfl) ?_
  refine lv_iconst (v := 0) hx hb dX12_isPlan_1 (by decide) ?_
  refine lv_iconst (v := 4) hx hb dX12_isPlan_2 (by decide) ?_
  refine calSi cx hw hl.1 (c_X12_in1 rfl) q_1214 k_X12_in1 rfl dX12_isPlan_3 rfl (Nat.le_of_ble_eq_true rfl) ⟨Nat.le_of_ble_eq_true rfl, Nat.le_of_ble_eq_true rfl⟩ ⟨Nat.le_refl _, Nat.le_refl _⟩ (fun H locs hw => ?_)
  subst hf
  exact hR _ _ _ _ _ _ hw (nb (b_X12_in1 _ _ _)) ⟨rfl, rfl⟩ dX12_isPlan_6
theorem b_X12_isPlan (v0 : Int32) : X12_isPlan v0 = 0 ∨ X12_isPlan v0 = 1 := by unfold X12_isPlan; repeat (first | exact Or.inl rfl | exact Or.inr rfl | apply b_X12_in1 | split)
theorem dX12_isSet_0 : decode cX12_isSet 0 = .ok (.iload_n 1, 1) := by decide +kernel
theorem dX12_isSet_1 : decode cX12_isSet 1 = .ok (.iconst 0, 1) := by decide +kernel
theorem dX12_isSet_2 : decode cX12_isSet 2 = .ok (.iconst 1, 1) := by decide +kernel
theorem dX12_isSet_3 : decode cX12_isSet 3 = .ok (.aload_n 0, 1) := by decide +kernel
theorem dX12_isSet_4 : decode cX12_isSet 4 = .ok (.getfield 9, 3) := by decide +kernel
theorem dX12_isSet_7 : decode cX12_isSet 7 = .ok (.iconst 4, 1) := by decide +kernel
theorem dX12_isSet_8 : decode cX12_isSet 8 = .ok (.iaload, 1) := by decide +kernel
theorem dX12_isSet_9 : decode cX12_isSet 9 = .ok (.ishl, 1) := by decide +kernel
theorem dX12_isSet_10 : decode cX12_isSet 10 = .ok (.iconst 1, 1) := by decide +kernel
theorem dX12_isSet_11 : decode cX12_isSet 11 = .ok (.isub, 1) := by decide +kernel
theorem dX12_isSet_12 : decode cX12_isSet 12 = .ok (.invokestatic 71, 3) := by decide +kernel
theorem dX12_isSet_15 : decode cX12_isSet 15 = .ok (.ireturn, 1) := by decide +kernel
theorem k_X12_isSet : MV yX12_isSet cX12_isSet 2 (some .boolean) 1 := ⟨q_1542, qs_79, q_14, q_1543, ⟨by decide, by decide, by decide +kernel⟩⟩
theorem c_X12_isSet {res : Int32} (hf : X12_isSet x_s v1 = res) : MC l E0 D t yX12_isSet cX12_isSet 2 (some .boolean) 2 0 0 [.ref (a 0), .int v1] (mW a t x_s x_kept x_laid x_isKept x_pile x_tape x_taped x_letters x_at x_begun x_token x_value x_opened x_steps x_code0 x_read x_saved x_plan x_bestPlan x_most x_many x_few x_everRight x_lagThen x_shadedThen x_firstFit x_rows x_rowMany x_sorts x_sizes x_number x_holds x_heldOne x_trace x_traced x_own x_isParted) (Qi res (mW a t x_s x_kept x_laid x_isKept x_pile x_tape x_taped x_letters x_at x_begun x_token x_value x_opened x_steps x_code0 x_read x_saved x_plan x_bestPlan x_most x_many x_few x_everRight x_lagThen x_shadedThen x_firstFit x_rows x_rowMany x_sorts x_sizes x_number x_holds x_heldOne x_trace x_traced x_own x_isParted)) := by
  unfold X12_isSet at hf
  refine MC.ofI pn_X12 (Nat.le_of_ble_eq_true rfl) ?_
  intro p e s m args below meth c A Q ls cx hR hw hl
  have hx := cx.1
  have hb := cx.2.1
  have hl : lv_has ls 2 [(0, .ref (a 0)), (1, .int v1)] := hl
  refine lv_iload_n hx hb dX12_isSet_0 rfl (lv_at hl 1 rfl) ?_
  refine lv_iconst (v := 0) hx hb dX12_isSet_1 (by decide) ?_
  refine lv_iconst (v := 1) hx hb dX12_isSet_2 (by decide) ?_
  refine lv_aload_n hx hb dX12_isSet_3 rfl (lv_at hl 0 rfl) ?_
  refine mg_s cx hw dX12_isSet_4 ?_
  refine lv_iconst (v := 4) hx hb dX12_isSet_7 (by decide) ?_
  refine ml_s (j := 4) cx hw (ib_in (by decide)) (by decide) dX12_isSet_8 ?_
  refine lv_ishl hx hb dX12_isSet_9 ?_
  refine lv_iconst (v := 1) hx hb dX12_isSet_10 (by decide) ?_
  refine lv_isub hx hb dX12_isSet_11 ?_
  refine calSi cx hw hl.1 (c_X12_in1 rfl) q_1214 k_X12_in1 rfl dX12_isSet_12 rfl (Nat.le_of_ble_eq_true rfl) ⟨Nat.le_of_ble_eq_true rfl, Nat.le_of_ble_eq_true rfl⟩ ⟨Nat.le_refl _, Nat.le_refl _⟩ (fun H locs hw => ?_)
  subst hf
  exact hR _ _ _ _ _ _ hw (nb (b_X12_in1 _ _ _)) ⟨rfl, rfl⟩ dX12_isSet_15
theorem b_X12_isSet (x_s : Nat → Int32) (v1 : Int32) : X12_isSet x_s v1 = 0 ∨ X12_isSet x_s v1 = 1 := by unfold X12_isSet; repeat (first | exact Or.inl rfl | exact Or.inr rfl | apply b_X12_in1 | split)
theorem dX12_report_0 : decode cX12_report 0 = .ok (.bipush 99, 2) := by decide +kernel
theorem dX12_report_2 : decode cX12_report 2 = .ok (.istore 5, 2) := by decide +kernel
theorem dX12_report_4 : decode cX12_report 4 = .ok (.iload_n 1, 1) := by decide +kernel
theorem dX12_report_5 : decode cX12_report 5 = .ok (.iconst 0, 1) := by decide +kernel
theorem dX12_report_6 : decode cX12_report 6 = .ok (.bipush 15, 2) := by decide +kernel
theorem dX12_report_8 : decode cX12_report 8 = .ok (.invokestatic 71, 3) := by decide +kernel
theorem dX12_report_11 : decode cX12_report 11 = .ok (.ifCond .eq 33, 3) := by decide +kernel
theorem dX12_report_14 : decode cX12_report 14 = .ok (.iload_n 2, 1) := by decide +kernel
theorem dX12_report_15 : decode cX12_report 15 = .ok (.iconst 0, 1) := by decide +kernel
theorem dX12_report_16 : decode cX12_report 16 = .ok (.iconst 1, 1) := by decide +kernel
theorem dX12_report_17 : decode cX12_report 17 = .ok (.invokestatic 71, 3) := by decide +kernel
theorem dX12_report_20 : decode cX12_report 20 = .ok (.ifCond .eq 24, 3) := by decide +kernel
theorem dX12_report_23 : decode cX12_report 23 = .ok (.iload_n 3, 1) := by decide +kernel
theorem dX12_report_24 : decode cX12_report 24 = .ok (.iconst 0, 1) := by decide +kernel
theorem dX12_report_25 : decode cX12_report 25 = .ok (.iload 5, 2) := by decide +kernel
theorem dX12_report_27 : decode cX12_report 27 = .ok (.invokestatic 71, 3) := by decide +kernel
theorem dX12_report_30 : decode cX12_report 30 = .ok (.ifCond .eq 14, 3) := by decide +kernel
theorem dX12_report_33 : decode cX12_report 33 = .ok (.iload 4, 2) := by decide +kernel
theorem dX12_report_35 : decode cX12_report 35 = .ok (.iload_n 3, 1) := by decide +kernel
theorem dX12_report_36 : decode cX12_report 36 = .ok (.iload 5, 2) := by decide +kernel
theorem dX12_report_38 : decode cX12_report 38 = .ok (.invokestatic 71, 3) := by decide +kernel
theorem dX12_report_41 : decode cX12_report 41 = .ok (.ifCond .ne 5, 3) := by decide +kernel
theorem dX12_report_44 : decode cX12_report 44 = .ok (.iconst (-1), 1) := by decide +kernel
theorem dX12_report_45 : decode cX12_report 45 = .ok (.ireturn, 1) := by decide +kernel
theorem dX12_report_46 : decode cX12_report 46 = .ok (.aload_n 0, 1) := by decide +kernel
theorem dX12_report_47 : decode cX12_report 47 = .ok (.getfield 9, 3) := by decide +kernel
theorem dX12_report_50 : decode cX12_report 50 = .ok (.bipush 6, 2) := by decide +kernel
theorem dX12_report_52 : decode cX12_report 52 = .ok (.iaload, 1) := by decide +kernel
theorem dX12_report_53 : decode cX12_report 53 = .ok (.bipush 6, 2) := by decide +kernel
theorem dX12_report_55 : decode cX12_report 55 = .ok (.if_icmp .ne 6, 3) := by decide +kernel
theorem dX12_report_58 : decode cX12_report 58 = .ok (.bipush (-2), 2) := by decide +kernel
theorem dX12_report_60 : decode cX12_report 60 = .ok (.ireturn, 1) := by decide +kernel
theorem dX12_report_61 : decode cX12_report 61 = .ok (.bipush 65, 2) := by decide +kernel
theorem dX12_report_63 : decode cX12_report 63 = .ok (.iconst 4, 1) := by decide +kernel
theorem dX12_report_64 : decode cX12_report 64 = .ok (.aload_n 0, 1) := by decide +kernel
theorem dX12_report_65 : decode cX12_report 65 = .ok (.getfield 9, 3) := by decide +kernel
theorem dX12_report_68 : decode cX12_report 68 = .ok (.bipush 6, 2) := by decide +kernel
theorem dX12_report_70 : decode cX12_report 70 = .ok (.iaload, 1) := by decide +kernel
theorem dX12_report_71 : decode cX12_report 71 = .ok (.imul, 1) := by decide +kernel
theorem dX12_report_72 : decode cX12_report 72 = .ok (.iadd, 1) := by decide +kernel
theorem dX12_report_73 : decode cX12_report 73 = .ok (.istore 6, 2) := by decide +kernel
theorem dX12_report_75 : decode cX12_report 75 = .ok (.aload_n 0, 1) := by decide +kernel
theorem dX12_report_76 : decode cX12_report 76 = .ok (.getfield 9, 3) := by decide +kernel
theorem dX12_report_79 : decode cX12_report 79 = .ok (.iload 6, 2) := by decide +kernel
theorem dX12_report_81 : decode cX12_report 81 = .ok (.iload_n 1, 1) := by decide +kernel
theorem dX12_report_82 : decode cX12_report 82 = .ok (.iastore, 1) := by decide +kernel
theorem dX12_report_83 : decode cX12_report 83 = .ok (.aload_n 0, 1) := by decide +kernel
theorem dX12_report_84 : decode cX12_report 84 = .ok (.getfield 9, 3) := by decide +kernel
theorem dX12_report_87 : decode cX12_report 87 = .ok (.iload 6, 2) := by decide +kernel
theorem dX12_report_89 : decode cX12_report 89 = .ok (.iconst 1, 1) := by decide +kernel
theorem dX12_report_90 : decode cX12_report 90 = .ok (.iadd, 1) := by decide +kernel
theorem dX12_report_91 : decode cX12_report 91 = .ok (.iload_n 2, 1) := by decide +kernel
theorem dX12_report_92 : decode cX12_report 92 = .ok (.iastore, 1) := by decide +kernel
theorem dX12_report_93 : decode cX12_report 93 = .ok (.aload_n 0, 1) := by decide +kernel
theorem dX12_report_94 : decode cX12_report 94 = .ok (.getfield 9, 3) := by decide +kernel
theorem dX12_report_97 : decode cX12_report 97 = .ok (.iload 6, 2) := by decide +kernel
theorem dX12_report_99 : decode cX12_report 99 = .ok (.iconst 2, 1) := by decide +kernel
theorem dX12_report_100 : decode cX12_report 100 = .ok (.iadd, 1) := by decide +kernel
theorem dX12_report_101 : decode cX12_report 101 = .ok (.iload_n 3, 1) := by decide +kernel
theorem dX12_report_102 : decode cX12_report 102 = .ok (.iastore, 1) := by decide +kernel
theorem dX12_report_103 : decode cX12_report 103 = .ok (.aload_n 0, 1) := by decide +kernel
theorem dX12_report_104 : decode cX12_report 104 = .ok (.getfield 9, 3) := by decide +kernel
theorem dX12_report_107 : decode cX12_report 107 = .ok (.iload 6, 2) := by decide +kernel
theorem dX12_report_109 : decode cX12_report 109 = .ok (.iconst 3, 1) := by decide +kernel
theorem dX12_report_110 : decode cX12_report 110 = .ok (.iadd, 1) := by decide +kernel
theorem dX12_report_111 : decode cX12_report 111 = .ok (.iload 4, 2) := by decide +kernel
theorem dX12_report_113 : decode cX12_report 113 = .ok (.iastore, 1) := by decide +kernel
theorem dX12_report_114 : decode cX12_report 114 = .ok (.aload_n 0, 1) := by decide +kernel
theorem dX12_report_115 : decode cX12_report 115 = .ok (.getfield 9, 3) := by decide +kernel
theorem dX12_report_118 : decode cX12_report 118 = .ok (.bipush 6, 2) := by decide +kernel
theorem dX12_report_120 : decode cX12_report 120 = .ok (.dup2, 1) := by decide +kernel
theorem dX12_report_121 : decode cX12_report 121 = .ok (.iaload, 1) := by decide +kernel
theorem dX12_report_122 : decode cX12_report 122 = .ok (.iconst 1, 1) := by decide +kernel
theorem dX12_report_123 : decode cX12_report 123 = .ok (.iadd, 1) := by decide +kernel
theorem dX12_report_124 : decode cX12_report 124 = .ok (.iastore, 1) := by decide +kernel
theorem dX12_report_125 : decode cX12_report 125 = .ok (.aload_n 0, 1) := by decide +kernel
theorem dX12_report_126 : decode cX12_report 126 = .ok (.getfield 9, 3) := by decide +kernel
theorem dX12_report_129 : decode cX12_report 129 = .ok (.bipush 6, 2) := by decide +kernel
theorem dX12_report_131 : decode cX12_report 131 = .ok (.iaload, 1) := by decide +kernel
theorem dX12_report_132 : decode cX12_report 132 = .ok (.iconst 1, 1) := by decide +kernel
theorem dX12_report_133 : decode cX12_report 133 = .ok (.isub, 1) := by decide +kernel
theorem dX12_report_134 : decode cX12_report 134 = .ok (.ireturn, 1) := by decide +kernel
theorem k_X12_report : MV yX12_report cX12_report 7 (some .int) 4 := ⟨q_1561, q_1562, q_14, q_1563, ⟨by decide, by decide, by decide +kernel⟩⟩
theorem c_X12_report {res : Int32 × (Nat → Int32)} (hf : X12_report x_s v1 v2 v3 v4 = some res) : MC l E0 D t yX12_report cX12_report 7 (some .int) 2 0 0 [.ref (a 0), .int v1, .int v2, .int v3, .int v4] (mW a t x_s x_kept x_laid x_isKept x_pile x_tape x_taped x_letters x_at x_begun x_token x_value x_opened x_steps x_code0 x_read x_saved x_plan x_bestPlan x_most x_many x_few x_everRight x_lagThen x_shadedThen x_firstFit x_rows x_rowMany x_sorts x_sizes x_number x_holds x_heldOne x_trace x_traced x_own x_isParted) (Qi res.1 (mW a t res.2 x_kept x_laid x_isKept x_pile x_tape x_taped x_letters x_at x_begun x_token x_value x_opened x_steps x_code0 x_read x_saved x_plan x_bestPlan x_most x_many x_few x_everRight x_lagThen x_shadedThen x_firstFit x_rows x_rowMany x_sorts x_sizes x_number x_holds x_heldOne x_trace x_traced x_own x_isParted)) := by
  unfold X12_report at hf
  refine MC.ofI pn_X12 (Nat.le_of_ble_eq_true rfl) ?_
  intro p e s m args below meth c A Q ls cx hR hw hl
  have hx := cx.1
  have hb := cx.2.1
  have hl : lv_has ls 7 [(0, .ref (a 0)), (1, .int v1), (2, .int v2), (3, .int v3), (4, .int v4)] := hl
  refine lv_bipush (v := 99) hx hb dX12_report_0 (by decide) ?_
  refine lv_istore (lv' := [(5, .int (99 : Int32)), (0, .ref (a 0)), (1, .int v1), (2, .int v2), (3, .int v3), (4, .int v4)]) hx hb dX12_report_2 hl (by decide) rfl (fun ls hl => ?_)
  refine lv_iload_n hx hb dX12_report_4 rfl (lv_at hl 2 rfl) ?_
  refine lv_iconst (v := 0) hx hb dX12_report_5 (by decide) ?_
  refine lv_bipush (v := 15) hx hb dX12_report_6 (by decide) ?_
  refine calSi cx hw hl.1 (c_X12_in1 rfl) q_1214 k_X12_in1 rfl dX12_report_8 rfl (Nat.le_of_ble_eq_true rfl) ⟨Nat.le_of_ble_eq_true rfl, Nat.le_of_ble_eq_true rfl⟩ ⟨Nat.le_refl _, Nat.le_refl _⟩ (fun H locs hw => ?_)
  refine lv_if_eq (tgt := 44) hx hb dX12_report_11 (by decide) (fun hc => ?_) (fun hc => ?_)
  · have hf := ifT hf hc
    refine lv_iconst (v := (-1)) hx hb dX12_report_44 (by decide) ?_
    have hf := Option.some.inj hf
    subst hf
    exact hR _ _ _ _ _ _ hw rfl ⟨rfl, rfl⟩ dX12_report_45
  · have hf := ifF hf hc
    refine lv_iload_n hx hb dX12_report_14 rfl (lv_at hl 3 rfl) ?_
    refine lv_iconst (v := 0) hx hb dX12_report_15 (by decide) ?_
    refine lv_iconst (v := 1) hx hb dX12_report_16 (by decide) ?_
    refine calSi cx hw hl.1 (c_X12_in1 rfl) q_1214 k_X12_in1 rfl dX12_report_17 rfl (Nat.le_of_ble_eq_true rfl) ⟨Nat.le_of_ble_eq_true rfl, Nat.le_of_ble_eq_true rfl⟩ ⟨Nat.le_refl _, Nat.le_refl _⟩ (fun H locs hw => ?_)
    refine lv_if_eq (tgt := 44) hx hb dX12_report_20 (by decide) (fun hc => ?_) (fun hc => ?_)
    · have hf := ifT hf hc
      refine lv_iconst (v := (-1)) hx hb dX12_report_44 (by decide) ?_
      have hf := Option.some.inj hf
      subst hf
      exact hR _ _ _ _ _ _ hw rfl ⟨rfl, rfl⟩ dX12_report_45
    · have hf := ifF hf hc
      refine lv_iload_n hx hb dX12_report_23 rfl (lv_at hl 4 rfl) ?_
      refine lv_iconst (v := 0) hx hb dX12_report_24 (by decide) ?_
      refine lv_iload hx hb dX12_report_25 (lv_at hl 0 rfl) ?_
      refine calSi cx hw hl.1 (c_X12_in1 rfl) q_1214 k_X12_in1 rfl dX12_report_27 rfl (Nat.le_of_ble_eq_true rfl) ⟨Nat.le_of_ble_eq_true rfl, Nat.le_of_ble_eq_true rfl⟩ ⟨Nat.le_refl _, Nat.le_refl _⟩ (fun H locs hw => ?_)
      refine lv_if_eq (tgt := 44) hx hb dX12_report_30 (by decide) (fun hc => ?_) (fun hc => ?_)
      · have hf := ifT hf hc
        refine lv_iconst (v := (-1)) hx hb dX12_report_44 (by decide) ?_
        have hf := Option.some.inj hf
        subst hf
        exact hR _ _ _ _ _ _ hw rfl ⟨rfl, rfl⟩ dX12_report_45
      · have hf := ifF hf hc
        refine lv_iload hx hb dX12_report_33 (lv_at hl 5 rfl) ?_
        refine lv_iload_n hx hb dX12_report_35 rfl (lv_at hl 4 rfl) ?_
        refine lv_iload hx hb dX12_report_36 (lv_at hl 0 rfl) ?_
        refine calSi cx hw hl.1 (c_X12_in1 rfl) q_1214 k_X12_in1 rfl dX12_report_38 rfl (Nat.le_of_ble_eq_true rfl) ⟨Nat.le_of_ble_eq_true rfl, Nat.le_of_ble_eq_true rfl⟩ ⟨Nat.le_refl _, Nat.le_refl _⟩ (fun H locs hw => ?_)
        refine lv_if_ne (tgt := 46) hx hb dX12_report_41 (by decide) (fun hc => ?_) (fun hc => ?_)
        · have hf := ifF hf hc
          refine lv_aload_n hx hb dX12_report_46 rfl (lv_at hl 1 rfl) ?_
          refine mg_s cx hw dX12_report_47 ?_
          refine lv_bipush (v := 6) hx hb dX12_report_50 (by decide) ?_
          refine ml_s (j := 6) cx hw (ib_in (by decide)) (by decide) dX12_report_52 ?_
          refine lv_bipush (v := 6) hx hb dX12_report_53 (by decide) ?_
          refine lv_icmp_ne (tgt := 61) hx hb dX12_report_55 (by decide) (fun hc => ?_) (fun hc => ?_)
          · have hf := ifF hf hc
            refine lv_bipush (v := 65) hx hb dX12_report_61 (by decide) ?_
            refine lv_iconst (v := 4) hx hb dX12_report_63 (by decide) ?_
            refine lv_aload_n hx hb dX12_report_64 rfl (lv_at hl 1 rfl) ?_
            refine mg_s cx hw dX12_report_65 ?_
            refine lv_bipush (v := 6) hx hb dX12_report_68 (by decide) ?_
            refine ml_s (j := 6) cx hw (ib_in (by decide)) (by decide) dX12_report_70 ?_
            refine lv_imul hx hb dX12_report_71 ?_
            refine lv_iadd hx hb dX12_report_72 ?_
            refine lv_istore (lv' := [(6, .int ((65 : Int32) + ((4 : Int32) * (x_s 6)))), (5, .int (99 : Int32)), (0, .ref (a 0)), (1, .int v1), (2, .int v2), (3, .int v3), (4, .int v4)]) hx hb dX12_report_73 hl (by decide) rfl (fun ls hl => ?_)
            refine lv_aload_n hx hb dX12_report_75 rfl (lv_at hl 2 rfl) ?_
            refine mg_s cx hw dX12_report_76 ?_
            refine lv_iload hx hb dX12_report_79 (lv_at hl 0 rfl) ?_
            refine lv_iload_n hx hb dX12_report_81 rfl (lv_at hl 3 rfl) ?_
            obtain ⟨h1, hf⟩ := ckS hf
            refine ms_s (j := ((65 : Int32) + ((4 : Int32) * (x_s 6))).toNatClampNeg) cx hw (ib_in h1) rfl dX12_report_82 (fun H locs hw => ?_)
            refine lv_aload_n hx hb dX12_report_83 rfl (lv_at hl 2 rfl) ?_
            refine mg_s cx hw dX12_report_84 ?_
            refine lv_iload hx hb dX12_report_87 (lv_at hl 0 rfl) ?_
            refine lv_iconst (v := 1) hx hb dX12_report_89 (by decide) ?_
            refine lv_iadd hx hb dX12_report_90 ?_
            refine lv_iload_n hx hb dX12_report_91 rfl (lv_at hl 4 rfl) ?_
            obtain ⟨h2, hf⟩ := ckS hf
            refine ms_s (j := (((65 : Int32) + ((4 : Int32) * (x_s 6))) + (1 : Int32)).toNatClampNeg) cx hw (ib_in h2) rfl dX12_report_92 (fun H locs hw => ?_)
            refine lv_aload_n hx hb dX12_report_93 rfl (lv_at hl 2 rfl) ?_
            refine mg_s cx hw dX12_report_94 ?_
            refine lv_iload hx hb dX12_report_97 (lv_at hl 0 rfl) ?_
            refine lv_iconst (v := 2) hx hb dX12_report_99 (by decide) ?_
            refine lv_iadd hx hb dX12_report_100 ?_
            refine lv_iload_n hx hb dX12_report_101 rfl (lv_at hl 5 rfl) ?_
            obtain ⟨h3, hf⟩ := ckS hf
            refine ms_s (j := (((65 : Int32) + ((4 : Int32) * (x_s 6))) + (2 : Int32)).toNatClampNeg) cx hw (ib_in h3) rfl dX12_report_102 (fun H locs hw => ?_)
            refine lv_aload_n hx hb dX12_report_103 rfl (lv_at hl 2 rfl) ?_
            refine mg_s cx hw dX12_report_104 ?_
            refine lv_iload hx hb dX12_report_107 (lv_at hl 0 rfl) ?_
            refine lv_iconst (v := 3) hx hb dX12_report_109 (by decide) ?_
            refine lv_iadd hx hb dX12_report_110 ?_
            refine lv_iload hx hb dX12_report_111 (lv_at hl 6 rfl) ?_
            obtain ⟨h4, hf⟩ := ckS hf
            refine ms_s (j := (((65 : Int32) + ((4 : Int32) * (x_s 6))) + (3 : Int32)).toNatClampNeg) cx hw (ib_in h4) rfl dX12_report_113 (fun H locs hw => ?_)
            refine lv_aload_n hx hb dX12_report_114 rfl (lv_at hl 2 rfl) ?_
            refine mg_s cx hw dX12_report_115 ?_
            refine lv_bipush (v := 6) hx hb dX12_report_118 (by decide) ?_
            refine lv_dup2_11 hx hb dX12_report_120 rfl rfl ?_
            refine ml_s (j := 6) cx hw (ib_in (by decide)) (by decide) dX12_report_121 ?_
            refine lv_iconst (v := 1) hx hb dX12_report_122 (by decide) ?_
            refine lv_iadd hx hb dX12_report_123 ?_
            refine ms_s (j := 6) cx hw (ib_in (by decide)) (by decide) dX12_report_124 (fun H locs hw => ?_)
            refine lv_aload_n hx hb dX12_report_125 rfl (lv_at hl 2 rfl) ?_
            refine mg_s cx hw dX12_report_126 ?_
            refine lv_bipush (v := 6) hx hb dX12_report_129 (by decide) ?_
            refine ml_s (j := 6) cx hw (ib_in (by decide)) (by decide) dX12_report_131 ?_
            refine lv_iconst (v := 1) hx hb dX12_report_132 (by decide) ?_
            refine lv_isub hx hb dX12_report_133 ?_
            have hf := Option.some.inj hf
            subst hf
            exact hR _ _ _ _ _ _ hw rfl ⟨rfl, rfl⟩ dX12_report_134
          · have hf := ifT hf hc
            refine lv_bipush (v := (-2)) hx hb dX12_report_58 (by decide) ?_
            have hf := Option.some.inj hf
            subst hf
            exact hR _ _ _ _ _ _ hw rfl ⟨rfl, rfl⟩ dX12_report_60
        · have hf := ifT hf hc
          refine lv_iconst (v := (-1)) hx hb dX12_report_44 (by decide) ?_
          have hf := Option.some.inj hf
          subst hf
          exact hR _ _ _ _ _ _ hw rfl ⟨rfl, rfl⟩ dX12_report_45
theorem dX12_forget_0 : decode cX12_forget 0 = .ok (.aload_n 0, 1) := by decide +kernel
theorem dX12_forget_1 : decode cX12_forget 1 = .ok (.bipush 6, 2) := by decide +kernel
theorem dX12_forget_3 : decode cX12_forget 3 = .ok (.iconst 0, 1) := by decide +kernel
theorem dX12_forget_4 : decode cX12_forget 4 = .ok (.invokevirtual 234, 3) := by decide +kernel
theorem dX12_forget_7 : decode cX12_forget 7 = .ok (.ireturn, 1) := by decide +kernel
theorem k_X12_forget : MV yX12_forget cX12_forget 1 (some .int) 0 := ⟨q_1565, q_1566, q_14, q_1567, ⟨by decide, by decide, by decide +kernel⟩⟩
theorem c_X12_forget {res : Int32 × (Nat → Int32)} (hf : X12_forget x_s = some res) : MC l E0 D t yX12_forget cX12_forget 1 (some .int) 2 0 0 [.ref (a 0)] (mW a t x_s x_kept x_laid x_isKept x_pile x_tape x_taped x_letters x_at x_begun x_token x_value x_opened x_steps x_code0 x_read x_saved x_plan x_bestPlan x_most x_many x_few x_everRight x_lagThen x_shadedThen x_firstFit x_rows x_rowMany x_sorts x_sizes x_number x_holds x_heldOne x_trace x_traced x_own x_isParted) (Qi res.1 (mW a t res.2 x_kept x_laid x_isKept x_pile x_tape x_taped x_letters x_at x_begun x_token x_value x_opened x_steps x_code0 x_read x_saved x_plan x_bestPlan x_most x_many x_few x_everRight x_lagThen x_shadedThen x_firstFit x_rows x_rowMany x_sorts x_sizes x_number x_holds x_heldOne x_trace x_traced x_own x_isParted)) := by
  unfold X12_forget at hf
  refine MC.ofI pn_X12 (Nat.le_of_ble_eq_true rfl) ?_
  intro p e s m args below meth c A Q ls cx hR hw hl
  have hx := cx.1
  have hb := cx.2.1
  have hl : lv_has ls 1 [(0, .ref (a 0))] := hl
  refine lv_aload_n hx hb dX12_forget_0 rfl (lv_at hl 0 rfl) ?_
  refine lv_bipush (v := 6) hx hb dX12_forget_1 (by decide) ?_
  refine lv_iconst (v := 0) hx hb dX12_forget_3 (by decide) ?_
  obtain ⟨r1, h2, hf⟩ := bnS hf
  refine calVi (k := 0) cx hw hl.1 (c_X12_becomes h2) q_1363 k_X12_becomes rfl rfl rfl dX12_forget_4 rfl (Nat.le_of_ble_eq_true rfl) ⟨Nat.le_of_ble_eq_true rfl, Nat.le_of_ble_eq_true rfl⟩ ⟨Nat.le_refl _, Nat.le_refl _⟩ (fun H locs hw => ?_)
  have hf := Option.some.inj hf
  subst hf
  exact hR _ _ _ _ _ _ hw rfl ⟨rfl, rfl⟩ dX12_forget_7
theorem dX12_tellsLone_0 : decode cX12_tellsLone 0 = .ok (.iload_n 3, 1) := by decide +kernel
theorem dX12_tellsLone_1 : decode cX12_tellsLone 1 = .ok (.istore 4, 2) := by decide +kernel
theorem dX12_tellsLone_3 : decode cX12_tellsLone 3 = .ok (.iconst 0, 1) := by decide +kernel
theorem dX12_tellsLone_4 : decode cX12_tellsLone 4 = .ok (.istore 5, 2) := by decide +kernel
theorem dX12_tellsLone_6 : decode cX12_tellsLone 6 = .ok (.iconst 0, 1) := by decide +kernel
theorem dX12_tellsLone_7 : decode cX12_tellsLone 7 = .ok (.istore 6, 2) := by decide +kernel
theorem dX12_tellsLone_9 : decode cX12_tellsLone 9 = .ok (.iload 6, 2) := by decide +kernel
theorem dX12_tellsLone_11 : decode cX12_tellsLone 11 = .ok (.bipush 16, 2) := by decide +kernel
theorem dX12_tellsLone_13 : decode cX12_tellsLone 13 = .ok (.if_icmp .ge 78, 3) := by decide +kernel
theorem dX12_tellsLone_16 : decode cX12_tellsLone 16 = .ok (.aload_n 0, 1) := by decide +kernel
theorem dX12_tellsLone_17 : decode cX12_tellsLone 17 = .ok (.getfield 44, 3) := by decide +kernel
theorem dX12_tellsLone_20 : decode cX12_tellsLone 20 = .ok (.iload 6, 2) := by decide +kernel
theorem dX12_tellsLone_22 : decode cX12_tellsLone 22 = .ok (.iload 4, 2) := by decide +kernel
theorem dX12_tellsLone_24 : decode cX12_tellsLone 24 = .ok (.iastore, 1) := by decide +kernel
theorem dX12_tellsLone_25 : decode cX12_tellsLone 25 = .ok (.aload_n 0, 1) := by decide +kernel
theorem dX12_tellsLone_26 : decode cX12_tellsLone 26 = .ok (.getfield 47, 3) := by decide +kernel
theorem dX12_tellsLone_29 : decode cX12_tellsLone 29 = .ok (.iload 6, 2) := by decide +kernel
theorem dX12_tellsLone_31 : decode cX12_tellsLone 31 = .ok (.iload 5, 2) := by decide +kernel
theorem dX12_tellsLone_33 : decode cX12_tellsLone 33 = .ok (.iastore, 1) := by decide +kernel
theorem dX12_tellsLone_34 : decode cX12_tellsLone 34 = .ok (.aload_n 0, 1) := by decide +kernel
theorem dX12_tellsLone_35 : decode cX12_tellsLone 35 = .ok (.getfield 9, 3) := by decide +kernel
theorem dX12_tellsLone_38 : decode cX12_tellsLone 38 = .ok (.bipush 7, 2) := by decide +kernel
theorem dX12_tellsLone_40 : decode cX12_tellsLone 40 = .ok (.iload 6, 2) := by decide +kernel
theorem dX12_tellsLone_42 : decode cX12_tellsLone 42 = .ok (.iadd, 1) := by decide +kernel
theorem dX12_tellsLone_43 : decode cX12_tellsLone 43 = .ok (.iaload, 1) := by decide +kernel
theorem dX12_tellsLone_44 : decode cX12_tellsLone 44 = .ok (.istore 7, 2) := by decide +kernel
theorem dX12_tellsLone_46 : decode cX12_tellsLone 46 = .ok (.iload 5, 2) := by decide +kernel
theorem dX12_tellsLone_48 : decode cX12_tellsLone 48 = .ok (.iload_n 1, 1) := by decide +kernel
theorem dX12_tellsLone_49 : decode cX12_tellsLone 49 = .ok (.iload 7, 2) := by decide +kernel
theorem dX12_tellsLone_51 : decode cX12_tellsLone 51 = .ok (.iconst 4, 1) := by decide +kernel
theorem dX12_tellsLone_52 : decode cX12_tellsLone 52 = .ok (.idiv, 1) := by decide +kernel
theorem dX12_tellsLone_53 : decode cX12_tellsLone 53 = .ok (.iload 6, 2) := by decide +kernel
theorem dX12_tellsLone_55 : decode cX12_tellsLone 55 = .ok (.invokestatic 87, 3) := by decide +kernel
theorem dX12_tellsLone_58 : decode cX12_tellsLone 58 = .ok (.iadd, 1) := by decide +kernel
theorem dX12_tellsLone_59 : decode cX12_tellsLone 59 = .ok (.bipush 99, 2) := by decide +kernel
theorem dX12_tellsLone_61 : decode cX12_tellsLone 61 = .ok (.invokestatic 222, 3) := by decide +kernel
theorem dX12_tellsLone_64 : decode cX12_tellsLone 64 = .ok (.istore 5, 2) := by decide +kernel
theorem dX12_tellsLone_66 : decode cX12_tellsLone 66 = .ok (.iload 4, 2) := by decide +kernel
theorem dX12_tellsLone_68 : decode cX12_tellsLone 68 = .ok (.iload_n 1, 1) := by decide +kernel
theorem dX12_tellsLone_69 : decode cX12_tellsLone 69 = .ok (.iload_n 2, 1) := by decide +kernel
theorem dX12_tellsLone_70 : decode cX12_tellsLone 70 = .ok (.iload 7, 2) := by decide +kernel
theorem dX12_tellsLone_72 : decode cX12_tellsLone 72 = .ok (.iconst 4, 1) := by decide +kernel
theorem dX12_tellsLone_73 : decode cX12_tellsLone 73 = .ok (.irem, 1) := by decide +kernel
theorem dX12_tellsLone_74 : decode cX12_tellsLone 74 = .ok (.invokestatic 97, 3) := by decide +kernel
theorem dX12_tellsLone_77 : decode cX12_tellsLone 77 = .ok (.iadd, 1) := by decide +kernel
theorem dX12_tellsLone_78 : decode cX12_tellsLone 78 = .ok (.bipush 99, 2) := by decide +kernel
theorem dX12_tellsLone_80 : decode cX12_tellsLone 80 = .ok (.invokestatic 222, 3) := by decide +kernel
theorem dX12_tellsLone_83 : decode cX12_tellsLone 83 = .ok (.istore 4, 2) := by decide +kernel
theorem dX12_tellsLone_85 : decode cX12_tellsLone 85 = .ok (.iinc 6 1, 3) := by decide +kernel
theorem dX12_tellsLone_88 : decode cX12_tellsLone 88 = .ok (.goto (-79), 3) := by decide +kernel
theorem dX12_tellsLone_91 : decode cX12_tellsLone 91 = .ok (.return_, 1) := by decide +kernel
theorem k_X12_tellsLone : MV yX12_tellsLone cX12_tellsLone 8 none 3 := ⟨q_1578, qs_82, q_14, q_1579, ⟨by decide, by decide, by decide +kernel⟩⟩
theorem c_X12_tellsLone {res : (Nat → Int32) × (Nat → Int32)} (hf : X12_tellsLone n x_s x_lagThen x_shadedThen v1 v2 v3 = some res) : MC l E0 D t yX12_tellsLone cX12_tellsLone 8 none 2 0 0 [.ref (a 0), .int v1, .int v2, .int v3] (mW a t x_s x_kept x_laid x_isKept x_pile x_tape x_taped x_letters x_at x_begun x_token x_value x_opened x_steps x_code0 x_read x_saved x_plan x_bestPlan x_most x_many x_few x_everRight x_lagThen x_shadedThen x_firstFit x_rows x_rowMany x_sorts x_sizes x_number x_holds x_heldOne x_trace x_traced x_own x_isParted) (Qn (mW a t x_s x_kept x_laid x_isKept x_pile x_tape x_taped x_letters x_at x_begun x_token x_value x_opened x_steps x_code0 x_read x_saved x_plan x_bestPlan x_most x_many x_few x_everRight res.1 res.2 x_firstFit x_rows x_rowMany x_sorts x_sizes x_number x_holds x_heldOne x_trace x_traced x_own x_isParted)) := by
  unfold X12_tellsLone at hf
  refine MC.ofV pn_X12 (Nat.le_of_ble_eq_true rfl) ?_
  intro p e s m args below meth c A Q ls cx hR hw hl
  have hx := cx.1
  have hb := cx.2.1
  have hl : lv_has ls 8 [(0, .ref (a 0)), (1, .int v1), (2, .int v2), (3, .int v3)] := hl
  refine lv_iload_n hx hb dX12_tellsLone_0 rfl (lv_at hl 3 rfl) ?_
  refine lv_istore (lv' := [(4, .int v3), (0, .ref (a 0)), (1, .int v1), (2, .int v2), (3, .int v3)]) hx hb dX12_tellsLone_1 hl (by decide) rfl (fun ls hl => ?_)
  refine lv_iconst (v := 0) hx hb dX12_tellsLone_3 (by decide) ?_
  refine lv_istore (lv' := [(5, .int (0 : Int32)), (4, .int v3), (0, .ref (a 0)), (1, .int v1), (2, .int v2), (3, .int v3)]) hx hb dX12_tellsLone_4 hl (by decide) rfl (fun ls hl => ?_)
  refine lv_iconst (v := 0) hx hb dX12_tellsLone_6 (by decide) ?_
  refine lv_istore (lv' := [(6, .int (0 : Int32)), (5, .int (0 : Int32)), (4, .int v3), (0, .ref (a 0)), (1, .int v1), (2, .int v2), (3, .int v3)]) hx hb dX12_tellsLone_7 hl (by decide) rfl (fun ls hl => ?_)
  obtain ⟨o4, ho4, hf⟩ := bnS hf
  have wL1 : ∀ (k : Nat) {v1 : Int32} {v2 : Int32} {v3 : Int32} {v4 : Int32} {v5 : Int32} {v6 : Int32} {x_lagThen : Nat → Int32} {x_shadedThen : Nat → Int32} {H : Heap} {locs : List Loc} {ls : Array Slot} {o : Int32 × Int32 × Int32 × (Nat → Int32) × (Nat → Int32)}, X12_tellsLone_L1 n x_s v1 v2 k v4 v5 v6 x_lagThen x_shadedThen = some o → Wd D A s (mW a t x_s x_kept x_laid x_isKept x_pile x_tape x_taped x_letters x_at x_begun x_token x_value x_opened x_steps x_code0 x_read x_saved x_plan x_bestPlan x_most x_many x_few x_everRight x_lagThen x_shadedThen x_firstFit x_rows x_rowMany x_sorts x_sizes x_number x_holds x_heldOne x_trace x_traced x_own x_isParted) H locs → lv_has ls 8 [(0, .ref (a 0)), (1, .int v1), (2, .int v2), (3, .int v3), (4, .int v4), (5, .int v5), (6, .int v6)] → (∀ (H : Heap) (locs : List Loc) (ls : Array Slot), Wd D A s (mW a t x_s x_kept x_laid x_isKept x_pile x_tape x_taped x_letters x_at x_begun x_token x_value x_opened x_steps x_code0 x_read x_saved x_plan x_bestPlan x_most x_many x_few x_everRight o.2.2.2.1 o.2.2.2.2 x_firstFit x_rows x_rowMany x_sorts x_sizes x_number x_holds x_heldOne x_trace x_traced x_own x_isParted) H locs → lv_has ls 8 [(0, .ref (a 0)), (1, .int v1), (2, .int v2), (3, .int v3), (4, .int o.1), (5, .int o.2.1), (6, .int o.2.2.1)] → W p l e (rmz 2 0 0) s m args below meth c H locs 0 0 Q (F0 m 91 ls [])) → W p l e (rmz 2 0 0) s m args below meth c H locs 0 0 Q (F0 m 9 ls []) := by
    clear hf ho4 hw hl
    intro k
    induction k with
    | zero => intro v1 v2 v3 v4 v5 v6 x_lagThen x_shadedThen H locs ls o hf hw hl kx; simp [X12_tellsLone_L1] at hf
    | succ k ih =>
      intro v1 v2 v3 v4 v5 v6 x_lagThen x_shadedThen H locs ls o hf hw hl kx
      rw [X12_tellsLone_L1] at hf
      refine lv_iload hx hb dX12_tellsLone_9 (lv_at hl 6 rfl) ?_
      refine lv_bipush (v := 16) hx hb dX12_tellsLone_11 (by decide) ?_
      refine lv_icmp_ge (tgt := 91) hx hb dX12_tellsLone_13 (by decide) (fun hc => ?_) (fun hc => ?_)
      · have hf := ifT hf hc
        have hf := Option.some.inj hf
        subst hf
        exact kx _ _ _ hw (lv_sub hl [0, 1, 2, 3, 4, 5, 6] rfl)
      · have hf := ifF hf hc
        refine lv_aload_n hx hb dX12_tellsLone_16 rfl (lv_at hl 0 rfl) ?_
        refine mg_lagThen cx hw dX12_tellsLone_17 ?_
        refine lv_iload hx hb dX12_tellsLone_20 (lv_at hl 6 rfl) ?_
        refine lv_iload hx hb dX12_tellsLone_22 (lv_at hl 4 rfl) ?_
        obtain ⟨h1, hf⟩ := ckS hf
        refine ms_lagThen (j := v6.toNatClampNeg) cx hw (ib_in h1) rfl dX12_tellsLone_24 (fun H locs hw => ?_)
        refine lv_aload_n hx hb dX12_tellsLone_25 rfl (lv_at hl 0 rfl) ?_
        refine mg_shadedThen cx hw dX12_tellsLone_26 ?_
        refine lv_iload hx hb dX12_tellsLone_29 (lv_at hl 6 rfl) ?_
        refine lv_iload hx hb dX12_tellsLone_31 (lv_at hl 5 rfl) ?_
        obtain ⟨h2, hf⟩ := ckS hf
        refine ms_shadedThen (j := v6.toNatClampNeg) cx hw (ib_in h2) rfl dX12_tellsLone_33 (fun H locs hw => ?_)
        refine lv_aload_n hx hb dX12_tellsLone_34 rfl (lv_at hl 0 rfl) ?_
        refine mg_s cx hw dX12_tellsLone_35 ?_
        refine lv_bipush (v := 7) hx hb dX12_tellsLone_38 (by decide) ?_
        refine lv_iload hx hb dX12_tellsLone_40 (lv_at hl 6 rfl) ?_
        refine lv_iadd hx hb dX12_tellsLone_42 ?_
        obtain ⟨h3, hf⟩ := ckS hf
        refine ml_s (j := ((7 : Int32) + v6).toNatClampNeg) cx hw (ib_in h3) rfl dX12_tellsLone_43 ?_
        refine lv_istore (lv' := [(7, .int (x_s (((7 : Int32) + v6).toNatClampNeg))), (0, .ref (a 0)), (1, .int v1), (2, .int v2), (3, .int v3), (4, .int v4), (5, .int v5), (6, .int v6)]) hx hb dX12_tellsLone_44 hl (by decide) rfl (fun ls hl => ?_)
        refine lv_iload hx hb dX12_tellsLone_46 (lv_at hl 6 rfl) ?_
        refine lv_iload_n hx hb dX12_tellsLone_48 rfl (lv_at hl 2 rfl) ?_
        refine lv_iload hx hb dX12_tellsLone_49 (lv_at hl 0 rfl) ?_
        refine lv_iconst (v := 4) hx hb dX12_tellsLone_51 (by decide) ?_
        refine lv_idiv hx hb dX12_tellsLone_52 (by decide) ?_
        refine lv_iload hx hb dX12_tellsLone_53 (lv_at hl 7 rfl) ?_
        refine calSi cx hw hl.1 (c_X12_shadesBy rfl) q_1312 k_X12_shadesBy rfl dX12_tellsLone_55 rfl (Nat.le_of_ble_eq_true rfl) ⟨Nat.le_of_ble_eq_true rfl, Nat.le_of_ble_eq_true rfl⟩ ⟨Nat.le_refl _, Nat.le_refl _⟩ (fun H locs hw => ?_)
        refine lv_iadd hx hb dX12_tellsLone_58 ?_
        refine lv_bipush (v := 99) hx hb dX12_tellsLone_59 (by decide) ?_
        refine calSi cx hw hl.1 (c_X12_held rfl) q_1438 k_X12_held rfl dX12_tellsLone_61 rfl (Nat.le_of_ble_eq_true rfl) ⟨Nat.le_of_ble_eq_true rfl, Nat.le_of_ble_eq_true rfl⟩ ⟨Nat.le_refl _, Nat.le_refl _⟩ (fun H locs hw => ?_)
        refine lv_istore (lv' := [(5, .int (X12_held (v5 + (X12_shadesBy v1 ((x_s (((7 : Int32) + v6).toNatClampNeg)) / (4 : Int32)) v6)) (99 : Int32))), (7, .int (x_s (((7 : Int32) + v6).toNatClampNeg))), (0, .ref (a 0)), (1, .int v1), (2, .int v2), (3, .int v3), (4, .int v4), (6, .int v6)]) hx hb dX12_tellsLone_64 hl (by decide) rfl (fun ls hl => ?_)
        refine lv_iload hx hb dX12_tellsLone_66 (lv_at hl 6 rfl) ?_
        refine lv_iload_n hx hb dX12_tellsLone_68 rfl (lv_at hl 3 rfl) ?_
        refine lv_iload_n hx hb dX12_tellsLone_69 rfl (lv_at hl 4 rfl) ?_
        refine lv_iload hx hb dX12_tellsLone_70 (lv_at hl 1 rfl) ?_
        refine lv_iconst (v := 4) hx hb dX12_tellsLone_72 (by decide) ?_
        refine lv_irem hx hb dX12_tellsLone_73 (by decide) ?_
        refine calSi cx hw hl.1 (c_X12_slipsBy rfl) q_1323 k_X12_slipsBy rfl dX12_tellsLone_74 rfl (Nat.le_of_ble_eq_true rfl) ⟨Nat.le_of_ble_eq_true rfl, Nat.le_of_ble_eq_true rfl⟩ ⟨Nat.le_refl _, Nat.le_refl _⟩ (fun H locs hw => ?_)
        refine lv_iadd hx hb dX12_tellsLone_77 ?_
        refine lv_bipush (v := 99) hx hb dX12_tellsLone_78 (by decide) ?_
        refine calSi cx hw hl.1 (c_X12_held rfl) q_1438 k_X12_held rfl dX12_tellsLone_80 rfl (Nat.le_of_ble_eq_true rfl) ⟨Nat.le_of_ble_eq_true rfl, Nat.le_of_ble_eq_true rfl⟩ ⟨Nat.le_refl _, Nat.le_refl _⟩ (fun H locs hw => ?_)
        refine lv_istore (lv' := [(4, .int (X12_held (v4 + (X12_slipsBy v1 v2 (irm (x_s (((7 : Int32) + v6).toNatClampNeg)) (4 : Int32)))) (99 : Int32))), (5, .int (X12_held (v5 + (X12_shadesBy v1 ((x_s (((7 : Int32) + v6).toNatClampNeg)) / (4 : Int32)) v6)) (99 : Int32))), (7, .int (x_s (((7 : Int32) + v6).toNatClampNeg))), (0, .ref (a 0)), (1, .int v1), (2, .int v2), (3, .int v3), (6, .int v6)]) hx hb dX12_tellsLone_83 hl (by decide) rfl (fun ls hl => ?_)
        refine lv_iinc (v := (v6 + (1 : Int32))) (lv' := [(6, .int (v6 + (1 : Int32))), (4, .int (X12_held (v4 + (X12_slipsBy v1 v2 (irm (x_s (((7 : Int32) + v6).toNatClampNeg)) (4 : Int32)))) (99 : Int32))), (5, .int (X12_held (v5 + (X12_shadesBy v1 ((x_s (((7 : Int32) + v6).toNatClampNeg)) / (4 : Int32)) v6)) (99 : Int32))), (7, .int (x_s (((7 : Int32) + v6).toNatClampNeg))), (0, .ref (a 0)), (1, .int v1), (2, .int v2), (3, .int v3)]) hx hb dX12_tellsLone_85 hl (k := 7) rfl rfl (by decide) rfl (fun ls hl => ?_)
        refine lv_goto (tgt := 9) hx hb dX12_tellsLone_88 (by decide) ?_
        exact ih hf hw (lv_sub hl [4, 5, 6, 7, 1, 2, 0] rfl) kx
  refine wL1 n ho4 hw (lv_sub hl [3, 4, 5, 6, 2, 1, 0] rfl) (fun H locs ls hw hl => ?_)
  clear wL1 ho4
  have hf := Option.some.inj hf
  subst hf
  exact hR _ _ _ _ _ hw ⟨rfl, rfl⟩ dX12_tellsLone_91
theorem dX12_isSo_0 : decode cX12_isSo 0 = .ok (.bipush 65, 2) := by decide +kernel
theorem dX12_isSo_2 : decode cX12_isSo 2 = .ok (.iconst 4, 1) := by decide +kernel
theorem dX12_isSo_3 : decode cX12_isSo 3 = .ok (.iload_n 1, 1) := by decide +kernel
theorem dX12_isSo_4 : decode cX12_isSo 4 = .ok (.imul, 1) := by decide +kernel
theorem dX12_isSo_5 : decode cX12_isSo 5 = .ok (.iadd, 1) := by decide +kernel
theorem dX12_isSo_6 : decode cX12_isSo 6 = .ok (.istore_n 2, 1) := by decide +kernel
theorem dX12_isSo_7 : decode cX12_isSo 7 = .ok (.aload_n 0, 1) := by decide +kernel
theorem dX12_isSo_8 : decode cX12_isSo 8 = .ok (.getfield 9, 3) := by decide +kernel
theorem dX12_isSo_11 : decode cX12_isSo 11 = .ok (.iload_n 2, 1) := by decide +kernel
theorem dX12_isSo_12 : decode cX12_isSo 12 = .ok (.iconst 1, 1) := by decide +kernel
theorem dX12_isSo_13 : decode cX12_isSo 13 = .ok (.iadd, 1) := by decide +kernel
theorem dX12_isSo_14 : decode cX12_isSo 14 = .ok (.iaload, 1) := by decide +kernel
theorem dX12_isSo_15 : decode cX12_isSo 15 = .ok (.ifCond .ne 17, 3) := by decide +kernel
theorem dX12_isSo_18 : decode cX12_isSo 18 = .ok (.aload_n 0, 1) := by decide +kernel
theorem dX12_isSo_19 : decode cX12_isSo 19 = .ok (.getfield 44, 3) := by decide +kernel
theorem dX12_isSo_22 : decode cX12_isSo 22 = .ok (.aload_n 0, 1) := by decide +kernel
theorem dX12_isSo_23 : decode cX12_isSo 23 = .ok (.getfield 9, 3) := by decide +kernel
theorem dX12_isSo_26 : decode cX12_isSo 26 = .ok (.iload_n 2, 1) := by decide +kernel
theorem dX12_isSo_27 : decode cX12_isSo 27 = .ok (.iaload, 1) := by decide +kernel
theorem dX12_isSo_28 : decode cX12_isSo 28 = .ok (.iaload, 1) := by decide +kernel
theorem dX12_isSo_29 : decode cX12_isSo 29 = .ok (.goto 14, 3) := by decide +kernel
theorem dX12_isSo_32 : decode cX12_isSo 32 = .ok (.aload_n 0, 1) := by decide +kernel
theorem dX12_isSo_33 : decode cX12_isSo 33 = .ok (.getfield 47, 3) := by decide +kernel
theorem dX12_isSo_36 : decode cX12_isSo 36 = .ok (.aload_n 0, 1) := by decide +kernel
theorem dX12_isSo_37 : decode cX12_isSo 37 = .ok (.getfield 9, 3) := by decide +kernel
theorem dX12_isSo_40 : decode cX12_isSo 40 = .ok (.iload_n 2, 1) := by decide +kernel
theorem dX12_isSo_41 : decode cX12_isSo 41 = .ok (.iaload, 1) := by decide +kernel
theorem dX12_isSo_42 : decode cX12_isSo 42 = .ok (.iaload, 1) := by decide +kernel
theorem dX12_isSo_43 : decode cX12_isSo 43 = .ok (.aload_n 0, 1) := by decide +kernel
theorem dX12_isSo_44 : decode cX12_isSo 44 = .ok (.getfield 9, 3) := by decide +kernel
theorem dX12_isSo_47 : decode cX12_isSo 47 = .ok (.iload_n 2, 1) := by decide +kernel
theorem dX12_isSo_48 : decode cX12_isSo 48 = .ok (.iconst 2, 1) := by decide +kernel
theorem dX12_isSo_49 : decode cX12_isSo 49 = .ok (.iadd, 1) := by decide +kernel
theorem dX12_isSo_50 : decode cX12_isSo 50 = .ok (.iaload, 1) := by decide +kernel
theorem dX12_isSo_51 : decode cX12_isSo 51 = .ok (.aload_n 0, 1) := by decide +kernel
theorem dX12_isSo_52 : decode cX12_isSo 52 = .ok (.getfield 9, 3) := by decide +kernel
theorem dX12_isSo_55 : decode cX12_isSo 55 = .ok (.iload_n 2, 1) := by decide +kernel
theorem dX12_isSo_56 : decode cX12_isSo 56 = .ok (.iconst 3, 1) := by decide +kernel
theorem dX12_isSo_57 : decode cX12_isSo 57 = .ok (.iadd, 1) := by decide +kernel
theorem dX12_isSo_58 : decode cX12_isSo 58 = .ok (.iaload, 1) := by decide +kernel
theorem dX12_isSo_59 : decode cX12_isSo 59 = .ok (.invokestatic 71, 3) := by decide +kernel
theorem dX12_isSo_62 : decode cX12_isSo 62 = .ok (.ireturn, 1) := by decide +kernel
theorem k_X12_isSo : MV yX12_isSo cX12_isSo 3 (some .boolean) 1 := ⟨q_1582, qs_83, q_14, q_1583, ⟨by decide, by decide, by decide +kernel⟩⟩
theorem c_X12_isSo {res : Int32} (hf : X12_isSo x_s x_lagThen x_shadedThen v1 = some res) : MC l E0 D t yX12_isSo cX12_isSo 3 (some .boolean) 2 0 0 [.ref (a 0), .int v1] (mW a t x_s x_kept x_laid x_isKept x_pile x_tape x_taped x_letters x_at x_begun x_token x_value x_opened x_steps x_code0 x_read x_saved x_plan x_bestPlan x_most x_many x_few x_everRight x_lagThen x_shadedThen x_firstFit x_rows x_rowMany x_sorts x_sizes x_number x_holds x_heldOne x_trace x_traced x_own x_isParted) (Qi res (mW a t x_s x_kept x_laid x_isKept x_pile x_tape x_taped x_letters x_at x_begun x_token x_value x_opened x_steps x_code0 x_read x_saved x_plan x_bestPlan x_most x_many x_few x_everRight x_lagThen x_shadedThen x_firstFit x_rows x_rowMany x_sorts x_sizes x_number x_holds x_heldOne x_trace x_traced x_own x_isParted)) := by
  unfold X12_isSo at hf
  refine MC.ofI pn_X12 (Nat.le_of_ble_eq_true rfl) ?_
  intro p e s m args below meth c A Q ls cx hR hw hl
  have hx := cx.1
  have hb := cx.2.1
  have hl : lv_has ls 3 [(0, .ref (a 0)), (1, .int v1)] := hl
  refine lv_bipush (v := 65) hx hb dX12_isSo_0 (by decide) ?_
  refine lv_iconst (v := 4) hx hb dX12_isSo_2 (by decide) ?_
  refine lv_iload_n hx hb dX12_isSo_3 rfl (lv_at hl 1 rfl) ?_
  refine lv_imul hx hb dX12_isSo_4 ?_
  refine lv_iadd hx hb dX12_isSo_5 ?_
  refine lv_istore_n (lv' := [(2, .int ((65 : Int32) + ((4 : Int32) * v1))), (0, .ref (a 0)), (1, .int v1)]) hx hb dX12_isSo_6 rfl hl (by decide) rfl (fun ls hl => ?_)
  refine lv_aload_n hx hb dX12_isSo_7 rfl (lv_at hl 1 rfl) ?_
  refine mg_s cx hw dX12_isSo_8 ?_
  refine lv_iload_n hx hb dX12_isSo_11 rfl (lv_at hl 0 rfl) ?_
  refine lv_iconst (v := 1) hx hb dX12_isSo_12 (by decide) ?_
  refine lv_iadd hx hb dX12_isSo_13 ?_
  obtain ⟨h1, hf⟩ := ckS hf
  refine ml_s (j := (((65 : Int32) + ((4 : Int32) * v1)) + (1 : Int32)).toNatClampNeg) cx hw (ib_in h1) rfl dX12_isSo_14 ?_
  obtain ⟨j6, hj6, hf⟩ := bnS hf
  have wj6 : ∀ (H : Heap) (locs : List Loc) (ls : Array Slot), Wd D A s (mW a t x_s x_kept x_laid x_isKept x_pile x_tape x_taped x_letters x_at x_begun x_token x_value x_opened x_steps x_code0 x_read x_saved x_plan x_bestPlan x_most x_many x_few x_everRight x_lagThen x_shadedThen x_firstFit x_rows x_rowMany x_sorts x_sizes x_number x_holds x_heldOne x_trace x_traced x_own x_isParted) H locs → lv_has ls 3 [(0, .ref (a 0)), (1, .int v1), (2, .int ((65 : Int32) + ((4 : Int32) * v1)))] → W p l e (rmz 2 0 0) s m args below meth c H locs 0 0 Q (F0 m 43 ls [.int j6]) := by
    intro H locs ls hw hl
    refine lv_aload_n hx hb dX12_isSo_43 rfl (lv_at hl 0 rfl) ?_
    refine mg_s cx hw dX12_isSo_44 ?_
    refine lv_iload_n hx hb dX12_isSo_47 rfl (lv_at hl 2 rfl) ?_
    refine lv_iconst (v := 2) hx hb dX12_isSo_48 (by decide) ?_
    refine lv_iadd hx hb dX12_isSo_49 ?_
    obtain ⟨h7, hf⟩ := ckS hf
    refine ml_s (j := (((65 : Int32) + ((4 : Int32) * v1)) + (2 : Int32)).toNatClampNeg) cx hw (ib_in h7) rfl dX12_isSo_50 ?_
    refine lv_aload_n hx hb dX12_isSo_51 rfl (lv_at hl 0 rfl) ?_
    refine mg_s cx hw dX12_isSo_52 ?_
    refine lv_iload_n hx hb dX12_isSo_55 rfl (lv_at hl 2 rfl) ?_
    refine lv_iconst (v := 3) hx hb dX12_isSo_56 (by decide) ?_
    refine lv_iadd hx hb dX12_isSo_57 ?_
    obtain ⟨h8, hf⟩ := ckS hf
    refine ml_s (j := (((65 : Int32) + ((4 : Int32) * v1)) + (3 : Int32)).toNatClampNeg) cx hw (ib_in h8) rfl dX12_isSo_58 ?_
    refine calSi cx hw hl.1 (c_X12_in1 rfl) q_1214 k_X12_in1 rfl dX12_isSo_59 rfl (Nat.le_of_ble_eq_true rfl) ⟨Nat.le_of_ble_eq_true rfl, Nat.le_of_ble_eq_true rfl⟩ ⟨Nat.le_refl _, Nat.le_refl _⟩ (fun H locs hw => ?_)
    have hf := Option.some.inj hf
    subst hf
    exact hR _ _ _ _ _ _ hw (nb (b_X12_in1 _ _ _)) ⟨rfl, rfl⟩ dX12_isSo_62
  clear hf
  have hf := hj6
  clear hj6
  refine lv_if_ne (tgt := 32) hx hb dX12_isSo_15 (by decide) (fun hc => ?_) (fun hc => ?_)
  · have hf := ifF hf hc
    refine lv_aload_n hx hb dX12_isSo_32 rfl (lv_at hl 1 rfl) ?_
    refine mg_shadedThen cx hw dX12_isSo_33 ?_
    refine lv_aload_n hx hb dX12_isSo_36 rfl (lv_at hl 1 rfl) ?_
    refine mg_s cx hw dX12_isSo_37 ?_
    refine lv_iload_n hx hb dX12_isSo_40 rfl (lv_at hl 0 rfl) ?_
    obtain ⟨h4, hf⟩ := ckS hf
    refine ml_s (j := ((65 : Int32) + ((4 : Int32) * v1)).toNatClampNeg) cx hw (ib_in h4) rfl dX12_isSo_41 ?_
    obtain ⟨h5, hf⟩ := ckS hf
    refine ml_shadedThen (j := (x_s (((65 : Int32) + ((4 : Int32) * v1)).toNatClampNeg)).toNatClampNeg) cx hw (ib_in h5) rfl dX12_isSo_42 ?_
    have hf := Option.some.inj hf
    subst hf
    exact wj6 _ _ _ hw (lv_sub hl [1, 2, 0] rfl)
  · have hf := ifT hf hc
    refine lv_aload_n hx hb dX12_isSo_18 rfl (lv_at hl 1 rfl) ?_
    refine mg_lagThen cx hw dX12_isSo_19 ?_
    refine lv_aload_n hx hb dX12_isSo_22 rfl (lv_at hl 1 rfl) ?_
    refine mg_s cx hw dX12_isSo_23 ?_
    refine lv_iload_n hx hb dX12_isSo_26 rfl (lv_at hl 0 rfl) ?_
    obtain ⟨h2, hf⟩ := ckS hf
    refine ml_s (j := ((65 : Int32) + ((4 : Int32) * v1)).toNatClampNeg) cx hw (ib_in h2) rfl dX12_isSo_27 ?_
    obtain ⟨h3, hf⟩ := ckS hf
    refine ml_lagThen (j := (x_s (((65 : Int32) + ((4 : Int32) * v1)).toNatClampNeg)).toNatClampNeg) cx hw (ib_in h3) rfl dX12_isSo_28 ?_
    refine lv_goto (tgt := 43) hx hb dX12_isSo_29 (by decide) ?_
    have hf := Option.some.inj hf
    subst hf
    exact wj6 _ _ _ hw (lv_sub hl [1, 2, 0] rfl)
theorem dX12_fitting_0 : decode cX12_fitting 0 = .ok (.iconst 0, 1) := by decide +kernel
theorem dX12_fitting_1 : decode cX12_fitting 1 = .ok (.istore_n 2, 1) := by decide +kernel
theorem dX12_fitting_2 : decode cX12_fitting 2 = .ok (.aload_n 0, 1) := by decide +kernel
theorem dX12_fitting_3 : decode cX12_fitting 3 = .ok (.iconst (-1), 1) := by decide +kernel
theorem dX12_fitting_4 : decode cX12_fitting 4 = .ok (.putfield 306, 3) := by decide +kernel
theorem dX12_fitting_7 : decode cX12_fitting 7 = .ok (.iconst 0, 1) := by decide +kernel
theorem dX12_fitting_8 : decode cX12_fitting 8 = .ok (.istore_n 3, 1) := by decide +kernel
theorem dX12_fitting_9 : decode cX12_fitting 9 = .ok (.iload_n 3, 1) := by decide +kernel
theorem dX12_fitting_10 : decode cX12_fitting 10 = .ok (.sipush 500, 3) := by decide +kernel
theorem dX12_fitting_13 : decode cX12_fitting 13 = .ok (.if_icmp .ge 121, 3) := by decide +kernel
theorem dX12_fitting_16 : decode cX12_fitting 16 = .ok (.aload_n 0, 1) := by decide +kernel
theorem dX12_fitting_17 : decode cX12_fitting 17 = .ok (.iconst 1, 1) := by decide +kernel
theorem dX12_fitting_18 : decode cX12_fitting 18 = .ok (.iload_n 3, 1) := by decide +kernel
theorem dX12_fitting_19 : decode cX12_fitting 19 = .ok (.bipush 100, 2) := by decide +kernel
theorem dX12_fitting_21 : decode cX12_fitting 21 = .ok (.idiv, 1) := by decide +kernel
theorem dX12_fitting_22 : decode cX12_fitting 22 = .ok (.iadd, 1) := by decide +kernel
theorem dX12_fitting_23 : decode cX12_fitting 23 = .ok (.iload_n 3, 1) := by decide +kernel
theorem dX12_fitting_24 : decode cX12_fitting 24 = .ok (.bipush 10, 2) := by decide +kernel
theorem dX12_fitting_26 : decode cX12_fitting 26 = .ok (.idiv, 1) := by decide +kernel
theorem dX12_fitting_27 : decode cX12_fitting 27 = .ok (.bipush 10, 2) := by decide +kernel
theorem dX12_fitting_29 : decode cX12_fitting 29 = .ok (.irem, 1) := by decide +kernel
theorem dX12_fitting_30 : decode cX12_fitting 30 = .ok (.bipush 10, 2) := by decide +kernel
theorem dX12_fitting_32 : decode cX12_fitting 32 = .ok (.iload_n 3, 1) := by decide +kernel
theorem dX12_fitting_33 : decode cX12_fitting 33 = .ok (.bipush 10, 2) := by decide +kernel
theorem dX12_fitting_35 : decode cX12_fitting 35 = .ok (.irem, 1) := by decide +kernel
theorem dX12_fitting_36 : decode cX12_fitting 36 = .ok (.imul, 1) := by decide +kernel
theorem dX12_fitting_37 : decode cX12_fitting 37 = .ok (.invokevirtual 309, 3) := by decide +kernel
theorem dX12_fitting_40 : decode cX12_fitting 40 = .ok (.iconst 1, 1) := by decide +kernel
theorem dX12_fitting_41 : decode cX12_fitting 41 = .ok (.istore 4, 2) := by decide +kernel
theorem dX12_fitting_43 : decode cX12_fitting 43 = .ok (.iconst 0, 1) := by decide +kernel
theorem dX12_fitting_44 : decode cX12_fitting 44 = .ok (.istore 5, 2) := by decide +kernel
theorem dX12_fitting_46 : decode cX12_fitting 46 = .ok (.iload 5, 2) := by decide +kernel
theorem dX12_fitting_48 : decode cX12_fitting 48 = .ok (.aload_n 0, 1) := by decide +kernel
theorem dX12_fitting_49 : decode cX12_fitting 49 = .ok (.getfield 9, 3) := by decide +kernel
theorem dX12_fitting_52 : decode cX12_fitting 52 = .ok (.bipush 6, 2) := by decide +kernel
theorem dX12_fitting_54 : decode cX12_fitting 54 = .ok (.iaload, 1) := by decide +kernel
theorem dX12_fitting_55 : decode cX12_fitting 55 = .ok (.if_icmp .ge 36, 3) := by decide +kernel
theorem dX12_fitting_58 : decode cX12_fitting 58 = .ok (.iload 4, 2) := by decide +kernel
theorem dX12_fitting_60 : decode cX12_fitting 60 = .ok (.ifCond .eq 31, 3) := by decide +kernel
theorem dX12_fitting_63 : decode cX12_fitting 63 = .ok (.iload 5, 2) := by decide +kernel
theorem dX12_fitting_65 : decode cX12_fitting 65 = .ok (.iload_n 1, 1) := by decide +kernel
theorem dX12_fitting_66 : decode cX12_fitting 66 = .ok (.if_icmp .eq 12, 3) := by decide +kernel
theorem dX12_fitting_69 : decode cX12_fitting 69 = .ok (.aload_n 0, 1) := by decide +kernel
theorem dX12_fitting_70 : decode cX12_fitting 70 = .ok (.iload 5, 2) := by decide +kernel
theorem dX12_fitting_72 : decode cX12_fitting 72 = .ok (.invokevirtual 312, 3) := by decide +kernel
theorem dX12_fitting_75 : decode cX12_fitting 75 = .ok (.ifCond .eq 7, 3) := by decide +kernel
theorem dX12_fitting_78 : decode cX12_fitting 78 = .ok (.iconst 1, 1) := by decide +kernel
theorem dX12_fitting_79 : decode cX12_fitting 79 = .ok (.goto 4, 3) := by decide +kernel
theorem dX12_fitting_82 : decode cX12_fitting 82 = .ok (.iconst 0, 1) := by decide +kernel
theorem dX12_fitting_83 : decode cX12_fitting 83 = .ok (.istore 4, 2) := by decide +kernel
theorem dX12_fitting_85 : decode cX12_fitting 85 = .ok (.iinc 5 1, 3) := by decide +kernel
theorem dX12_fitting_88 : decode cX12_fitting 88 = .ok (.goto (-42), 3) := by decide +kernel
theorem dX12_fitting_91 : decode cX12_fitting 91 = .ok (.iload_n 2, 1) := by decide +kernel
theorem dX12_fitting_92 : decode cX12_fitting 92 = .ok (.iload 4, 2) := by decide +kernel
theorem dX12_fitting_94 : decode cX12_fitting 94 = .ok (.ifCond .eq 7, 3) := by decide +kernel
theorem dX12_fitting_97 : decode cX12_fitting 97 = .ok (.iconst 1, 1) := by decide +kernel
theorem dX12_fitting_98 : decode cX12_fitting 98 = .ok (.goto 4, 3) := by decide +kernel
theorem dX12_fitting_101 : decode cX12_fitting 101 = .ok (.iconst 0, 1) := by decide +kernel
theorem dX12_fitting_102 : decode cX12_fitting 102 = .ok (.iadd, 1) := by decide +kernel
theorem dX12_fitting_103 : decode cX12_fitting 103 = .ok (.istore_n 2, 1) := by decide +kernel
theorem dX12_fitting_104 : decode cX12_fitting 104 = .ok (.aload_n 0, 1) := by decide +kernel
theorem dX12_fitting_105 : decode cX12_fitting 105 = .ok (.iload 4, 2) := by decide +kernel
theorem dX12_fitting_107 : decode cX12_fitting 107 = .ok (.ifCond .eq 14, 3) := by decide +kernel
theorem dX12_fitting_110 : decode cX12_fitting 110 = .ok (.aload_n 0, 1) := by decide +kernel
theorem dX12_fitting_111 : decode cX12_fitting 111 = .ok (.getfield 306, 3) := by decide +kernel
theorem dX12_fitting_114 : decode cX12_fitting 114 = .ok (.ifCond .ge 7, 3) := by decide +kernel
theorem dX12_fitting_117 : decode cX12_fitting 117 = .ok (.iload_n 3, 1) := by decide +kernel
theorem dX12_fitting_118 : decode cX12_fitting 118 = .ok (.goto 7, 3) := by decide +kernel
theorem dX12_fitting_121 : decode cX12_fitting 121 = .ok (.aload_n 0, 1) := by decide +kernel
theorem dX12_fitting_122 : decode cX12_fitting 122 = .ok (.getfield 306, 3) := by decide +kernel
theorem dX12_fitting_125 : decode cX12_fitting 125 = .ok (.putfield 306, 3) := by decide +kernel
theorem dX12_fitting_128 : decode cX12_fitting 128 = .ok (.iinc 3 1, 3) := by decide +kernel
theorem dX12_fitting_131 : decode cX12_fitting 131 = .ok (.goto (-122), 3) := by decide +kernel
theorem dX12_fitting_134 : decode cX12_fitting 134 = .ok (.iload_n 2, 1) := by decide +kernel
theorem dX12_fitting_135 : decode cX12_fitting 135 = .ok (.ireturn, 1) := by decide +kernel
theorem k_X12_fitting : MV yX12_fitting cX12_fitting 6 (some .int) 1 := ⟨q_1574, qs_81, q_14, q_1575, ⟨by decide, by decide, by decide +kernel⟩⟩
theorem c_X12_fitting {res : Int32 × (Nat → Int32) × (Nat → Int32) × Int32} (hf : X12_fitting n x_s x_lagThen x_shadedThen v1 = some res) : MC l E0 D t yX12_fitting cX12_fitting 6 (some .int) 3 0 0 [.ref (a 0), .int v1] (mW a t x_s x_kept x_laid x_isKept x_pile x_tape x_taped x_letters x_at x_begun x_token x_value x_opened x_steps x_code0 x_read x_saved x_plan x_bestPlan x_most x_many x_few x_everRight x_lagThen x_shadedThen x_firstFit x_rows x_rowMany x_sorts x_sizes x_number x_holds x_heldOne x_trace x_traced x_own x_isParted) (Qi res.1 (mW a t x_s x_kept x_laid x_isKept x_pile x_tape x_taped x_letters x_at x_begun x_token x_value x_opened x_steps x_code0 x_read x_saved x_plan x_bestPlan x_most x_many x_few x_everRight res.2.1 res.2.2.1 res.2.2.2 x_rows x_rowMany x_sorts x_sizes x_number x_holds x_heldOne x_trace x_traced x_own x_isParted)) := by
  unfold X12_fitting at hf
  refine MC.ofI pn_X12 (Nat.le_of_ble_eq_true rfl) ?_
  intro p e s m args below meth c A Q ls cx hR hw hl
  have hx := cx.1
  have hb := cx.2.1
  have hl : lv_has ls 6 [(0, .ref (a 0)), (1, .int v1)] := hl
  refine lv_iconst (v := 0) hx hb dX12_fitting_0 (by decide) ?_
  refine lv_istore_n (lv' := [(2, .int (0 : Int32)), (0, .ref (a 0)), (1, .int v1)]) hx hb dX12_fitting_1 rfl hl (by decide) rfl (fun ls hl => ?_)
  refine lv_aload_n hx hb dX12_fitting_2 rfl (lv_at hl 1 rfl) ?_
  refine lv_iconst (v := (-1)) hx hb dX12_fitting_3 (by decide) ?_
  refine mp_firstFit cx hw dX12_fitting_4 (fun H locs hw => ?_)
  refine lv_iconst (v := 0) hx hb dX12_fitting_7 (by decide) ?_
  refine lv_istore_n (lv' := [(3, .int (0 : Int32)), (2, .int (0 : Int32)), (0, .ref (a 0)), (1, .int v1)]) hx hb dX12_fitting_8 rfl hl (by decide) rfl (fun ls hl => ?_)
  obtain ⟨o9, ho9, hf⟩ := bnS hf
  have wL1 : ∀ (k : Nat) {v1 : Int32} {v2 : Int32} {v3 : Int32} {x_lagThen : Nat → Int32} {x_shadedThen : Nat → Int32} {x_firstFit : Int32} {H : Heap} {locs : List Loc} {ls : Array Slot} {o : Int32 × Int32 × (Nat → Int32) × (Nat → Int32) × Int32}, X12_fitting_L1 n x_s v1 k v2 v3 x_lagThen x_shadedThen x_firstFit = some o → Wd D A s (mW a t x_s x_kept x_laid x_isKept x_pile x_tape x_taped x_letters x_at x_begun x_token x_value x_opened x_steps x_code0 x_read x_saved x_plan x_bestPlan x_most x_many x_few x_everRight x_lagThen x_shadedThen x_firstFit x_rows x_rowMany x_sorts x_sizes x_number x_holds x_heldOne x_trace x_traced x_own x_isParted) H locs → lv_has ls 6 [(0, .ref (a 0)), (1, .int v1), (2, .int v2), (3, .int v3)] → (∀ (H : Heap) (locs : List Loc) (ls : Array Slot), Wd D A s (mW a t x_s x_kept x_laid x_isKept x_pile x_tape x_taped x_letters x_at x_begun x_token x_value x_opened x_steps x_code0 x_read x_saved x_plan x_bestPlan x_most x_many x_few x_everRight o.2.2.1 o.2.2.2.1 o.2.2.2.2 x_rows x_rowMany x_sorts x_sizes x_number x_holds x_heldOne x_trace x_traced x_own x_isParted) H locs → lv_has ls 6 [(0, .ref (a 0)), (1, .int v1), (2, .int o.1), (3, .int o.2.1)] → W p l e (rmz 3 0 0) s m args below meth c H locs 0 0 Q (F0 m 134 ls [])) → W p l e (rmz 3 0 0) s m args below meth c H locs 0 0 Q (F0 m 9 ls []) := by
    clear hf ho9 hw hl
    intro k
    induction k with
    | zero => intro v1 v2 v3 x_lagThen x_shadedThen x_firstFit H locs ls o hf hw hl kx; simp [X12_fitting_L1] at hf
    | succ k ih =>
      intro v1 v2 v3 x_lagThen x_shadedThen x_firstFit H locs ls o hf hw hl kx
      rw [X12_fitting_L1] at hf
      refine lv_iload_n hx hb dX12_fitting_9 rfl (lv_at hl 3 rfl) ?_
      refine lv_sipush (v := 500) hx hb dX12_fitting_10 (by decide) ?_
      refine lv_icmp_ge (tgt := 134) hx hb dX12_fitting_13 (by decide) (fun hc => ?_) (fun hc => ?_)
      · have hf := ifT hf hc
        have hf := Option.some.inj hf
        subst hf
        exact kx _ _ _ hw (lv_sub hl [0, 1, 2, 3] rfl)
      · have hf := ifF hf hc
        refine lv_aload_n hx hb dX12_fitting_16 rfl (lv_at hl 0 rfl) ?_
        refine lv_iconst (v := 1) hx hb dX12_fitting_17 (by decide) ?_
        refine lv_iload_n hx hb dX12_fitting_18 rfl (lv_at hl 3 rfl) ?_
        refine lv_bipush (v := 100) hx hb dX12_fitting_19 (by decide) ?_
        refine lv_idiv hx hb dX12_fitting_21 (by decide) ?_
        refine lv_iadd hx hb dX12_fitting_22 ?_
        refine lv_iload_n hx hb dX12_fitting_23 rfl (lv_at hl 3 rfl) ?_
        refine lv_bipush (v := 10) hx hb dX12_fitting_24 (by decide) ?_
        refine lv_idiv hx hb dX12_fitting_26 (by decide) ?_
        refine lv_bipush (v := 10) hx hb dX12_fitting_27 (by decide) ?_
        refine lv_irem hx hb dX12_fitting_29 (by decide) ?_
        refine lv_bipush (v := 10) hx hb dX12_fitting_30 (by decide) ?_
        refine lv_iload_n hx hb dX12_fitting_32 rfl (lv_at hl 3 rfl) ?_
        refine lv_bipush (v := 10) hx hb dX12_fitting_33 (by decide) ?_
        refine lv_irem hx hb dX12_fitting_35 (by decide) ?_
        refine lv_imul hx hb dX12_fitting_36 ?_
        obtain ⟨r1, h2, hf⟩ := bnS hf
        refine calVv (k := 0) cx hw hl.1 (c_X12_tellsLone h2) q_1576 k_X12_tellsLone rfl rfl rfl dX12_fitting_37 rfl (Nat.le_of_ble_eq_true rfl) ⟨Nat.le_of_ble_eq_true rfl, Nat.le_of_ble_eq_true rfl⟩ ⟨Nat.le_refl _, Nat.le_refl _⟩ (fun H locs hw => ?_)
        refine lv_iconst (v := 1) hx hb dX12_fitting_40 (by decide) ?_
        refine lv_istore (lv' := [(4, .int (1 : Int32)), (0, .ref (a 0)), (1, .int v1), (2, .int v2), (3, .int v3)]) hx hb dX12_fitting_41 hl (by decide) rfl (fun ls hl => ?_)
        refine lv_iconst (v := 0) hx hb dX12_fitting_43 (by decide) ?_
        refine lv_istore (lv' := [(5, .int (0 : Int32)), (4, .int (1 : Int32)), (0, .ref (a 0)), (1, .int v1), (2, .int v2), (3, .int v3)]) hx hb dX12_fitting_44 hl (by decide) rfl (fun ls hl => ?_)
        obtain ⟨o6, ho6, hf⟩ := bnS hf
        have wL2 : ∀ (k : Nat) {v1 : Int32} {v2 : Int32} {v3 : Int32} {v4 : Int32} {v5 : Int32} {x_lagThen : Nat → Int32} {x_shadedThen : Nat → Int32} {H : Heap} {locs : List Loc} {ls : Array Slot} {o : Int32 × Int32}, X12_fitting_L2 n x_s x_lagThen x_shadedThen v1 k v4 v5 = some o → Wd D A s (mW a t x_s x_kept x_laid x_isKept x_pile x_tape x_taped x_letters x_at x_begun x_token x_value x_opened x_steps x_code0 x_read x_saved x_plan x_bestPlan x_most x_many x_few x_everRight x_lagThen x_shadedThen x_firstFit x_rows x_rowMany x_sorts x_sizes x_number x_holds x_heldOne x_trace x_traced x_own x_isParted) H locs → lv_has ls 6 [(0, .ref (a 0)), (1, .int v1), (2, .int v2), (3, .int v3), (4, .int v4), (5, .int v5)] → (∀ (H : Heap) (locs : List Loc) (ls : Array Slot), Wd D A s (mW a t x_s x_kept x_laid x_isKept x_pile x_tape x_taped x_letters x_at x_begun x_token x_value x_opened x_steps x_code0 x_read x_saved x_plan x_bestPlan x_most x_many x_few x_everRight x_lagThen x_shadedThen x_firstFit x_rows x_rowMany x_sorts x_sizes x_number x_holds x_heldOne x_trace x_traced x_own x_isParted) H locs → lv_has ls 6 [(0, .ref (a 0)), (1, .int v1), (2, .int v2), (3, .int v3), (4, .int o.1), (5, .int o.2)] → W p l e (rmz 3 0 0) s m args below meth c H locs 0 0 Q (F0 m 91 ls [])) → W p l e (rmz 3 0 0) s m args below meth c H locs 0 0 Q (F0 m 46 ls []) := by
          clear hf ho6 hw hl
          intro k
          induction k with
          | zero => intro v1 v2 v3 v4 v5 x_lagThen x_shadedThen H locs ls o hf hw hl kx; simp [X12_fitting_L2] at hf
          | succ k ih =>
            intro v1 v2 v3 v4 v5 x_lagThen x_shadedThen H locs ls o hf hw hl kx
            rw [X12_fitting_L2] at hf
            refine lv_iload hx hb dX12_fitting_46 (lv_at hl 5 rfl) ?_
            refine lv_aload_n hx hb dX12_fitting_48 rfl (lv_at hl 0 rfl) ?_
            refine mg_s cx hw dX12_fitting_49 ?_
            refine lv_bipush (v := 6) hx hb dX12_fitting_52 (by decide) ?_
            refine ml_s (j := 6) cx hw (ib_in (by decide)) (by decide) dX12_fitting_54 ?_
            refine lv_icmp_ge (tgt := 91) hx hb dX12_fitting_55 (by decide) (fun hc => ?_) (fun hc => ?_)
            · have hf := ifT hf hc
              have hf := Option.some.inj hf
              subst hf
              exact kx _ _ _ hw (lv_sub hl [0, 1, 2, 3, 4, 5] rfl)
            · have hf := ifF hf hc
              refine lv_iload hx hb dX12_fitting_58 (lv_at hl 4 rfl) ?_
              refine lv_if_eq (tgt := 91) hx hb dX12_fitting_60 (by decide) (fun hc => ?_) (fun hc => ?_)
              · have hf := ifT hf hc
                have hf := Option.some.inj hf
                subst hf
                exact kx _ _ _ hw (lv_sub hl [0, 1, 2, 3, 4, 5] rfl)
              · have hf := ifF hf hc
                refine lv_iload hx hb dX12_fitting_63 (lv_at hl 5 rfl) ?_
                refine lv_iload_n hx hb dX12_fitting_65 rfl (lv_at hl 1 rfl) ?_
                obtain ⟨j5, hj5, hf⟩ := bnS hf
                have wj5 : ∀ (H : Heap) (locs : List Loc) (ls : Array Slot), Wd D A s (mW a t x_s x_kept x_laid x_isKept x_pile x_tape x_taped x_letters x_at x_begun x_token x_value x_opened x_steps x_code0 x_read x_saved x_plan x_bestPlan x_most x_many x_few x_everRight x_lagThen x_shadedThen x_firstFit x_rows x_rowMany x_sorts x_sizes x_number x_holds x_heldOne x_trace x_traced x_own x_isParted) H locs → lv_has ls 6 [(0, .ref (a 0)), (1, .int v1), (2, .int v2), (3, .int v3), (4, .int v4), (5, .int v5)] → W p l e (rmz 3 0 0) s m args below meth c H locs 0 0 Q (F0 m 83 ls [.int j5]) := by
                  intro H locs ls hw hl
                  refine lv_istore (lv' := [(4, .int j5), (0, .ref (a 0)), (1, .int v1), (2, .int v2), (3, .int v3), (5, .int v5)]) hx hb dX12_fitting_83 hl (by decide) rfl (fun ls hl => ?_)
                  refine lv_iinc (v := (v5 + (1 : Int32))) (lv' := [(5, .int (v5 + (1 : Int32))), (4, .int j5), (0, .ref (a 0)), (1, .int v1), (2, .int v2), (3, .int v3)]) hx hb dX12_fitting_85 hl (k := 5) rfl rfl (by decide) rfl (fun ls hl => ?_)
                  refine lv_goto (tgt := 46) hx hb dX12_fitting_88 (by decide) ?_
                  exact ih hf hw (lv_sub hl [2, 3, 4, 5, 1, 0] rfl) kx
                clear hf
                have hf := hj5
                clear hj5
                refine lv_icmp_eq (tgt := 78) hx hb dX12_fitting_66 (by decide) (fun hc => ?_) (fun hc => ?_)
                · have hf := ifT hf hc
                  refine lv_iconst (v := 1) hx hb dX12_fitting_78 (by decide) ?_
                  refine lv_goto (tgt := 83) hx hb dX12_fitting_79 (by decide) ?_
                  have hf := Option.some.inj hf
                  subst hf
                  exact wj5 _ _ _ hw (lv_sub hl [0, 1, 2, 3, 4, 5] rfl)
                · have hf := ifF hf hc
                  refine lv_aload_n hx hb dX12_fitting_69 rfl (lv_at hl 0 rfl) ?_
                  refine lv_iload hx hb dX12_fitting_70 (lv_at hl 5 rfl) ?_
                  obtain ⟨r3, h4, hf⟩ := bnS hf
                  refine calVi (k := 0) cx hw hl.1 (c_X12_isSo h4) q_1580 k_X12_isSo rfl rfl rfl dX12_fitting_72 rfl (Nat.le_of_ble_eq_true rfl) ⟨Nat.le_of_ble_eq_true rfl, Nat.le_of_ble_eq_true rfl⟩ ⟨Nat.le_refl _, Nat.le_refl _⟩ (fun H locs hw => ?_)
                  refine lv_if_eq (tgt := 82) hx hb dX12_fitting_75 (by decide) (fun hc => ?_) (fun hc => ?_)
                  · have hf := ifT hf hc
                    refine lv_iconst (v := 0) hx hb dX12_fitting_82 (by decide) ?_
                    have hf := Option.some.inj hf
                    subst hf
                    exact wj5 _ _ _ hw (lv_sub hl [0, 1, 2, 3, 4, 5] rfl)
                  · have hf := ifF hf hc
                    refine lv_iconst (v := 1) hx hb dX12_fitting_78 (by decide) ?_
                    refine lv_goto (tgt := 83) hx hb dX12_fitting_79 (by decide) ?_
                    have hf := Option.some.inj hf
                    subst hf
                    exact wj5 _ _ _ hw (lv_sub hl [0, 1, 2, 3, 4, 5] rfl)
        refine wL2 n ho6 hw (lv_sub hl [2, 3, 4, 5, 1, 0] rfl) (fun H locs ls hw hl => ?_)
        clear wL2 ho6
        refine lv_iload_n hx hb dX12_fitting_91 rfl (lv_at hl 2 rfl) ?_
        refine lv_iload hx hb dX12_fitting_92 (lv_at hl 4 rfl) ?_
        obtain ⟨j7, hj7, hf⟩ := pbS hf
        have wj7 : ∀ (H : Heap) (locs : List Loc) (ls : Array Slot), Wd D A s (mW a t x_s x_kept x_laid x_isKept x_pile x_tape x_taped x_letters x_at x_begun x_token x_value x_opened x_steps x_code0 x_read x_saved x_plan x_bestPlan x_most x_many x_few x_everRight r1.1 r1.2 x_firstFit x_rows x_rowMany x_sorts x_sizes x_number x_holds x_heldOne x_trace x_traced x_own x_isParted) H locs → lv_has ls 6 [(0, .ref (a 0)), (1, .int v1), (2, .int v2), (3, .int v3), (4, .int o6.1), (5, .int o6.2)] → W p l e (rmz 3 0 0) s m args below meth c H locs 0 0 Q (F0 m 102 ls [.int j7, .int v2]) := by
          intro H locs ls hw hl
          refine lv_iadd hx hb dX12_fitting_102 ?_
          refine lv_istore_n (lv' := [(2, .int (v2 + j7)), (0, .ref (a 0)), (1, .int v1), (3, .int v3), (4, .int o6.1), (5, .int o6.2)]) hx hb dX12_fitting_103 rfl hl (by decide) rfl (fun ls hl => ?_)
          refine lv_aload_n hx hb dX12_fitting_104 rfl (lv_at hl 1 rfl) ?_
          refine lv_iload hx hb dX12_fitting_105 (lv_at hl 4 rfl) ?_
          obtain ⟨j8, hj8, hf⟩ := pbS hf
          have wj8 : ∀ (H : Heap) (locs : List Loc) (ls : Array Slot), Wd D A s (mW a t x_s x_kept x_laid x_isKept x_pile x_tape x_taped x_letters x_at x_begun x_token x_value x_opened x_steps x_code0 x_read x_saved x_plan x_bestPlan x_most x_many x_few x_everRight r1.1 r1.2 x_firstFit x_rows x_rowMany x_sorts x_sizes x_number x_holds x_heldOne x_trace x_traced x_own x_isParted) H locs → lv_has ls 6 [(0, .ref (a 0)), (1, .int v1), (2, .int (v2 + j7)), (3, .int v3), (4, .int o6.1), (5, .int o6.2)] → W p l e (rmz 3 0 0) s m args below meth c H locs 0 0 Q (F0 m 125 ls [.int j8, .ref (a 0)]) := by
            intro H locs ls hw hl
            refine mp_firstFit cx hw dX12_fitting_125 (fun H locs hw => ?_)
            refine lv_iinc (v := (v3 + (1 : Int32))) (lv' := [(3, .int (v3 + (1 : Int32))), (0, .ref (a 0)), (1, .int v1), (2, .int (v2 + j7)), (4, .int o6.1), (5, .int o6.2)]) hx hb dX12_fitting_128 hl (k := 3) rfl rfl (by decide) rfl (fun ls hl => ?_)
            refine lv_goto (tgt := 9) hx hb dX12_fitting_131 (by decide) ?_
            exact ih hf hw (lv_sub hl [1, 2, 3, 0] rfl) kx
          clear hf
          have hf := hj8
          clear hj8
          refine lv_if_eq (tgt := 121) hx hb dX12_fitting_107 (by decide) (fun hc => ?_) (fun hc => ?_)
          · have hf := ifT hf hc
            refine lv_aload_n hx hb dX12_fitting_121 rfl (lv_at hl 1 rfl) ?_
            refine mg_firstFit cx hw dX12_fitting_122 ?_
            subst hf
            exact wj8 _ _ _ hw (lv_sub hl [1, 2, 0, 3, 4, 5] rfl)
          · have hf := ifF hf hc
            refine lv_aload_n hx hb dX12_fitting_110 rfl (lv_at hl 1 rfl) ?_
            refine mg_firstFit cx hw dX12_fitting_111 ?_
            refine lv_if_ge (tgt := 121) hx hb dX12_fitting_114 (by decide) (fun hc => ?_) (fun hc => ?_)
            · have hf := ifT hf hc
              refine lv_aload_n hx hb dX12_fitting_121 rfl (lv_at hl 1 rfl) ?_
              refine mg_firstFit cx hw dX12_fitting_122 ?_
              subst hf
              exact wj8 _ _ _ hw (lv_sub hl [1, 2, 0, 3, 4, 5] rfl)
            · have hf := ifF hf hc
              refine lv_iload_n hx hb dX12_fitting_117 rfl (lv_at hl 3 rfl) ?_
              refine lv_goto (tgt := 125) hx hb dX12_fitting_118 (by decide) ?_
              subst hf
              exact wj8 _ _ _ hw (lv_sub hl [1, 2, 0, 3, 4, 5] rfl)
        clear hf
        have hf := hj7
        clear hj7
        refine lv_if_eq (tgt := 101) hx hb dX12_fitting_94 (by decide) (fun hc => ?_) (fun hc => ?_)
        · have hf := ifT hf hc
          refine lv_iconst (v := 0) hx hb dX12_fitting_101 (by decide) ?_
          subst hf
          exact wj7 _ _ _ hw (lv_sub hl [0, 1, 2, 3, 4, 5] rfl)
        · have hf := ifF hf hc
          refine lv_iconst (v := 1) hx hb dX12_fitting_97 (by decide) ?_
          refine lv_goto (tgt := 102) hx hb dX12_fitting_98 (by decide) ?_
          subst hf
          exact wj7 _ _ _ hw (lv_sub hl [0, 1, 2, 3, 4, 5] rfl)
  refine wL1 n ho9 hw (lv_sub hl [2, 3, 1, 0] rfl) (fun H locs ls hw hl => ?_)
  clear wL1 ho9
  refine lv_iload_n hx hb dX12_fitting_134 rfl (lv_at hl 2 rfl) ?_
  have hf := Option.some.inj hf
  subst hf
  exact hR _ _ _ _ _ _ hw rfl ⟨rfl, rfl⟩ dX12_fitting_135
theorem dX12_lone_0 : decode cX12_lone 0 = .ok (.iload_n 1, 1) := by decide +kernel
theorem dX12_lone_1 : decode cX12_lone 1 = .ok (.iconst 0, 1) := by decide +kernel
theorem dX12_lone_2 : decode cX12_lone 2 = .ok (.iconst 3, 1) := by decide +kernel
theorem dX12_lone_3 : decode cX12_lone 3 = .ok (.invokestatic 71, 3) := by decide +kernel
theorem dX12_lone_6 : decode cX12_lone 6 = .ok (.ifCond .ne 5, 3) := by decide +kernel
theorem dX12_lone_9 : decode cX12_lone 9 = .ok (.iconst (-1), 1) := by decide +kernel
theorem dX12_lone_10 : decode cX12_lone 10 = .ok (.ireturn, 1) := by decide +kernel
theorem dX12_lone_11 : decode cX12_lone 11 = .ok (.aload_n 0, 1) := by decide +kernel
theorem dX12_lone_12 : decode cX12_lone 12 = .ok (.iconst (-1), 1) := by decide +kernel
theorem dX12_lone_13 : decode cX12_lone 13 = .ok (.invokevirtual 315, 3) := by decide +kernel
theorem dX12_lone_16 : decode cX12_lone 16 = .ok (.istore_n 2, 1) := by decide +kernel
theorem dX12_lone_17 : decode cX12_lone 17 = .ok (.iload_n 1, 1) := by decide +kernel
theorem dX12_lone_18 : decode cX12_lone 18 = .ok (.ifCond .le 10, 3) := by decide +kernel
theorem dX12_lone_21 : decode cX12_lone 21 = .ok (.iload_n 2, 1) := by decide +kernel
theorem dX12_lone_22 : decode cX12_lone 22 = .ok (.ifCond .ne 6, 3) := by decide +kernel
theorem dX12_lone_25 : decode cX12_lone 25 = .ok (.bipush (-3), 2) := by decide +kernel
theorem dX12_lone_27 : decode cX12_lone 27 = .ok (.ireturn, 1) := by decide +kernel
theorem dX12_lone_28 : decode cX12_lone 28 = .ok (.iload_n 1, 1) := by decide +kernel
theorem dX12_lone_29 : decode cX12_lone 29 = .ok (.ifCond .ne 7, 3) := by decide +kernel
theorem dX12_lone_32 : decode cX12_lone 32 = .ok (.iload_n 2, 1) := by decide +kernel
theorem dX12_lone_33 : decode cX12_lone 33 = .ok (.goto 48, 3) := by decide +kernel
theorem dX12_lone_36 : decode cX12_lone 36 = .ok (.iload_n 1, 1) := by decide +kernel
theorem dX12_lone_37 : decode cX12_lone 37 = .ok (.iconst 1, 1) := by decide +kernel
theorem dX12_lone_38 : decode cX12_lone 38 = .ok (.if_icmp .ne 15, 3) := by decide +kernel
theorem dX12_lone_41 : decode cX12_lone 41 = .ok (.iconst 1, 1) := by decide +kernel
theorem dX12_lone_42 : decode cX12_lone 42 = .ok (.aload_n 0, 1) := by decide +kernel
theorem dX12_lone_43 : decode cX12_lone 43 = .ok (.getfield 306, 3) := by decide +kernel
theorem dX12_lone_46 : decode cX12_lone 46 = .ok (.bipush 100, 2) := by decide +kernel
theorem dX12_lone_48 : decode cX12_lone 48 = .ok (.idiv, 1) := by decide +kernel
theorem dX12_lone_49 : decode cX12_lone 49 = .ok (.iadd, 1) := by decide +kernel
theorem dX12_lone_50 : decode cX12_lone 50 = .ok (.goto 31, 3) := by decide +kernel
theorem dX12_lone_53 : decode cX12_lone 53 = .ok (.iload_n 1, 1) := by decide +kernel
theorem dX12_lone_54 : decode cX12_lone 54 = .ok (.iconst 2, 1) := by decide +kernel
theorem dX12_lone_55 : decode cX12_lone 55 = .ok (.if_icmp .ne 16, 3) := by decide +kernel
theorem dX12_lone_58 : decode cX12_lone 58 = .ok (.aload_n 0, 1) := by decide +kernel
theorem dX12_lone_59 : decode cX12_lone 59 = .ok (.getfield 306, 3) := by decide +kernel
theorem dX12_lone_62 : decode cX12_lone 62 = .ok (.bipush 10, 2) := by decide +kernel
theorem dX12_lone_64 : decode cX12_lone 64 = .ok (.idiv, 1) := by decide +kernel
theorem dX12_lone_65 : decode cX12_lone 65 = .ok (.bipush 10, 2) := by decide +kernel
theorem dX12_lone_67 : decode cX12_lone 67 = .ok (.irem, 1) := by decide +kernel
theorem dX12_lone_68 : decode cX12_lone 68 = .ok (.goto 13, 3) := by decide +kernel
theorem dX12_lone_71 : decode cX12_lone 71 = .ok (.bipush 10, 2) := by decide +kernel
theorem dX12_lone_73 : decode cX12_lone 73 = .ok (.aload_n 0, 1) := by decide +kernel
theorem dX12_lone_74 : decode cX12_lone 74 = .ok (.getfield 306, 3) := by decide +kernel
theorem dX12_lone_77 : decode cX12_lone 77 = .ok (.bipush 10, 2) := by decide +kernel
theorem dX12_lone_79 : decode cX12_lone 79 = .ok (.irem, 1) := by decide +kernel
theorem dX12_lone_80 : decode cX12_lone 80 = .ok (.imul, 1) := by decide +kernel
theorem dX12_lone_81 : decode cX12_lone 81 = .ok (.ireturn, 1) := by decide +kernel
theorem k_X12_lone : MV yX12_lone cX12_lone 3 (some .int) 1 := ⟨q_1569, q_1570, q_14, q_1571, ⟨by decide, by decide, by decide +kernel⟩⟩
theorem c_X12_lone {res : Int32 × (Nat → Int32) × (Nat → Int32) × Int32} (hf : X12_lone n x_s x_lagThen x_shadedThen x_firstFit v1 = some res) : MC l E0 D t yX12_lone cX12_lone 3 (some .int) 4 0 0 [.ref (a 0), .int v1] (mW a t x_s x_kept x_laid x_isKept x_pile x_tape x_taped x_letters x_at x_begun x_token x_value x_opened x_steps x_code0 x_read x_saved x_plan x_bestPlan x_most x_many x_few x_everRight x_lagThen x_shadedThen x_firstFit x_rows x_rowMany x_sorts x_sizes x_number x_holds x_heldOne x_trace x_traced x_own x_isParted) (Qi res.1 (mW a t x_s x_kept x_laid x_isKept x_pile x_tape x_taped x_letters x_at x_begun x_token x_value x_opened x_steps x_code0 x_read x_saved x_plan x_bestPlan x_most x_many x_few x_everRight res.2.1 res.2.2.1 res.2.2.2 x_rows x_rowMany x_sorts x_sizes x_number x_holds x_heldOne x_trace x_traced x_own x_isParted)) := by
  unfold X12_lone at hf
  refine MC.ofI pn_X12 (Nat.le_of_ble_eq_true rfl) ?_
  intro p e s m args below meth c A Q ls cx hR hw hl
  have hx := cx.1
  have hb := cx.2.1
  have hl : lv_has ls 3 [(0, .ref (a 0)), (1, .int v1)] := hl
  refine lv_iload_n hx hb dX12_lone_0 rfl (lv_at hl 1 rfl) ?_
  refine lv_iconst (v := 0) hx hb dX12_lone_1 (by decide) ?_
  refine lv_iconst (v := 3) hx hb dX12_lone_2 (by decide) ?_
  refine calSi cx hw hl.1 (c_X12_in1 rfl) q_1214 k_X12_in1 rfl dX12_lone_3 rfl (Nat.le_of_ble_eq_true rfl) ⟨Nat.le_of_ble_eq_true rfl, Nat.le_of_ble_eq_true rfl⟩ ⟨Nat.le_refl _, Nat.le_refl _⟩ (fun H locs hw => ?_)
  refine lv_if_ne (tgt := 11) hx hb dX12_lone_6 (by decide) (fun hc => ?_) (fun hc => ?_)
  · have hf := ifF hf hc
    refine lv_aload_n hx hb dX12_lone_11 rfl (lv_at hl 0 rfl) ?_
    refine lv_iconst (v := (-1)) hx hb dX12_lone_12 (by decide) ?_
    obtain ⟨r1, h2, hf⟩ := bnS hf
    refine calVi (k := 0) cx hw hl.1 (c_X12_fitting h2) q_1572 k_X12_fitting rfl rfl rfl dX12_lone_13 rfl (Nat.le_of_ble_eq_true rfl) ⟨Nat.le_of_ble_eq_true rfl, Nat.le_of_ble_eq_true rfl⟩ ⟨Nat.le_refl _, Nat.le_refl _⟩ (fun H locs hw => ?_)
    refine lv_istore_n (lv' := [(2, .int r1.1), (0, .ref (a 0)), (1, .int v1)]) hx hb dX12_lone_16 rfl hl (by decide) rfl (fun ls hl => ?_)
    refine lv_iload_n hx hb dX12_lone_17 rfl (lv_at hl 2 rfl) ?_
    obtain ⟨J3, hJ3, hf⟩ := jnS hf
    have wj3 : ∀ (j3 : Unit) (H : Heap) (locs : List Loc) (ls : Array Slot), J3 j3 = some res → Wd D A s (mW a t x_s x_kept x_laid x_isKept x_pile x_tape x_taped x_letters x_at x_begun x_token x_value x_opened x_steps x_code0 x_read x_saved x_plan x_bestPlan x_most x_many x_few x_everRight r1.2.1 r1.2.2.1 r1.2.2.2 x_rows x_rowMany x_sorts x_sizes x_number x_holds x_heldOne x_trace x_traced x_own x_isParted) H locs → lv_has ls 3 [(0, .ref (a 0)), (1, .int v1), (2, .int r1.1)] → W p l e (rmz 4 0 0) s m args below meth c H locs 0 0 Q (F0 m 28 ls []) := by
      intro j3 H locs ls hf hw hl
      have hf := hJ3 _ hf
      refine lv_iload_n hx hb dX12_lone_28 rfl (lv_at hl 1 rfl) ?_
      refine lv_if_ne (tgt := 36) hx hb dX12_lone_29 (by decide) (fun hc => ?_) (fun hc => ?_)
      · have hf := ifF hf hc
        refine lv_iload_n hx hb dX12_lone_36 rfl (lv_at hl 1 rfl) ?_
        refine lv_iconst (v := 1) hx hb dX12_lone_37 (by decide) ?_
        refine lv_icmp_ne (tgt := 53) hx hb dX12_lone_38 (by decide) (fun hc => ?_) (fun hc => ?_)
        · have hf := ifF hf hc
          refine lv_iload_n hx hb dX12_lone_53 rfl (lv_at hl 1 rfl) ?_
          refine lv_iconst (v := 2) hx hb dX12_lone_54 (by decide) ?_
          refine lv_icmp_ne (tgt := 71) hx hb dX12_lone_55 (by decide) (fun hc => ?_) (fun hc => ?_)
          · have hf := ifF hf hc
            refine lv_bipush (v := 10) hx hb dX12_lone_71 (by decide) ?_
            refine lv_aload_n hx hb dX12_lone_73 rfl (lv_at hl 0 rfl) ?_
            refine mg_firstFit cx hw dX12_lone_74 ?_
            refine lv_bipush (v := 10) hx hb dX12_lone_77 (by decide) ?_
            refine lv_irem hx hb dX12_lone_79 (by decide) ?_
            refine lv_imul hx hb dX12_lone_80 ?_
            have hf := Option.some.inj hf
            subst hf
            exact hR _ _ _ _ _ _ hw rfl ⟨rfl, rfl⟩ dX12_lone_81
          · have hf := ifT hf hc
            refine lv_aload_n hx hb dX12_lone_58 rfl (lv_at hl 0 rfl) ?_
            refine mg_firstFit cx hw dX12_lone_59 ?_
            refine lv_bipush (v := 10) hx hb dX12_lone_62 (by decide) ?_
            refine lv_idiv hx hb dX12_lone_64 (by decide) ?_
            refine lv_bipush (v := 10) hx hb dX12_lone_65 (by decide) ?_
            refine lv_irem hx hb dX12_lone_67 (by decide) ?_
            refine lv_goto (tgt := 81) hx hb dX12_lone_68 (by decide) ?_
            have hf := Option.some.inj hf
            subst hf
            exact hR _ _ _ _ _ _ hw rfl ⟨rfl, rfl⟩ dX12_lone_81
        · have hf := ifT hf hc
          refine lv_iconst (v := 1) hx hb dX12_lone_41 (by decide) ?_
          refine lv_aload_n hx hb dX12_lone_42 rfl (lv_at hl 0 rfl) ?_
          refine mg_firstFit cx hw dX12_lone_43 ?_
          refine lv_bipush (v := 100) hx hb dX12_lone_46 (by decide) ?_
          refine lv_idiv hx hb dX12_lone_48 (by decide) ?_
          refine lv_iadd hx hb dX12_lone_49 ?_
          refine lv_goto (tgt := 81) hx hb dX12_lone_50 (by decide) ?_
          have hf := Option.some.inj hf
          subst hf
          exact hR _ _ _ _ _ _ hw rfl ⟨rfl, rfl⟩ dX12_lone_81
      · have hf := ifT hf hc
        refine lv_iload_n hx hb dX12_lone_32 rfl (lv_at hl 2 rfl) ?_
        refine lv_goto (tgt := 81) hx hb dX12_lone_33 (by decide) ?_
        have hf := Option.some.inj hf
        subst hf
        exact hR _ _ _ _ _ _ hw rfl ⟨rfl, rfl⟩ dX12_lone_81
    clear hJ3
    refine lv_if_le (tgt := 28) hx hb dX12_lone_18 (by decide) (fun hc => ?_) (fun hc => ?_)
    · have hf := ifT hf hc
      exact wj3 _ _ _ _ hf hw (lv_sub hl [1, 2, 0] rfl)
    · have hf := ifF hf hc
      refine lv_iload_n hx hb dX12_lone_21 rfl (lv_at hl 0 rfl) ?_
      refine lv_if_ne (tgt := 28) hx hb dX12_lone_22 (by decide) (fun hc => ?_) (fun hc => ?_)
      · have hf := ifF hf hc
        exact wj3 _ _ _ _ hf hw (lv_sub hl [1, 2, 0] rfl)
      · have hf := ifT hf hc
        refine lv_bipush (v := (-3)) hx hb dX12_lone_25 (by decide) ?_
        have hf := Option.some.inj hf
        subst hf
        exact hR _ _ _ _ _ _ hw rfl ⟨rfl, rfl⟩ dX12_lone_27
  · have hf := ifT hf hc
    refine lv_iconst (v := (-1)) hx hb dX12_lone_9 (by decide) ?_
    have hf := Option.some.inj hf
    subst hf
    exact hR _ _ _ _ _ _ hw rfl ⟨rfl, rfl⟩ dX12_lone_10
theorem dX12_liar_0 : decode cX12_liar 0 = .ok (.aload_n 0, 1) := by decide +kernel
theorem dX12_liar_1 : decode cX12_liar 1 = .ok (.iconst (-1), 1) := by decide +kernel
theorem dX12_liar_2 : decode cX12_liar 2 = .ok (.invokevirtual 315, 3) := by decide +kernel
theorem dX12_liar_5 : decode cX12_liar 5 = .ok (.ifCond .le 6, 3) := by decide +kernel
theorem dX12_liar_8 : decode cX12_liar 8 = .ok (.bipush (-3), 2) := by decide +kernel
theorem dX12_liar_10 : decode cX12_liar 10 = .ok (.ireturn, 1) := by decide +kernel
theorem dX12_liar_11 : decode cX12_liar 11 = .ok (.iconst 0, 1) := by decide +kernel
theorem dX12_liar_12 : decode cX12_liar 12 = .ok (.istore_n 1, 1) := by decide +kernel
theorem dX12_liar_13 : decode cX12_liar 13 = .ok (.iload_n 1, 1) := by decide +kernel
theorem dX12_liar_14 : decode cX12_liar 14 = .ok (.aload_n 0, 1) := by decide +kernel
theorem dX12_liar_15 : decode cX12_liar 15 = .ok (.getfield 9, 3) := by decide +kernel
theorem dX12_liar_18 : decode cX12_liar 18 = .ok (.bipush 6, 2) := by decide +kernel
theorem dX12_liar_20 : decode cX12_liar 20 = .ok (.iaload, 1) := by decide +kernel
theorem dX12_liar_21 : decode cX12_liar 21 = .ok (.if_icmp .ge 19, 3) := by decide +kernel
theorem dX12_liar_24 : decode cX12_liar 24 = .ok (.aload_n 0, 1) := by decide +kernel
theorem dX12_liar_25 : decode cX12_liar 25 = .ok (.iload_n 1, 1) := by decide +kernel
theorem dX12_liar_26 : decode cX12_liar 26 = .ok (.invokevirtual 315, 3) := by decide +kernel
theorem dX12_liar_29 : decode cX12_liar 29 = .ok (.ifCond .le 5, 3) := by decide +kernel
theorem dX12_liar_32 : decode cX12_liar 32 = .ok (.iload_n 1, 1) := by decide +kernel
theorem dX12_liar_33 : decode cX12_liar 33 = .ok (.ireturn, 1) := by decide +kernel
theorem dX12_liar_34 : decode cX12_liar 34 = .ok (.iinc 1 1, 3) := by decide +kernel
theorem dX12_liar_37 : decode cX12_liar 37 = .ok (.goto (-24), 3) := by decide +kernel
theorem dX12_liar_40 : decode cX12_liar 40 = .ok (.bipush (-3), 2) := by decide +kernel
theorem dX12_liar_42 : decode cX12_liar 42 = .ok (.ireturn, 1) := by decide +kernel
theorem k_X12_liar : MV yX12_liar cX12_liar 2 (some .int) 0 := ⟨q_1585, q_1586, q_14, q_1587, ⟨by decide, by decide, by decide +kernel⟩⟩
theorem c_X12_liar {res : Int32 × (Nat → Int32) × (Nat → Int32) × Int32} (hf : X12_liar n x_s x_lagThen x_shadedThen = some res) : MC l E0 D t yX12_liar cX12_liar 2 (some .int) 4 0 0 [.ref (a 0)] (mW a t x_s x_kept x_laid x_isKept x_pile x_tape x_taped x_letters x_at x_begun x_token x_value x_opened x_steps x_code0 x_read x_saved x_plan x_bestPlan x_most x_many x_few x_everRight x_lagThen x_shadedThen x_firstFit x_rows x_rowMany x_sorts x_sizes x_number x_holds x_heldOne x_trace x_traced x_own x_isParted) (Qi res.1 (mW a t x_s x_kept x_laid x_isKept x_pile x_tape x_taped x_letters x_at x_begun x_token x_value x_opened x_steps x_code0 x_read x_saved x_plan x_bestPlan x_most x_many x_few x_everRight res.2.1 res.2.2.1 res.2.2.2 x_rows x_rowMany x_sorts x_sizes x_number x_holds x_heldOne x_trace x_traced x_own x_isParted)) := by
  unfold X12_liar at hf
  refine MC.ofI pn_X12 (Nat.le_of_ble_eq_true rfl) ?_
  intro p e s m args below meth c A Q ls cx hR hw hl
  have hx := cx.1
  have hb := cx.2.1
  have hl : lv_has ls 2 [(0, .ref (a 0))] := hl
  refine lv_aload_n hx hb dX12_liar_0 rfl (lv_at hl 0 rfl) ?_
  refine lv_iconst (v := (-1)) hx hb dX12_liar_1 (by decide) ?_
  obtain ⟨r1, h2, hf⟩ := bnS hf
  refine calVi (k := 0) cx hw hl.1 (c_X12_fitting h2) q_1572 k_X12_fitting rfl rfl rfl dX12_liar_2 rfl (Nat.le_of_ble_eq_true rfl) ⟨Nat.le_of_ble_eq_true rfl, Nat.le_of_ble_eq_true rfl⟩ ⟨Nat.le_refl _, Nat.le_refl _⟩ (fun H locs hw => ?_)
  refine lv_if_le (tgt := 11) hx hb dX12_liar_5 (by decide) (fun hc => ?_) (fun hc => ?_)
  · have hf := ifT hf hc
    refine lv_iconst (v := 0) hx hb dX12_liar_11 (by decide) ?_
    refine lv_istore_n (lv' := [(1, .int (0 : Int32)), (0, .ref (a 0))]) hx hb dX12_liar_12 rfl hl (by decide) rfl (fun ls hl => ?_)
    obtain ⟨K1, hK1, hf⟩ := jnS hf
    have kx1 : ∀ (o5 : Int32 × (Nat → Int32) × (Nat → Int32) × Int32) (H : Heap) (locs : List Loc) (ls : Array Slot), K1 o5 = some res → Wd D A s (mW a t x_s x_kept x_laid x_isKept x_pile x_tape x_taped x_letters x_at x_begun x_token x_value x_opened x_steps x_code0 x_read x_saved x_plan x_bestPlan x_most x_many x_few x_everRight o5.2.1 o5.2.2.1 o5.2.2.2 x_rows x_rowMany x_sorts x_sizes x_number x_holds x_heldOne x_trace x_traced x_own x_isParted) H locs → lv_has ls 2 [(0, .ref (a 0)), (1, .int o5.1)] → W p l e (rmz 4 0 0) s m args below meth c H locs 0 0 Q (F0 m 40 ls []) := by
      intro o5 H locs ls hf hw hl
      have hf := hK1 _ hf
      refine lv_bipush (v := (-3)) hx hb dX12_liar_40 (by decide) ?_
      have hf := Option.some.inj hf
      subst hf
      exact hR _ _ _ _ _ _ hw rfl ⟨rfl, rfl⟩ dX12_liar_42
    have wL1 : ∀ (k : Nat) {v1 : Int32} {x_lagThen : Nat → Int32} {x_shadedThen : Nat → Int32} {x_firstFit : Int32} {H : Heap} {locs : List Loc} {ls : Array Slot}, X12_liar_L1 n x_s K1 k v1 x_lagThen x_shadedThen x_firstFit = some res → Wd D A s (mW a t x_s x_kept x_laid x_isKept x_pile x_tape x_taped x_letters x_at x_begun x_token x_value x_opened x_steps x_code0 x_read x_saved x_plan x_bestPlan x_most x_many x_few x_everRight x_lagThen x_shadedThen x_firstFit x_rows x_rowMany x_sorts x_sizes x_number x_holds x_heldOne x_trace x_traced x_own x_isParted) H locs → lv_has ls 2 [(0, .ref (a 0)), (1, .int v1)] → (∀ (o : Int32 × (Nat → Int32) × (Nat → Int32) × Int32) (H : Heap) (locs : List Loc) (ls : Array Slot), K1 o = some res → Wd D A s (mW a t x_s x_kept x_laid x_isKept x_pile x_tape x_taped x_letters x_at x_begun x_token x_value x_opened x_steps x_code0 x_read x_saved x_plan x_bestPlan x_most x_many x_few x_everRight o.2.1 o.2.2.1 o.2.2.2 x_rows x_rowMany x_sorts x_sizes x_number x_holds x_heldOne x_trace x_traced x_own x_isParted) H locs → lv_has ls 2 [(0, .ref (a 0)), (1, .int o.1)] → W p l e (rmz 4 0 0) s m args below meth c H locs 0 0 Q (F0 m 40 ls [])) → W p l e (rmz 4 0 0) s m args below meth c H locs 0 0 Q (F0 m 13 ls []) := by
      clear hf hw hl hK1 kx1
      intro k
      induction k with
      | zero => intro v1 x_lagThen x_shadedThen x_firstFit H locs ls hf hw hl kx; simp [X12_liar_L1] at hf
      | succ k ih =>
        intro v1 x_lagThen x_shadedThen x_firstFit H locs ls hf hw hl kx
        rw [X12_liar_L1] at hf
        refine lv_iload_n hx hb dX12_liar_13 rfl (lv_at hl 1 rfl) ?_
        refine lv_aload_n hx hb dX12_liar_14 rfl (lv_at hl 0 rfl) ?_
        refine mg_s cx hw dX12_liar_15 ?_
        refine lv_bipush (v := 6) hx hb dX12_liar_18 (by decide) ?_
        refine ml_s (j := 6) cx hw (ib_in (by decide)) (by decide) dX12_liar_20 ?_
        refine lv_icmp_ge (tgt := 40) hx hb dX12_liar_21 (by decide) (fun hc => ?_) (fun hc => ?_)
        · have hf := ifT hf hc
          exact kx _ _ _ _ hf hw (lv_sub hl [0, 1] rfl)
        · have hf := ifF hf hc
          refine lv_aload_n hx hb dX12_liar_24 rfl (lv_at hl 0 rfl) ?_
          refine lv_iload_n hx hb dX12_liar_25 rfl (lv_at hl 1 rfl) ?_
          obtain ⟨r3, h4, hf⟩ := bnS hf
          refine calVi (k := 0) cx hw hl.1 (c_X12_fitting h4) q_1572 k_X12_fitting rfl rfl rfl dX12_liar_26 rfl (Nat.le_of_ble_eq_true rfl) ⟨Nat.le_of_ble_eq_true rfl, Nat.le_of_ble_eq_true rfl⟩ ⟨Nat.le_refl _, Nat.le_refl _⟩ (fun H locs hw => ?_)
          refine lv_if_le (tgt := 34) hx hb dX12_liar_29 (by decide) (fun hc => ?_) (fun hc => ?_)
          · have hf := ifT hf hc
            refine lv_iinc (v := (v1 + (1 : Int32))) (lv' := [(1, .int (v1 + (1 : Int32))), (0, .ref (a 0))]) hx hb dX12_liar_34 hl (k := 1) rfl rfl (by decide) rfl (fun ls hl => ?_)
            refine lv_goto (tgt := 13) hx hb dX12_liar_37 (by decide) ?_
            exact ih hf hw (lv_sub hl [1, 0] rfl) kx
          · have hf := ifF hf hc
            refine lv_iload_n hx hb dX12_liar_32 rfl (lv_at hl 1 rfl) ?_
            have hf := Option.some.inj hf
            subst hf
            exact hR _ _ _ _ _ _ hw rfl ⟨rfl, rfl⟩ dX12_liar_33
    exact wL1 n hf hw (lv_sub hl [1, 0] rfl) kx1
  · have hf := ifF hf hc
    refine lv_bipush (v := (-3)) hx hb dX12_liar_8 (by decide) ?_
    have hf := Option.some.inj hf
    subst hf
    exact hR _ _ _ _ _ _ hw rfl ⟨rfl, rfl⟩ dX12_liar_10
end MW4
