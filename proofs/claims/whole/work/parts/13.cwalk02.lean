section CW2
variable {l : Launch} {D : va_G} {t : Nat → ClassId} {a : Nat → Nat} {ar : Nat → Nat → Nat} {n : Nat} {x_q0_dials : Nat → Nat → Int32} {x_q0_spots : Nat → Nat → Int32} {x_q0_skies : Nat → Int32} {x_q0_reports : Nat → Nat → Int32} {x_q0_count : Int32} {x_q0_chime : Int32} {x_q0_end : Int32} {x_q0_score : Int32} {x_q0_reportCount : Int32} {x_q0_z : Int32} {x_q0_rules : Nat} {x_q0_shades : Nat → Int32} {x_q0_facts : Nat → Int32} {x_q1_dials : Nat → Nat → Int32} {x_q1_spots : Nat → Nat → Int32} {x_q1_skies : Nat → Int32} {x_q1_reports : Nat → Nat → Int32} {x_q1_count : Int32} {x_q1_chime : Int32} {x_q1_end : Int32} {x_q1_score : Int32} {x_q1_reportCount : Int32} {x_q1_z : Int32} {x_q1_rules : Nat} {x_q1_shades : Nat → Int32} {x_q1_facts : Nat → Int32} {x_q2_dials : Nat → Nat → Int32} {x_q2_spots : Nat → Nat → Int32} {x_q2_skies : Nat → Int32} {x_q2_reports : Nat → Nat → Int32} {x_q2_count : Int32} {x_q2_chime : Int32} {x_q2_end : Int32} {x_q2_score : Int32} {x_q2_reportCount : Int32} {x_q2_z : Int32} {x_q2_rules : Nat} {x_q2_shades : Nat → Int32} {x_q2_facts : Nat → Int32} {x_isKept : Int32} {x_marks : Nat → Int32} {x_p_first : Nat → Int32} {x_p_steps : Int32} {x_p_most : Int32} {x_p_many : Int32} {x_p_fewest : Int32} {x_p_everRight : Int32} {x_p_opening : Int32} {x_p_rows : Nat → Nat → Int32} {x_p_rowCount : Int32} {x_p_acts : Nat → Int32} {x_p_marks : Nat → Nat → Int32} {x_p_deepest : Int32} {x_p_wanted : Int32} {x_t_length : Int32} {x_t_tape : Nat → Int32} {x_t_words : Nat → Int32} {x_t_places : Nat → Int32} {x_t_at : Int32} {x_t_kinds : Nat → Int32} {x_t_wills : Nat → Int32} {x_t_starts : Nat → Int32} {x_t_code : Nat → Int32} {x_t_count : Int32} {x_t_size : Int32} {x_h_sorts : Nat → Int32} {x_h_lengths : Nat → Int32} {x_h_items : Nat → Nat → Int32} {x_h_held : Nat → Int32} {x_h_things : Nat → Int32} {x_h_sizes : Nat → Int32} {x_h_bodies : Nat → Int32} {x_h_traced : Int32} {x_h_number : Int32} {x_h_spot : Int32} {x_h_parted : Int32} {x_g_count : Nat → Int32} {x_g_kinds : Nat → Nat → Int32} {x_g_wills : Nat → Nat → Int32} {x_g_starts : Nat → Nat → Int32} {x_g_code : Nat → Nat → Int32} {x_g_stack : Nat → Nat → Int32} {x_g_kl : Nat → Nat} {x_g_wl : Nat → Nat} {x_g_sl : Nat → Nat} {x_g_cl : Nat → Nat} {x_nr : Nat}
theorem dX9_isRight_0 : decode cX9_isRight 0 = .ok (.aload_n 0, 1) := by decide +kernel
theorem dX9_isRight_1 : decode cX9_isRight 1 = .ok (.getfield 11, 3) := by decide +kernel
theorem dX9_isRight_4 : decode cX9_isRight 4 = .ok (.iload_n 1, 1) := by decide +kernel
theorem dX9_isRight_5 : decode cX9_isRight 5 = .ok (.aaload, 1) := by decide +kernel
theorem dX9_isRight_6 : decode cX9_isRight 6 = .ok (.iconst 4, 1) := by decide +kernel
theorem dX9_isRight_7 : decode cX9_isRight 7 = .ok (.iaload, 1) := by decide +kernel
theorem dX9_isRight_8 : decode cX9_isRight 8 = .ok (.ifCond .eq 7, 3) := by decide +kernel
theorem dX9_isRight_11 : decode cX9_isRight 11 = .ok (.iconst 1, 1) := by decide +kernel
theorem dX9_isRight_12 : decode cX9_isRight 12 = .ok (.goto 4, 3) := by decide +kernel
theorem dX9_isRight_15 : decode cX9_isRight 15 = .ok (.iconst 0, 1) := by decide +kernel
theorem dX9_isRight_16 : decode cX9_isRight 16 = .ok (.ireturn, 1) := by decide +kernel
theorem k_X9_isRight : MV yX9_isRight cX9_isRight 2 (some .boolean) 1 := ⟨q_440, q_441, q_11, q_442, ⟨by decide, by decide, by decide +kernel⟩⟩
theorem c_X9_isRight_q0 {v1 : Int32} {res : Int32} (hf : X9_isRight_q0 x_q0_dials v1 = some res) : MC l E0 D t yX9_isRight cX9_isRight 2 (some .boolean) 1 0 0 [.ref (a 1), .int v1] (cW a ar t x_q0_dials x_q0_spots x_q0_skies x_q0_reports x_q0_count x_q0_chime x_q0_end x_q0_score x_q0_reportCount x_q0_z x_q0_rules x_q0_shades x_q0_facts x_q1_dials x_q1_spots x_q1_skies x_q1_reports x_q1_count x_q1_chime x_q1_end x_q1_score x_q1_reportCount x_q1_z x_q1_rules x_q1_shades x_q1_facts x_q2_dials x_q2_spots x_q2_skies x_q2_reports x_q2_count x_q2_chime x_q2_end x_q2_score x_q2_reportCount x_q2_z x_q2_rules x_q2_shades x_q2_facts x_isKept x_marks x_p_first x_p_steps x_p_most x_p_many x_p_fewest x_p_everRight x_p_opening x_p_rows x_p_rowCount x_p_acts x_p_marks x_p_deepest x_p_wanted x_t_length x_t_tape x_t_words x_t_places x_t_at x_t_kinds x_t_wills x_t_starts x_t_code x_t_count x_t_size x_h_sorts x_h_lengths x_h_items x_h_held x_h_things x_h_sizes x_h_bodies x_h_traced x_h_number x_h_spot x_h_parted x_g_count x_g_kinds x_g_wills x_g_starts x_g_code x_g_stack x_g_kl x_g_wl x_g_sl x_g_cl x_nr) (Qi res (cW a ar t x_q0_dials x_q0_spots x_q0_skies x_q0_reports x_q0_count x_q0_chime x_q0_end x_q0_score x_q0_reportCount x_q0_z x_q0_rules x_q0_shades x_q0_facts x_q1_dials x_q1_spots x_q1_skies x_q1_reports x_q1_count x_q1_chime x_q1_end x_q1_score x_q1_reportCount x_q1_z x_q1_rules x_q1_shades x_q1_facts x_q2_dials x_q2_spots x_q2_skies x_q2_reports x_q2_count x_q2_chime x_q2_end x_q2_score x_q2_reportCount x_q2_z x_q2_rules x_q2_shades x_q2_facts x_isKept x_marks x_p_first x_p_steps x_p_most x_p_many x_p_fewest x_p_everRight x_p_opening x_p_rows x_p_rowCount x_p_acts x_p_marks x_p_deepest x_p_wanted x_t_length x_t_tape x_t_words x_t_places x_t_at x_t_kinds x_t_wills x_t_starts x_t_code x_t_count x_t_size x_h_sorts x_h_lengths x_h_items x_h_held x_h_things x_h_sizes x_h_bodies x_h_traced x_h_number x_h_spot x_h_parted x_g_count x_g_kinds x_g_wills x_g_starts x_g_code x_g_stack x_g_kl x_g_wl x_g_sl x_g_cl x_nr)) := by
  unfold X9_isRight_q0 at hf
  refine MC.ofI pn_X9 (Nat.le_of_ble_eq_true rfl) ?_
  intro p e s m args below meth c A Q ls cx hR hw hl
  have hx := cx.1
  have hb := cx.2.1
  have hl : lv_has ls 2 [(0, .ref (a 1)), (1, .int v1)] := hl
  refine lv_aload_n hx hb dX9_isRight_0 rfl (lv_at hl 0 rfl) ?_
  refine cg_X9_11_q0 cx hw dX9_isRight_1 ?_
  refine lv_iload_n hx hb dX9_isRight_4 rfl (lv_at hl 1 rfl) ?_
  obtain ⟨h1, hf⟩ := ckS hf
  refine co_q0_dials (j := v1.toNatClampNeg) cx hw (ib_in h1) rfl dX9_isRight_5 ?_
  refine lv_iconst (v := 4) hx hb dX9_isRight_6 (by decide) ?_
  refine cm_q0_dials (j := 4) cx hw (ib_lt h1) (ib_in (by decide)) (by decide) dX9_isRight_7 ?_
  refine lv_if_eq (tgt := 15) hx hb dX9_isRight_8 (by decide) (fun hc => ?_) (fun hc => ?_)
  · have hf := ifT hf hc
    refine lv_iconst (v := 0) hx hb dX9_isRight_15 (by decide) ?_
    have hf := Option.some.inj hf
    subst hf
    exact hR _ _ _ _ _ _ hw rfl ⟨rfl, rfl⟩ dX9_isRight_16
  · have hf := ifF hf hc
    refine lv_iconst (v := 1) hx hb dX9_isRight_11 (by decide) ?_
    refine lv_goto (tgt := 16) hx hb dX9_isRight_12 (by decide) ?_
    have hf := Option.some.inj hf
    subst hf
    exact hR _ _ _ _ _ _ hw rfl ⟨rfl, rfl⟩ dX9_isRight_16
theorem dX9_paysOf_0 : decode cX9_paysOf 0 = .ok (.bipush 9, 2) := by decide +kernel
theorem dX9_paysOf_2 : decode cX9_paysOf 2 = .ok (.aload_n 0, 1) := by decide +kernel
theorem dX9_paysOf_3 : decode cX9_paysOf 3 = .ok (.getfield 11, 3) := by decide +kernel
theorem dX9_paysOf_6 : decode cX9_paysOf 6 = .ok (.iload_n 1, 1) := by decide +kernel
theorem dX9_paysOf_7 : decode cX9_paysOf 7 = .ok (.aaload, 1) := by decide +kernel
theorem dX9_paysOf_8 : decode cX9_paysOf 8 = .ok (.iconst 2, 1) := by decide +kernel
theorem dX9_paysOf_9 : decode cX9_paysOf 9 = .ok (.iaload, 1) := by decide +kernel
theorem dX9_paysOf_10 : decode cX9_paysOf 10 = .ok (.iadd, 1) := by decide +kernel
theorem dX9_paysOf_11 : decode cX9_paysOf 11 = .ok (.aload_n 0, 1) := by decide +kernel
theorem dX9_paysOf_12 : decode cX9_paysOf 12 = .ok (.getfield 11, 3) := by decide +kernel
theorem dX9_paysOf_15 : decode cX9_paysOf 15 = .ok (.iload_n 1, 1) := by decide +kernel
theorem dX9_paysOf_16 : decode cX9_paysOf 16 = .ok (.aaload, 1) := by decide +kernel
theorem dX9_paysOf_17 : decode cX9_paysOf 17 = .ok (.iconst 1, 1) := by decide +kernel
theorem dX9_paysOf_18 : decode cX9_paysOf 18 = .ok (.iaload, 1) := by decide +kernel
theorem dX9_paysOf_19 : decode cX9_paysOf 19 = .ok (.bipush 6, 2) := by decide +kernel
theorem dX9_paysOf_21 : decode cX9_paysOf 21 = .ok (.idiv, 1) := by decide +kernel
theorem dX9_paysOf_22 : decode cX9_paysOf 22 = .ok (.isub, 1) := by decide +kernel
theorem dX9_paysOf_23 : decode cX9_paysOf 23 = .ok (.istore_n 2, 1) := by decide +kernel
theorem dX9_paysOf_24 : decode cX9_paysOf 24 = .ok (.aload_n 0, 1) := by decide +kernel
theorem dX9_paysOf_25 : decode cX9_paysOf 25 = .ok (.iload_n 1, 1) := by decide +kernel
theorem dX9_paysOf_26 : decode cX9_paysOf 26 = .ok (.invokevirtual 71, 3) := by decide +kernel
theorem dX9_paysOf_29 : decode cX9_paysOf 29 = .ok (.ifCond .ne 7, 3) := by decide +kernel
theorem dX9_paysOf_32 : decode cX9_paysOf 32 = .ok (.iload_n 2, 1) := by decide +kernel
theorem dX9_paysOf_33 : decode cX9_paysOf 33 = .ok (.ifCond .ge 7, 3) := by decide +kernel
theorem dX9_paysOf_36 : decode cX9_paysOf 36 = .ok (.iconst 0, 1) := by decide +kernel
theorem dX9_paysOf_37 : decode cX9_paysOf 37 = .ok (.goto 4, 3) := by decide +kernel
theorem dX9_paysOf_40 : decode cX9_paysOf 40 = .ok (.iload_n 2, 1) := by decide +kernel
theorem dX9_paysOf_41 : decode cX9_paysOf 41 = .ok (.ireturn, 1) := by decide +kernel
theorem k_X9_paysOf : MV yX9_paysOf cX9_paysOf 3 (some .int) 1 := ⟨q_436, q_437, q_11, q_438, ⟨by decide, by decide, by decide +kernel⟩⟩
theorem c_X9_paysOf_q0 {v1 : Int32} {res : Int32} (hf : X9_paysOf_q0 x_q0_dials v1 = some res) : MC l E0 D t yX9_paysOf cX9_paysOf 3 (some .int) 2 0 0 [.ref (a 1), .int v1] (cW a ar t x_q0_dials x_q0_spots x_q0_skies x_q0_reports x_q0_count x_q0_chime x_q0_end x_q0_score x_q0_reportCount x_q0_z x_q0_rules x_q0_shades x_q0_facts x_q1_dials x_q1_spots x_q1_skies x_q1_reports x_q1_count x_q1_chime x_q1_end x_q1_score x_q1_reportCount x_q1_z x_q1_rules x_q1_shades x_q1_facts x_q2_dials x_q2_spots x_q2_skies x_q2_reports x_q2_count x_q2_chime x_q2_end x_q2_score x_q2_reportCount x_q2_z x_q2_rules x_q2_shades x_q2_facts x_isKept x_marks x_p_first x_p_steps x_p_most x_p_many x_p_fewest x_p_everRight x_p_opening x_p_rows x_p_rowCount x_p_acts x_p_marks x_p_deepest x_p_wanted x_t_length x_t_tape x_t_words x_t_places x_t_at x_t_kinds x_t_wills x_t_starts x_t_code x_t_count x_t_size x_h_sorts x_h_lengths x_h_items x_h_held x_h_things x_h_sizes x_h_bodies x_h_traced x_h_number x_h_spot x_h_parted x_g_count x_g_kinds x_g_wills x_g_starts x_g_code x_g_stack x_g_kl x_g_wl x_g_sl x_g_cl x_nr) (Qi res (cW a ar t x_q0_dials x_q0_spots x_q0_skies x_q0_reports x_q0_count x_q0_chime x_q0_end x_q0_score x_q0_reportCount x_q0_z x_q0_rules x_q0_shades x_q0_facts x_q1_dials x_q1_spots x_q1_skies x_q1_reports x_q1_count x_q1_chime x_q1_end x_q1_score x_q1_reportCount x_q1_z x_q1_rules x_q1_shades x_q1_facts x_q2_dials x_q2_spots x_q2_skies x_q2_reports x_q2_count x_q2_chime x_q2_end x_q2_score x_q2_reportCount x_q2_z x_q2_rules x_q2_shades x_q2_facts x_isKept x_marks x_p_first x_p_steps x_p_most x_p_many x_p_fewest x_p_everRight x_p_opening x_p_rows x_p_rowCount x_p_acts x_p_marks x_p_deepest x_p_wanted x_t_length x_t_tape x_t_words x_t_places x_t_at x_t_kinds x_t_wills x_t_starts x_t_code x_t_count x_t_size x_h_sorts x_h_lengths x_h_items x_h_held x_h_things x_h_sizes x_h_bodies x_h_traced x_h_number x_h_spot x_h_parted x_g_count x_g_kinds x_g_wills x_g_starts x_g_code x_g_stack x_g_kl x_g_wl x_g_sl x_g_cl x_nr)) := by
  unfold X9_paysOf_q0 at hf
  refine MC.ofI pn_X9 (Nat.le_of_ble_eq_true rfl) ?_
  intro p e s m args below meth c A Q ls cx hR hw hl
  have hx := cx.1
  have hb := cx.2.1
  have hl : lv_has ls 3 [(0, .ref (a 1)), (1, .int v1)] := hl
  refine lv_bipush (v := 9) hx hb dX9_paysOf_0 (by decide) ?_
  refine lv_aload_n hx hb dX9_paysOf_2 rfl (lv_at hl 0 rfl) ?_
  refine cg_X9_11_q0 cx hw dX9_paysOf_3 ?_
  refine lv_iload_n hx hb dX9_paysOf_6 rfl (lv_at hl 1 rfl) ?_
  obtain ⟨h1, hf⟩ := ckS hf
  refine co_q0_dials (j := v1.toNatClampNeg) cx hw (ib_in h1) rfl dX9_paysOf_7 ?_
  refine lv_iconst (v := 2) hx hb dX9_paysOf_8 (by decide) ?_
  refine cm_q0_dials (j := 2) cx hw (ib_lt h1) (ib_in (by decide)) (by decide) dX9_paysOf_9 ?_
  refine lv_iadd hx hb dX9_paysOf_10 ?_
  refine lv_aload_n hx hb dX9_paysOf_11 rfl (lv_at hl 0 rfl) ?_
  refine cg_X9_11_q0 cx hw dX9_paysOf_12 ?_
  refine lv_iload_n hx hb dX9_paysOf_15 rfl (lv_at hl 1 rfl) ?_
  obtain ⟨h2, hf⟩ := ckS hf
  refine co_q0_dials (j := v1.toNatClampNeg) cx hw (ib_in h2) rfl dX9_paysOf_16 ?_
  refine lv_iconst (v := 1) hx hb dX9_paysOf_17 (by decide) ?_
  refine cm_q0_dials (j := 1) cx hw (ib_lt h2) (ib_in (by decide)) (by decide) dX9_paysOf_18 ?_
  refine lv_bipush (v := 6) hx hb dX9_paysOf_19 (by decide) ?_
  refine lv_idiv hx hb dX9_paysOf_21 (by decide) ?_
  refine lv_isub hx hb dX9_paysOf_22 ?_
  obtain ⟨z3, hz, hf⟩ := pbS hf
  refine lv_topi (fun y ey => ?_)
  have ez : z3 = y := hz.symm.trans ey.symm
  subst ez
  refine lv_istore_n (lv' := [(2, .int z3), (0, .ref (a 1)), (1, .int v1)]) hx hb dX9_paysOf_23 rfl hl (by decide) rfl (fun ls hl => ?_)
  refine lv_aload_n hx hb dX9_paysOf_24 rfl (lv_at hl 1 rfl) ?_
  refine lv_iload_n hx hb dX9_paysOf_25 rfl (lv_at hl 2 rfl) ?_
  obtain ⟨r4, h5, hf⟩ := bnS hf
  refine calVi cx hw hl.1 (c_X9_isRight_q0 h5) q_439 k_X9_isRight rfl rv_q0 rfl dX9_paysOf_26 rfl (Nat.le_of_ble_eq_true rfl) ⟨Nat.le_of_ble_eq_true rfl, Nat.le_of_ble_eq_true rfl⟩ ⟨Nat.le_refl _, Nat.le_refl _⟩ (fun H locs hw => ?_)
  obtain ⟨J6, hJ6, hf⟩ := jnS hf
  have wj6 : ∀ (j6 : Unit) (H : Heap) (locs : List Loc) (ls : Array Slot), J6 j6 = some res → Wd D A s (cW a ar t x_q0_dials x_q0_spots x_q0_skies x_q0_reports x_q0_count x_q0_chime x_q0_end x_q0_score x_q0_reportCount x_q0_z x_q0_rules x_q0_shades x_q0_facts x_q1_dials x_q1_spots x_q1_skies x_q1_reports x_q1_count x_q1_chime x_q1_end x_q1_score x_q1_reportCount x_q1_z x_q1_rules x_q1_shades x_q1_facts x_q2_dials x_q2_spots x_q2_skies x_q2_reports x_q2_count x_q2_chime x_q2_end x_q2_score x_q2_reportCount x_q2_z x_q2_rules x_q2_shades x_q2_facts x_isKept x_marks x_p_first x_p_steps x_p_most x_p_many x_p_fewest x_p_everRight x_p_opening x_p_rows x_p_rowCount x_p_acts x_p_marks x_p_deepest x_p_wanted x_t_length x_t_tape x_t_words x_t_places x_t_at x_t_kinds x_t_wills x_t_starts x_t_code x_t_count x_t_size x_h_sorts x_h_lengths x_h_items x_h_held x_h_things x_h_sizes x_h_bodies x_h_traced x_h_number x_h_spot x_h_parted x_g_count x_g_kinds x_g_wills x_g_starts x_g_code x_g_stack x_g_kl x_g_wl x_g_sl x_g_cl x_nr) H locs → lv_has ls 3 [(0, .ref (a 1)), (1, .int v1), (2, .int z3)] → W p l e (rmz 2 0 0) s m args below meth c H locs 0 0 Q (F0 m 36 ls []) := by
    intro j6 H locs ls hf hw hl
    have hf := hJ6 _ hf
    refine lv_iconst (v := 0) hx hb dX9_paysOf_36 (by decide) ?_
    refine lv_goto (tgt := 41) hx hb dX9_paysOf_37 (by decide) ?_
    have hf := Option.some.inj hf
    subst hf
    exact hR _ _ _ _ _ _ hw rfl ⟨rfl, rfl⟩ dX9_paysOf_41
  clear hJ6
  refine lv_if_ne (tgt := 36) hx hb dX9_paysOf_29 (by decide) (fun hc => ?_) (fun hc => ?_)
  · have hf := ifF hf hc
    exact wj6 _ _ _ _ hf hw (lv_sub hl [1, 2, 0] rfl)
  · have hf := ifT hf hc
    refine lv_iload_n hx hb dX9_paysOf_32 rfl (lv_at hl 0 rfl) ?_
    refine lv_if_ge (tgt := 40) hx hb dX9_paysOf_33 (by decide) (fun hc => ?_) (fun hc => ?_)
    · have hf := ifT hf hc
      refine lv_iload_n hx hb dX9_paysOf_40 rfl (lv_at hl 0 rfl) ?_
      have hf := Option.some.inj hf
      subst hf
      exact hR _ _ _ _ _ _ hw rfl ⟨rfl, rfl⟩ dX9_paysOf_41
    · have hf := ifF hf hc
      exact wj6 _ _ _ _ hf hw (lv_sub hl [1, 2, 0] rfl)
theorem dX11_isUnder_0 : decode cX11_isUnder 0 = .ok (.iload_n 1, 1) := by decide +kernel
theorem dX11_isUnder_1 : decode cX11_isUnder 1 = .ok (.ifCond .eq 28, 3) := by decide +kernel
theorem dX11_isUnder_4 : decode cX11_isUnder 4 = .ok (.iload_n 0, 1) := by decide +kernel
theorem dX11_isUnder_5 : decode cX11_isUnder 5 = .ok (.iload_n 1, 1) := by decide +kernel
theorem dX11_isUnder_6 : decode cX11_isUnder 6 = .ok (.if_icmp .eq 23, 3) := by decide +kernel
theorem dX11_isUnder_9 : decode cX11_isUnder 9 = .ok (.iload_n 0, 1) := by decide +kernel
theorem dX11_isUnder_10 : decode cX11_isUnder 10 = .ok (.iconst 3, 1) := by decide +kernel
theorem dX11_isUnder_11 : decode cX11_isUnder 11 = .ok (.if_icmp .ne 8, 3) := by decide +kernel
theorem dX11_isUnder_14 : decode cX11_isUnder 14 = .ok (.iload_n 1, 1) := by decide +kernel
theorem dX11_isUnder_15 : decode cX11_isUnder 15 = .ok (.iconst 2, 1) := by decide +kernel
theorem dX11_isUnder_16 : decode cX11_isUnder 16 = .ok (.if_icmp .eq 13, 3) := by decide +kernel
theorem dX11_isUnder_19 : decode cX11_isUnder 19 = .ok (.iload_n 0, 1) := by decide +kernel
theorem dX11_isUnder_20 : decode cX11_isUnder 20 = .ok (.iconst 5, 1) := by decide +kernel
theorem dX11_isUnder_21 : decode cX11_isUnder 21 = .ok (.if_icmp .ne 12, 3) := by decide +kernel
theorem dX11_isUnder_24 : decode cX11_isUnder 24 = .ok (.iload_n 1, 1) := by decide +kernel
theorem dX11_isUnder_25 : decode cX11_isUnder 25 = .ok (.iconst 4, 1) := by decide +kernel
theorem dX11_isUnder_26 : decode cX11_isUnder 26 = .ok (.if_icmp .ne 7, 3) := by decide +kernel
theorem dX11_isUnder_29 : decode cX11_isUnder 29 = .ok (.iconst 1, 1) := by decide +kernel
theorem dX11_isUnder_30 : decode cX11_isUnder 30 = .ok (.goto 4, 3) := by decide +kernel
theorem dX11_isUnder_33 : decode cX11_isUnder 33 = .ok (.iconst 0, 1) := by decide +kernel
theorem dX11_isUnder_34 : decode cX11_isUnder 34 = .ok (.ireturn, 1) := by decide +kernel
theorem k_X11_isUnder : MS yX11_isUnder cX11_isUnder 2 (some .boolean) 2 := ⟨q_457, q_1, q_458, ⟨by decide, by decide, by decide +kernel⟩⟩
theorem c_X11_isUnder {v0 : Int32} {v1 : Int32} {res : Int32} (hf : X11_isUnder v0 v1 = some res) : MC l E0 D t yX11_isUnder cX11_isUnder 2 (some .boolean) 1 0 0 [.int v0, .int v1] (cW a ar t x_q0_dials x_q0_spots x_q0_skies x_q0_reports x_q0_count x_q0_chime x_q0_end x_q0_score x_q0_reportCount x_q0_z x_q0_rules x_q0_shades x_q0_facts x_q1_dials x_q1_spots x_q1_skies x_q1_reports x_q1_count x_q1_chime x_q1_end x_q1_score x_q1_reportCount x_q1_z x_q1_rules x_q1_shades x_q1_facts x_q2_dials x_q2_spots x_q2_skies x_q2_reports x_q2_count x_q2_chime x_q2_end x_q2_score x_q2_reportCount x_q2_z x_q2_rules x_q2_shades x_q2_facts x_isKept x_marks x_p_first x_p_steps x_p_most x_p_many x_p_fewest x_p_everRight x_p_opening x_p_rows x_p_rowCount x_p_acts x_p_marks x_p_deepest x_p_wanted x_t_length x_t_tape x_t_words x_t_places x_t_at x_t_kinds x_t_wills x_t_starts x_t_code x_t_count x_t_size x_h_sorts x_h_lengths x_h_items x_h_held x_h_things x_h_sizes x_h_bodies x_h_traced x_h_number x_h_spot x_h_parted x_g_count x_g_kinds x_g_wills x_g_starts x_g_code x_g_stack x_g_kl x_g_wl x_g_sl x_g_cl x_nr) (Qi res (cW a ar t x_q0_dials x_q0_spots x_q0_skies x_q0_reports x_q0_count x_q0_chime x_q0_end x_q0_score x_q0_reportCount x_q0_z x_q0_rules x_q0_shades x_q0_facts x_q1_dials x_q1_spots x_q1_skies x_q1_reports x_q1_count x_q1_chime x_q1_end x_q1_score x_q1_reportCount x_q1_z x_q1_rules x_q1_shades x_q1_facts x_q2_dials x_q2_spots x_q2_skies x_q2_reports x_q2_count x_q2_chime x_q2_end x_q2_score x_q2_reportCount x_q2_z x_q2_rules x_q2_shades x_q2_facts x_isKept x_marks x_p_first x_p_steps x_p_most x_p_many x_p_fewest x_p_everRight x_p_opening x_p_rows x_p_rowCount x_p_acts x_p_marks x_p_deepest x_p_wanted x_t_length x_t_tape x_t_words x_t_places x_t_at x_t_kinds x_t_wills x_t_starts x_t_code x_t_count x_t_size x_h_sorts x_h_lengths x_h_items x_h_held x_h_things x_h_sizes x_h_bodies x_h_traced x_h_number x_h_spot x_h_parted x_g_count x_g_kinds x_g_wills x_g_starts x_g_code x_g_stack x_g_kl x_g_wl x_g_sl x_g_cl x_nr)) := by
  unfold X11_isUnder at hf
  refine MC.ofI pn_X11 (Nat.le_of_ble_eq_true rfl) ?_
  intro p e s m args below meth c A Q ls cx hR hw hl
  have hx := cx.1
  have hb := cx.2.1
  have hl : lv_has ls 2 [(0, .int v0), (1, .int v1)] := hl
  refine lv_iload_n hx hb dX11_isUnder_0 rfl (lv_at hl 1 rfl) ?_
  obtain ⟨J2, hJ2, hf⟩ := jnS hf
  have wj2 : ∀ (j2 : Unit) (H : Heap) (locs : List Loc) (ls : Array Slot), J2 j2 = some res → Wd D A s (cW a ar t x_q0_dials x_q0_spots x_q0_skies x_q0_reports x_q0_count x_q0_chime x_q0_end x_q0_score x_q0_reportCount x_q0_z x_q0_rules x_q0_shades x_q0_facts x_q1_dials x_q1_spots x_q1_skies x_q1_reports x_q1_count x_q1_chime x_q1_end x_q1_score x_q1_reportCount x_q1_z x_q1_rules x_q1_shades x_q1_facts x_q2_dials x_q2_spots x_q2_skies x_q2_reports x_q2_count x_q2_chime x_q2_end x_q2_score x_q2_reportCount x_q2_z x_q2_rules x_q2_shades x_q2_facts x_isKept x_marks x_p_first x_p_steps x_p_most x_p_many x_p_fewest x_p_everRight x_p_opening x_p_rows x_p_rowCount x_p_acts x_p_marks x_p_deepest x_p_wanted x_t_length x_t_tape x_t_words x_t_places x_t_at x_t_kinds x_t_wills x_t_starts x_t_code x_t_count x_t_size x_h_sorts x_h_lengths x_h_items x_h_held x_h_things x_h_sizes x_h_bodies x_h_traced x_h_number x_h_spot x_h_parted x_g_count x_g_kinds x_g_wills x_g_starts x_g_code x_g_stack x_g_kl x_g_wl x_g_sl x_g_cl x_nr) H locs → lv_has ls 2 [(0, .int v0), (1, .int v1)] → W p l e (rmz 1 0 0) s m args below meth c H locs 0 0 Q (F0 m 29 ls []) := by
    intro j2 H locs ls hf hw hl
    have hf := hJ2 _ hf
    refine lv_iconst (v := 1) hx hb dX11_isUnder_29 (by decide) ?_
    refine lv_goto (tgt := 34) hx hb dX11_isUnder_30 (by decide) ?_
    have hf := Option.some.inj hf
    subst hf
    exact hR _ _ _ _ _ _ hw rfl ⟨rfl, rfl⟩ dX11_isUnder_34
  clear hJ2
  refine lv_if_eq (tgt := 29) hx hb dX11_isUnder_1 (by decide) (fun hc => ?_) (fun hc => ?_)
  · have hf := ifT hf hc
    exact wj2 _ _ _ _ hf hw (lv_sub hl [0, 1] rfl)
  · have hf := ifF hf hc
    refine lv_iload_n hx hb dX11_isUnder_4 rfl (lv_at hl 0 rfl) ?_
    refine lv_iload_n hx hb dX11_isUnder_5 rfl (lv_at hl 1 rfl) ?_
    refine lv_icmp_eq (tgt := 29) hx hb dX11_isUnder_6 (by decide) (fun hc => ?_) (fun hc => ?_)
    · have hf := ifT hf hc
      exact wj2 _ _ _ _ hf hw (lv_sub hl [0, 1] rfl)
    · have hf := ifF hf hc
      refine lv_iload_n hx hb dX11_isUnder_9 rfl (lv_at hl 0 rfl) ?_
      refine lv_iconst (v := 3) hx hb dX11_isUnder_10 (by decide) ?_
      obtain ⟨J1, hJ1, hf⟩ := jnS hf
      have wj1 : ∀ (j1 : Unit) (H : Heap) (locs : List Loc) (ls : Array Slot), J1 j1 = some res → Wd D A s (cW a ar t x_q0_dials x_q0_spots x_q0_skies x_q0_reports x_q0_count x_q0_chime x_q0_end x_q0_score x_q0_reportCount x_q0_z x_q0_rules x_q0_shades x_q0_facts x_q1_dials x_q1_spots x_q1_skies x_q1_reports x_q1_count x_q1_chime x_q1_end x_q1_score x_q1_reportCount x_q1_z x_q1_rules x_q1_shades x_q1_facts x_q2_dials x_q2_spots x_q2_skies x_q2_reports x_q2_count x_q2_chime x_q2_end x_q2_score x_q2_reportCount x_q2_z x_q2_rules x_q2_shades x_q2_facts x_isKept x_marks x_p_first x_p_steps x_p_most x_p_many x_p_fewest x_p_everRight x_p_opening x_p_rows x_p_rowCount x_p_acts x_p_marks x_p_deepest x_p_wanted x_t_length x_t_tape x_t_words x_t_places x_t_at x_t_kinds x_t_wills x_t_starts x_t_code x_t_count x_t_size x_h_sorts x_h_lengths x_h_items x_h_held x_h_things x_h_sizes x_h_bodies x_h_traced x_h_number x_h_spot x_h_parted x_g_count x_g_kinds x_g_wills x_g_starts x_g_code x_g_stack x_g_kl x_g_wl x_g_sl x_g_cl x_nr) H locs → lv_has ls 2 [(0, .int v0), (1, .int v1)] → W p l e (rmz 1 0 0) s m args below meth c H locs 0 0 Q (F0 m 19 ls []) := by
        intro j1 H locs ls hf hw hl
        have hf := hJ1 _ hf
        refine lv_iload_n hx hb dX11_isUnder_19 rfl (lv_at hl 0 rfl) ?_
        refine lv_iconst (v := 5) hx hb dX11_isUnder_20 (by decide) ?_
        refine lv_icmp_ne (tgt := 33) hx hb dX11_isUnder_21 (by decide) (fun hc => ?_) (fun hc => ?_)
        · have hf := ifF hf hc
          refine lv_iconst (v := 0) hx hb dX11_isUnder_33 (by decide) ?_
          have hf := Option.some.inj hf
          subst hf
          exact hR _ _ _ _ _ _ hw rfl ⟨rfl, rfl⟩ dX11_isUnder_34
        · have hf := ifT hf hc
          refine lv_iload_n hx hb dX11_isUnder_24 rfl (lv_at hl 1 rfl) ?_
          refine lv_iconst (v := 4) hx hb dX11_isUnder_25 (by decide) ?_
          refine lv_icmp_ne (tgt := 33) hx hb dX11_isUnder_26 (by decide) (fun hc => ?_) (fun hc => ?_)
          · have hf := ifF hf hc
            refine lv_iconst (v := 0) hx hb dX11_isUnder_33 (by decide) ?_
            have hf := Option.some.inj hf
            subst hf
            exact hR _ _ _ _ _ _ hw rfl ⟨rfl, rfl⟩ dX11_isUnder_34
          · have hf := ifT hf hc
            exact wj2 _ _ _ _ hf hw (lv_sub hl [0, 1] rfl)
      clear hJ1
      refine lv_icmp_ne (tgt := 19) hx hb dX11_isUnder_11 (by decide) (fun hc => ?_) (fun hc => ?_)
      · have hf := ifF hf hc
        exact wj1 _ _ _ _ hf hw (lv_sub hl [0, 1] rfl)
      · have hf := ifT hf hc
        refine lv_iload_n hx hb dX11_isUnder_14 rfl (lv_at hl 1 rfl) ?_
        refine lv_iconst (v := 2) hx hb dX11_isUnder_15 (by decide) ?_
        refine lv_icmp_eq (tgt := 29) hx hb dX11_isUnder_16 (by decide) (fun hc => ?_) (fun hc => ?_)
        · have hf := ifT hf hc
          exact wj2 _ _ _ _ hf hw (lv_sub hl [0, 1] rfl)
        · have hf := ifF hf hc
          exact wj1 _ _ _ _ hf hw (lv_sub hl [0, 1] rfl)
theorem dX7_holds_0 : decode cX7_holds 0 = .ok (.iconst 0, 1) := by decide +kernel
theorem dX7_holds_1 : decode cX7_holds 1 = .ok (.istore 4, 2) := by decide +kernel
theorem dX7_holds_3 : decode cX7_holds 3 = .ok (.iload_n 1, 1) := by decide +kernel
theorem dX7_holds_4 : decode cX7_holds 4 = .ok (.istore 5, 2) := by decide +kernel
theorem dX7_holds_6 : decode cX7_holds 6 = .ok (.iload 5, 2) := by decide +kernel
theorem dX7_holds_8 : decode cX7_holds 8 = .ok (.iload_n 2, 1) := by decide +kernel
theorem dX7_holds_9 : decode cX7_holds 9 = .ok (.if_icmp .ge 278, 3) := by decide +kernel
theorem dX7_holds_12 : decode cX7_holds 12 = .ok (.iload 4, 2) := by decide +kernel
theorem dX7_holds_14 : decode cX7_holds 14 = .ok (.aload_n 0, 1) := by decide +kernel
theorem dX7_holds_15 : decode cX7_holds 15 = .ok (.getfield 9, 3) := by decide +kernel
theorem dX7_holds_18 : decode cX7_holds 18 = .ok (.arraylength, 1) := by decide +kernel
theorem dX7_holds_19 : decode cX7_holds 19 = .ok (.if_icmp .ge 268, 3) := by decide +kernel
theorem dX7_holds_22 : decode cX7_holds 22 = .ok (.aload_n 0, 1) := by decide +kernel
theorem dX7_holds_23 : decode cX7_holds 23 = .ok (.getfield 28, 3) := by decide +kernel
theorem dX7_holds_26 : decode cX7_holds 26 = .ok (.iload 5, 2) := by decide +kernel
theorem dX7_holds_28 : decode cX7_holds 28 = .ok (.iaload, 1) := by decide +kernel
theorem dX7_holds_29 : decode cX7_holds 29 = .ok (.istore 6, 2) := by decide +kernel
theorem dX7_holds_31 : decode cX7_holds 31 = .ok (.iload 6, 2) := by decide +kernel
theorem dX7_holds_33 : decode cX7_holds 33 = .ok (.sipush 10005, 3) := by decide +kernel
theorem dX7_holds_36 : decode cX7_holds 36 = .ok (.if_icmp .ge 37, 3) := by decide +kernel
theorem dX7_holds_39 : decode cX7_holds 39 = .ok (.aload_n 0, 1) := by decide +kernel
theorem dX7_holds_40 : decode cX7_holds 40 = .ok (.getfield 9, 3) := by decide +kernel
theorem dX7_holds_43 : decode cX7_holds 43 = .ok (.iload 4, 2) := by decide +kernel
theorem dX7_holds_45 : decode cX7_holds 45 = .ok (.iload 6, 2) := by decide +kernel
theorem dX7_holds_47 : decode cX7_holds 47 = .ok (.sipush 10000, 3) := by decide +kernel
theorem dX7_holds_50 : decode cX7_holds 50 = .ok (.if_icmp .ge 8, 3) := by decide +kernel
theorem dX7_holds_53 : decode cX7_holds 53 = .ok (.iload 6, 2) := by decide +kernel
theorem dX7_holds_55 : decode cX7_holds 55 = .ok (.goto 11, 3) := by decide +kernel
theorem dX7_holds_58 : decode cX7_holds 58 = .ok (.aload_n 3, 1) := by decide +kernel
theorem dX7_holds_59 : decode cX7_holds 59 = .ok (.iload 6, 2) := by decide +kernel
theorem dX7_holds_61 : decode cX7_holds 61 = .ok (.sipush 10000, 3) := by decide +kernel
theorem dX7_holds_64 : decode cX7_holds 64 = .ok (.isub, 1) := by decide +kernel
theorem dX7_holds_65 : decode cX7_holds 65 = .ok (.iaload, 1) := by decide +kernel
theorem dX7_holds_66 : decode cX7_holds 66 = .ok (.iastore, 1) := by decide +kernel
theorem dX7_holds_67 : decode cX7_holds 67 = .ok (.iinc 4 1, 3) := by decide +kernel
theorem dX7_holds_70 : decode cX7_holds 70 = .ok (.goto 211, 3) := by decide +kernel
theorem dX7_holds_73 : decode cX7_holds 73 = .ok (.iload 6, 2) := by decide +kernel
theorem dX7_holds_75 : decode cX7_holds 75 = .ok (.sipush 10008, 3) := by decide +kernel
theorem dX7_holds_78 : decode cX7_holds 78 = .ok (.if_icmp .ne 32, 3) := by decide +kernel
theorem dX7_holds_81 : decode cX7_holds 81 = .ok (.iload 4, 2) := by decide +kernel
theorem dX7_holds_83 : decode cX7_holds 83 = .ok (.iconst 1, 1) := by decide +kernel
theorem dX7_holds_84 : decode cX7_holds 84 = .ok (.if_icmp .lt 26, 3) := by decide +kernel
theorem dX7_holds_87 : decode cX7_holds 87 = .ok (.aload_n 0, 1) := by decide +kernel
theorem dX7_holds_88 : decode cX7_holds 88 = .ok (.getfield 9, 3) := by decide +kernel
theorem dX7_holds_91 : decode cX7_holds 91 = .ok (.iload 4, 2) := by decide +kernel
theorem dX7_holds_93 : decode cX7_holds 93 = .ok (.iconst 1, 1) := by decide +kernel
theorem dX7_holds_94 : decode cX7_holds 94 = .ok (.isub, 1) := by decide +kernel
theorem dX7_holds_95 : decode cX7_holds 95 = .ok (.iconst 1, 1) := by decide +kernel
theorem dX7_holds_96 : decode cX7_holds 96 = .ok (.aload_n 0, 1) := by decide +kernel
theorem dX7_holds_97 : decode cX7_holds 97 = .ok (.getfield 9, 3) := by decide +kernel
theorem dX7_holds_100 : decode cX7_holds 100 = .ok (.iload 4, 2) := by decide +kernel
theorem dX7_holds_102 : decode cX7_holds 102 = .ok (.iconst 1, 1) := by decide +kernel
theorem dX7_holds_103 : decode cX7_holds 103 = .ok (.isub, 1) := by decide +kernel
theorem dX7_holds_104 : decode cX7_holds 104 = .ok (.iaload, 1) := by decide +kernel
theorem dX7_holds_105 : decode cX7_holds 105 = .ok (.isub, 1) := by decide +kernel
theorem dX7_holds_106 : decode cX7_holds 106 = .ok (.iastore, 1) := by decide +kernel
theorem dX7_holds_107 : decode cX7_holds 107 = .ok (.goto 174, 3) := by decide +kernel
theorem dX7_holds_110 : decode cX7_holds 110 = .ok (.iload 6, 2) := by decide +kernel
theorem dX7_holds_112 : decode cX7_holds 112 = .ok (.sipush 10008, 3) := by decide +kernel
theorem dX7_holds_115 : decode cX7_holds 115 = .ok (.if_icmp .eq 166, 3) := by decide +kernel
theorem dX7_holds_118 : decode cX7_holds 118 = .ok (.iload 4, 2) := by decide +kernel
theorem dX7_holds_120 : decode cX7_holds 120 = .ok (.iconst 2, 1) := by decide +kernel
theorem dX7_holds_121 : decode cX7_holds 121 = .ok (.if_icmp .lt 160, 3) := by decide +kernel
theorem dX7_holds_124 : decode cX7_holds 124 = .ok (.iinc 4 (-1), 3) := by decide +kernel
theorem dX7_holds_127 : decode cX7_holds 127 = .ok (.aload_n 0, 1) := by decide +kernel
theorem dX7_holds_128 : decode cX7_holds 128 = .ok (.getfield 9, 3) := by decide +kernel
theorem dX7_holds_131 : decode cX7_holds 131 = .ok (.iload 4, 2) := by decide +kernel
theorem dX7_holds_133 : decode cX7_holds 133 = .ok (.iconst 1, 1) := by decide +kernel
theorem dX7_holds_134 : decode cX7_holds 134 = .ok (.isub, 1) := by decide +kernel
theorem dX7_holds_135 : decode cX7_holds 135 = .ok (.iaload, 1) := by decide +kernel
theorem dX7_holds_136 : decode cX7_holds 136 = .ok (.istore 7, 2) := by decide +kernel
theorem dX7_holds_138 : decode cX7_holds 138 = .ok (.aload_n 0, 1) := by decide +kernel
theorem dX7_holds_139 : decode cX7_holds 139 = .ok (.getfield 9, 3) := by decide +kernel
theorem dX7_holds_142 : decode cX7_holds 142 = .ok (.iload 4, 2) := by decide +kernel
theorem dX7_holds_144 : decode cX7_holds 144 = .ok (.iaload, 1) := by decide +kernel
theorem dX7_holds_145 : decode cX7_holds 145 = .ok (.istore 8, 2) := by decide +kernel
theorem dX7_holds_147 : decode cX7_holds 147 = .ok (.iload 6, 2) := by decide +kernel
theorem dX7_holds_149 : decode cX7_holds 149 = .ok (.sipush 10005, 3) := by decide +kernel
theorem dX7_holds_152 : decode cX7_holds 152 = .ok (.if_icmp .ne 18, 3) := by decide +kernel
theorem dX7_holds_155 : decode cX7_holds 155 = .ok (.iload 7, 2) := by decide +kernel
theorem dX7_holds_157 : decode cX7_holds 157 = .ok (.iload 8, 2) := by decide +kernel
theorem dX7_holds_159 : decode cX7_holds 159 = .ok (.if_icmp .ge 7, 3) := by decide +kernel
theorem dX7_holds_162 : decode cX7_holds 162 = .ok (.iconst 1, 1) := by decide +kernel
theorem dX7_holds_163 : decode cX7_holds 163 = .ok (.goto 42, 3) := by decide +kernel
theorem dX7_holds_166 : decode cX7_holds 166 = .ok (.iconst 0, 1) := by decide +kernel
theorem dX7_holds_167 : decode cX7_holds 167 = .ok (.goto 38, 3) := by decide +kernel
theorem dX7_holds_170 : decode cX7_holds 170 = .ok (.iload 6, 2) := by decide +kernel
theorem dX7_holds_172 : decode cX7_holds 172 = .ok (.sipush 10006, 3) := by decide +kernel
theorem dX7_holds_175 : decode cX7_holds 175 = .ok (.if_icmp .ne 18, 3) := by decide +kernel
theorem dX7_holds_178 : decode cX7_holds 178 = .ok (.iload 7, 2) := by decide +kernel
theorem dX7_holds_180 : decode cX7_holds 180 = .ok (.iload 8, 2) := by decide +kernel
theorem dX7_holds_182 : decode cX7_holds 182 = .ok (.if_icmp .ne 7, 3) := by decide +kernel
theorem dX7_holds_185 : decode cX7_holds 185 = .ok (.iconst 1, 1) := by decide +kernel
theorem dX7_holds_186 : decode cX7_holds 186 = .ok (.goto 19, 3) := by decide +kernel
theorem dX7_holds_189 : decode cX7_holds 189 = .ok (.iconst 0, 1) := by decide +kernel
theorem dX7_holds_190 : decode cX7_holds 190 = .ok (.goto 15, 3) := by decide +kernel
theorem dX7_holds_193 : decode cX7_holds 193 = .ok (.iload 7, 2) := by decide +kernel
theorem dX7_holds_195 : decode cX7_holds 195 = .ok (.iload 8, 2) := by decide +kernel
theorem dX7_holds_197 : decode cX7_holds 197 = .ok (.if_icmp .le 7, 3) := by decide +kernel
theorem dX7_holds_200 : decode cX7_holds 200 = .ok (.iconst 1, 1) := by decide +kernel
theorem dX7_holds_201 : decode cX7_holds 201 = .ok (.goto 4, 3) := by decide +kernel
theorem dX7_holds_204 : decode cX7_holds 204 = .ok (.iconst 0, 1) := by decide +kernel
theorem dX7_holds_205 : decode cX7_holds 205 = .ok (.istore 9, 2) := by decide +kernel
theorem dX7_holds_207 : decode cX7_holds 207 = .ok (.iload 6, 2) := by decide +kernel
theorem dX7_holds_209 : decode cX7_holds 209 = .ok (.sipush 10009, 3) := by decide +kernel
theorem dX7_holds_212 : decode cX7_holds 212 = .ok (.if_icmp .ne 19, 3) := by decide +kernel
theorem dX7_holds_215 : decode cX7_holds 215 = .ok (.iload 7, 2) := by decide +kernel
theorem dX7_holds_217 : decode cX7_holds 217 = .ok (.iload 8, 2) := by decide +kernel
theorem dX7_holds_219 : decode cX7_holds 219 = .ok (.iand, 1) := by decide +kernel
theorem dX7_holds_220 : decode cX7_holds 220 = .ok (.ifCond .eq 7, 3) := by decide +kernel
theorem dX7_holds_223 : decode cX7_holds 223 = .ok (.iconst 1, 1) := by decide +kernel
theorem dX7_holds_224 : decode cX7_holds 224 = .ok (.goto 20, 3) := by decide +kernel
theorem dX7_holds_227 : decode cX7_holds 227 = .ok (.iconst 0, 1) := by decide +kernel
theorem dX7_holds_228 : decode cX7_holds 228 = .ok (.goto 16, 3) := by decide +kernel
theorem dX7_holds_231 : decode cX7_holds 231 = .ok (.iload 7, 2) := by decide +kernel
theorem dX7_holds_233 : decode cX7_holds 233 = .ok (.iload 8, 2) := by decide +kernel
theorem dX7_holds_235 : decode cX7_holds 235 = .ok (.ior, 1) := by decide +kernel
theorem dX7_holds_236 : decode cX7_holds 236 = .ok (.ifCond .eq 7, 3) := by decide +kernel
theorem dX7_holds_239 : decode cX7_holds 239 = .ok (.iconst 1, 1) := by decide +kernel
theorem dX7_holds_240 : decode cX7_holds 240 = .ok (.goto 4, 3) := by decide +kernel
theorem dX7_holds_243 : decode cX7_holds 243 = .ok (.iconst 0, 1) := by decide +kernel
theorem dX7_holds_244 : decode cX7_holds 244 = .ok (.istore 10, 2) := by decide +kernel
theorem dX7_holds_246 : decode cX7_holds 246 = .ok (.aload_n 0, 1) := by decide +kernel
theorem dX7_holds_247 : decode cX7_holds 247 = .ok (.getfield 9, 3) := by decide +kernel
theorem dX7_holds_250 : decode cX7_holds 250 = .ok (.iload 4, 2) := by decide +kernel
theorem dX7_holds_252 : decode cX7_holds 252 = .ok (.iconst 1, 1) := by decide +kernel
theorem dX7_holds_253 : decode cX7_holds 253 = .ok (.isub, 1) := by decide +kernel
theorem dX7_holds_254 : decode cX7_holds 254 = .ok (.iload 6, 2) := by decide +kernel
theorem dX7_holds_256 : decode cX7_holds 256 = .ok (.sipush 10007, 3) := by decide +kernel
theorem dX7_holds_259 : decode cX7_holds 259 = .ok (.if_icmp .gt 11, 3) := by decide +kernel
theorem dX7_holds_262 : decode cX7_holds 262 = .ok (.iload 9, 2) := by decide +kernel
theorem dX7_holds_264 : decode cX7_holds 264 = .ok (.ifCond .eq 15, 3) := by decide +kernel
theorem dX7_holds_267 : decode cX7_holds 267 = .ok (.goto 8, 3) := by decide +kernel
theorem dX7_holds_270 : decode cX7_holds 270 = .ok (.iload 10, 2) := by decide +kernel
theorem dX7_holds_272 : decode cX7_holds 272 = .ok (.ifCond .eq 7, 3) := by decide +kernel
theorem dX7_holds_275 : decode cX7_holds 275 = .ok (.iconst 1, 1) := by decide +kernel
theorem dX7_holds_276 : decode cX7_holds 276 = .ok (.goto 4, 3) := by decide +kernel
theorem dX7_holds_279 : decode cX7_holds 279 = .ok (.iconst 0, 1) := by decide +kernel
theorem dX7_holds_280 : decode cX7_holds 280 = .ok (.iastore, 1) := by decide +kernel
theorem dX7_holds_281 : decode cX7_holds 281 = .ok (.iinc 5 1, 3) := by decide +kernel
theorem dX7_holds_284 : decode cX7_holds 284 = .ok (.goto (-278), 3) := by decide +kernel
theorem dX7_holds_287 : decode cX7_holds 287 = .ok (.iload 4, 2) := by decide +kernel
theorem dX7_holds_289 : decode cX7_holds 289 = .ok (.ifCond .eq 12, 3) := by decide +kernel
theorem dX7_holds_292 : decode cX7_holds 292 = .ok (.aload_n 0, 1) := by decide +kernel
theorem dX7_holds_293 : decode cX7_holds 293 = .ok (.getfield 9, 3) := by decide +kernel
theorem dX7_holds_296 : decode cX7_holds 296 = .ok (.iconst 0, 1) := by decide +kernel
theorem dX7_holds_297 : decode cX7_holds 297 = .ok (.iaload, 1) := by decide +kernel
theorem dX7_holds_298 : decode cX7_holds 298 = .ok (.ifCond .eq 7, 3) := by decide +kernel
theorem dX7_holds_301 : decode cX7_holds 301 = .ok (.iconst 1, 1) := by decide +kernel
theorem dX7_holds_302 : decode cX7_holds 302 = .ok (.goto 4, 3) := by decide +kernel
theorem dX7_holds_305 : decode cX7_holds 305 = .ok (.iconst 0, 1) := by decide +kernel
theorem dX7_holds_306 : decode cX7_holds 306 = .ok (.ireturn, 1) := by decide +kernel
theorem k_X7_holds : MV yX7_holds cX7_holds 11 (some .boolean) 3 := ⟨q_461, qs_0, q_10, q_462, ⟨by decide, by decide, by decide +kernel⟩⟩
theorem c_X7_holds_f0 {v0 : Nat} {v1 : Int32} {v2 : Int32} (hv0 : v0 < x_nr) {res : Int32 × (Nat → Nat → Int32)} (hf : X7_holds_f0 n x_q0_facts x_g_code x_g_stack x_g_cl v0 v1 v2 = some res) : MC l E0 D t yX7_holds cX7_holds 11 (some .boolean) 1 0 0 [.ref (ar v0 0), .int v1, .int v2, .ref (a 25)] (cW a ar t x_q0_dials x_q0_spots x_q0_skies x_q0_reports x_q0_count x_q0_chime x_q0_end x_q0_score x_q0_reportCount x_q0_z x_q0_rules x_q0_shades x_q0_facts x_q1_dials x_q1_spots x_q1_skies x_q1_reports x_q1_count x_q1_chime x_q1_end x_q1_score x_q1_reportCount x_q1_z x_q1_rules x_q1_shades x_q1_facts x_q2_dials x_q2_spots x_q2_skies x_q2_reports x_q2_count x_q2_chime x_q2_end x_q2_score x_q2_reportCount x_q2_z x_q2_rules x_q2_shades x_q2_facts x_isKept x_marks x_p_first x_p_steps x_p_most x_p_many x_p_fewest x_p_everRight x_p_opening x_p_rows x_p_rowCount x_p_acts x_p_marks x_p_deepest x_p_wanted x_t_length x_t_tape x_t_words x_t_places x_t_at x_t_kinds x_t_wills x_t_starts x_t_code x_t_count x_t_size x_h_sorts x_h_lengths x_h_items x_h_held x_h_things x_h_sizes x_h_bodies x_h_traced x_h_number x_h_spot x_h_parted x_g_count x_g_kinds x_g_wills x_g_starts x_g_code x_g_stack x_g_kl x_g_wl x_g_sl x_g_cl x_nr) (Qi res.1 (cW a ar t x_q0_dials x_q0_spots x_q0_skies x_q0_reports x_q0_count x_q0_chime x_q0_end x_q0_score x_q0_reportCount x_q0_z x_q0_rules x_q0_shades x_q0_facts x_q1_dials x_q1_spots x_q1_skies x_q1_reports x_q1_count x_q1_chime x_q1_end x_q1_score x_q1_reportCount x_q1_z x_q1_rules x_q1_shades x_q1_facts x_q2_dials x_q2_spots x_q2_skies x_q2_reports x_q2_count x_q2_chime x_q2_end x_q2_score x_q2_reportCount x_q2_z x_q2_rules x_q2_shades x_q2_facts x_isKept x_marks x_p_first x_p_steps x_p_most x_p_many x_p_fewest x_p_everRight x_p_opening x_p_rows x_p_rowCount x_p_acts x_p_marks x_p_deepest x_p_wanted x_t_length x_t_tape x_t_words x_t_places x_t_at x_t_kinds x_t_wills x_t_starts x_t_code x_t_count x_t_size x_h_sorts x_h_lengths x_h_items x_h_held x_h_things x_h_sizes x_h_bodies x_h_traced x_h_number x_h_spot x_h_parted x_g_count x_g_kinds x_g_wills x_g_starts x_g_code res.2 x_g_kl x_g_wl x_g_sl x_g_cl x_nr)) := by
  unfold X7_holds_f0 at hf
  refine MC.ofI pn_X7 (Nat.le_of_ble_eq_true rfl) ?_
  intro p e s m args below meth c A Q ls cx hR hw hl
  have hx := cx.1
  have hb := cx.2.1
  have hl : lv_has ls 11 [(0, .ref (ar v0 0)), (1, .int v1), (2, .int v2), (3, .ref (a 25))] := hl
  refine lv_iconst (v := 0) hx hb dX7_holds_0 (by decide) ?_
  refine lv_istore (lv' := [(4, .int (0 : Int32)), (0, .ref (ar v0 0)), (1, .int v1), (2, .int v2), (3, .ref (a 25))]) hx hb dX7_holds_1 hl (by decide) rfl (fun ls hl => ?_)
  refine lv_iload_n hx hb dX7_holds_3 rfl (lv_at hl 2 rfl) ?_
  refine lv_istore (lv' := [(5, .int v1), (4, .int (0 : Int32)), (0, .ref (ar v0 0)), (1, .int v1), (2, .int v2), (3, .ref (a 25))]) hx hb dX7_holds_4 hl (by decide) rfl (fun ls hl => ?_)
  obtain ⟨o15, ho15, hf⟩ := bnS hf
  have wL1 : ∀ (k : Nat) {v1 : Int32} {v2 : Int32} {v4 : Int32} {v5 : Int32} {x_g_stack : Nat → Nat → Int32} {H : Heap} {locs : List Loc} {ls : Array Slot} {o : Int32 × Int32 × (Nat → Nat → Int32)}, X7_holds_f0_L1 n x_q0_facts x_g_code x_g_cl v0 v2 k v4 v5 x_g_stack = some o → Wd D A s (cW a ar t x_q0_dials x_q0_spots x_q0_skies x_q0_reports x_q0_count x_q0_chime x_q0_end x_q0_score x_q0_reportCount x_q0_z x_q0_rules x_q0_shades x_q0_facts x_q1_dials x_q1_spots x_q1_skies x_q1_reports x_q1_count x_q1_chime x_q1_end x_q1_score x_q1_reportCount x_q1_z x_q1_rules x_q1_shades x_q1_facts x_q2_dials x_q2_spots x_q2_skies x_q2_reports x_q2_count x_q2_chime x_q2_end x_q2_score x_q2_reportCount x_q2_z x_q2_rules x_q2_shades x_q2_facts x_isKept x_marks x_p_first x_p_steps x_p_most x_p_many x_p_fewest x_p_everRight x_p_opening x_p_rows x_p_rowCount x_p_acts x_p_marks x_p_deepest x_p_wanted x_t_length x_t_tape x_t_words x_t_places x_t_at x_t_kinds x_t_wills x_t_starts x_t_code x_t_count x_t_size x_h_sorts x_h_lengths x_h_items x_h_held x_h_things x_h_sizes x_h_bodies x_h_traced x_h_number x_h_spot x_h_parted x_g_count x_g_kinds x_g_wills x_g_starts x_g_code x_g_stack x_g_kl x_g_wl x_g_sl x_g_cl x_nr) H locs → lv_has ls 11 [(0, .ref (ar v0 0)), (1, .int v1), (2, .int v2), (3, .ref (a 25)), (4, .int v4), (5, .int v5)] → (∀ (H : Heap) (locs : List Loc) (ls : Array Slot), Wd D A s (cW a ar t x_q0_dials x_q0_spots x_q0_skies x_q0_reports x_q0_count x_q0_chime x_q0_end x_q0_score x_q0_reportCount x_q0_z x_q0_rules x_q0_shades x_q0_facts x_q1_dials x_q1_spots x_q1_skies x_q1_reports x_q1_count x_q1_chime x_q1_end x_q1_score x_q1_reportCount x_q1_z x_q1_rules x_q1_shades x_q1_facts x_q2_dials x_q2_spots x_q2_skies x_q2_reports x_q2_count x_q2_chime x_q2_end x_q2_score x_q2_reportCount x_q2_z x_q2_rules x_q2_shades x_q2_facts x_isKept x_marks x_p_first x_p_steps x_p_most x_p_many x_p_fewest x_p_everRight x_p_opening x_p_rows x_p_rowCount x_p_acts x_p_marks x_p_deepest x_p_wanted x_t_length x_t_tape x_t_words x_t_places x_t_at x_t_kinds x_t_wills x_t_starts x_t_code x_t_count x_t_size x_h_sorts x_h_lengths x_h_items x_h_held x_h_things x_h_sizes x_h_bodies x_h_traced x_h_number x_h_spot x_h_parted x_g_count x_g_kinds x_g_wills x_g_starts x_g_code o.2.2 x_g_kl x_g_wl x_g_sl x_g_cl x_nr) H locs → lv_has ls 11 [(0, .ref (ar v0 0)), (1, .int v1), (2, .int v2), (3, .ref (a 25)), (4, .int o.1), (5, .int o.2.1)] → W p l e (rmz 1 0 0) s m args below meth c H locs 0 0 Q (F0 m 287 ls [])) → W p l e (rmz 1 0 0) s m args below meth c H locs 0 0 Q (F0 m 6 ls []) := by
    clear hf ho15 hw hl
    intro k
    induction k with
    | zero => intro v1 v2 v4 v5 x_g_stack H locs ls o hf hw hl kx; simp [X7_holds_f0_L1] at hf
    | succ k ih =>
      intro v1 v2 v4 v5 x_g_stack H locs ls o hf hw hl kx
      rw [X7_holds_f0_L1] at hf
      refine lv_iload hx hb dX7_holds_6 (lv_at hl 5 rfl) ?_
      refine lv_iload_n hx hb dX7_holds_8 rfl (lv_at hl 2 rfl) ?_
      refine lv_icmp_ge (tgt := 287) hx hb dX7_holds_9 (by decide) (fun hc => ?_) (fun hc => ?_)
      · have hf := ifT hf hc
        have hf := Option.some.inj hf
        subst hf
        exact kx _ _ _ hw (lv_sub hl [0, 1, 2, 3, 4, 5] rfl)
      · have hf := ifF hf hc
        refine lv_iload hx hb dX7_holds_12 (lv_at hl 4 rfl) ?_
        refine lv_aload_n hx hb dX7_holds_14 rfl (lv_at hl 0 rfl) ?_
        refine cg_X7_9_r cx hw hv0 dX7_holds_15 ?_
        refine cn_stack cx hw hv0 dX7_holds_18 ?_
        refine lv_icmp_ge (tgt := 287) hx hb dX7_holds_19 (by decide) (fun hc => ?_) (fun hc => ?_)
        · have hf := ifT hf hc
          have hf := Option.some.inj hf
          subst hf
          exact kx _ _ _ hw (lv_sub hl [0, 1, 2, 3, 4, 5] rfl)
        · have hf := ifF hf hc
          refine lv_aload_n hx hb dX7_holds_22 rfl (lv_at hl 0 rfl) ?_
          refine cg_X7_28_r cx hw hv0 dX7_holds_23 ?_
          refine lv_iload hx hb dX7_holds_26 (lv_at hl 5 rfl) ?_
          obtain ⟨h1, hf⟩ := ckS hf
          refine cr_code (j := v5.toNatClampNeg) cx hw hv0 (ib_in h1) rfl dX7_holds_28 ?_
          refine lv_istore (lv' := [(6, .int (x_g_code v0 v5.toNatClampNeg)), (0, .ref (ar v0 0)), (1, .int v1), (2, .int v2), (3, .ref (a 25)), (4, .int v4), (5, .int v5)]) hx hb dX7_holds_29 hl (by decide) rfl (fun ls hl => ?_)
          refine lv_iload hx hb dX7_holds_31 (lv_at hl 0 rfl) ?_
          refine lv_sipush (v := 10005) hx hb dX7_holds_33 (by decide) ?_
          obtain ⟨j14, hj14, hf⟩ := bnS hf
          have wj14 : ∀ (H : Heap) (locs : List Loc) (ls : Array Slot), Wd D A s (cW a ar t x_q0_dials x_q0_spots x_q0_skies x_q0_reports x_q0_count x_q0_chime x_q0_end x_q0_score x_q0_reportCount x_q0_z x_q0_rules x_q0_shades x_q0_facts x_q1_dials x_q1_spots x_q1_skies x_q1_reports x_q1_count x_q1_chime x_q1_end x_q1_score x_q1_reportCount x_q1_z x_q1_rules x_q1_shades x_q1_facts x_q2_dials x_q2_spots x_q2_skies x_q2_reports x_q2_count x_q2_chime x_q2_end x_q2_score x_q2_reportCount x_q2_z x_q2_rules x_q2_shades x_q2_facts x_isKept x_marks x_p_first x_p_steps x_p_most x_p_many x_p_fewest x_p_everRight x_p_opening x_p_rows x_p_rowCount x_p_acts x_p_marks x_p_deepest x_p_wanted x_t_length x_t_tape x_t_words x_t_places x_t_at x_t_kinds x_t_wills x_t_starts x_t_code x_t_count x_t_size x_h_sorts x_h_lengths x_h_items x_h_held x_h_things x_h_sizes x_h_bodies x_h_traced x_h_number x_h_spot x_h_parted x_g_count x_g_kinds x_g_wills x_g_starts x_g_code j14.2 x_g_kl x_g_wl x_g_sl x_g_cl x_nr) H locs → lv_has ls 11 [(0, .ref (ar v0 0)), (1, .int v1), (2, .int v2), (3, .ref (a 25)), (4, .int j14.1), (5, .int v5), (6, .int (x_g_code v0 v5.toNatClampNeg))] → W p l e (rmz 1 0 0) s m args below meth c H locs 0 0 Q (F0 m 281 ls []) := by
            intro H locs ls hw hl
            refine lv_iinc (v := (v5 + (1 : Int32))) (lv' := [(5, .int (v5 + (1 : Int32))), (0, .ref (ar v0 0)), (1, .int v1), (2, .int v2), (3, .ref (a 25)), (4, .int j14.1), (6, .int (x_g_code v0 v5.toNatClampNeg))]) hx hb dX7_holds_281 hl (k := 5) rfl rfl (by decide) rfl (fun ls hl => ?_)
            refine lv_goto (tgt := 6) hx hb dX7_holds_284 (by decide) ?_
            exact ih hf hw (lv_sub hl [1, 2, 3, 4, 5, 0] rfl) kx
          clear hf
          have hf := hj14
          clear hj14
          refine lv_icmp_ge (tgt := 73) hx hb dX7_holds_36 (by decide) (fun hc => ?_) (fun hc => ?_)
          · have hf := ifT hf hc
            refine lv_iload hx hb dX7_holds_73 (lv_at hl 0 rfl) ?_
            refine lv_sipush (v := 10008) hx hb dX7_holds_75 (by decide) ?_
            obtain ⟨J4, hJ4, hf⟩ := jnS hf
            have wj4 : ∀ (j4 : Unit) (H : Heap) (locs : List Loc) (ls : Array Slot), J4 j4 = some j14 → Wd D A s (cW a ar t x_q0_dials x_q0_spots x_q0_skies x_q0_reports x_q0_count x_q0_chime x_q0_end x_q0_score x_q0_reportCount x_q0_z x_q0_rules x_q0_shades x_q0_facts x_q1_dials x_q1_spots x_q1_skies x_q1_reports x_q1_count x_q1_chime x_q1_end x_q1_score x_q1_reportCount x_q1_z x_q1_rules x_q1_shades x_q1_facts x_q2_dials x_q2_spots x_q2_skies x_q2_reports x_q2_count x_q2_chime x_q2_end x_q2_score x_q2_reportCount x_q2_z x_q2_rules x_q2_shades x_q2_facts x_isKept x_marks x_p_first x_p_steps x_p_most x_p_many x_p_fewest x_p_everRight x_p_opening x_p_rows x_p_rowCount x_p_acts x_p_marks x_p_deepest x_p_wanted x_t_length x_t_tape x_t_words x_t_places x_t_at x_t_kinds x_t_wills x_t_starts x_t_code x_t_count x_t_size x_h_sorts x_h_lengths x_h_items x_h_held x_h_things x_h_sizes x_h_bodies x_h_traced x_h_number x_h_spot x_h_parted x_g_count x_g_kinds x_g_wills x_g_starts x_g_code x_g_stack x_g_kl x_g_wl x_g_sl x_g_cl x_nr) H locs → lv_has ls 11 [(0, .ref (ar v0 0)), (1, .int v1), (2, .int v2), (3, .ref (a 25)), (4, .int v4), (5, .int v5), (6, .int (x_g_code v0 v5.toNatClampNeg))] → W p l e (rmz 1 0 0) s m args below meth c H locs 0 0 Q (F0 m 110 ls []) := by
              intro j4 H locs ls hf hw hl
              have hf := hJ4 _ hf
              refine lv_iload hx hb dX7_holds_110 (lv_at hl 6 rfl) ?_
              refine lv_sipush (v := 10008) hx hb dX7_holds_112 (by decide) ?_
              refine lv_icmp_eq (tgt := 281) hx hb dX7_holds_115 (by decide) (fun hc => ?_) (fun hc => ?_)
              · have hf := ifT hf hc
                have hf := Option.some.inj hf
                subst hf
                exact wj14 _ _ _ hw (lv_sub hl [0, 1, 2, 3, 4, 5, 6] rfl)
              · have hf := ifF hf hc
                refine lv_iload hx hb dX7_holds_118 (lv_at hl 4 rfl) ?_
                refine lv_iconst (v := 2) hx hb dX7_holds_120 (by decide) ?_
                refine lv_icmp_lt (tgt := 281) hx hb dX7_holds_121 (by decide) (fun hc => ?_) (fun hc => ?_)
                · have hf := ifT hf hc
                  have hf := Option.some.inj hf
                  subst hf
                  exact wj14 _ _ _ hw (lv_sub hl [0, 1, 2, 3, 4, 5, 6] rfl)
                · have hf := ifF hf hc
                  refine lv_iinc (v := (v4 + (-1 : Int32))) (lv' := [(4, .int (v4 + (-1 : Int32))), (0, .ref (ar v0 0)), (1, .int v1), (2, .int v2), (3, .ref (a 25)), (5, .int v5), (6, .int (x_g_code v0 v5.toNatClampNeg))]) hx hb dX7_holds_124 hl (k := 4) rfl rfl (by decide) rfl (fun ls hl => ?_)
                  refine lv_aload_n hx hb dX7_holds_127 rfl (lv_at hl 1 rfl) ?_
                  refine cg_X7_9_r cx hw hv0 dX7_holds_128 ?_
                  refine lv_iload hx hb dX7_holds_131 (lv_at hl 0 rfl) ?_
                  refine lv_iconst (v := 1) hx hb dX7_holds_133 (by decide) ?_
                  refine lv_isub hx hb dX7_holds_134 ?_
                  obtain ⟨h5, hf⟩ := ckS hf
                  refine cr_stack (j := ((v4 + (-1 : Int32)) - (1 : Int32)).toNatClampNeg) cx hw hv0 (ib_in h5) rfl dX7_holds_135 ?_
                  refine lv_istore (lv' := [(7, .int (x_g_stack v0 (((v4 + (-1 : Int32)) - (1 : Int32)).toNatClampNeg))), (4, .int (v4 + (-1 : Int32))), (0, .ref (ar v0 0)), (1, .int v1), (2, .int v2), (3, .ref (a 25)), (5, .int v5), (6, .int (x_g_code v0 v5.toNatClampNeg))]) hx hb dX7_holds_136 hl (by decide) rfl (fun ls hl => ?_)
                  refine lv_aload_n hx hb dX7_holds_138 rfl (lv_at hl 2 rfl) ?_
                  refine cg_X7_9_r cx hw hv0 dX7_holds_139 ?_
                  refine lv_iload hx hb dX7_holds_142 (lv_at hl 1 rfl) ?_
                  obtain ⟨h6, hf⟩ := ckS hf
                  refine cr_stack (j := (v4 + (-1 : Int32)).toNatClampNeg) cx hw hv0 (ib_in h6) rfl dX7_holds_144 ?_
                  refine lv_istore (lv' := [(8, .int (x_g_stack v0 ((v4 + (-1 : Int32)).toNatClampNeg))), (7, .int (x_g_stack v0 (((v4 + (-1 : Int32)) - (1 : Int32)).toNatClampNeg))), (4, .int (v4 + (-1 : Int32))), (0, .ref (ar v0 0)), (1, .int v1), (2, .int v2), (3, .ref (a 25)), (5, .int v5), (6, .int (x_g_code v0 v5.toNatClampNeg))]) hx hb dX7_holds_145 hl (by decide) rfl (fun ls hl => ?_)
                  refine lv_iload hx hb dX7_holds_147 (lv_at hl 8 rfl) ?_
                  refine lv_sipush (v := 10005) hx hb dX7_holds_149 (by decide) ?_
                  obtain ⟨j7, hj7, hf⟩ := pbS hf
                  have wj7 : ∀ (H : Heap) (locs : List Loc) (ls : Array Slot), Wd D A s (cW a ar t x_q0_dials x_q0_spots x_q0_skies x_q0_reports x_q0_count x_q0_chime x_q0_end x_q0_score x_q0_reportCount x_q0_z x_q0_rules x_q0_shades x_q0_facts x_q1_dials x_q1_spots x_q1_skies x_q1_reports x_q1_count x_q1_chime x_q1_end x_q1_score x_q1_reportCount x_q1_z x_q1_rules x_q1_shades x_q1_facts x_q2_dials x_q2_spots x_q2_skies x_q2_reports x_q2_count x_q2_chime x_q2_end x_q2_score x_q2_reportCount x_q2_z x_q2_rules x_q2_shades x_q2_facts x_isKept x_marks x_p_first x_p_steps x_p_most x_p_many x_p_fewest x_p_everRight x_p_opening x_p_rows x_p_rowCount x_p_acts x_p_marks x_p_deepest x_p_wanted x_t_length x_t_tape x_t_words x_t_places x_t_at x_t_kinds x_t_wills x_t_starts x_t_code x_t_count x_t_size x_h_sorts x_h_lengths x_h_items x_h_held x_h_things x_h_sizes x_h_bodies x_h_traced x_h_number x_h_spot x_h_parted x_g_count x_g_kinds x_g_wills x_g_starts x_g_code x_g_stack x_g_kl x_g_wl x_g_sl x_g_cl x_nr) H locs → lv_has ls 11 [(0, .ref (ar v0 0)), (1, .int v1), (2, .int v2), (3, .ref (a 25)), (4, .int (v4 + (-1 : Int32))), (5, .int v5), (6, .int (x_g_code v0 v5.toNatClampNeg)), (7, .int (x_g_stack v0 (((v4 + (-1 : Int32)) - (1 : Int32)).toNatClampNeg))), (8, .int (x_g_stack v0 ((v4 + (-1 : Int32)).toNatClampNeg)))] → W p l e (rmz 1 0 0) s m args below meth c H locs 0 0 Q (F0 m 205 ls [.int j7]) := by
                    intro H locs ls hw hl
                    refine lv_istore (lv' := [(9, .int j7), (0, .ref (ar v0 0)), (1, .int v1), (2, .int v2), (3, .ref (a 25)), (4, .int (v4 + (-1 : Int32))), (5, .int v5), (6, .int (x_g_code v0 v5.toNatClampNeg)), (7, .int (x_g_stack v0 (((v4 + (-1 : Int32)) - (1 : Int32)).toNatClampNeg))), (8, .int (x_g_stack v0 ((v4 + (-1 : Int32)).toNatClampNeg)))]) hx hb dX7_holds_205 hl (by decide) rfl (fun ls hl => ?_)
                    refine lv_iload hx hb dX7_holds_207 (lv_at hl 7 rfl) ?_
                    refine lv_sipush (v := 10009) hx hb dX7_holds_209 (by decide) ?_
                    obtain ⟨j8, hj8, hf⟩ := pbS hf
                    have wj8 : ∀ (H : Heap) (locs : List Loc) (ls : Array Slot), Wd D A s (cW a ar t x_q0_dials x_q0_spots x_q0_skies x_q0_reports x_q0_count x_q0_chime x_q0_end x_q0_score x_q0_reportCount x_q0_z x_q0_rules x_q0_shades x_q0_facts x_q1_dials x_q1_spots x_q1_skies x_q1_reports x_q1_count x_q1_chime x_q1_end x_q1_score x_q1_reportCount x_q1_z x_q1_rules x_q1_shades x_q1_facts x_q2_dials x_q2_spots x_q2_skies x_q2_reports x_q2_count x_q2_chime x_q2_end x_q2_score x_q2_reportCount x_q2_z x_q2_rules x_q2_shades x_q2_facts x_isKept x_marks x_p_first x_p_steps x_p_most x_p_many x_p_fewest x_p_everRight x_p_opening x_p_rows x_p_rowCount x_p_acts x_p_marks x_p_deepest x_p_wanted x_t_length x_t_tape x_t_words x_t_places x_t_at x_t_kinds x_t_wills x_t_starts x_t_code x_t_count x_t_size x_h_sorts x_h_lengths x_h_items x_h_held x_h_things x_h_sizes x_h_bodies x_h_traced x_h_number x_h_spot x_h_parted x_g_count x_g_kinds x_g_wills x_g_starts x_g_code x_g_stack x_g_kl x_g_wl x_g_sl x_g_cl x_nr) H locs → lv_has ls 11 [(0, .ref (ar v0 0)), (1, .int v1), (2, .int v2), (3, .ref (a 25)), (4, .int (v4 + (-1 : Int32))), (5, .int v5), (6, .int (x_g_code v0 v5.toNatClampNeg)), (7, .int (x_g_stack v0 (((v4 + (-1 : Int32)) - (1 : Int32)).toNatClampNeg))), (8, .int (x_g_stack v0 ((v4 + (-1 : Int32)).toNatClampNeg))), (9, .int j7)] → W p l e (rmz 1 0 0) s m args below meth c H locs 0 0 Q (F0 m 244 ls [.int j8]) := by
                      intro H locs ls hw hl
                      refine lv_istore (lv' := [(10, .int j8), (0, .ref (ar v0 0)), (1, .int v1), (2, .int v2), (3, .ref (a 25)), (4, .int (v4 + (-1 : Int32))), (5, .int v5), (6, .int (x_g_code v0 v5.toNatClampNeg)), (7, .int (x_g_stack v0 (((v4 + (-1 : Int32)) - (1 : Int32)).toNatClampNeg))), (8, .int (x_g_stack v0 ((v4 + (-1 : Int32)).toNatClampNeg))), (9, .int j7)]) hx hb dX7_holds_244 hl (by decide) rfl (fun ls hl => ?_)
                      refine lv_aload_n hx hb dX7_holds_246 rfl (lv_at hl 1 rfl) ?_
                      refine cg_X7_9_r cx hw hv0 dX7_holds_247 ?_
                      refine lv_iload hx hb dX7_holds_250 (lv_at hl 5 rfl) ?_
                      refine lv_iconst (v := 1) hx hb dX7_holds_252 (by decide) ?_
                      refine lv_isub hx hb dX7_holds_253 ?_
                      refine lv_iload hx hb dX7_holds_254 (lv_at hl 7 rfl) ?_
                      refine lv_sipush (v := 10007) hx hb dX7_holds_256 (by decide) ?_
                      obtain ⟨j9, hj9, hf⟩ := pbS hf
                      have wj9 : ∀ (H : Heap) (locs : List Loc) (ls : Array Slot), Wd D A s (cW a ar t x_q0_dials x_q0_spots x_q0_skies x_q0_reports x_q0_count x_q0_chime x_q0_end x_q0_score x_q0_reportCount x_q0_z x_q0_rules x_q0_shades x_q0_facts x_q1_dials x_q1_spots x_q1_skies x_q1_reports x_q1_count x_q1_chime x_q1_end x_q1_score x_q1_reportCount x_q1_z x_q1_rules x_q1_shades x_q1_facts x_q2_dials x_q2_spots x_q2_skies x_q2_reports x_q2_count x_q2_chime x_q2_end x_q2_score x_q2_reportCount x_q2_z x_q2_rules x_q2_shades x_q2_facts x_isKept x_marks x_p_first x_p_steps x_p_most x_p_many x_p_fewest x_p_everRight x_p_opening x_p_rows x_p_rowCount x_p_acts x_p_marks x_p_deepest x_p_wanted x_t_length x_t_tape x_t_words x_t_places x_t_at x_t_kinds x_t_wills x_t_starts x_t_code x_t_count x_t_size x_h_sorts x_h_lengths x_h_items x_h_held x_h_things x_h_sizes x_h_bodies x_h_traced x_h_number x_h_spot x_h_parted x_g_count x_g_kinds x_g_wills x_g_starts x_g_code x_g_stack x_g_kl x_g_wl x_g_sl x_g_cl x_nr) H locs → lv_has ls 11 [(0, .ref (ar v0 0)), (1, .int v1), (2, .int v2), (3, .ref (a 25)), (4, .int (v4 + (-1 : Int32))), (5, .int v5), (6, .int (x_g_code v0 v5.toNatClampNeg)), (7, .int (x_g_stack v0 (((v4 + (-1 : Int32)) - (1 : Int32)).toNatClampNeg))), (8, .int (x_g_stack v0 ((v4 + (-1 : Int32)).toNatClampNeg))), (9, .int j7), (10, .int j8)] → W p l e (rmz 1 0 0) s m args below meth c H locs 0 0 Q (F0 m 280 ls [.int j9, .int ((v4 + (-1 : Int32)) - (1 : Int32)), .ref (ar v0 5)]) := by
                        intro H locs ls hw hl
                        obtain ⟨h10, hf⟩ := ckS hf
                        refine cz_stack (j := ((v4 + (-1 : Int32)) - (1 : Int32)).toNatClampNeg) cx hw hv0 (ib_in h10) rfl dX7_holds_280 (fun H locs hw => ?_)
                        have hf := Option.some.inj hf
                        subst hf
                        exact wj14 _ _ _ hw (lv_sub hl [0, 1, 2, 3, 4, 5, 6] rfl)
                      clear hf
                      have hf := hj9
                      clear hj9
                      refine lv_icmp_gt (tgt := 270) hx hb dX7_holds_259 (by decide) (fun hc => ?_) (fun hc => ?_)
                      · have hf := ifT hf hc
                        refine lv_iload hx hb dX7_holds_270 (lv_at hl 0 rfl) ?_
                        refine lv_if_eq (tgt := 279) hx hb dX7_holds_272 (by decide) (fun hc => ?_) (fun hc => ?_)
                        · have hf := ifT hf hc
                          refine lv_iconst (v := 0) hx hb dX7_holds_279 (by decide) ?_
                          subst hf
                          exact wj9 _ _ _ hw (lv_sub hl [1, 2, 3, 4, 5, 6, 7, 8, 9, 10, 0] rfl)
                        · have hf := ifF hf hc
                          refine lv_iconst (v := 1) hx hb dX7_holds_275 (by decide) ?_
                          refine lv_goto (tgt := 280) hx hb dX7_holds_276 (by decide) ?_
                          subst hf
                          exact wj9 _ _ _ hw (lv_sub hl [1, 2, 3, 4, 5, 6, 7, 8, 9, 10, 0] rfl)
                      · have hf := ifF hf hc
                        refine lv_iload hx hb dX7_holds_262 (lv_at hl 10 rfl) ?_
                        refine lv_if_eq (tgt := 279) hx hb dX7_holds_264 (by decide) (fun hc => ?_) (fun hc => ?_)
                        · have hf := ifT hf hc
                          refine lv_iconst (v := 0) hx hb dX7_holds_279 (by decide) ?_
                          subst hf
                          exact wj9 _ _ _ hw (lv_sub hl [1, 2, 3, 4, 5, 6, 7, 8, 9, 10, 0] rfl)
                        · have hf := ifF hf hc
                          refine lv_goto (tgt := 275) hx hb dX7_holds_267 (by decide) ?_
                          refine lv_iconst (v := 1) hx hb dX7_holds_275 (by decide) ?_
                          refine lv_goto (tgt := 280) hx hb dX7_holds_276 (by decide) ?_
                          subst hf
                          exact wj9 _ _ _ hw (lv_sub hl [1, 2, 3, 4, 5, 6, 7, 8, 9, 10, 0] rfl)
                    clear hf
                    have hf := hj8
                    clear hj8
                    refine lv_icmp_ne (tgt := 231) hx hb dX7_holds_212 (by decide) (fun hc => ?_) (fun hc => ?_)
                    · have hf := ifF hf hc
                      refine lv_iload hx hb dX7_holds_231 (lv_at hl 8 rfl) ?_
                      refine lv_iload hx hb dX7_holds_233 (lv_at hl 9 rfl) ?_
                      refine lv_ior hx hb dX7_holds_235 ?_
                      refine lv_if_eq (tgt := 243) hx hb dX7_holds_236 (by decide) (fun hc => ?_) (fun hc => ?_)
                      · have hf := ifT hf hc
                        refine lv_iconst (v := 0) hx hb dX7_holds_243 (by decide) ?_
                        subst hf
                        exact wj8 _ _ _ hw (lv_sub hl [1, 2, 3, 4, 5, 6, 7, 8, 9, 0] rfl)
                      · have hf := ifF hf hc
                        refine lv_iconst (v := 1) hx hb dX7_holds_239 (by decide) ?_
                        refine lv_goto (tgt := 244) hx hb dX7_holds_240 (by decide) ?_
                        subst hf
                        exact wj8 _ _ _ hw (lv_sub hl [1, 2, 3, 4, 5, 6, 7, 8, 9, 0] rfl)
                    · have hf := ifT hf hc
                      refine lv_iload hx hb dX7_holds_215 (lv_at hl 8 rfl) ?_
                      refine lv_iload hx hb dX7_holds_217 (lv_at hl 9 rfl) ?_
                      refine lv_iand hx hb dX7_holds_219 ?_
                      refine lv_if_eq (tgt := 227) hx hb dX7_holds_220 (by decide) (fun hc => ?_) (fun hc => ?_)
                      · have hf := ifT hf hc
                        refine lv_iconst (v := 0) hx hb dX7_holds_227 (by decide) ?_
                        refine lv_goto (tgt := 244) hx hb dX7_holds_228 (by decide) ?_
                        subst hf
                        exact wj8 _ _ _ hw (lv_sub hl [1, 2, 3, 4, 5, 6, 7, 8, 9, 0] rfl)
                      · have hf := ifF hf hc
                        refine lv_iconst (v := 1) hx hb dX7_holds_223 (by decide) ?_
                        refine lv_goto (tgt := 244) hx hb dX7_holds_224 (by decide) ?_
                        subst hf
                        exact wj8 _ _ _ hw (lv_sub hl [1, 2, 3, 4, 5, 6, 7, 8, 9, 0] rfl)
                  clear hf
                  have hf := hj7
                  clear hj7
                  refine lv_icmp_ne (tgt := 170) hx hb dX7_holds_152 (by decide) (fun hc => ?_) (fun hc => ?_)
                  · have hf := ifF hf hc
                    refine lv_iload hx hb dX7_holds_170 (lv_at hl 8 rfl) ?_
                    refine lv_sipush (v := 10006) hx hb dX7_holds_172 (by decide) ?_
                    refine lv_icmp_ne (tgt := 193) hx hb dX7_holds_175 (by decide) (fun hc => ?_) (fun hc => ?_)
                    · have hf := ifF hf hc
                      refine lv_iload hx hb dX7_holds_193 (lv_at hl 1 rfl) ?_
                      refine lv_iload hx hb dX7_holds_195 (lv_at hl 0 rfl) ?_
                      refine lv_icmp_le (tgt := 204) hx hb dX7_holds_197 (by decide) (fun hc => ?_) (fun hc => ?_)
                      · have hf := ifT hf hc
                        refine lv_iconst (v := 0) hx hb dX7_holds_204 (by decide) ?_
                        subst hf
                        exact wj7 _ _ _ hw (lv_sub hl [3, 4, 5, 6, 2, 7, 8, 1, 0] rfl)
                      · have hf := ifF hf hc
                        refine lv_iconst (v := 1) hx hb dX7_holds_200 (by decide) ?_
                        refine lv_goto (tgt := 205) hx hb dX7_holds_201 (by decide) ?_
                        subst hf
                        exact wj7 _ _ _ hw (lv_sub hl [3, 4, 5, 6, 2, 7, 8, 1, 0] rfl)
                    · have hf := ifT hf hc
                      refine lv_iload hx hb dX7_holds_178 (lv_at hl 1 rfl) ?_
                      refine lv_iload hx hb dX7_holds_180 (lv_at hl 0 rfl) ?_
                      refine lv_icmp_ne (tgt := 189) hx hb dX7_holds_182 (by decide) (fun hc => ?_) (fun hc => ?_)
                      · have hf := ifF hf hc
                        refine lv_iconst (v := 0) hx hb dX7_holds_189 (by decide) ?_
                        refine lv_goto (tgt := 205) hx hb dX7_holds_190 (by decide) ?_
                        subst hf
                        exact wj7 _ _ _ hw (lv_sub hl [3, 4, 5, 6, 2, 7, 8, 1, 0] rfl)
                      · have hf := ifT hf hc
                        refine lv_iconst (v := 1) hx hb dX7_holds_185 (by decide) ?_
                        refine lv_goto (tgt := 205) hx hb dX7_holds_186 (by decide) ?_
                        subst hf
                        exact wj7 _ _ _ hw (lv_sub hl [3, 4, 5, 6, 2, 7, 8, 1, 0] rfl)
                  · have hf := ifT hf hc
                    refine lv_iload hx hb dX7_holds_155 (lv_at hl 1 rfl) ?_
                    refine lv_iload hx hb dX7_holds_157 (lv_at hl 0 rfl) ?_
                    refine lv_icmp_ge (tgt := 166) hx hb dX7_holds_159 (by decide) (fun hc => ?_) (fun hc => ?_)
                    · have hf := ifT hf hc
                      refine lv_iconst (v := 0) hx hb dX7_holds_166 (by decide) ?_
                      refine lv_goto (tgt := 205) hx hb dX7_holds_167 (by decide) ?_
                      subst hf
                      exact wj7 _ _ _ hw (lv_sub hl [3, 4, 5, 6, 2, 7, 8, 1, 0] rfl)
                    · have hf := ifF hf hc
                      refine lv_iconst (v := 1) hx hb dX7_holds_162 (by decide) ?_
                      refine lv_goto (tgt := 205) hx hb dX7_holds_163 (by decide) ?_
                      subst hf
                      exact wj7 _ _ _ hw (lv_sub hl [3, 4, 5, 6, 2, 7, 8, 1, 0] rfl)
            clear hJ4
            refine lv_icmp_ne (tgt := 110) hx hb dX7_holds_78 (by decide) (fun hc => ?_) (fun hc => ?_)
            · have hf := ifF hf hc
              exact wj4 _ _ _ _ hf hw (lv_sub hl [1, 2, 3, 4, 5, 6, 0] rfl)
            · have hf := ifT hf hc
              refine lv_iload hx hb dX7_holds_81 (lv_at hl 5 rfl) ?_
              refine lv_iconst (v := 1) hx hb dX7_holds_83 (by decide) ?_
              refine lv_icmp_lt (tgt := 110) hx hb dX7_holds_84 (by decide) (fun hc => ?_) (fun hc => ?_)
              · have hf := ifT hf hc
                exact wj4 _ _ _ _ hf hw (lv_sub hl [1, 2, 3, 4, 5, 6, 0] rfl)
              · have hf := ifF hf hc
                refine lv_aload_n hx hb dX7_holds_87 rfl (lv_at hl 1 rfl) ?_
                refine cg_X7_9_r cx hw hv0 dX7_holds_88 ?_
                refine lv_iload hx hb dX7_holds_91 (lv_at hl 5 rfl) ?_
                refine lv_iconst (v := 1) hx hb dX7_holds_93 (by decide) ?_
                refine lv_isub hx hb dX7_holds_94 ?_
                refine lv_iconst (v := 1) hx hb dX7_holds_95 (by decide) ?_
                refine lv_aload_n hx hb dX7_holds_96 rfl (lv_at hl 1 rfl) ?_
                refine cg_X7_9_r cx hw hv0 dX7_holds_97 ?_
                refine lv_iload hx hb dX7_holds_100 (lv_at hl 5 rfl) ?_
                refine lv_iconst (v := 1) hx hb dX7_holds_102 (by decide) ?_
                refine lv_isub hx hb dX7_holds_103 ?_
                obtain ⟨h2, hf⟩ := ckS hf
                refine cr_stack (j := (v4 - (1 : Int32)).toNatClampNeg) cx hw hv0 (ib_in h2) rfl dX7_holds_104 ?_
                refine lv_isub hx hb dX7_holds_105 ?_
                obtain ⟨h3, hf⟩ := ckS hf
                refine cz_stack (j := (v4 - (1 : Int32)).toNatClampNeg) cx hw hv0 (ib_in h3) rfl dX7_holds_106 (fun H locs hw => ?_)
                refine lv_goto (tgt := 281) hx hb dX7_holds_107 (by decide) ?_
                have hf := Option.some.inj hf
                subst hf
                exact wj14 _ _ _ hw (lv_sub hl [1, 2, 3, 4, 5, 6, 0] rfl)
          · have hf := ifF hf hc
            refine lv_aload_n hx hb dX7_holds_39 rfl (lv_at hl 1 rfl) ?_
            refine cg_X7_9_r cx hw hv0 dX7_holds_40 ?_
            refine lv_iload hx hb dX7_holds_43 (lv_at hl 5 rfl) ?_
            refine lv_iload hx hb dX7_holds_45 (lv_at hl 0 rfl) ?_
            refine lv_sipush (v := 10000) hx hb dX7_holds_47 (by decide) ?_
            obtain ⟨j12, hj12, hf⟩ := bnS hf
            have wj12 : ∀ (H : Heap) (locs : List Loc) (ls : Array Slot), Wd D A s (cW a ar t x_q0_dials x_q0_spots x_q0_skies x_q0_reports x_q0_count x_q0_chime x_q0_end x_q0_score x_q0_reportCount x_q0_z x_q0_rules x_q0_shades x_q0_facts x_q1_dials x_q1_spots x_q1_skies x_q1_reports x_q1_count x_q1_chime x_q1_end x_q1_score x_q1_reportCount x_q1_z x_q1_rules x_q1_shades x_q1_facts x_q2_dials x_q2_spots x_q2_skies x_q2_reports x_q2_count x_q2_chime x_q2_end x_q2_score x_q2_reportCount x_q2_z x_q2_rules x_q2_shades x_q2_facts x_isKept x_marks x_p_first x_p_steps x_p_most x_p_many x_p_fewest x_p_everRight x_p_opening x_p_rows x_p_rowCount x_p_acts x_p_marks x_p_deepest x_p_wanted x_t_length x_t_tape x_t_words x_t_places x_t_at x_t_kinds x_t_wills x_t_starts x_t_code x_t_count x_t_size x_h_sorts x_h_lengths x_h_items x_h_held x_h_things x_h_sizes x_h_bodies x_h_traced x_h_number x_h_spot x_h_parted x_g_count x_g_kinds x_g_wills x_g_starts x_g_code x_g_stack x_g_kl x_g_wl x_g_sl x_g_cl x_nr) H locs → lv_has ls 11 [(0, .ref (ar v0 0)), (1, .int v1), (2, .int v2), (3, .ref (a 25)), (4, .int v4), (5, .int v5), (6, .int (x_g_code v0 v5.toNatClampNeg))] → W p l e (rmz 1 0 0) s m args below meth c H locs 0 0 Q (F0 m 66 ls [.int j12, .int v4, .ref (ar v0 5)]) := by
              intro H locs ls hw hl
              obtain ⟨h13, hf⟩ := ckS hf
              refine cz_stack (j := v4.toNatClampNeg) cx hw hv0 (ib_in h13) rfl dX7_holds_66 (fun H locs hw => ?_)
              refine lv_iinc (v := (v4 + (1 : Int32))) (lv' := [(4, .int (v4 + (1 : Int32))), (0, .ref (ar v0 0)), (1, .int v1), (2, .int v2), (3, .ref (a 25)), (5, .int v5), (6, .int (x_g_code v0 v5.toNatClampNeg))]) hx hb dX7_holds_67 hl (k := 4) rfl rfl (by decide) rfl (fun ls hl => ?_)
              refine lv_goto (tgt := 281) hx hb dX7_holds_70 (by decide) ?_
              have hf := Option.some.inj hf
              subst hf
              exact wj14 _ _ _ hw (lv_sub hl [1, 2, 3, 4, 0, 5, 6] rfl)
            clear hf
            have hf := hj12
            clear hj12
            refine lv_icmp_ge (tgt := 58) hx hb dX7_holds_50 (by decide) (fun hc => ?_) (fun hc => ?_)
            · have hf := ifT hf hc
              refine lv_aload_n hx hb dX7_holds_58 rfl (lv_at hl 4 rfl) ?_
              refine lv_iload hx hb dX7_holds_59 (lv_at hl 0 rfl) ?_
              refine lv_sipush (v := 10000) hx hb dX7_holds_61 (by decide) ?_
              refine lv_isub hx hb dX7_holds_64 ?_
              obtain ⟨h11, hf⟩ := ckS hf
              refine cl_q0_facts (j := ((x_g_code v0 v5.toNatClampNeg) - (10000 : Int32)).toNatClampNeg) cx hw (ib_in h11) rfl dX7_holds_65 ?_
              have hf := Option.some.inj hf
              subst hf
              exact wj12 _ _ _ hw (lv_sub hl [1, 2, 3, 4, 5, 6, 0] rfl)
            · have hf := ifF hf hc
              refine lv_iload hx hb dX7_holds_53 (lv_at hl 0 rfl) ?_
              refine lv_goto (tgt := 66) hx hb dX7_holds_55 (by decide) ?_
              have hf := Option.some.inj hf
              subst hf
              exact wj12 _ _ _ hw (lv_sub hl [1, 2, 3, 4, 5, 6, 0] rfl)
  refine wL1 n ho15 hw (lv_sub hl [2, 3, 4, 5, 1, 0] rfl) (fun H locs ls hw hl => ?_)
  clear wL1 ho15
  refine lv_iload hx hb dX7_holds_287 (lv_at hl 4 rfl) ?_
  obtain ⟨J16, hJ16, hf⟩ := jnS hf
  have wj16 : ∀ (j16 : Unit) (H : Heap) (locs : List Loc) (ls : Array Slot), J16 j16 = some res → Wd D A s (cW a ar t x_q0_dials x_q0_spots x_q0_skies x_q0_reports x_q0_count x_q0_chime x_q0_end x_q0_score x_q0_reportCount x_q0_z x_q0_rules x_q0_shades x_q0_facts x_q1_dials x_q1_spots x_q1_skies x_q1_reports x_q1_count x_q1_chime x_q1_end x_q1_score x_q1_reportCount x_q1_z x_q1_rules x_q1_shades x_q1_facts x_q2_dials x_q2_spots x_q2_skies x_q2_reports x_q2_count x_q2_chime x_q2_end x_q2_score x_q2_reportCount x_q2_z x_q2_rules x_q2_shades x_q2_facts x_isKept x_marks x_p_first x_p_steps x_p_most x_p_many x_p_fewest x_p_everRight x_p_opening x_p_rows x_p_rowCount x_p_acts x_p_marks x_p_deepest x_p_wanted x_t_length x_t_tape x_t_words x_t_places x_t_at x_t_kinds x_t_wills x_t_starts x_t_code x_t_count x_t_size x_h_sorts x_h_lengths x_h_items x_h_held x_h_things x_h_sizes x_h_bodies x_h_traced x_h_number x_h_spot x_h_parted x_g_count x_g_kinds x_g_wills x_g_starts x_g_code o15.2.2 x_g_kl x_g_wl x_g_sl x_g_cl x_nr) H locs → lv_has ls 11 [(0, .ref (ar v0 0)), (1, .int v1), (2, .int v2), (3, .ref (a 25)), (4, .int o15.1), (5, .int o15.2.1)] → W p l e (rmz 1 0 0) s m args below meth c H locs 0 0 Q (F0 m 301 ls []) := by
    intro j16 H locs ls hf hw hl
    have hf := hJ16 _ hf
    refine lv_iconst (v := 1) hx hb dX7_holds_301 (by decide) ?_
    refine lv_goto (tgt := 306) hx hb dX7_holds_302 (by decide) ?_
    have hf := Option.some.inj hf
    subst hf
    exact hR _ _ _ _ _ _ hw rfl ⟨rfl, rfl⟩ dX7_holds_306
  clear hJ16
  refine lv_if_eq (tgt := 301) hx hb dX7_holds_289 (by decide) (fun hc => ?_) (fun hc => ?_)
  · have hf := ifT hf hc
    exact wj16 _ _ _ _ hf hw (lv_sub hl [0, 1, 2, 3, 4, 5] rfl)
  · have hf := ifF hf hc
    refine lv_aload_n hx hb dX7_holds_292 rfl (lv_at hl 0 rfl) ?_
    refine cg_X7_9_r cx hw hv0 dX7_holds_293 ?_
    refine lv_iconst (v := 0) hx hb dX7_holds_296 (by decide) ?_
    refine cr_stack (j := 0) cx hw hv0 (ib_in (by decide)) (by decide) dX7_holds_297 ?_
    refine lv_if_eq (tgt := 305) hx hb dX7_holds_298 (by decide) (fun hc => ?_) (fun hc => ?_)
    · have hf := ifT hf hc
      refine lv_iconst (v := 0) hx hb dX7_holds_305 (by decide) ?_
      have hf := Option.some.inj hf
      subst hf
      exact hR _ _ _ _ _ _ hw rfl ⟨rfl, rfl⟩ dX7_holds_306
    · have hf := ifF hf hc
      exact wj16 _ _ _ _ hf hw (lv_sub hl [0, 1, 2, 3, 4, 5] rfl)
theorem dX7_tell_0 : decode cX7_tell 0 = .ok (.iconst 0, 1) := by decide +kernel
theorem dX7_tell_1 : decode cX7_tell 1 = .ok (.istore_n 3, 1) := by decide +kernel
theorem dX7_tell_2 : decode cX7_tell 2 = .ok (.iload_n 3, 1) := by decide +kernel
theorem dX7_tell_3 : decode cX7_tell 3 = .ok (.aload_n 0, 1) := by decide +kernel
theorem dX7_tell_4 : decode cX7_tell 4 = .ok (.getfield 15, 3) := by decide +kernel
theorem dX7_tell_7 : decode cX7_tell 7 = .ok (.if_icmp .ge 51, 3) := by decide +kernel
theorem dX7_tell_10 : decode cX7_tell 10 = .ok (.iload_n 1, 1) := by decide +kernel
theorem dX7_tell_11 : decode cX7_tell 11 = .ok (.aload_n 0, 1) := by decide +kernel
theorem dX7_tell_12 : decode cX7_tell 12 = .ok (.getfield 19, 3) := by decide +kernel
theorem dX7_tell_15 : decode cX7_tell 15 = .ok (.iload_n 3, 1) := by decide +kernel
theorem dX7_tell_16 : decode cX7_tell 16 = .ok (.iaload, 1) := by decide +kernel
theorem dX7_tell_17 : decode cX7_tell 17 = .ok (.invokestatic 31, 3) := by decide +kernel
theorem dX7_tell_20 : decode cX7_tell 20 = .ok (.ifCond .eq 32, 3) := by decide +kernel
theorem dX7_tell_23 : decode cX7_tell 23 = .ok (.aload_n 0, 1) := by decide +kernel
theorem dX7_tell_24 : decode cX7_tell 24 = .ok (.aload_n 0, 1) := by decide +kernel
theorem dX7_tell_25 : decode cX7_tell 25 = .ok (.getfield 25, 3) := by decide +kernel
theorem dX7_tell_28 : decode cX7_tell 28 = .ok (.iload_n 3, 1) := by decide +kernel
theorem dX7_tell_29 : decode cX7_tell 29 = .ok (.iaload, 1) := by decide +kernel
theorem dX7_tell_30 : decode cX7_tell 30 = .ok (.aload_n 0, 1) := by decide +kernel
theorem dX7_tell_31 : decode cX7_tell 31 = .ok (.getfield 25, 3) := by decide +kernel
theorem dX7_tell_34 : decode cX7_tell 34 = .ok (.iload_n 3, 1) := by decide +kernel
theorem dX7_tell_35 : decode cX7_tell 35 = .ok (.iconst 1, 1) := by decide +kernel
theorem dX7_tell_36 : decode cX7_tell 36 = .ok (.iadd, 1) := by decide +kernel
theorem dX7_tell_37 : decode cX7_tell 37 = .ok (.iaload, 1) := by decide +kernel
theorem dX7_tell_38 : decode cX7_tell 38 = .ok (.aload_n 2, 1) := by decide +kernel
theorem dX7_tell_39 : decode cX7_tell 39 = .ok (.invokevirtual 35, 3) := by decide +kernel
theorem dX7_tell_42 : decode cX7_tell 42 = .ok (.ifCond .eq 10, 3) := by decide +kernel
theorem dX7_tell_45 : decode cX7_tell 45 = .ok (.aload_n 0, 1) := by decide +kernel
theorem dX7_tell_46 : decode cX7_tell 46 = .ok (.getfield 22, 3) := by decide +kernel
theorem dX7_tell_49 : decode cX7_tell 49 = .ok (.iload_n 3, 1) := by decide +kernel
theorem dX7_tell_50 : decode cX7_tell 50 = .ok (.iaload, 1) := by decide +kernel
theorem dX7_tell_51 : decode cX7_tell 51 = .ok (.ireturn, 1) := by decide +kernel
theorem dX7_tell_52 : decode cX7_tell 52 = .ok (.iinc 3 1, 3) := by decide +kernel
theorem dX7_tell_55 : decode cX7_tell 55 = .ok (.goto (-53), 3) := by decide +kernel
theorem dX7_tell_58 : decode cX7_tell 58 = .ok (.iconst 0, 1) := by decide +kernel
theorem dX7_tell_59 : decode cX7_tell 59 = .ok (.ireturn, 1) := by decide +kernel
theorem k_X7_tell : MV yX7_tell cX7_tell 4 (some .int) 2 := ⟨q_453, q_454, q_10, q_455, ⟨by decide, by decide, by decide +kernel⟩⟩
theorem c_X7_tell_f0 {v0 : Nat} {v1 : Int32} (hv0 : v0 < x_nr) {res : Int32 × (Nat → Nat → Int32)} (hf : X7_tell_f0 n x_q0_facts x_g_count x_g_kinds x_g_wills x_g_starts x_g_code x_g_stack x_g_kl x_g_wl x_g_sl x_g_cl v0 v1 = some res) : MC l E0 D t yX7_tell cX7_tell 4 (some .int) 2 0 0 [.ref (ar v0 0), .int v1, .ref (a 25)] (cW a ar t x_q0_dials x_q0_spots x_q0_skies x_q0_reports x_q0_count x_q0_chime x_q0_end x_q0_score x_q0_reportCount x_q0_z x_q0_rules x_q0_shades x_q0_facts x_q1_dials x_q1_spots x_q1_skies x_q1_reports x_q1_count x_q1_chime x_q1_end x_q1_score x_q1_reportCount x_q1_z x_q1_rules x_q1_shades x_q1_facts x_q2_dials x_q2_spots x_q2_skies x_q2_reports x_q2_count x_q2_chime x_q2_end x_q2_score x_q2_reportCount x_q2_z x_q2_rules x_q2_shades x_q2_facts x_isKept x_marks x_p_first x_p_steps x_p_most x_p_many x_p_fewest x_p_everRight x_p_opening x_p_rows x_p_rowCount x_p_acts x_p_marks x_p_deepest x_p_wanted x_t_length x_t_tape x_t_words x_t_places x_t_at x_t_kinds x_t_wills x_t_starts x_t_code x_t_count x_t_size x_h_sorts x_h_lengths x_h_items x_h_held x_h_things x_h_sizes x_h_bodies x_h_traced x_h_number x_h_spot x_h_parted x_g_count x_g_kinds x_g_wills x_g_starts x_g_code x_g_stack x_g_kl x_g_wl x_g_sl x_g_cl x_nr) (Qi res.1 (cW a ar t x_q0_dials x_q0_spots x_q0_skies x_q0_reports x_q0_count x_q0_chime x_q0_end x_q0_score x_q0_reportCount x_q0_z x_q0_rules x_q0_shades x_q0_facts x_q1_dials x_q1_spots x_q1_skies x_q1_reports x_q1_count x_q1_chime x_q1_end x_q1_score x_q1_reportCount x_q1_z x_q1_rules x_q1_shades x_q1_facts x_q2_dials x_q2_spots x_q2_skies x_q2_reports x_q2_count x_q2_chime x_q2_end x_q2_score x_q2_reportCount x_q2_z x_q2_rules x_q2_shades x_q2_facts x_isKept x_marks x_p_first x_p_steps x_p_most x_p_many x_p_fewest x_p_everRight x_p_opening x_p_rows x_p_rowCount x_p_acts x_p_marks x_p_deepest x_p_wanted x_t_length x_t_tape x_t_words x_t_places x_t_at x_t_kinds x_t_wills x_t_starts x_t_code x_t_count x_t_size x_h_sorts x_h_lengths x_h_items x_h_held x_h_things x_h_sizes x_h_bodies x_h_traced x_h_number x_h_spot x_h_parted x_g_count x_g_kinds x_g_wills x_g_starts x_g_code res.2 x_g_kl x_g_wl x_g_sl x_g_cl x_nr)) := by
  unfold X7_tell_f0 at hf
  refine MC.ofI pn_X7 (Nat.le_of_ble_eq_true rfl) ?_
  intro p e s m args below meth c A Q ls cx hR hw hl
  have hx := cx.1
  have hb := cx.2.1
  have hl : lv_has ls 4 [(0, .ref (ar v0 0)), (1, .int v1), (2, .ref (a 25))] := hl
  refine lv_iconst (v := 0) hx hb dX7_tell_0 (by decide) ?_
  refine lv_istore_n (lv' := [(3, .int (0 : Int32)), (0, .ref (ar v0 0)), (1, .int v1), (2, .ref (a 25))]) hx hb dX7_tell_1 rfl hl (by decide) rfl (fun ls hl => ?_)
  obtain ⟨K1, hK1, hf⟩ := jnS hf
  have kx1 : ∀ (o10 : Int32 × (Nat → Nat → Int32)) (H : Heap) (locs : List Loc) (ls : Array Slot), K1 o10 = some res → Wd D A s (cW a ar t x_q0_dials x_q0_spots x_q0_skies x_q0_reports x_q0_count x_q0_chime x_q0_end x_q0_score x_q0_reportCount x_q0_z x_q0_rules x_q0_shades x_q0_facts x_q1_dials x_q1_spots x_q1_skies x_q1_reports x_q1_count x_q1_chime x_q1_end x_q1_score x_q1_reportCount x_q1_z x_q1_rules x_q1_shades x_q1_facts x_q2_dials x_q2_spots x_q2_skies x_q2_reports x_q2_count x_q2_chime x_q2_end x_q2_score x_q2_reportCount x_q2_z x_q2_rules x_q2_shades x_q2_facts x_isKept x_marks x_p_first x_p_steps x_p_most x_p_many x_p_fewest x_p_everRight x_p_opening x_p_rows x_p_rowCount x_p_acts x_p_marks x_p_deepest x_p_wanted x_t_length x_t_tape x_t_words x_t_places x_t_at x_t_kinds x_t_wills x_t_starts x_t_code x_t_count x_t_size x_h_sorts x_h_lengths x_h_items x_h_held x_h_things x_h_sizes x_h_bodies x_h_traced x_h_number x_h_spot x_h_parted x_g_count x_g_kinds x_g_wills x_g_starts x_g_code o10.2 x_g_kl x_g_wl x_g_sl x_g_cl x_nr) H locs → lv_has ls 4 [(0, .ref (ar v0 0)), (1, .int v1), (2, .ref (a 25)), (3, .int o10.1)] → W p l e (rmz 2 0 0) s m args below meth c H locs 0 0 Q (F0 m 58 ls []) := by
    intro o10 H locs ls hf hw hl
    have hf := hK1 _ hf
    refine lv_iconst (v := 0) hx hb dX7_tell_58 (by decide) ?_
    have hf := Option.some.inj hf
    subst hf
    exact hR _ _ _ _ _ _ hw rfl ⟨rfl, rfl⟩ dX7_tell_59
  have wL1 : ∀ (k : Nat) {v1 : Int32} {v3 : Int32} {x_g_stack : Nat → Nat → Int32} {H : Heap} {locs : List Loc} {ls : Array Slot}, X7_tell_f0_L1 n x_q0_facts x_g_count x_g_kinds x_g_wills x_g_starts x_g_code x_g_kl x_g_wl x_g_sl x_g_cl v0 v1 K1 k v3 x_g_stack = some res → Wd D A s (cW a ar t x_q0_dials x_q0_spots x_q0_skies x_q0_reports x_q0_count x_q0_chime x_q0_end x_q0_score x_q0_reportCount x_q0_z x_q0_rules x_q0_shades x_q0_facts x_q1_dials x_q1_spots x_q1_skies x_q1_reports x_q1_count x_q1_chime x_q1_end x_q1_score x_q1_reportCount x_q1_z x_q1_rules x_q1_shades x_q1_facts x_q2_dials x_q2_spots x_q2_skies x_q2_reports x_q2_count x_q2_chime x_q2_end x_q2_score x_q2_reportCount x_q2_z x_q2_rules x_q2_shades x_q2_facts x_isKept x_marks x_p_first x_p_steps x_p_most x_p_many x_p_fewest x_p_everRight x_p_opening x_p_rows x_p_rowCount x_p_acts x_p_marks x_p_deepest x_p_wanted x_t_length x_t_tape x_t_words x_t_places x_t_at x_t_kinds x_t_wills x_t_starts x_t_code x_t_count x_t_size x_h_sorts x_h_lengths x_h_items x_h_held x_h_things x_h_sizes x_h_bodies x_h_traced x_h_number x_h_spot x_h_parted x_g_count x_g_kinds x_g_wills x_g_starts x_g_code x_g_stack x_g_kl x_g_wl x_g_sl x_g_cl x_nr) H locs → lv_has ls 4 [(0, .ref (ar v0 0)), (1, .int v1), (2, .ref (a 25)), (3, .int v3)] → (∀ (o : Int32 × (Nat → Nat → Int32)) (H : Heap) (locs : List Loc) (ls : Array Slot), K1 o = some res → Wd D A s (cW a ar t x_q0_dials x_q0_spots x_q0_skies x_q0_reports x_q0_count x_q0_chime x_q0_end x_q0_score x_q0_reportCount x_q0_z x_q0_rules x_q0_shades x_q0_facts x_q1_dials x_q1_spots x_q1_skies x_q1_reports x_q1_count x_q1_chime x_q1_end x_q1_score x_q1_reportCount x_q1_z x_q1_rules x_q1_shades x_q1_facts x_q2_dials x_q2_spots x_q2_skies x_q2_reports x_q2_count x_q2_chime x_q2_end x_q2_score x_q2_reportCount x_q2_z x_q2_rules x_q2_shades x_q2_facts x_isKept x_marks x_p_first x_p_steps x_p_most x_p_many x_p_fewest x_p_everRight x_p_opening x_p_rows x_p_rowCount x_p_acts x_p_marks x_p_deepest x_p_wanted x_t_length x_t_tape x_t_words x_t_places x_t_at x_t_kinds x_t_wills x_t_starts x_t_code x_t_count x_t_size x_h_sorts x_h_lengths x_h_items x_h_held x_h_things x_h_sizes x_h_bodies x_h_traced x_h_number x_h_spot x_h_parted x_g_count x_g_kinds x_g_wills x_g_starts x_g_code o.2 x_g_kl x_g_wl x_g_sl x_g_cl x_nr) H locs → lv_has ls 4 [(0, .ref (ar v0 0)), (1, .int v1), (2, .ref (a 25)), (3, .int o.1)] → W p l e (rmz 2 0 0) s m args below meth c H locs 0 0 Q (F0 m 58 ls [])) → W p l e (rmz 2 0 0) s m args below meth c H locs 0 0 Q (F0 m 2 ls []) := by
    clear hf hw hl hK1 kx1
    intro k
    induction k with
    | zero => intro v1 v3 x_g_stack H locs ls hf hw hl kx; simp [X7_tell_f0_L1] at hf
    | succ k ih =>
      intro v1 v3 x_g_stack H locs ls hf hw hl kx
      rw [X7_tell_f0_L1] at hf
      refine lv_iload_n hx hb dX7_tell_2 rfl (lv_at hl 3 rfl) ?_
      refine lv_aload_n hx hb dX7_tell_3 rfl (lv_at hl 0 rfl) ?_
      refine cg_X7_15_r cx hw hv0 dX7_tell_4 ?_
      refine lv_icmp_ge (tgt := 58) hx hb dX7_tell_7 (by decide) (fun hc => ?_) (fun hc => ?_)
      · have hf := ifT hf hc
        exact kx _ _ _ _ hf hw (lv_sub hl [0, 1, 2, 3] rfl)
      · have hf := ifF hf hc
        refine lv_iload_n hx hb dX7_tell_10 rfl (lv_at hl 1 rfl) ?_
        refine lv_aload_n hx hb dX7_tell_11 rfl (lv_at hl 0 rfl) ?_
        refine cg_X7_19_r cx hw hv0 dX7_tell_12 ?_
        refine lv_iload_n hx hb dX7_tell_15 rfl (lv_at hl 3 rfl) ?_
        obtain ⟨h1, hf⟩ := ckS hf
        refine cr_kinds (j := v3.toNatClampNeg) cx hw hv0 (ib_in h1) rfl dX7_tell_16 ?_
        obtain ⟨r2, h3, hf⟩ := bnS hf
        refine calSNi cx hw hl.1 (c_X11_isUnder h3) (List.mem_of_getElem? (i := 13) rfl) k_X11_isUnder rfl dX7_tell_17 rfl (Nat.le_of_ble_eq_true rfl) ⟨Nat.le_of_ble_eq_true rfl, Nat.le_of_ble_eq_true rfl⟩ ⟨Nat.le_refl _, Nat.le_refl _⟩ (fun H locs hw => ?_)
        obtain ⟨J9, hJ9, hf⟩ := jnS hf
        have wj9 : ∀ (j9 : (Nat → Nat → Int32)) (H : Heap) (locs : List Loc) (ls : Array Slot), J9 j9 = some res → Wd D A s (cW a ar t x_q0_dials x_q0_spots x_q0_skies x_q0_reports x_q0_count x_q0_chime x_q0_end x_q0_score x_q0_reportCount x_q0_z x_q0_rules x_q0_shades x_q0_facts x_q1_dials x_q1_spots x_q1_skies x_q1_reports x_q1_count x_q1_chime x_q1_end x_q1_score x_q1_reportCount x_q1_z x_q1_rules x_q1_shades x_q1_facts x_q2_dials x_q2_spots x_q2_skies x_q2_reports x_q2_count x_q2_chime x_q2_end x_q2_score x_q2_reportCount x_q2_z x_q2_rules x_q2_shades x_q2_facts x_isKept x_marks x_p_first x_p_steps x_p_most x_p_many x_p_fewest x_p_everRight x_p_opening x_p_rows x_p_rowCount x_p_acts x_p_marks x_p_deepest x_p_wanted x_t_length x_t_tape x_t_words x_t_places x_t_at x_t_kinds x_t_wills x_t_starts x_t_code x_t_count x_t_size x_h_sorts x_h_lengths x_h_items x_h_held x_h_things x_h_sizes x_h_bodies x_h_traced x_h_number x_h_spot x_h_parted x_g_count x_g_kinds x_g_wills x_g_starts x_g_code j9 x_g_kl x_g_wl x_g_sl x_g_cl x_nr) H locs → lv_has ls 4 [(0, .ref (ar v0 0)), (1, .int v1), (2, .ref (a 25)), (3, .int v3)] → W p l e (rmz 2 0 0) s m args below meth c H locs 0 0 Q (F0 m 52 ls []) := by
          intro j9 H locs ls hf hw hl
          have hf := hJ9 _ hf
          refine lv_iinc (v := (v3 + (1 : Int32))) (lv' := [(3, .int (v3 + (1 : Int32))), (0, .ref (ar v0 0)), (1, .int v1), (2, .ref (a 25))]) hx hb dX7_tell_52 hl (k := 3) rfl rfl (by decide) rfl (fun ls hl => ?_)
          refine lv_goto (tgt := 2) hx hb dX7_tell_55 (by decide) ?_
          exact ih hf hw (lv_sub hl [1, 2, 3, 0] rfl) kx
        clear hJ9
        refine lv_if_eq (tgt := 52) hx hb dX7_tell_20 (by decide) (fun hc => ?_) (fun hc => ?_)
        · have hf := ifT hf hc
          exact wj9 _ _ _ _ hf hw (lv_sub hl [0, 1, 2, 3] rfl)
        · have hf := ifF hf hc
          refine lv_aload_n hx hb dX7_tell_23 rfl (lv_at hl 0 rfl) ?_
          refine lv_aload_n hx hb dX7_tell_24 rfl (lv_at hl 0 rfl) ?_
          refine cg_X7_25_r cx hw hv0 dX7_tell_25 ?_
          refine lv_iload_n hx hb dX7_tell_28 rfl (lv_at hl 3 rfl) ?_
          obtain ⟨h4, hf⟩ := ckS hf
          refine cr_starts (j := v3.toNatClampNeg) cx hw hv0 (ib_in h4) rfl dX7_tell_29 ?_
          refine lv_aload_n hx hb dX7_tell_30 rfl (lv_at hl 0 rfl) ?_
          refine cg_X7_25_r cx hw hv0 dX7_tell_31 ?_
          refine lv_iload_n hx hb dX7_tell_34 rfl (lv_at hl 3 rfl) ?_
          refine lv_iconst (v := 1) hx hb dX7_tell_35 (by decide) ?_
          refine lv_iadd hx hb dX7_tell_36 ?_
          obtain ⟨h5, hf⟩ := ckS hf
          refine cr_starts (j := (v3 + (1 : Int32)).toNatClampNeg) cx hw hv0 (ib_in h5) rfl dX7_tell_37 ?_
          refine lv_aload_n hx hb dX7_tell_38 rfl (lv_at hl 2 rfl) ?_
          obtain ⟨r6, h7, hf⟩ := bnS hf
          refine calVi cx hw hl.1 (c_X7_holds_f0 hv0 h7) q_459 k_X7_holds rfl (rv_r hv0) rfl dX7_tell_39 rfl (Nat.le_of_ble_eq_true rfl) ⟨Nat.le_of_ble_eq_true rfl, Nat.le_of_ble_eq_true rfl⟩ ⟨Nat.le_refl _, Nat.le_refl _⟩ (fun H locs hw => ?_)
          refine lv_if_eq (tgt := 52) hx hb dX7_tell_42 (by decide) (fun hc => ?_) (fun hc => ?_)
          · have hf := ifT hf hc
            exact wj9 _ _ _ _ hf hw (lv_sub hl [0, 1, 2, 3] rfl)
          · have hf := ifF hf hc
            refine lv_aload_n hx hb dX7_tell_45 rfl (lv_at hl 0 rfl) ?_
            refine cg_X7_22_r cx hw hv0 dX7_tell_46 ?_
            refine lv_iload_n hx hb dX7_tell_49 rfl (lv_at hl 3 rfl) ?_
            obtain ⟨h8, hf⟩ := ckS hf
            refine cr_wills (j := v3.toNatClampNeg) cx hw hv0 (ib_in h8) rfl dX7_tell_50 ?_
            have hf := Option.some.inj hf
            subst hf
            exact hR _ _ _ _ _ _ hw rfl ⟨rfl, rfl⟩ dX7_tell_51
  exact wL1 n hf hw (lv_sub hl [1, 2, 3, 0] rfl) kx1
theorem dX9_willOf_0 : decode cX9_willOf 0 = .ok (.aload_n 0, 1) := by decide +kernel
theorem dX9_willOf_1 : decode cX9_willOf 1 = .ok (.getfield 36, 3) := by decide +kernel
theorem dX9_willOf_4 : decode cX9_willOf 4 = .ok (.iconst 0, 1) := by decide +kernel
theorem dX9_willOf_5 : decode cX9_willOf 5 = .ok (.aload_n 0, 1) := by decide +kernel
theorem dX9_willOf_6 : decode cX9_willOf 6 = .ok (.getfield 62, 3) := by decide +kernel
theorem dX9_willOf_9 : decode cX9_willOf 9 = .ok (.iastore, 1) := by decide +kernel
theorem dX9_willOf_10 : decode cX9_willOf 10 = .ok (.aload_n 0, 1) := by decide +kernel
theorem dX9_willOf_11 : decode cX9_willOf 11 = .ok (.getfield 36, 3) := by decide +kernel
theorem dX9_willOf_14 : decode cX9_willOf 14 = .ok (.iconst 1, 1) := by decide +kernel
theorem dX9_willOf_15 : decode cX9_willOf 15 = .ok (.aload_n 0, 1) := by decide +kernel
theorem dX9_willOf_16 : decode cX9_willOf 16 = .ok (.getfield 11, 3) := by decide +kernel
theorem dX9_willOf_19 : decode cX9_willOf 19 = .ok (.iload_n 1, 1) := by decide +kernel
theorem dX9_willOf_20 : decode cX9_willOf 20 = .ok (.aaload, 1) := by decide +kernel
theorem dX9_willOf_21 : decode cX9_willOf 21 = .ok (.iconst 1, 1) := by decide +kernel
theorem dX9_willOf_22 : decode cX9_willOf 22 = .ok (.iaload, 1) := by decide +kernel
theorem dX9_willOf_23 : decode cX9_willOf 23 = .ok (.iastore, 1) := by decide +kernel
theorem dX9_willOf_24 : decode cX9_willOf 24 = .ok (.aload_n 0, 1) := by decide +kernel
theorem dX9_willOf_25 : decode cX9_willOf 25 = .ok (.getfield 36, 3) := by decide +kernel
theorem dX9_willOf_28 : decode cX9_willOf 28 = .ok (.iconst 2, 1) := by decide +kernel
theorem dX9_willOf_29 : decode cX9_willOf 29 = .ok (.aload_n 0, 1) := by decide +kernel
theorem dX9_willOf_30 : decode cX9_willOf 30 = .ok (.getfield 11, 3) := by decide +kernel
theorem dX9_willOf_33 : decode cX9_willOf 33 = .ok (.iload_n 1, 1) := by decide +kernel
theorem dX9_willOf_34 : decode cX9_willOf 34 = .ok (.aaload, 1) := by decide +kernel
theorem dX9_willOf_35 : decode cX9_willOf 35 = .ok (.iconst 2, 1) := by decide +kernel
theorem dX9_willOf_36 : decode cX9_willOf 36 = .ok (.iaload, 1) := by decide +kernel
theorem dX9_willOf_37 : decode cX9_willOf 37 = .ok (.iastore, 1) := by decide +kernel
theorem dX9_willOf_38 : decode cX9_willOf 38 = .ok (.aload_n 0, 1) := by decide +kernel
theorem dX9_willOf_39 : decode cX9_willOf 39 = .ok (.getfield 36, 3) := by decide +kernel
theorem dX9_willOf_42 : decode cX9_willOf 42 = .ok (.iconst 3, 1) := by decide +kernel
theorem dX9_willOf_43 : decode cX9_willOf 43 = .ok (.aload_n 0, 1) := by decide +kernel
theorem dX9_willOf_44 : decode cX9_willOf 44 = .ok (.aload_n 0, 1) := by decide +kernel
theorem dX9_willOf_45 : decode cX9_willOf 45 = .ok (.getfield 62, 3) := by decide +kernel
theorem dX9_willOf_48 : decode cX9_willOf 48 = .ok (.invokevirtual 79, 3) := by decide +kernel
theorem dX9_willOf_51 : decode cX9_willOf 51 = .ok (.iconst 4, 1) := by decide +kernel
theorem dX9_willOf_52 : decode cX9_willOf 52 = .ok (.idiv, 1) := by decide +kernel
theorem dX9_willOf_53 : decode cX9_willOf 53 = .ok (.iastore, 1) := by decide +kernel
theorem dX9_willOf_54 : decode cX9_willOf 54 = .ok (.aload_n 0, 1) := by decide +kernel
theorem dX9_willOf_55 : decode cX9_willOf 55 = .ok (.getfield 36, 3) := by decide +kernel
theorem dX9_willOf_58 : decode cX9_willOf 58 = .ok (.iconst 4, 1) := by decide +kernel
theorem dX9_willOf_59 : decode cX9_willOf 59 = .ok (.iload_n 1, 1) := by decide +kernel
theorem dX9_willOf_60 : decode cX9_willOf 60 = .ok (.iastore, 1) := by decide +kernel
theorem dX9_willOf_61 : decode cX9_willOf 61 = .ok (.aload_n 0, 1) := by decide +kernel
theorem dX9_willOf_62 : decode cX9_willOf 62 = .ok (.getfield 43, 3) := by decide +kernel
theorem dX9_willOf_65 : decode cX9_willOf 65 = .ok (.aload_n 0, 1) := by decide +kernel
theorem dX9_willOf_66 : decode cX9_willOf 66 = .ok (.getfield 11, 3) := by decide +kernel
theorem dX9_willOf_69 : decode cX9_willOf 69 = .ok (.iload_n 1, 1) := by decide +kernel
theorem dX9_willOf_70 : decode cX9_willOf 70 = .ok (.aaload, 1) := by decide +kernel
theorem dX9_willOf_71 : decode cX9_willOf 71 = .ok (.iconst 0, 1) := by decide +kernel
theorem dX9_willOf_72 : decode cX9_willOf 72 = .ok (.iaload, 1) := by decide +kernel
theorem dX9_willOf_73 : decode cX9_willOf 73 = .ok (.aload_n 0, 1) := by decide +kernel
theorem dX9_willOf_74 : decode cX9_willOf 74 = .ok (.getfield 36, 3) := by decide +kernel
theorem dX9_willOf_77 : decode cX9_willOf 77 = .ok (.invokevirtual 106, 3) := by decide +kernel
theorem dX9_willOf_80 : decode cX9_willOf 80 = .ok (.ireturn, 1) := by decide +kernel
theorem k_X9_willOf : MV yX9_willOf cX9_willOf 2 (some .int) 1 := ⟨q_449, q_450, q_11, q_451, ⟨by decide, by decide, by decide +kernel⟩⟩
theorem c_X9_willOf_q0 {v1 : Int32} {res : Int32 × (Nat → Int32) × (Nat → Nat → Int32)} (hf : X9_willOf_q0 n x_q0_dials x_q0_skies x_q0_chime x_q0_rules x_q0_facts x_g_count x_g_kinds x_g_wills x_g_starts x_g_code x_g_stack x_g_kl x_g_wl x_g_sl x_g_cl x_nr v1 = some res) : MC l E0 D t yX9_willOf cX9_willOf 2 (some .int) 3 0 0 [.ref (a 1), .int v1] (cW a ar t x_q0_dials x_q0_spots x_q0_skies x_q0_reports x_q0_count x_q0_chime x_q0_end x_q0_score x_q0_reportCount x_q0_z x_q0_rules x_q0_shades x_q0_facts x_q1_dials x_q1_spots x_q1_skies x_q1_reports x_q1_count x_q1_chime x_q1_end x_q1_score x_q1_reportCount x_q1_z x_q1_rules x_q1_shades x_q1_facts x_q2_dials x_q2_spots x_q2_skies x_q2_reports x_q2_count x_q2_chime x_q2_end x_q2_score x_q2_reportCount x_q2_z x_q2_rules x_q2_shades x_q2_facts x_isKept x_marks x_p_first x_p_steps x_p_most x_p_many x_p_fewest x_p_everRight x_p_opening x_p_rows x_p_rowCount x_p_acts x_p_marks x_p_deepest x_p_wanted x_t_length x_t_tape x_t_words x_t_places x_t_at x_t_kinds x_t_wills x_t_starts x_t_code x_t_count x_t_size x_h_sorts x_h_lengths x_h_items x_h_held x_h_things x_h_sizes x_h_bodies x_h_traced x_h_number x_h_spot x_h_parted x_g_count x_g_kinds x_g_wills x_g_starts x_g_code x_g_stack x_g_kl x_g_wl x_g_sl x_g_cl x_nr) (Qi res.1 (cW a ar t x_q0_dials x_q0_spots x_q0_skies x_q0_reports x_q0_count x_q0_chime x_q0_end x_q0_score x_q0_reportCount x_q0_z x_q0_rules x_q0_shades res.2.1 x_q1_dials x_q1_spots x_q1_skies x_q1_reports x_q1_count x_q1_chime x_q1_end x_q1_score x_q1_reportCount x_q1_z x_q1_rules x_q1_shades x_q1_facts x_q2_dials x_q2_spots x_q2_skies x_q2_reports x_q2_count x_q2_chime x_q2_end x_q2_score x_q2_reportCount x_q2_z x_q2_rules x_q2_shades x_q2_facts x_isKept x_marks x_p_first x_p_steps x_p_most x_p_many x_p_fewest x_p_everRight x_p_opening x_p_rows x_p_rowCount x_p_acts x_p_marks x_p_deepest x_p_wanted x_t_length x_t_tape x_t_words x_t_places x_t_at x_t_kinds x_t_wills x_t_starts x_t_code x_t_count x_t_size x_h_sorts x_h_lengths x_h_items x_h_held x_h_things x_h_sizes x_h_bodies x_h_traced x_h_number x_h_spot x_h_parted x_g_count x_g_kinds x_g_wills x_g_starts x_g_code res.2.2 x_g_kl x_g_wl x_g_sl x_g_cl x_nr)) := by
  unfold X9_willOf_q0 at hf
  refine MC.ofI pn_X9 (Nat.le_of_ble_eq_true rfl) ?_
  intro p e s m args below meth c A Q ls cx hR hw hl
  have hx := cx.1
  have hb := cx.2.1
  have hl : lv_has ls 2 [(0, .ref (a 1)), (1, .int v1)] := hl
  refine lv_aload_n hx hb dX9_willOf_0 rfl (lv_at hl 0 rfl) ?_
  refine cg_X9_36_q0 cx hw dX9_willOf_1 ?_
  refine lv_iconst (v := 0) hx hb dX9_willOf_4 (by decide) ?_
  refine lv_aload_n hx hb dX9_willOf_5 rfl (lv_at hl 0 rfl) ?_
  refine cg_X9_62_q0 cx hw dX9_willOf_6 ?_
  refine cs_q0_facts (j := 0) cx hw (ib_in (by decide)) (by decide) dX9_willOf_9 (fun H locs hw => ?_)
  refine lv_aload_n hx hb dX9_willOf_10 rfl (lv_at hl 0 rfl) ?_
  refine cg_X9_36_q0 cx hw dX9_willOf_11 ?_
  refine lv_iconst (v := 1) hx hb dX9_willOf_14 (by decide) ?_
  refine lv_aload_n hx hb dX9_willOf_15 rfl (lv_at hl 0 rfl) ?_
  refine cg_X9_11_q0 cx hw dX9_willOf_16 ?_
  refine lv_iload_n hx hb dX9_willOf_19 rfl (lv_at hl 1 rfl) ?_
  obtain ⟨h1, hf⟩ := ckS hf
  refine co_q0_dials (j := v1.toNatClampNeg) cx hw (ib_in h1) rfl dX9_willOf_20 ?_
  refine lv_iconst (v := 1) hx hb dX9_willOf_21 (by decide) ?_
  refine cm_q0_dials (j := 1) cx hw (ib_lt h1) (ib_in (by decide)) (by decide) dX9_willOf_22 ?_
  refine cs_q0_facts (j := 1) cx hw (ib_in (by decide)) (by decide) dX9_willOf_23 (fun H locs hw => ?_)
  refine lv_aload_n hx hb dX9_willOf_24 rfl (lv_at hl 0 rfl) ?_
  refine cg_X9_36_q0 cx hw dX9_willOf_25 ?_
  refine lv_iconst (v := 2) hx hb dX9_willOf_28 (by decide) ?_
  refine lv_aload_n hx hb dX9_willOf_29 rfl (lv_at hl 0 rfl) ?_
  refine cg_X9_11_q0 cx hw dX9_willOf_30 ?_
  refine lv_iload_n hx hb dX9_willOf_33 rfl (lv_at hl 1 rfl) ?_
  obtain ⟨h2, hf⟩ := ckS hf
  refine co_q0_dials (j := v1.toNatClampNeg) cx hw (ib_in h2) rfl dX9_willOf_34 ?_
  refine lv_iconst (v := 2) hx hb dX9_willOf_35 (by decide) ?_
  refine cm_q0_dials (j := 2) cx hw (ib_lt h2) (ib_in (by decide)) (by decide) dX9_willOf_36 ?_
  refine cs_q0_facts (j := 2) cx hw (ib_in (by decide)) (by decide) dX9_willOf_37 (fun H locs hw => ?_)
  refine lv_aload_n hx hb dX9_willOf_38 rfl (lv_at hl 0 rfl) ?_
  refine cg_X9_36_q0 cx hw dX9_willOf_39 ?_
  refine lv_iconst (v := 3) hx hb dX9_willOf_42 (by decide) ?_
  refine lv_aload_n hx hb dX9_willOf_43 rfl (lv_at hl 0 rfl) ?_
  refine lv_aload_n hx hb dX9_willOf_44 rfl (lv_at hl 0 rfl) ?_
  refine cg_X9_62_q0 cx hw dX9_willOf_45 ?_
  obtain ⟨r3, h4, hf⟩ := bnS hf
  refine calVi cx hw hl.1 (c_X9_skyAt_q0 h4) q_376 k_X9_skyAt rfl rv_q0 rfl dX9_willOf_48 rfl (Nat.le_of_ble_eq_true rfl) ⟨Nat.le_of_ble_eq_true rfl, Nat.le_of_ble_eq_true rfl⟩ ⟨Nat.le_refl _, Nat.le_refl _⟩ (fun H locs hw => ?_)
  refine lv_iconst (v := 4) hx hb dX9_willOf_51 (by decide) ?_
  refine lv_idiv hx hb dX9_willOf_52 (by decide) ?_
  refine cs_q0_facts (j := 3) cx hw (ib_in (by decide)) (by decide) dX9_willOf_53 (fun H locs hw => ?_)
  refine lv_aload_n hx hb dX9_willOf_54 rfl (lv_at hl 0 rfl) ?_
  refine cg_X9_36_q0 cx hw dX9_willOf_55 ?_
  refine lv_iconst (v := 4) hx hb dX9_willOf_58 (by decide) ?_
  refine lv_iload_n hx hb dX9_willOf_59 rfl (lv_at hl 1 rfl) ?_
  refine cs_q0_facts (j := 4) cx hw (ib_in (by decide)) (by decide) dX9_willOf_60 (fun H locs hw => ?_)
  refine lv_aload_n hx hb dX9_willOf_61 rfl (lv_at hl 0 rfl) ?_
  obtain ⟨h5, hf⟩ := ckS hf
  refine cg_X9_43_q0 cx hw dX9_willOf_62 ?_
  refine lv_aload_n hx hb dX9_willOf_65 rfl (lv_at hl 0 rfl) ?_
  refine cg_X9_11_q0 cx hw dX9_willOf_66 ?_
  refine lv_iload_n hx hb dX9_willOf_69 rfl (lv_at hl 1 rfl) ?_
  obtain ⟨h6, hf⟩ := ckS hf
  refine co_q0_dials (j := v1.toNatClampNeg) cx hw (ib_in h6) rfl dX9_willOf_70 ?_
  refine lv_iconst (v := 0) hx hb dX9_willOf_71 (by decide) ?_
  refine cm_q0_dials (j := 0) cx hw (ib_lt h6) (ib_in (by decide)) (by decide) dX9_willOf_72 ?_
  refine lv_aload_n hx hb dX9_willOf_73 rfl (lv_at hl 0 rfl) ?_
  refine cg_X9_36_q0 cx hw dX9_willOf_74 ?_
  obtain ⟨r7, h8, hf⟩ := bnS hf
  refine calVi cx hw hl.1 (c_X7_tell_f0 (dc h5) h8) q_452 k_X7_tell rfl (rv_r (dc h5)) rfl dX9_willOf_77 rfl (Nat.le_of_ble_eq_true rfl) ⟨Nat.le_of_ble_eq_true rfl, Nat.le_of_ble_eq_true rfl⟩ ⟨Nat.le_refl _, Nat.le_refl _⟩ (fun H locs hw => ?_)
  have hf := Option.some.inj hf
  subst hf
  exact hR _ _ _ _ _ _ hw rfl ⟨rfl, rfl⟩ dX9_willOf_80
theorem dX9_mayBeSet_0 : decode cX9_mayBeSet 0 = .ok (.aload_n 0, 1) := by decide +kernel
theorem dX9_mayBeSet_1 : decode cX9_mayBeSet 1 = .ok (.iload_n 1, 1) := by decide +kernel
theorem dX9_mayBeSet_2 : decode cX9_mayBeSet 2 = .ok (.invokevirtual 112, 3) := by decide +kernel
theorem dX9_mayBeSet_5 : decode cX9_mayBeSet 5 = .ok (.ifCond .le 15, 3) := by decide +kernel
theorem dX9_mayBeSet_8 : decode cX9_mayBeSet 8 = .ok (.aload_n 0, 1) := by decide +kernel
theorem dX9_mayBeSet_9 : decode cX9_mayBeSet 9 = .ok (.iload_n 1, 1) := by decide +kernel
theorem dX9_mayBeSet_10 : decode cX9_mayBeSet 10 = .ok (.invokevirtual 115, 3) := by decide +kernel
theorem dX9_mayBeSet_13 : decode cX9_mayBeSet 13 = .ok (.ifCond .ne 7, 3) := by decide +kernel
theorem dX9_mayBeSet_16 : decode cX9_mayBeSet 16 = .ok (.iconst 1, 1) := by decide +kernel
theorem dX9_mayBeSet_17 : decode cX9_mayBeSet 17 = .ok (.goto 4, 3) := by decide +kernel
theorem dX9_mayBeSet_20 : decode cX9_mayBeSet 20 = .ok (.iconst 0, 1) := by decide +kernel
theorem dX9_mayBeSet_21 : decode cX9_mayBeSet 21 = .ok (.ireturn, 1) := by decide +kernel
theorem k_X9_mayBeSet : MV yX9_mayBeSet cX9_mayBeSet 2 (some .boolean) 1 := ⟨q_444, q_445, q_11, q_446, ⟨by decide, by decide, by decide +kernel⟩⟩
theorem c_X9_mayBeSet_q0 {v1 : Int32} {res : Int32 × (Nat → Int32) × (Nat → Nat → Int32)} (hf : X9_mayBeSet_q0 n x_q0_dials x_q0_skies x_q0_chime x_q0_rules x_q0_facts x_g_count x_g_kinds x_g_wills x_g_starts x_g_code x_g_stack x_g_kl x_g_wl x_g_sl x_g_cl x_nr v1 = some res) : MC l E0 D t yX9_mayBeSet cX9_mayBeSet 2 (some .boolean) 4 0 0 [.ref (a 1), .int v1] (cW a ar t x_q0_dials x_q0_spots x_q0_skies x_q0_reports x_q0_count x_q0_chime x_q0_end x_q0_score x_q0_reportCount x_q0_z x_q0_rules x_q0_shades x_q0_facts x_q1_dials x_q1_spots x_q1_skies x_q1_reports x_q1_count x_q1_chime x_q1_end x_q1_score x_q1_reportCount x_q1_z x_q1_rules x_q1_shades x_q1_facts x_q2_dials x_q2_spots x_q2_skies x_q2_reports x_q2_count x_q2_chime x_q2_end x_q2_score x_q2_reportCount x_q2_z x_q2_rules x_q2_shades x_q2_facts x_isKept x_marks x_p_first x_p_steps x_p_most x_p_many x_p_fewest x_p_everRight x_p_opening x_p_rows x_p_rowCount x_p_acts x_p_marks x_p_deepest x_p_wanted x_t_length x_t_tape x_t_words x_t_places x_t_at x_t_kinds x_t_wills x_t_starts x_t_code x_t_count x_t_size x_h_sorts x_h_lengths x_h_items x_h_held x_h_things x_h_sizes x_h_bodies x_h_traced x_h_number x_h_spot x_h_parted x_g_count x_g_kinds x_g_wills x_g_starts x_g_code x_g_stack x_g_kl x_g_wl x_g_sl x_g_cl x_nr) (Qi res.1 (cW a ar t x_q0_dials x_q0_spots x_q0_skies x_q0_reports x_q0_count x_q0_chime x_q0_end x_q0_score x_q0_reportCount x_q0_z x_q0_rules x_q0_shades res.2.1 x_q1_dials x_q1_spots x_q1_skies x_q1_reports x_q1_count x_q1_chime x_q1_end x_q1_score x_q1_reportCount x_q1_z x_q1_rules x_q1_shades x_q1_facts x_q2_dials x_q2_spots x_q2_skies x_q2_reports x_q2_count x_q2_chime x_q2_end x_q2_score x_q2_reportCount x_q2_z x_q2_rules x_q2_shades x_q2_facts x_isKept x_marks x_p_first x_p_steps x_p_most x_p_many x_p_fewest x_p_everRight x_p_opening x_p_rows x_p_rowCount x_p_acts x_p_marks x_p_deepest x_p_wanted x_t_length x_t_tape x_t_words x_t_places x_t_at x_t_kinds x_t_wills x_t_starts x_t_code x_t_count x_t_size x_h_sorts x_h_lengths x_h_items x_h_held x_h_things x_h_sizes x_h_bodies x_h_traced x_h_number x_h_spot x_h_parted x_g_count x_g_kinds x_g_wills x_g_starts x_g_code res.2.2 x_g_kl x_g_wl x_g_sl x_g_cl x_nr)) := by
  unfold X9_mayBeSet_q0 at hf
  refine MC.ofI pn_X9 (Nat.le_of_ble_eq_true rfl) ?_
  intro p e s m args below meth c A Q ls cx hR hw hl
  have hx := cx.1
  have hb := cx.2.1
  have hl : lv_has ls 2 [(0, .ref (a 1)), (1, .int v1)] := hl
  refine lv_aload_n hx hb dX9_mayBeSet_0 rfl (lv_at hl 0 rfl) ?_
  refine lv_iload_n hx hb dX9_mayBeSet_1 rfl (lv_at hl 1 rfl) ?_
  obtain ⟨r1, h2, hf⟩ := bnS hf
  refine calVi cx hw hl.1 (c_X9_paysOf_q0 h2) q_447 k_X9_paysOf rfl rv_q0 rfl dX9_mayBeSet_2 rfl (Nat.le_of_ble_eq_true rfl) ⟨Nat.le_of_ble_eq_true rfl, Nat.le_of_ble_eq_true rfl⟩ ⟨Nat.le_refl _, Nat.le_refl _⟩ (fun H locs hw => ?_)
  refine lv_if_le (tgt := 20) hx hb dX9_mayBeSet_5 (by decide) (fun hc => ?_) (fun hc => ?_)
  · have hf := ifT hf hc
    refine lv_iconst (v := 0) hx hb dX9_mayBeSet_20 (by decide) ?_
    have hf := Option.some.inj hf
    subst hf
    exact hR _ _ _ _ _ _ hw rfl ⟨rfl, rfl⟩ dX9_mayBeSet_21
  · have hf := ifF hf hc
    refine lv_aload_n hx hb dX9_mayBeSet_8 rfl (lv_at hl 0 rfl) ?_
    refine lv_iload_n hx hb dX9_mayBeSet_9 rfl (lv_at hl 1 rfl) ?_
    obtain ⟨r3, h4, hf⟩ := bnS hf
    refine calVi cx hw hl.1 (c_X9_willOf_q0 h4) q_448 k_X9_willOf rfl rv_q0 rfl dX9_mayBeSet_10 rfl (Nat.le_of_ble_eq_true rfl) ⟨Nat.le_of_ble_eq_true rfl, Nat.le_of_ble_eq_true rfl⟩ ⟨Nat.le_refl _, Nat.le_refl _⟩ (fun H locs hw => ?_)
    refine lv_if_ne (tgt := 20) hx hb dX9_mayBeSet_13 (by decide) (fun hc => ?_) (fun hc => ?_)
    · have hf := ifF hf hc
      refine lv_iconst (v := 0) hx hb dX9_mayBeSet_20 (by decide) ?_
      have hf := Option.some.inj hf
      subst hf
      exact hR _ _ _ _ _ _ hw rfl ⟨rfl, rfl⟩ dX9_mayBeSet_21
    · have hf := ifT hf hc
      refine lv_iconst (v := 1) hx hb dX9_mayBeSet_16 (by decide) ?_
      refine lv_goto (tgt := 21) hx hb dX9_mayBeSet_17 (by decide) ?_
      have hf := Option.some.inj hf
      subst hf
      exact hR _ _ _ _ _ _ hw rfl ⟨rfl, rfl⟩ dX9_mayBeSet_21
theorem dX11_dialOf_0 : decode cX11_dialOf 0 = .ok (.aload_n 0, 1) := by decide +kernel
theorem dX11_dialOf_1 : decode cX11_dialOf 1 = .ok (.getfield 55, 3) := by decide +kernel
theorem dX11_dialOf_4 : decode cX11_dialOf 4 = .ok (.iload_n 1, 1) := by decide +kernel
theorem dX11_dialOf_5 : decode cX11_dialOf 5 = .ok (.invokevirtual 90, 3) := by decide +kernel
theorem dX11_dialOf_8 : decode cX11_dialOf 8 = .ok (.ifCond .ne 5, 3) := by decide +kernel
theorem dX11_dialOf_11 : decode cX11_dialOf 11 = .ok (.iconst (-1), 1) := by decide +kernel
theorem dX11_dialOf_12 : decode cX11_dialOf 12 = .ok (.ireturn, 1) := by decide +kernel
theorem dX11_dialOf_13 : decode cX11_dialOf 13 = .ok (.iload_n 2, 1) := by decide +kernel
theorem dX11_dialOf_14 : decode cX11_dialOf 14 = .ok (.iconst 0, 1) := by decide +kernel
theorem dX11_dialOf_15 : decode cX11_dialOf 15 = .ok (.iconst 4, 1) := by decide +kernel
theorem dX11_dialOf_16 : decode cX11_dialOf 16 = .ok (.invokestatic 74, 3) := by decide +kernel
theorem dX11_dialOf_19 : decode cX11_dialOf 19 = .ok (.ifCond .eq 15, 3) := by decide +kernel
theorem dX11_dialOf_22 : decode cX11_dialOf 22 = .ok (.aload_n 0, 1) := by decide +kernel
theorem dX11_dialOf_23 : decode cX11_dialOf 23 = .ok (.getfield 55, 3) := by decide +kernel
theorem dX11_dialOf_26 : decode cX11_dialOf 26 = .ok (.getfield 93, 3) := by decide +kernel
theorem dX11_dialOf_29 : decode cX11_dialOf 29 = .ok (.iload_n 1, 1) := by decide +kernel
theorem dX11_dialOf_30 : decode cX11_dialOf 30 = .ok (.aaload, 1) := by decide +kernel
theorem dX11_dialOf_31 : decode cX11_dialOf 31 = .ok (.iload_n 2, 1) := by decide +kernel
theorem dX11_dialOf_32 : decode cX11_dialOf 32 = .ok (.iaload, 1) := by decide +kernel
theorem dX11_dialOf_33 : decode cX11_dialOf 33 = .ok (.ireturn, 1) := by decide +kernel
theorem dX11_dialOf_34 : decode cX11_dialOf 34 = .ok (.iload_n 2, 1) := by decide +kernel
theorem dX11_dialOf_35 : decode cX11_dialOf 35 = .ok (.tableswitch 86 5 9 #[33, 42, 51, 60, 77], 33) := by decide +kernel
theorem dX11_dialOf_68 : decode cX11_dialOf 68 = .ok (.aload_n 0, 1) := by decide +kernel
theorem dX11_dialOf_69 : decode cX11_dialOf 69 = .ok (.getfield 55, 3) := by decide +kernel
theorem dX11_dialOf_72 : decode cX11_dialOf 72 = .ok (.iload_n 1, 1) := by decide +kernel
theorem dX11_dialOf_73 : decode cX11_dialOf 73 = .ok (.invokevirtual 97, 3) := by decide +kernel
theorem dX11_dialOf_76 : decode cX11_dialOf 76 = .ok (.ireturn, 1) := by decide +kernel
theorem dX11_dialOf_77 : decode cX11_dialOf 77 = .ok (.aload_n 0, 1) := by decide +kernel
theorem dX11_dialOf_78 : decode cX11_dialOf 78 = .ok (.getfield 55, 3) := by decide +kernel
theorem dX11_dialOf_81 : decode cX11_dialOf 81 = .ok (.iload_n 1, 1) := by decide +kernel
theorem dX11_dialOf_82 : decode cX11_dialOf 82 = .ok (.invokevirtual 101, 3) := by decide +kernel
theorem dX11_dialOf_85 : decode cX11_dialOf 85 = .ok (.ireturn, 1) := by decide +kernel
theorem dX11_dialOf_86 : decode cX11_dialOf 86 = .ok (.aload_n 0, 1) := by decide +kernel
theorem dX11_dialOf_87 : decode cX11_dialOf 87 = .ok (.getfield 55, 3) := by decide +kernel
theorem dX11_dialOf_90 : decode cX11_dialOf 90 = .ok (.iload_n 1, 1) := by decide +kernel
theorem dX11_dialOf_91 : decode cX11_dialOf 91 = .ok (.invokevirtual 104, 3) := by decide +kernel
theorem dX11_dialOf_94 : decode cX11_dialOf 94 = .ok (.ireturn, 1) := by decide +kernel
theorem dX11_dialOf_95 : decode cX11_dialOf 95 = .ok (.aload_n 0, 1) := by decide +kernel
theorem dX11_dialOf_96 : decode cX11_dialOf 96 = .ok (.getfield 55, 3) := by decide +kernel
theorem dX11_dialOf_99 : decode cX11_dialOf 99 = .ok (.iload_n 1, 1) := by decide +kernel
theorem dX11_dialOf_100 : decode cX11_dialOf 100 = .ok (.invokevirtual 107, 3) := by decide +kernel
theorem dX11_dialOf_103 : decode cX11_dialOf 103 = .ok (.ifCond .eq 7, 3) := by decide +kernel
theorem dX11_dialOf_106 : decode cX11_dialOf 106 = .ok (.iconst 1, 1) := by decide +kernel
theorem dX11_dialOf_107 : decode cX11_dialOf 107 = .ok (.goto 4, 3) := by decide +kernel
theorem dX11_dialOf_110 : decode cX11_dialOf 110 = .ok (.iconst 0, 1) := by decide +kernel
theorem dX11_dialOf_111 : decode cX11_dialOf 111 = .ok (.ireturn, 1) := by decide +kernel
theorem dX11_dialOf_112 : decode cX11_dialOf 112 = .ok (.aload_n 0, 1) := by decide +kernel
theorem dX11_dialOf_113 : decode cX11_dialOf 113 = .ok (.getfield 55, 3) := by decide +kernel
theorem dX11_dialOf_116 : decode cX11_dialOf 116 = .ok (.iload_n 1, 1) := by decide +kernel
theorem dX11_dialOf_117 : decode cX11_dialOf 117 = .ok (.invokevirtual 110, 3) := by decide +kernel
theorem dX11_dialOf_120 : decode cX11_dialOf 120 = .ok (.ireturn, 1) := by decide +kernel
theorem dX11_dialOf_121 : decode cX11_dialOf 121 = .ok (.iconst (-1), 1) := by decide +kernel
theorem dX11_dialOf_122 : decode cX11_dialOf 122 = .ok (.ireturn, 1) := by decide +kernel
theorem k_X11_dialOf : MV yX11_dialOf cX11_dialOf 3 (some .int) 2 := ⟨q_361, q_362, q_1, q_363, ⟨by decide, by decide, by decide +kernel⟩⟩
theorem c_X11_dialOf {v1 : Int32} {v2 : Int32} {res : Int32 × (Nat → Int32) × (Nat → Int32) × (Nat → Nat → Int32)} (hf : X11_dialOf n x_q0_dials x_q0_spots x_q0_skies x_q0_count x_q0_chime x_q0_rules x_q0_shades x_q0_facts x_g_count x_g_kinds x_g_wills x_g_starts x_g_code x_g_stack x_g_kl x_g_wl x_g_sl x_g_cl x_nr v1 v2 = some res) : MC l E0 D t yX11_dialOf cX11_dialOf 3 (some .int) 6 0 0 [.ref (a 0), .int v1, .int v2] (cW a ar t x_q0_dials x_q0_spots x_q0_skies x_q0_reports x_q0_count x_q0_chime x_q0_end x_q0_score x_q0_reportCount x_q0_z x_q0_rules x_q0_shades x_q0_facts x_q1_dials x_q1_spots x_q1_skies x_q1_reports x_q1_count x_q1_chime x_q1_end x_q1_score x_q1_reportCount x_q1_z x_q1_rules x_q1_shades x_q1_facts x_q2_dials x_q2_spots x_q2_skies x_q2_reports x_q2_count x_q2_chime x_q2_end x_q2_score x_q2_reportCount x_q2_z x_q2_rules x_q2_shades x_q2_facts x_isKept x_marks x_p_first x_p_steps x_p_most x_p_many x_p_fewest x_p_everRight x_p_opening x_p_rows x_p_rowCount x_p_acts x_p_marks x_p_deepest x_p_wanted x_t_length x_t_tape x_t_words x_t_places x_t_at x_t_kinds x_t_wills x_t_starts x_t_code x_t_count x_t_size x_h_sorts x_h_lengths x_h_items x_h_held x_h_things x_h_sizes x_h_bodies x_h_traced x_h_number x_h_spot x_h_parted x_g_count x_g_kinds x_g_wills x_g_starts x_g_code x_g_stack x_g_kl x_g_wl x_g_sl x_g_cl x_nr) (Qi res.1 (cW a ar t x_q0_dials x_q0_spots x_q0_skies x_q0_reports x_q0_count x_q0_chime x_q0_end x_q0_score x_q0_reportCount x_q0_z x_q0_rules res.2.1 res.2.2.1 x_q1_dials x_q1_spots x_q1_skies x_q1_reports x_q1_count x_q1_chime x_q1_end x_q1_score x_q1_reportCount x_q1_z x_q1_rules x_q1_shades x_q1_facts x_q2_dials x_q2_spots x_q2_skies x_q2_reports x_q2_count x_q2_chime x_q2_end x_q2_score x_q2_reportCount x_q2_z x_q2_rules x_q2_shades x_q2_facts x_isKept x_marks x_p_first x_p_steps x_p_most x_p_many x_p_fewest x_p_everRight x_p_opening x_p_rows x_p_rowCount x_p_acts x_p_marks x_p_deepest x_p_wanted x_t_length x_t_tape x_t_words x_t_places x_t_at x_t_kinds x_t_wills x_t_starts x_t_code x_t_count x_t_size x_h_sorts x_h_lengths x_h_items x_h_held x_h_things x_h_sizes x_h_bodies x_h_traced x_h_number x_h_spot x_h_parted x_g_count x_g_kinds x_g_wills x_g_starts x_g_code res.2.2.2 x_g_kl x_g_wl x_g_sl x_g_cl x_nr)) := by
  unfold X11_dialOf at hf
  refine MC.ofI pn_X11 (Nat.le_of_ble_eq_true rfl) ?_
  intro p e s m args below meth c A Q ls cx hR hw hl
  have hx := cx.1
  have hb := cx.2.1
  have hl : lv_has ls 3 [(0, .ref (a 0)), (1, .int v1), (2, .int v2)] := hl
  refine lv_aload_n hx hb dX11_dialOf_0 rfl (lv_at hl 0 rfl) ?_
  refine cg_X11_55_ds cx hw dX11_dialOf_1 ?_
  refine lv_iload_n hx hb dX11_dialOf_4 rfl (lv_at hl 1 rfl) ?_
  refine calVi cx hw hl.1 (c_X9_has_q0 rfl) q_364 k_X9_has rfl rv_q0 rfl dX11_dialOf_5 rfl (Nat.le_of_ble_eq_true rfl) ⟨Nat.le_of_ble_eq_true rfl, Nat.le_of_ble_eq_true rfl⟩ ⟨Nat.le_refl _, Nat.le_refl _⟩ (fun H locs hw => ?_)
  refine lv_if_ne (tgt := 13) hx hb dX11_dialOf_8 (by decide) (fun hc => ?_) (fun hc => ?_)
  · have hf := ifF hf hc
    refine lv_iload_n hx hb dX11_dialOf_13 rfl (lv_at hl 2 rfl) ?_
    refine lv_iconst (v := 0) hx hb dX11_dialOf_14 (by decide) ?_
    refine lv_iconst (v := 4) hx hb dX11_dialOf_15 (by decide) ?_
    refine calSi cx hw hl.1 (c_X11_isIn rfl) q_350 k_X11_isIn rfl dX11_dialOf_16 rfl (Nat.le_of_ble_eq_true rfl) ⟨Nat.le_of_ble_eq_true rfl, Nat.le_of_ble_eq_true rfl⟩ ⟨Nat.le_refl _, Nat.le_refl _⟩ (fun H locs hw => ?_)
    refine lv_if_eq (tgt := 34) hx hb dX11_dialOf_19 (by decide) (fun hc => ?_) (fun hc => ?_)
    · have hf := ifT hf hc
      refine lv_iload_n hx hb dX11_dialOf_34 rfl (lv_at hl 2 rfl) ?_
      by_cases hc5 : v2 = (5 : Int32)
      · have hf := ifT hf hc5
        refine lv_tableIn (tgt := 68) hx hb dX11_dialOf_35 (by rw [hc5]; decide) (by rw [hc5]; decide) (by rw [hc5]; rfl) (by decide) ?_
        refine lv_aload_n hx hb dX11_dialOf_68 rfl (lv_at hl 0 rfl) ?_
        refine cg_X11_55_ds cx hw dX11_dialOf_69 ?_
        refine lv_iload_n hx hb dX11_dialOf_72 rfl (lv_at hl 1 rfl) ?_
        obtain ⟨r1, h2, hf⟩ := bnS hf
        refine calVi cx hw hl.1 (c_X9_shadesOf_q0 h2) q_368 k_X9_shadesOf rfl rv_q0 rfl dX11_dialOf_73 rfl (Nat.le_of_ble_eq_true rfl) ⟨Nat.le_of_ble_eq_true rfl, Nat.le_of_ble_eq_true rfl⟩ ⟨Nat.le_refl _, Nat.le_refl _⟩ (fun H locs hw => ?_)
        have hf := Option.some.inj hf
        subst hf
        exact hR _ _ _ _ _ _ hw rfl ⟨rfl, rfl⟩ dX11_dialOf_76
      · have hf := ifF hf hc5
        by_cases hc6 : v2 = (6 : Int32)
        · have hf := ifT hf hc6
          refine lv_tableIn (tgt := 77) hx hb dX11_dialOf_35 (by rw [hc6]; decide) (by rw [hc6]; decide) (by rw [hc6]; rfl) (by decide) ?_
          refine lv_aload_n hx hb dX11_dialOf_77 rfl (lv_at hl 0 rfl) ?_
          refine cg_X11_55_ds cx hw dX11_dialOf_78 ?_
          refine lv_iload_n hx hb dX11_dialOf_81 rfl (lv_at hl 1 rfl) ?_
          obtain ⟨r3, h4, hf⟩ := bnS hf
          refine calVi cx hw hl.1 (c_X9_slipsOf_q0 h4) q_403 k_X9_slipsOf rfl rv_q0 rfl dX11_dialOf_82 rfl (Nat.le_of_ble_eq_true rfl) ⟨Nat.le_of_ble_eq_true rfl, Nat.le_of_ble_eq_true rfl⟩ ⟨Nat.le_refl _, Nat.le_refl _⟩ (fun H locs hw => ?_)
          have hf := Option.some.inj hf
          subst hf
          exact hR _ _ _ _ _ _ hw rfl ⟨rfl, rfl⟩ dX11_dialOf_85
        · have hf := ifF hf hc6
          by_cases hc7 : v2 = (7 : Int32)
          · have hf := ifT hf hc7
            refine lv_tableIn (tgt := 86) hx hb dX11_dialOf_35 (by rw [hc7]; decide) (by rw [hc7]; decide) (by rw [hc7]; rfl) (by decide) ?_
            refine lv_aload_n hx hb dX11_dialOf_86 rfl (lv_at hl 0 rfl) ?_
            refine cg_X11_55_ds cx hw dX11_dialOf_87 ?_
            refine lv_iload_n hx hb dX11_dialOf_90 rfl (lv_at hl 1 rfl) ?_
            obtain ⟨r5, h6, hf⟩ := bnS hf
            refine calVi cx hw hl.1 (c_X9_paysOf_q0 h6) q_435 k_X9_paysOf rfl rv_q0 rfl dX11_dialOf_91 rfl (Nat.le_of_ble_eq_true rfl) ⟨Nat.le_of_ble_eq_true rfl, Nat.le_of_ble_eq_true rfl⟩ ⟨Nat.le_refl _, Nat.le_refl _⟩ (fun H locs hw => ?_)
            have hf := Option.some.inj hf
            subst hf
            exact hR _ _ _ _ _ _ hw rfl ⟨rfl, rfl⟩ dX11_dialOf_94
          · have hf := ifF hf hc7
            by_cases hc8 : v2 = (8 : Int32)
            · have hf := ifT hf hc8
              refine lv_tableIn (tgt := 95) hx hb dX11_dialOf_35 (by rw [hc8]; decide) (by rw [hc8]; decide) (by rw [hc8]; rfl) (by decide) ?_
              refine lv_aload_n hx hb dX11_dialOf_95 rfl (lv_at hl 0 rfl) ?_
              refine cg_X11_55_ds cx hw dX11_dialOf_96 ?_
              refine lv_iload_n hx hb dX11_dialOf_99 rfl (lv_at hl 1 rfl) ?_
              obtain ⟨r7, h8, hf⟩ := bnS hf
              refine calVi cx hw hl.1 (c_X9_mayBeSet_q0 h8) q_443 k_X9_mayBeSet rfl rv_q0 rfl dX11_dialOf_100 rfl (Nat.le_of_ble_eq_true rfl) ⟨Nat.le_of_ble_eq_true rfl, Nat.le_of_ble_eq_true rfl⟩ ⟨Nat.le_refl _, Nat.le_refl _⟩ (fun H locs hw => ?_)
              refine lv_if_eq (tgt := 110) hx hb dX11_dialOf_103 (by decide) (fun hc => ?_) (fun hc => ?_)
              · have hf := ifT hf hc
                refine lv_iconst (v := 0) hx hb dX11_dialOf_110 (by decide) ?_
                have hf := Option.some.inj hf
                subst hf
                exact hR _ _ _ _ _ _ hw rfl ⟨rfl, rfl⟩ dX11_dialOf_111
              · have hf := ifF hf hc
                refine lv_iconst (v := 1) hx hb dX11_dialOf_106 (by decide) ?_
                refine lv_goto (tgt := 111) hx hb dX11_dialOf_107 (by decide) ?_
                have hf := Option.some.inj hf
                subst hf
                exact hR _ _ _ _ _ _ hw rfl ⟨rfl, rfl⟩ dX11_dialOf_111
            · have hf := ifF hf hc8
              by_cases hc9 : v2 = (9 : Int32)
              · have hf := ifT hf hc9
                refine lv_tableIn (tgt := 112) hx hb dX11_dialOf_35 (by rw [hc9]; decide) (by rw [hc9]; decide) (by rw [hc9]; rfl) (by decide) ?_
                refine lv_aload_n hx hb dX11_dialOf_112 rfl (lv_at hl 0 rfl) ?_
                refine cg_X11_55_ds cx hw dX11_dialOf_113 ?_
                refine lv_iload_n hx hb dX11_dialOf_116 rfl (lv_at hl 1 rfl) ?_
                obtain ⟨r9, h10, hf⟩ := bnS hf
                refine calVi cx hw hl.1 (c_X9_willOf_q0 h10) q_463 k_X9_willOf rfl rv_q0 rfl dX11_dialOf_117 rfl (Nat.le_of_ble_eq_true rfl) ⟨Nat.le_of_ble_eq_true rfl, Nat.le_of_ble_eq_true rfl⟩ ⟨Nat.le_refl _, Nat.le_refl _⟩ (fun H locs hw => ?_)
                have hf := Option.some.inj hf
                subst hf
                exact hR _ _ _ _ _ _ hw rfl ⟨rfl, rfl⟩ dX11_dialOf_120
              · have hf := ifF hf hc9
                refine lv_tableOut (tgt := 121) hx hb dX11_dialOf_35 (by have h5 := lv_neT hc5 (a := 5) (by decide); have h6 := lv_neT hc6 (a := 6) (by decide); have h7 := lv_neT hc7 (a := 7) (by decide); have h8 := lv_neT hc8 (a := 8) (by decide); have h9 := lv_neT hc9 (a := 9) (by decide); omega) (by decide) ?_
                refine lv_iconst (v := (-1)) hx hb dX11_dialOf_121 (by decide) ?_
                have hf := Option.some.inj hf
                subst hf
                exact hR _ _ _ _ _ _ hw rfl ⟨rfl, rfl⟩ dX11_dialOf_122
    · have hf := ifF hf hc
      refine lv_aload_n hx hb dX11_dialOf_22 rfl (lv_at hl 0 rfl) ?_
      refine cg_X11_55_ds cx hw dX11_dialOf_23 ?_
      refine cg_X11_93_q0 cx hw dX11_dialOf_26 ?_
      refine lv_iload_n hx hb dX11_dialOf_29 rfl (lv_at hl 1 rfl) ?_
      obtain ⟨h11, hf⟩ := ckS hf
      refine co_q0_dials (j := v1.toNatClampNeg) cx hw (ib_in h11) rfl dX11_dialOf_30 ?_
      refine lv_iload_n hx hb dX11_dialOf_31 rfl (lv_at hl 2 rfl) ?_
      obtain ⟨h12, hf⟩ := ckS hf
      refine cm_q0_dials (j := v2.toNatClampNeg) cx hw (ib_lt h11) (ib_in h12) rfl dX11_dialOf_32 ?_
      have hf := Option.some.inj hf
      subst hf
      exact hR _ _ _ _ _ _ hw rfl ⟨rfl, rfl⟩ dX11_dialOf_33
  · have hf := ifT hf hc
    refine lv_iconst (v := (-1)) hx hb dX11_dialOf_11 (by decide) ?_
    have hf := Option.some.inj hf
    subst hf
    exact hR _ _ _ _ _ _ hw rfl ⟨rfl, rfl⟩ dX11_dialOf_12
theorem dX11_mostOf_0 : decode cX11_mostOf 0 = .ok (.iload_n 0, 1) := by decide +kernel
theorem dX11_mostOf_1 : decode cX11_mostOf 1 = .ok (.tableswitch 35 1 3 #[27, 30, 33], 27) := by decide +kernel
theorem dX11_mostOf_28 : decode cX11_mostOf 28 = .ok (.bipush 99, 2) := by decide +kernel
theorem dX11_mostOf_30 : decode cX11_mostOf 30 = .ok (.ireturn, 1) := by decide +kernel
theorem dX11_mostOf_31 : decode cX11_mostOf 31 = .ok (.bipush 9, 2) := by decide +kernel
theorem dX11_mostOf_33 : decode cX11_mostOf 33 = .ok (.ireturn, 1) := by decide +kernel
theorem dX11_mostOf_34 : decode cX11_mostOf 34 = .ok (.iconst 5, 1) := by decide +kernel
theorem dX11_mostOf_35 : decode cX11_mostOf 35 = .ok (.ireturn, 1) := by decide +kernel
theorem dX11_mostOf_36 : decode cX11_mostOf 36 = .ok (.iconst 1, 1) := by decide +kernel
theorem dX11_mostOf_37 : decode cX11_mostOf 37 = .ok (.ireturn, 1) := by decide +kernel
theorem k_X11_mostOf : MS yX11_mostOf cX11_mostOf 1 (some .int) 1 := ⟨q_469, q_1, q_470, ⟨by decide, by decide, by decide +kernel⟩⟩
theorem c_X11_mostOf {v0 : Int32} {res : Int32} (hf : X11_mostOf v0 = res) : MC l E0 D t yX11_mostOf cX11_mostOf 1 (some .int) 1 0 0 [.int v0] (cW a ar t x_q0_dials x_q0_spots x_q0_skies x_q0_reports x_q0_count x_q0_chime x_q0_end x_q0_score x_q0_reportCount x_q0_z x_q0_rules x_q0_shades x_q0_facts x_q1_dials x_q1_spots x_q1_skies x_q1_reports x_q1_count x_q1_chime x_q1_end x_q1_score x_q1_reportCount x_q1_z x_q1_rules x_q1_shades x_q1_facts x_q2_dials x_q2_spots x_q2_skies x_q2_reports x_q2_count x_q2_chime x_q2_end x_q2_score x_q2_reportCount x_q2_z x_q2_rules x_q2_shades x_q2_facts x_isKept x_marks x_p_first x_p_steps x_p_most x_p_many x_p_fewest x_p_everRight x_p_opening x_p_rows x_p_rowCount x_p_acts x_p_marks x_p_deepest x_p_wanted x_t_length x_t_tape x_t_words x_t_places x_t_at x_t_kinds x_t_wills x_t_starts x_t_code x_t_count x_t_size x_h_sorts x_h_lengths x_h_items x_h_held x_h_things x_h_sizes x_h_bodies x_h_traced x_h_number x_h_spot x_h_parted x_g_count x_g_kinds x_g_wills x_g_starts x_g_code x_g_stack x_g_kl x_g_wl x_g_sl x_g_cl x_nr) (Qi res (cW a ar t x_q0_dials x_q0_spots x_q0_skies x_q0_reports x_q0_count x_q0_chime x_q0_end x_q0_score x_q0_reportCount x_q0_z x_q0_rules x_q0_shades x_q0_facts x_q1_dials x_q1_spots x_q1_skies x_q1_reports x_q1_count x_q1_chime x_q1_end x_q1_score x_q1_reportCount x_q1_z x_q1_rules x_q1_shades x_q1_facts x_q2_dials x_q2_spots x_q2_skies x_q2_reports x_q2_count x_q2_chime x_q2_end x_q2_score x_q2_reportCount x_q2_z x_q2_rules x_q2_shades x_q2_facts x_isKept x_marks x_p_first x_p_steps x_p_most x_p_many x_p_fewest x_p_everRight x_p_opening x_p_rows x_p_rowCount x_p_acts x_p_marks x_p_deepest x_p_wanted x_t_length x_t_tape x_t_words x_t_places x_t_at x_t_kinds x_t_wills x_t_starts x_t_code x_t_count x_t_size x_h_sorts x_h_lengths x_h_items x_h_held x_h_things x_h_sizes x_h_bodies x_h_traced x_h_number x_h_spot x_h_parted x_g_count x_g_kinds x_g_wills x_g_starts x_g_code x_g_stack x_g_kl x_g_wl x_g_sl x_g_cl x_nr)) := by
  unfold X11_mostOf at hf
  refine MC.ofI pn_X11 (Nat.le_of_ble_eq_true rfl) ?_
  intro p e s m args below meth c A Q ls cx hR hw hl
  have hx := cx.1
  have hb := cx.2.1
  have hl : lv_has ls 1 [(0, .int v0)] := hl
  refine lv_iload_n hx hb dX11_mostOf_0 rfl (lv_at hl 0 rfl) ?_
  by_cases hc1 : v0 = (1 : Int32)
  · have hf := ifT hf hc1
    refine lv_tableIn (tgt := 28) hx hb dX11_mostOf_1 (by rw [hc1]; decide) (by rw [hc1]; decide) (by rw [hc1]; rfl) (by decide) ?_
    refine lv_bipush (v := 99) hx hb dX11_mostOf_28 (by decide) ?_
    subst hf
    exact hR _ _ _ _ _ _ hw rfl ⟨rfl, rfl⟩ dX11_mostOf_30
  · have hf := ifF hf hc1
    by_cases hc2 : v0 = (2 : Int32)
    · have hf := ifT hf hc2
      refine lv_tableIn (tgt := 31) hx hb dX11_mostOf_1 (by rw [hc2]; decide) (by rw [hc2]; decide) (by rw [hc2]; rfl) (by decide) ?_
      refine lv_bipush (v := 9) hx hb dX11_mostOf_31 (by decide) ?_
      subst hf
      exact hR _ _ _ _ _ _ hw rfl ⟨rfl, rfl⟩ dX11_mostOf_33
    · have hf := ifF hf hc2
      by_cases hc3 : v0 = (3 : Int32)
      · have hf := ifT hf hc3
        refine lv_tableIn (tgt := 34) hx hb dX11_mostOf_1 (by rw [hc3]; decide) (by rw [hc3]; decide) (by rw [hc3]; rfl) (by decide) ?_
        refine lv_iconst (v := 5) hx hb dX11_mostOf_34 (by decide) ?_
        subst hf
        exact hR _ _ _ _ _ _ hw rfl ⟨rfl, rfl⟩ dX11_mostOf_35
      · have hf := ifF hf hc3
        refine lv_tableOut (tgt := 36) hx hb dX11_mostOf_1 (by have h1 := lv_neT hc1 (a := 1) (by decide); have h2 := lv_neT hc2 (a := 2) (by decide); have h3 := lv_neT hc3 (a := 3) (by decide); omega) (by decide) ?_
        refine lv_iconst (v := 1) hx hb dX11_mostOf_36 (by decide) ?_
        subst hf
        exact hR _ _ _ _ _ _ hw rfl ⟨rfl, rfl⟩ dX11_mostOf_37
theorem dX11_change_0 : decode cX11_change 0 = .ok (.aload_n 0, 1) := by decide +kernel
theorem dX11_change_1 : decode cX11_change 1 = .ok (.getfield 55, 3) := by decide +kernel
theorem dX11_change_4 : decode cX11_change 4 = .ok (.iload_n 1, 1) := by decide +kernel
theorem dX11_change_5 : decode cX11_change 5 = .ok (.invokevirtual 90, 3) := by decide +kernel
theorem dX11_change_8 : decode cX11_change 8 = .ok (.ifCond .eq 24, 3) := by decide +kernel
theorem dX11_change_11 : decode cX11_change 11 = .ok (.iload_n 2, 1) := by decide +kernel
theorem dX11_change_12 : decode cX11_change 12 = .ok (.iconst 1, 1) := by decide +kernel
theorem dX11_change_13 : decode cX11_change 13 = .ok (.iconst 4, 1) := by decide +kernel
theorem dX11_change_14 : decode cX11_change 14 = .ok (.invokestatic 74, 3) := by decide +kernel
theorem dX11_change_17 : decode cX11_change 17 = .ok (.ifCond .eq 15, 3) := by decide +kernel
theorem dX11_change_20 : decode cX11_change 20 = .ok (.iload_n 3, 1) := by decide +kernel
theorem dX11_change_21 : decode cX11_change 21 = .ok (.iconst 0, 1) := by decide +kernel
theorem dX11_change_22 : decode cX11_change 22 = .ok (.iload_n 2, 1) := by decide +kernel
theorem dX11_change_23 : decode cX11_change 23 = .ok (.invokestatic 113, 3) := by decide +kernel
theorem dX11_change_26 : decode cX11_change 26 = .ok (.invokestatic 74, 3) := by decide +kernel
theorem dX11_change_29 : decode cX11_change 29 = .ok (.ifCond .ne 5, 3) := by decide +kernel
theorem dX11_change_32 : decode cX11_change 32 = .ok (.iconst (-1), 1) := by decide +kernel
theorem dX11_change_33 : decode cX11_change 33 = .ok (.ireturn, 1) := by decide +kernel
theorem dX11_change_34 : decode cX11_change 34 = .ok (.aload_n 0, 1) := by decide +kernel
theorem dX11_change_35 : decode cX11_change 35 = .ok (.getfield 55, 3) := by decide +kernel
theorem dX11_change_38 : decode cX11_change 38 = .ok (.getfield 93, 3) := by decide +kernel
theorem dX11_change_41 : decode cX11_change 41 = .ok (.iload_n 1, 1) := by decide +kernel
theorem dX11_change_42 : decode cX11_change 42 = .ok (.aaload, 1) := by decide +kernel
theorem dX11_change_43 : decode cX11_change 43 = .ok (.iload_n 2, 1) := by decide +kernel
theorem dX11_change_44 : decode cX11_change 44 = .ok (.iaload, 1) := by decide +kernel
theorem dX11_change_45 : decode cX11_change 45 = .ok (.istore 4, 2) := by decide +kernel
theorem dX11_change_47 : decode cX11_change 47 = .ok (.aload_n 0, 1) := by decide +kernel
theorem dX11_change_48 : decode cX11_change 48 = .ok (.getfield 55, 3) := by decide +kernel
theorem dX11_change_51 : decode cX11_change 51 = .ok (.getfield 93, 3) := by decide +kernel
theorem dX11_change_54 : decode cX11_change 54 = .ok (.iload_n 1, 1) := by decide +kernel
theorem dX11_change_55 : decode cX11_change 55 = .ok (.aaload, 1) := by decide +kernel
theorem dX11_change_56 : decode cX11_change 56 = .ok (.iload_n 2, 1) := by decide +kernel
theorem dX11_change_57 : decode cX11_change 57 = .ok (.iload_n 3, 1) := by decide +kernel
theorem dX11_change_58 : decode cX11_change 58 = .ok (.iastore, 1) := by decide +kernel
theorem dX11_change_59 : decode cX11_change 59 = .ok (.iload 4, 2) := by decide +kernel
theorem dX11_change_61 : decode cX11_change 61 = .ok (.ireturn, 1) := by decide +kernel
theorem k_X11_change : MV yX11_change cX11_change 5 (some .int) 3 := ⟨q_465, q_466, q_1, q_467, ⟨by decide, by decide, by decide +kernel⟩⟩
theorem c_X11_change {v1 : Int32} {v2 : Int32} {v3 : Int32} {res : Int32 × (Nat → Nat → Int32)} (hf : X11_change x_q0_dials x_q0_count v1 v2 v3 = some res) : MC l E0 D t yX11_change cX11_change 5 (some .int) 2 0 0 [.ref (a 0), .int v1, .int v2, .int v3] (cW a ar t x_q0_dials x_q0_spots x_q0_skies x_q0_reports x_q0_count x_q0_chime x_q0_end x_q0_score x_q0_reportCount x_q0_z x_q0_rules x_q0_shades x_q0_facts x_q1_dials x_q1_spots x_q1_skies x_q1_reports x_q1_count x_q1_chime x_q1_end x_q1_score x_q1_reportCount x_q1_z x_q1_rules x_q1_shades x_q1_facts x_q2_dials x_q2_spots x_q2_skies x_q2_reports x_q2_count x_q2_chime x_q2_end x_q2_score x_q2_reportCount x_q2_z x_q2_rules x_q2_shades x_q2_facts x_isKept x_marks x_p_first x_p_steps x_p_most x_p_many x_p_fewest x_p_everRight x_p_opening x_p_rows x_p_rowCount x_p_acts x_p_marks x_p_deepest x_p_wanted x_t_length x_t_tape x_t_words x_t_places x_t_at x_t_kinds x_t_wills x_t_starts x_t_code x_t_count x_t_size x_h_sorts x_h_lengths x_h_items x_h_held x_h_things x_h_sizes x_h_bodies x_h_traced x_h_number x_h_spot x_h_parted x_g_count x_g_kinds x_g_wills x_g_starts x_g_code x_g_stack x_g_kl x_g_wl x_g_sl x_g_cl x_nr) (Qi res.1 (cW a ar t res.2 x_q0_spots x_q0_skies x_q0_reports x_q0_count x_q0_chime x_q0_end x_q0_score x_q0_reportCount x_q0_z x_q0_rules x_q0_shades x_q0_facts x_q1_dials x_q1_spots x_q1_skies x_q1_reports x_q1_count x_q1_chime x_q1_end x_q1_score x_q1_reportCount x_q1_z x_q1_rules x_q1_shades x_q1_facts x_q2_dials x_q2_spots x_q2_skies x_q2_reports x_q2_count x_q2_chime x_q2_end x_q2_score x_q2_reportCount x_q2_z x_q2_rules x_q2_shades x_q2_facts x_isKept x_marks x_p_first x_p_steps x_p_most x_p_many x_p_fewest x_p_everRight x_p_opening x_p_rows x_p_rowCount x_p_acts x_p_marks x_p_deepest x_p_wanted x_t_length x_t_tape x_t_words x_t_places x_t_at x_t_kinds x_t_wills x_t_starts x_t_code x_t_count x_t_size x_h_sorts x_h_lengths x_h_items x_h_held x_h_things x_h_sizes x_h_bodies x_h_traced x_h_number x_h_spot x_h_parted x_g_count x_g_kinds x_g_wills x_g_starts x_g_code x_g_stack x_g_kl x_g_wl x_g_sl x_g_cl x_nr)) := by
  unfold X11_change at hf
  refine MC.ofI pn_X11 (Nat.le_of_ble_eq_true rfl) ?_
  intro p e s m args below meth c A Q ls cx hR hw hl
  have hx := cx.1
  have hb := cx.2.1
  have hl : lv_has ls 5 [(0, .ref (a 0)), (1, .int v1), (2, .int v2), (3, .int v3)] := hl
  refine lv_aload_n hx hb dX11_change_0 rfl (lv_at hl 0 rfl) ?_
  refine cg_X11_55_ds cx hw dX11_change_1 ?_
  refine lv_iload_n hx hb dX11_change_4 rfl (lv_at hl 1 rfl) ?_
  refine calVi cx hw hl.1 (c_X9_has_q0 rfl) q_364 k_X9_has rfl rv_q0 rfl dX11_change_5 rfl (Nat.le_of_ble_eq_true rfl) ⟨Nat.le_of_ble_eq_true rfl, Nat.le_of_ble_eq_true rfl⟩ ⟨Nat.le_refl _, Nat.le_refl _⟩ (fun H locs hw => ?_)
  refine lv_if_eq (tgt := 32) hx hb dX11_change_8 (by decide) (fun hc => ?_) (fun hc => ?_)
  · have hf := ifT hf hc
    refine lv_iconst (v := (-1)) hx hb dX11_change_32 (by decide) ?_
    have hf := Option.some.inj hf
    subst hf
    exact hR _ _ _ _ _ _ hw rfl ⟨rfl, rfl⟩ dX11_change_33
  · have hf := ifF hf hc
    refine lv_iload_n hx hb dX11_change_11 rfl (lv_at hl 2 rfl) ?_
    refine lv_iconst (v := 1) hx hb dX11_change_12 (by decide) ?_
    refine lv_iconst (v := 4) hx hb dX11_change_13 (by decide) ?_
    refine calSi cx hw hl.1 (c_X11_isIn rfl) q_350 k_X11_isIn rfl dX11_change_14 rfl (Nat.le_of_ble_eq_true rfl) ⟨Nat.le_of_ble_eq_true rfl, Nat.le_of_ble_eq_true rfl⟩ ⟨Nat.le_refl _, Nat.le_refl _⟩ (fun H locs hw => ?_)
    refine lv_if_eq (tgt := 32) hx hb dX11_change_17 (by decide) (fun hc => ?_) (fun hc => ?_)
    · have hf := ifT hf hc
      refine lv_iconst (v := (-1)) hx hb dX11_change_32 (by decide) ?_
      have hf := Option.some.inj hf
      subst hf
      exact hR _ _ _ _ _ _ hw rfl ⟨rfl, rfl⟩ dX11_change_33
    · have hf := ifF hf hc
      refine lv_iload_n hx hb dX11_change_20 rfl (lv_at hl 3 rfl) ?_
      refine lv_iconst (v := 0) hx hb dX11_change_21 (by decide) ?_
      refine lv_iload_n hx hb dX11_change_22 rfl (lv_at hl 2 rfl) ?_
      refine calSi cx hw hl.1 (c_X11_mostOf rfl) q_468 k_X11_mostOf rfl dX11_change_23 rfl (Nat.le_of_ble_eq_true rfl) ⟨Nat.le_of_ble_eq_true rfl, Nat.le_of_ble_eq_true rfl⟩ ⟨Nat.le_refl _, Nat.le_refl _⟩ (fun H locs hw => ?_)
      refine calSi cx hw hl.1 (c_X11_isIn rfl) q_350 k_X11_isIn rfl dX11_change_26 rfl (Nat.le_of_ble_eq_true rfl) ⟨Nat.le_of_ble_eq_true rfl, Nat.le_of_ble_eq_true rfl⟩ ⟨Nat.le_refl _, Nat.le_refl _⟩ (fun H locs hw => ?_)
      refine lv_if_ne (tgt := 34) hx hb dX11_change_29 (by decide) (fun hc => ?_) (fun hc => ?_)
      · have hf := ifF hf hc
        refine lv_aload_n hx hb dX11_change_34 rfl (lv_at hl 0 rfl) ?_
        refine cg_X11_55_ds cx hw dX11_change_35 ?_
        refine cg_X11_93_q0 cx hw dX11_change_38 ?_
        refine lv_iload_n hx hb dX11_change_41 rfl (lv_at hl 1 rfl) ?_
        obtain ⟨h1, hf⟩ := ckS hf
        refine co_q0_dials (j := v1.toNatClampNeg) cx hw (ib_in h1) rfl dX11_change_42 ?_
        refine lv_iload_n hx hb dX11_change_43 rfl (lv_at hl 2 rfl) ?_
        obtain ⟨h2, hf⟩ := ckS hf
        refine cm_q0_dials (j := v2.toNatClampNeg) cx hw (ib_lt h1) (ib_in h2) rfl dX11_change_44 ?_
        refine lv_istore (lv' := [(4, .int (x_q0_dials v1.toNatClampNeg v2.toNatClampNeg)), (0, .ref (a 0)), (1, .int v1), (2, .int v2), (3, .int v3)]) hx hb dX11_change_45 hl (by decide) rfl (fun ls hl => ?_)
        refine lv_aload_n hx hb dX11_change_47 rfl (lv_at hl 1 rfl) ?_
        refine cg_X11_55_ds cx hw dX11_change_48 ?_
        refine cg_X11_93_q0 cx hw dX11_change_51 ?_
        refine lv_iload_n hx hb dX11_change_54 rfl (lv_at hl 2 rfl) ?_
        obtain ⟨h3, hf⟩ := ckS hf
        refine co_q0_dials (j := v1.toNatClampNeg) cx hw (ib_in h3) rfl dX11_change_55 ?_
        refine lv_iload_n hx hb dX11_change_56 rfl (lv_at hl 3 rfl) ?_
        refine lv_iload_n hx hb dX11_change_57 rfl (lv_at hl 4 rfl) ?_
        obtain ⟨h4, hf⟩ := ckS hf
        refine ct_q0_dials (j := v2.toNatClampNeg) cx hw (ib_lt h3) (ib_in h4) rfl dX11_change_58 (fun H locs hw => ?_)
        refine lv_iload hx hb dX11_change_59 (lv_at hl 0 rfl) ?_
        have hf := Option.some.inj hf
        subst hf
        exact hR _ _ _ _ _ _ hw rfl ⟨rfl, rfl⟩ dX11_change_61
      · have hf := ifT hf hc
        refine lv_iconst (v := (-1)) hx hb dX11_change_32 (by decide) ?_
        have hf := Option.some.inj hf
        subst hf
        exact hR _ _ _ _ _ _ hw rfl ⟨rfl, rfl⟩ dX11_change_33
theorem dX11_remake_0 : decode cX11_remake 0 = .ok (.aload_n 0, 1) := by decide +kernel
theorem dX11_remake_1 : decode cX11_remake 1 = .ok (.getfield 55, 3) := by decide +kernel
theorem dX11_remake_4 : decode cX11_remake 4 = .ok (.iload_n 1, 1) := by decide +kernel
theorem dX11_remake_5 : decode cX11_remake 5 = .ok (.invokevirtual 90, 3) := by decide +kernel
theorem dX11_remake_8 : decode cX11_remake 8 = .ok (.ifCond .eq 12, 3) := by decide +kernel
theorem dX11_remake_11 : decode cX11_remake 11 = .ok (.iload_n 2, 1) := by decide +kernel
theorem dX11_remake_12 : decode cX11_remake 12 = .ok (.iconst 1, 1) := by decide +kernel
theorem dX11_remake_13 : decode cX11_remake 13 = .ok (.iconst 5, 1) := by decide +kernel
theorem dX11_remake_14 : decode cX11_remake 14 = .ok (.invokestatic 74, 3) := by decide +kernel
theorem dX11_remake_17 : decode cX11_remake 17 = .ok (.ifCond .ne 5, 3) := by decide +kernel
theorem dX11_remake_20 : decode cX11_remake 20 = .ok (.iconst (-1), 1) := by decide +kernel
theorem dX11_remake_21 : decode cX11_remake 21 = .ok (.ireturn, 1) := by decide +kernel
theorem dX11_remake_22 : decode cX11_remake 22 = .ok (.aload_n 0, 1) := by decide +kernel
theorem dX11_remake_23 : decode cX11_remake 23 = .ok (.getfield 55, 3) := by decide +kernel
theorem dX11_remake_26 : decode cX11_remake 26 = .ok (.getfield 93, 3) := by decide +kernel
theorem dX11_remake_29 : decode cX11_remake 29 = .ok (.iload_n 1, 1) := by decide +kernel
theorem dX11_remake_30 : decode cX11_remake 30 = .ok (.aaload, 1) := by decide +kernel
theorem dX11_remake_31 : decode cX11_remake 31 = .ok (.iconst 0, 1) := by decide +kernel
theorem dX11_remake_32 : decode cX11_remake 32 = .ok (.iaload, 1) := by decide +kernel
theorem dX11_remake_33 : decode cX11_remake 33 = .ok (.istore_n 3, 1) := by decide +kernel
theorem dX11_remake_34 : decode cX11_remake 34 = .ok (.aload_n 0, 1) := by decide +kernel
theorem dX11_remake_35 : decode cX11_remake 35 = .ok (.getfield 55, 3) := by decide +kernel
theorem dX11_remake_38 : decode cX11_remake 38 = .ok (.getfield 93, 3) := by decide +kernel
theorem dX11_remake_41 : decode cX11_remake 41 = .ok (.iload_n 1, 1) := by decide +kernel
theorem dX11_remake_42 : decode cX11_remake 42 = .ok (.aaload, 1) := by decide +kernel
theorem dX11_remake_43 : decode cX11_remake 43 = .ok (.iconst 0, 1) := by decide +kernel
theorem dX11_remake_44 : decode cX11_remake 44 = .ok (.iload_n 2, 1) := by decide +kernel
theorem dX11_remake_45 : decode cX11_remake 45 = .ok (.iastore, 1) := by decide +kernel
theorem dX11_remake_46 : decode cX11_remake 46 = .ok (.iload_n 3, 1) := by decide +kernel
theorem dX11_remake_47 : decode cX11_remake 47 = .ok (.ireturn, 1) := by decide +kernel
theorem k_X11_remake : MV yX11_remake cX11_remake 4 (some .int) 2 := ⟨q_472, q_473, q_1, q_474, ⟨by decide, by decide, by decide +kernel⟩⟩
theorem c_X11_remake {v1 : Int32} {v2 : Int32} {res : Int32 × (Nat → Nat → Int32)} (hf : X11_remake x_q0_dials x_q0_count v1 v2 = some res) : MC l E0 D t yX11_remake cX11_remake 4 (some .int) 2 0 0 [.ref (a 0), .int v1, .int v2] (cW a ar t x_q0_dials x_q0_spots x_q0_skies x_q0_reports x_q0_count x_q0_chime x_q0_end x_q0_score x_q0_reportCount x_q0_z x_q0_rules x_q0_shades x_q0_facts x_q1_dials x_q1_spots x_q1_skies x_q1_reports x_q1_count x_q1_chime x_q1_end x_q1_score x_q1_reportCount x_q1_z x_q1_rules x_q1_shades x_q1_facts x_q2_dials x_q2_spots x_q2_skies x_q2_reports x_q2_count x_q2_chime x_q2_end x_q2_score x_q2_reportCount x_q2_z x_q2_rules x_q2_shades x_q2_facts x_isKept x_marks x_p_first x_p_steps x_p_most x_p_many x_p_fewest x_p_everRight x_p_opening x_p_rows x_p_rowCount x_p_acts x_p_marks x_p_deepest x_p_wanted x_t_length x_t_tape x_t_words x_t_places x_t_at x_t_kinds x_t_wills x_t_starts x_t_code x_t_count x_t_size x_h_sorts x_h_lengths x_h_items x_h_held x_h_things x_h_sizes x_h_bodies x_h_traced x_h_number x_h_spot x_h_parted x_g_count x_g_kinds x_g_wills x_g_starts x_g_code x_g_stack x_g_kl x_g_wl x_g_sl x_g_cl x_nr) (Qi res.1 (cW a ar t res.2 x_q0_spots x_q0_skies x_q0_reports x_q0_count x_q0_chime x_q0_end x_q0_score x_q0_reportCount x_q0_z x_q0_rules x_q0_shades x_q0_facts x_q1_dials x_q1_spots x_q1_skies x_q1_reports x_q1_count x_q1_chime x_q1_end x_q1_score x_q1_reportCount x_q1_z x_q1_rules x_q1_shades x_q1_facts x_q2_dials x_q2_spots x_q2_skies x_q2_reports x_q2_count x_q2_chime x_q2_end x_q2_score x_q2_reportCount x_q2_z x_q2_rules x_q2_shades x_q2_facts x_isKept x_marks x_p_first x_p_steps x_p_most x_p_many x_p_fewest x_p_everRight x_p_opening x_p_rows x_p_rowCount x_p_acts x_p_marks x_p_deepest x_p_wanted x_t_length x_t_tape x_t_words x_t_places x_t_at x_t_kinds x_t_wills x_t_starts x_t_code x_t_count x_t_size x_h_sorts x_h_lengths x_h_items x_h_held x_h_things x_h_sizes x_h_bodies x_h_traced x_h_number x_h_spot x_h_parted x_g_count x_g_kinds x_g_wills x_g_starts x_g_code x_g_stack x_g_kl x_g_wl x_g_sl x_g_cl x_nr)) := by
  unfold X11_remake at hf
  refine MC.ofI pn_X11 (Nat.le_of_ble_eq_true rfl) ?_
  intro p e s m args below meth c A Q ls cx hR hw hl
  have hx := cx.1
  have hb := cx.2.1
  have hl : lv_has ls 4 [(0, .ref (a 0)), (1, .int v1), (2, .int v2)] := hl
  refine lv_aload_n hx hb dX11_remake_0 rfl (lv_at hl 0 rfl) ?_
  refine cg_X11_55_ds cx hw dX11_remake_1 ?_
  refine lv_iload_n hx hb dX11_remake_4 rfl (lv_at hl 1 rfl) ?_
  refine calVi cx hw hl.1 (c_X9_has_q0 rfl) q_364 k_X9_has rfl rv_q0 rfl dX11_remake_5 rfl (Nat.le_of_ble_eq_true rfl) ⟨Nat.le_of_ble_eq_true rfl, Nat.le_of_ble_eq_true rfl⟩ ⟨Nat.le_refl _, Nat.le_refl _⟩ (fun H locs hw => ?_)
  refine lv_if_eq (tgt := 20) hx hb dX11_remake_8 (by decide) (fun hc => ?_) (fun hc => ?_)
  · have hf := ifT hf hc
    refine lv_iconst (v := (-1)) hx hb dX11_remake_20 (by decide) ?_
    have hf := Option.some.inj hf
    subst hf
    exact hR _ _ _ _ _ _ hw rfl ⟨rfl, rfl⟩ dX11_remake_21
  · have hf := ifF hf hc
    refine lv_iload_n hx hb dX11_remake_11 rfl (lv_at hl 2 rfl) ?_
    refine lv_iconst (v := 1) hx hb dX11_remake_12 (by decide) ?_
    refine lv_iconst (v := 5) hx hb dX11_remake_13 (by decide) ?_
    refine calSi cx hw hl.1 (c_X11_isIn rfl) q_350 k_X11_isIn rfl dX11_remake_14 rfl (Nat.le_of_ble_eq_true rfl) ⟨Nat.le_of_ble_eq_true rfl, Nat.le_of_ble_eq_true rfl⟩ ⟨Nat.le_refl _, Nat.le_refl _⟩ (fun H locs hw => ?_)
    refine lv_if_ne (tgt := 22) hx hb dX11_remake_17 (by decide) (fun hc => ?_) (fun hc => ?_)
    · have hf := ifF hf hc
      refine lv_aload_n hx hb dX11_remake_22 rfl (lv_at hl 0 rfl) ?_
      refine cg_X11_55_ds cx hw dX11_remake_23 ?_
      refine cg_X11_93_q0 cx hw dX11_remake_26 ?_
      refine lv_iload_n hx hb dX11_remake_29 rfl (lv_at hl 1 rfl) ?_
      obtain ⟨h1, hf⟩ := ckS hf
      refine co_q0_dials (j := v1.toNatClampNeg) cx hw (ib_in h1) rfl dX11_remake_30 ?_
      refine lv_iconst (v := 0) hx hb dX11_remake_31 (by decide) ?_
      refine cm_q0_dials (j := 0) cx hw (ib_lt h1) (ib_in (by decide)) (by decide) dX11_remake_32 ?_
      refine lv_istore_n (lv' := [(3, .int (x_q0_dials v1.toNatClampNeg 0)), (0, .ref (a 0)), (1, .int v1), (2, .int v2)]) hx hb dX11_remake_33 rfl hl (by decide) rfl (fun ls hl => ?_)
      refine lv_aload_n hx hb dX11_remake_34 rfl (lv_at hl 1 rfl) ?_
      refine cg_X11_55_ds cx hw dX11_remake_35 ?_
      refine cg_X11_93_q0 cx hw dX11_remake_38 ?_
      refine lv_iload_n hx hb dX11_remake_41 rfl (lv_at hl 2 rfl) ?_
      obtain ⟨h2, hf⟩ := ckS hf
      refine co_q0_dials (j := v1.toNatClampNeg) cx hw (ib_in h2) rfl dX11_remake_42 ?_
      refine lv_iconst (v := 0) hx hb dX11_remake_43 (by decide) ?_
      refine lv_iload_n hx hb dX11_remake_44 rfl (lv_at hl 3 rfl) ?_
      refine ct_q0_dials (j := 0) cx hw (ib_lt h2) (ib_in (by decide)) (by decide) dX11_remake_45 (fun H locs hw => ?_)
      refine lv_iload_n hx hb dX11_remake_46 rfl (lv_at hl 0 rfl) ?_
      have hf := Option.some.inj hf
      subst hf
      exact hR _ _ _ _ _ _ hw rfl ⟨rfl, rfl⟩ dX11_remake_47
    · have hf := ifT hf hc
      refine lv_iconst (v := (-1)) hx hb dX11_remake_20 (by decide) ?_
      have hf := Option.some.inj hf
      subst hf
      exact hR _ _ _ _ _ _ hw rfl ⟨rfl, rfl⟩ dX11_remake_21
theorem dX11_sky_0 : decode cX11_sky 0 = .ok (.iload_n 1, 1) := by decide +kernel
theorem dX11_sky_1 : decode cX11_sky 1 = .ok (.iconst 0, 1) := by decide +kernel
theorem dX11_sky_2 : decode cX11_sky 2 = .ok (.bipush 15, 2) := by decide +kernel
theorem dX11_sky_4 : decode cX11_sky 4 = .ok (.invokestatic 74, 3) := by decide +kernel
theorem dX11_sky_7 : decode cX11_sky 7 = .ok (.ifCond .eq 13, 3) := by decide +kernel
theorem dX11_sky_10 : decode cX11_sky 10 = .ok (.iload_n 2, 1) := by decide +kernel
theorem dX11_sky_11 : decode cX11_sky 11 = .ok (.iconst 0, 1) := by decide +kernel
theorem dX11_sky_12 : decode cX11_sky 12 = .ok (.bipush 15, 2) := by decide +kernel
theorem dX11_sky_14 : decode cX11_sky 14 = .ok (.invokestatic 74, 3) := by decide +kernel
theorem dX11_sky_17 : decode cX11_sky 17 = .ok (.ifCond .ne 5, 3) := by decide +kernel
theorem dX11_sky_20 : decode cX11_sky 20 = .ok (.iconst (-1), 1) := by decide +kernel
theorem dX11_sky_21 : decode cX11_sky 21 = .ok (.ireturn, 1) := by decide +kernel
theorem dX11_sky_22 : decode cX11_sky 22 = .ok (.aload_n 0, 1) := by decide +kernel
theorem dX11_sky_23 : decode cX11_sky 23 = .ok (.getfield 55, 3) := by decide +kernel
theorem dX11_sky_26 : decode cX11_sky 26 = .ok (.getfield 116, 3) := by decide +kernel
theorem dX11_sky_29 : decode cX11_sky 29 = .ok (.iload_n 1, 1) := by decide +kernel
theorem dX11_sky_30 : decode cX11_sky 30 = .ok (.iaload, 1) := by decide +kernel
theorem dX11_sky_31 : decode cX11_sky 31 = .ok (.istore_n 3, 1) := by decide +kernel
theorem dX11_sky_32 : decode cX11_sky 32 = .ok (.aload_n 0, 1) := by decide +kernel
theorem dX11_sky_33 : decode cX11_sky 33 = .ok (.getfield 55, 3) := by decide +kernel
theorem dX11_sky_36 : decode cX11_sky 36 = .ok (.getfield 116, 3) := by decide +kernel
theorem dX11_sky_39 : decode cX11_sky 39 = .ok (.iload_n 1, 1) := by decide +kernel
theorem dX11_sky_40 : decode cX11_sky 40 = .ok (.iload_n 2, 1) := by decide +kernel
theorem dX11_sky_41 : decode cX11_sky 41 = .ok (.iastore, 1) := by decide +kernel
theorem dX11_sky_42 : decode cX11_sky 42 = .ok (.iload_n 3, 1) := by decide +kernel
theorem dX11_sky_43 : decode cX11_sky 43 = .ok (.ireturn, 1) := by decide +kernel
theorem k_X11_sky : MV yX11_sky cX11_sky 4 (some .int) 2 := ⟨q_476, q_477, q_1, q_478, ⟨by decide, by decide, by decide +kernel⟩⟩
theorem c_X11_sky {v1 : Int32} {v2 : Int32} {res : Int32 × (Nat → Int32)} (hf : X11_sky x_q0_skies v1 v2 = some res) : MC l E0 D t yX11_sky cX11_sky 4 (some .int) 2 0 0 [.ref (a 0), .int v1, .int v2] (cW a ar t x_q0_dials x_q0_spots x_q0_skies x_q0_reports x_q0_count x_q0_chime x_q0_end x_q0_score x_q0_reportCount x_q0_z x_q0_rules x_q0_shades x_q0_facts x_q1_dials x_q1_spots x_q1_skies x_q1_reports x_q1_count x_q1_chime x_q1_end x_q1_score x_q1_reportCount x_q1_z x_q1_rules x_q1_shades x_q1_facts x_q2_dials x_q2_spots x_q2_skies x_q2_reports x_q2_count x_q2_chime x_q2_end x_q2_score x_q2_reportCount x_q2_z x_q2_rules x_q2_shades x_q2_facts x_isKept x_marks x_p_first x_p_steps x_p_most x_p_many x_p_fewest x_p_everRight x_p_opening x_p_rows x_p_rowCount x_p_acts x_p_marks x_p_deepest x_p_wanted x_t_length x_t_tape x_t_words x_t_places x_t_at x_t_kinds x_t_wills x_t_starts x_t_code x_t_count x_t_size x_h_sorts x_h_lengths x_h_items x_h_held x_h_things x_h_sizes x_h_bodies x_h_traced x_h_number x_h_spot x_h_parted x_g_count x_g_kinds x_g_wills x_g_starts x_g_code x_g_stack x_g_kl x_g_wl x_g_sl x_g_cl x_nr) (Qi res.1 (cW a ar t x_q0_dials x_q0_spots res.2 x_q0_reports x_q0_count x_q0_chime x_q0_end x_q0_score x_q0_reportCount x_q0_z x_q0_rules x_q0_shades x_q0_facts x_q1_dials x_q1_spots x_q1_skies x_q1_reports x_q1_count x_q1_chime x_q1_end x_q1_score x_q1_reportCount x_q1_z x_q1_rules x_q1_shades x_q1_facts x_q2_dials x_q2_spots x_q2_skies x_q2_reports x_q2_count x_q2_chime x_q2_end x_q2_score x_q2_reportCount x_q2_z x_q2_rules x_q2_shades x_q2_facts x_isKept x_marks x_p_first x_p_steps x_p_most x_p_many x_p_fewest x_p_everRight x_p_opening x_p_rows x_p_rowCount x_p_acts x_p_marks x_p_deepest x_p_wanted x_t_length x_t_tape x_t_words x_t_places x_t_at x_t_kinds x_t_wills x_t_starts x_t_code x_t_count x_t_size x_h_sorts x_h_lengths x_h_items x_h_held x_h_things x_h_sizes x_h_bodies x_h_traced x_h_number x_h_spot x_h_parted x_g_count x_g_kinds x_g_wills x_g_starts x_g_code x_g_stack x_g_kl x_g_wl x_g_sl x_g_cl x_nr)) := by
  unfold X11_sky at hf
  refine MC.ofI pn_X11 (Nat.le_of_ble_eq_true rfl) ?_
  intro p e s m args below meth c A Q ls cx hR hw hl
  have hx := cx.1
  have hb := cx.2.1
  have hl : lv_has ls 4 [(0, .ref (a 0)), (1, .int v1), (2, .int v2)] := hl
  refine lv_iload_n hx hb dX11_sky_0 rfl (lv_at hl 1 rfl) ?_
  refine lv_iconst (v := 0) hx hb dX11_sky_1 (by decide) ?_
  refine lv_bipush (v := 15) hx hb dX11_sky_2 (by decide) ?_
  refine calSi cx hw hl.1 (c_X11_isIn rfl) q_350 k_X11_isIn rfl dX11_sky_4 rfl (Nat.le_of_ble_eq_true rfl) ⟨Nat.le_of_ble_eq_true rfl, Nat.le_of_ble_eq_true rfl⟩ ⟨Nat.le_refl _, Nat.le_refl _⟩ (fun H locs hw => ?_)
  refine lv_if_eq (tgt := 20) hx hb dX11_sky_7 (by decide) (fun hc => ?_) (fun hc => ?_)
  · have hf := ifT hf hc
    refine lv_iconst (v := (-1)) hx hb dX11_sky_20 (by decide) ?_
    have hf := Option.some.inj hf
    subst hf
    exact hR _ _ _ _ _ _ hw rfl ⟨rfl, rfl⟩ dX11_sky_21
  · have hf := ifF hf hc
    refine lv_iload_n hx hb dX11_sky_10 rfl (lv_at hl 2 rfl) ?_
    refine lv_iconst (v := 0) hx hb dX11_sky_11 (by decide) ?_
    refine lv_bipush (v := 15) hx hb dX11_sky_12 (by decide) ?_
    refine calSi cx hw hl.1 (c_X11_isIn rfl) q_350 k_X11_isIn rfl dX11_sky_14 rfl (Nat.le_of_ble_eq_true rfl) ⟨Nat.le_of_ble_eq_true rfl, Nat.le_of_ble_eq_true rfl⟩ ⟨Nat.le_refl _, Nat.le_refl _⟩ (fun H locs hw => ?_)
    refine lv_if_ne (tgt := 22) hx hb dX11_sky_17 (by decide) (fun hc => ?_) (fun hc => ?_)
    · have hf := ifF hf hc
      refine lv_aload_n hx hb dX11_sky_22 rfl (lv_at hl 0 rfl) ?_
      refine cg_X11_55_ds cx hw dX11_sky_23 ?_
      refine cg_X11_116_q0 cx hw dX11_sky_26 ?_
      refine lv_iload_n hx hb dX11_sky_29 rfl (lv_at hl 1 rfl) ?_
      obtain ⟨h1, hf⟩ := ckS hf
      refine cl_q0_skies (j := v1.toNatClampNeg) cx hw (ib_in h1) rfl dX11_sky_30 ?_
      refine lv_istore_n (lv' := [(3, .int (x_q0_skies v1.toNatClampNeg)), (0, .ref (a 0)), (1, .int v1), (2, .int v2)]) hx hb dX11_sky_31 rfl hl (by decide) rfl (fun ls hl => ?_)
      refine lv_aload_n hx hb dX11_sky_32 rfl (lv_at hl 1 rfl) ?_
      refine cg_X11_55_ds cx hw dX11_sky_33 ?_
      refine cg_X11_116_q0 cx hw dX11_sky_36 ?_
      refine lv_iload_n hx hb dX11_sky_39 rfl (lv_at hl 2 rfl) ?_
      refine lv_iload_n hx hb dX11_sky_40 rfl (lv_at hl 3 rfl) ?_
      obtain ⟨h2, hf⟩ := ckS hf
      refine cs_q0_skies (j := v1.toNatClampNeg) cx hw (ib_in h2) rfl dX11_sky_41 (fun H locs hw => ?_)
      refine lv_iload_n hx hb dX11_sky_42 rfl (lv_at hl 0 rfl) ?_
      have hf := Option.some.inj hf
      subst hf
      exact hR _ _ _ _ _ _ hw rfl ⟨rfl, rfl⟩ dX11_sky_43
    · have hf := ifT hf hc
      refine lv_iconst (v := (-1)) hx hb dX11_sky_20 (by decide) ?_
      have hf := Option.some.inj hf
      subst hf
      exact hR _ _ _ _ _ _ hw rfl ⟨rfl, rfl⟩ dX11_sky_21
theorem dX11_spot_0 : decode cX11_spot 0 = .ok (.iload_n 1, 1) := by decide +kernel
theorem dX11_spot_1 : decode cX11_spot 1 = .ok (.invokestatic 78, 3) := by decide +kernel
theorem dX11_spot_4 : decode cX11_spot 4 = .ok (.ifCond .eq 22, 3) := by decide +kernel
theorem dX11_spot_7 : decode cX11_spot 7 = .ok (.iload_n 2, 1) := by decide +kernel
theorem dX11_spot_8 : decode cX11_spot 8 = .ok (.iconst 0, 1) := by decide +kernel
theorem dX11_spot_9 : decode cX11_spot 9 = .ok (.iconst 1, 1) := by decide +kernel
theorem dX11_spot_10 : decode cX11_spot 10 = .ok (.invokestatic 74, 3) := by decide +kernel
theorem dX11_spot_13 : decode cX11_spot 13 = .ok (.ifCond .eq 13, 3) := by decide +kernel
theorem dX11_spot_16 : decode cX11_spot 16 = .ok (.iload_n 3, 1) := by decide +kernel
theorem dX11_spot_17 : decode cX11_spot 17 = .ok (.iconst 0, 1) := by decide +kernel
theorem dX11_spot_18 : decode cX11_spot 18 = .ok (.bipush 9, 2) := by decide +kernel
theorem dX11_spot_20 : decode cX11_spot 20 = .ok (.invokestatic 74, 3) := by decide +kernel
theorem dX11_spot_23 : decode cX11_spot 23 = .ok (.ifCond .ne 5, 3) := by decide +kernel
theorem dX11_spot_26 : decode cX11_spot 26 = .ok (.iconst (-1), 1) := by decide +kernel
theorem dX11_spot_27 : decode cX11_spot 27 = .ok (.ireturn, 1) := by decide +kernel
theorem dX11_spot_28 : decode cX11_spot 28 = .ok (.aload_n 0, 1) := by decide +kernel
theorem dX11_spot_29 : decode cX11_spot 29 = .ok (.getfield 55, 3) := by decide +kernel
theorem dX11_spot_32 : decode cX11_spot 32 = .ok (.getfield 119, 3) := by decide +kernel
theorem dX11_spot_35 : decode cX11_spot 35 = .ok (.iload_n 1, 1) := by decide +kernel
theorem dX11_spot_36 : decode cX11_spot 36 = .ok (.aaload, 1) := by decide +kernel
theorem dX11_spot_37 : decode cX11_spot 37 = .ok (.iload_n 2, 1) := by decide +kernel
theorem dX11_spot_38 : decode cX11_spot 38 = .ok (.iaload, 1) := by decide +kernel
theorem dX11_spot_39 : decode cX11_spot 39 = .ok (.istore 4, 2) := by decide +kernel
theorem dX11_spot_41 : decode cX11_spot 41 = .ok (.aload_n 0, 1) := by decide +kernel
theorem dX11_spot_42 : decode cX11_spot 42 = .ok (.getfield 55, 3) := by decide +kernel
theorem dX11_spot_45 : decode cX11_spot 45 = .ok (.getfield 119, 3) := by decide +kernel
theorem dX11_spot_48 : decode cX11_spot 48 = .ok (.iload_n 1, 1) := by decide +kernel
theorem dX11_spot_49 : decode cX11_spot 49 = .ok (.aaload, 1) := by decide +kernel
theorem dX11_spot_50 : decode cX11_spot 50 = .ok (.iload_n 2, 1) := by decide +kernel
theorem dX11_spot_51 : decode cX11_spot 51 = .ok (.iload_n 3, 1) := by decide +kernel
theorem dX11_spot_52 : decode cX11_spot 52 = .ok (.iastore, 1) := by decide +kernel
theorem dX11_spot_53 : decode cX11_spot 53 = .ok (.iload 4, 2) := by decide +kernel
theorem dX11_spot_55 : decode cX11_spot 55 = .ok (.ireturn, 1) := by decide +kernel
theorem k_X11_spot : MV yX11_spot cX11_spot 5 (some .int) 3 := ⟨q_480, q_481, q_1, q_482, ⟨by decide, by decide, by decide +kernel⟩⟩
theorem c_X11_spot {v1 : Int32} {v2 : Int32} {v3 : Int32} {res : Int32 × (Nat → Nat → Int32)} (hf : X11_spot x_q0_spots v1 v2 v3 = some res) : MC l E0 D t yX11_spot cX11_spot 5 (some .int) 3 0 0 [.ref (a 0), .int v1, .int v2, .int v3] (cW a ar t x_q0_dials x_q0_spots x_q0_skies x_q0_reports x_q0_count x_q0_chime x_q0_end x_q0_score x_q0_reportCount x_q0_z x_q0_rules x_q0_shades x_q0_facts x_q1_dials x_q1_spots x_q1_skies x_q1_reports x_q1_count x_q1_chime x_q1_end x_q1_score x_q1_reportCount x_q1_z x_q1_rules x_q1_shades x_q1_facts x_q2_dials x_q2_spots x_q2_skies x_q2_reports x_q2_count x_q2_chime x_q2_end x_q2_score x_q2_reportCount x_q2_z x_q2_rules x_q2_shades x_q2_facts x_isKept x_marks x_p_first x_p_steps x_p_most x_p_many x_p_fewest x_p_everRight x_p_opening x_p_rows x_p_rowCount x_p_acts x_p_marks x_p_deepest x_p_wanted x_t_length x_t_tape x_t_words x_t_places x_t_at x_t_kinds x_t_wills x_t_starts x_t_code x_t_count x_t_size x_h_sorts x_h_lengths x_h_items x_h_held x_h_things x_h_sizes x_h_bodies x_h_traced x_h_number x_h_spot x_h_parted x_g_count x_g_kinds x_g_wills x_g_starts x_g_code x_g_stack x_g_kl x_g_wl x_g_sl x_g_cl x_nr) (Qi res.1 (cW a ar t x_q0_dials res.2 x_q0_skies x_q0_reports x_q0_count x_q0_chime x_q0_end x_q0_score x_q0_reportCount x_q0_z x_q0_rules x_q0_shades x_q0_facts x_q1_dials x_q1_spots x_q1_skies x_q1_reports x_q1_count x_q1_chime x_q1_end x_q1_score x_q1_reportCount x_q1_z x_q1_rules x_q1_shades x_q1_facts x_q2_dials x_q2_spots x_q2_skies x_q2_reports x_q2_count x_q2_chime x_q2_end x_q2_score x_q2_reportCount x_q2_z x_q2_rules x_q2_shades x_q2_facts x_isKept x_marks x_p_first x_p_steps x_p_most x_p_many x_p_fewest x_p_everRight x_p_opening x_p_rows x_p_rowCount x_p_acts x_p_marks x_p_deepest x_p_wanted x_t_length x_t_tape x_t_words x_t_places x_t_at x_t_kinds x_t_wills x_t_starts x_t_code x_t_count x_t_size x_h_sorts x_h_lengths x_h_items x_h_held x_h_things x_h_sizes x_h_bodies x_h_traced x_h_number x_h_spot x_h_parted x_g_count x_g_kinds x_g_wills x_g_starts x_g_code x_g_stack x_g_kl x_g_wl x_g_sl x_g_cl x_nr)) := by
  unfold X11_spot at hf
  refine MC.ofI pn_X11 (Nat.le_of_ble_eq_true rfl) ?_
  intro p e s m args below meth c A Q ls cx hR hw hl
  have hx := cx.1
  have hb := cx.2.1
  have hl : lv_has ls 5 [(0, .ref (a 0)), (1, .int v1), (2, .int v2), (3, .int v3)] := hl
  refine lv_iload_n hx hb dX11_spot_0 rfl (lv_at hl 1 rfl) ?_
  refine calSi cx hw hl.1 (c_X11_isSpot rfl) q_353 k_X11_isSpot rfl dX11_spot_1 rfl (Nat.le_of_ble_eq_true rfl) ⟨Nat.le_of_ble_eq_true rfl, Nat.le_of_ble_eq_true rfl⟩ ⟨Nat.le_refl _, Nat.le_refl _⟩ (fun H locs hw => ?_)
  refine lv_if_eq (tgt := 26) hx hb dX11_spot_4 (by decide) (fun hc => ?_) (fun hc => ?_)
  · have hf := ifT hf hc
    refine lv_iconst (v := (-1)) hx hb dX11_spot_26 (by decide) ?_
    have hf := Option.some.inj hf
    subst hf
    exact hR _ _ _ _ _ _ hw rfl ⟨rfl, rfl⟩ dX11_spot_27
  · have hf := ifF hf hc
    refine lv_iload_n hx hb dX11_spot_7 rfl (lv_at hl 2 rfl) ?_
    refine lv_iconst (v := 0) hx hb dX11_spot_8 (by decide) ?_
    refine lv_iconst (v := 1) hx hb dX11_spot_9 (by decide) ?_
    refine calSi cx hw hl.1 (c_X11_isIn rfl) q_350 k_X11_isIn rfl dX11_spot_10 rfl (Nat.le_of_ble_eq_true rfl) ⟨Nat.le_of_ble_eq_true rfl, Nat.le_of_ble_eq_true rfl⟩ ⟨Nat.le_refl _, Nat.le_refl _⟩ (fun H locs hw => ?_)
    refine lv_if_eq (tgt := 26) hx hb dX11_spot_13 (by decide) (fun hc => ?_) (fun hc => ?_)
    · have hf := ifT hf hc
      refine lv_iconst (v := (-1)) hx hb dX11_spot_26 (by decide) ?_
      have hf := Option.some.inj hf
      subst hf
      exact hR _ _ _ _ _ _ hw rfl ⟨rfl, rfl⟩ dX11_spot_27
    · have hf := ifF hf hc
      refine lv_iload_n hx hb dX11_spot_16 rfl (lv_at hl 3 rfl) ?_
      refine lv_iconst (v := 0) hx hb dX11_spot_17 (by decide) ?_
      refine lv_bipush (v := 9) hx hb dX11_spot_18 (by decide) ?_
      refine calSi cx hw hl.1 (c_X11_isIn rfl) q_350 k_X11_isIn rfl dX11_spot_20 rfl (Nat.le_of_ble_eq_true rfl) ⟨Nat.le_of_ble_eq_true rfl, Nat.le_of_ble_eq_true rfl⟩ ⟨Nat.le_refl _, Nat.le_refl _⟩ (fun H locs hw => ?_)
      refine lv_if_ne (tgt := 28) hx hb dX11_spot_23 (by decide) (fun hc => ?_) (fun hc => ?_)
      · have hf := ifF hf hc
        refine lv_aload_n hx hb dX11_spot_28 rfl (lv_at hl 0 rfl) ?_
        refine cg_X11_55_ds cx hw dX11_spot_29 ?_
        refine cg_X11_119_q0 cx hw dX11_spot_32 ?_
        refine lv_iload_n hx hb dX11_spot_35 rfl (lv_at hl 1 rfl) ?_
        obtain ⟨h1, hf⟩ := ckS hf
        refine co_q0_spots (j := v1.toNatClampNeg) cx hw (ib_in h1) rfl dX11_spot_36 ?_
        refine lv_iload_n hx hb dX11_spot_37 rfl (lv_at hl 2 rfl) ?_
        obtain ⟨h2, hf⟩ := ckS hf
        refine cm_q0_spots (j := v2.toNatClampNeg) cx hw (ib_lt h1) (ib_in h2) rfl dX11_spot_38 ?_
        refine lv_istore (lv' := [(4, .int (x_q0_spots v1.toNatClampNeg v2.toNatClampNeg)), (0, .ref (a 0)), (1, .int v1), (2, .int v2), (3, .int v3)]) hx hb dX11_spot_39 hl (by decide) rfl (fun ls hl => ?_)
        refine lv_aload_n hx hb dX11_spot_41 rfl (lv_at hl 1 rfl) ?_
        refine cg_X11_55_ds cx hw dX11_spot_42 ?_
        refine cg_X11_119_q0 cx hw dX11_spot_45 ?_
        refine lv_iload_n hx hb dX11_spot_48 rfl (lv_at hl 2 rfl) ?_
        obtain ⟨h3, hf⟩ := ckS hf
        refine co_q0_spots (j := v1.toNatClampNeg) cx hw (ib_in h3) rfl dX11_spot_49 ?_
        refine lv_iload_n hx hb dX11_spot_50 rfl (lv_at hl 3 rfl) ?_
        refine lv_iload_n hx hb dX11_spot_51 rfl (lv_at hl 4 rfl) ?_
        obtain ⟨h4, hf⟩ := ckS hf
        refine ct_q0_spots (j := v2.toNatClampNeg) cx hw (ib_lt h3) (ib_in h4) rfl dX11_spot_52 (fun H locs hw => ?_)
        refine lv_iload hx hb dX11_spot_53 (lv_at hl 0 rfl) ?_
        have hf := Option.some.inj hf
        subst hf
        exact hR _ _ _ _ _ _ hw rfl ⟨rfl, rfl⟩ dX11_spot_55
      · have hf := ifT hf hc
        refine lv_iconst (v := (-1)) hx hb dX11_spot_26 (by decide) ?_
        have hf := Option.some.inj hf
        subst hf
        exact hR _ _ _ _ _ _ hw rfl ⟨rfl, rfl⟩ dX11_spot_27
end CW2
