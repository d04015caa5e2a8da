section CW11
variable {l : Launch} {D : va_G} {t : Nat → ClassId} {a : Nat → Nat} {ar : Nat → Nat → Nat} {n : Nat} {x_q0_dials : Nat → Nat → Int32} {x_q0_spots : Nat → Nat → Int32} {x_q0_skies : Nat → Int32} {x_q0_reports : Nat → Nat → Int32} {x_q0_count : Int32} {x_q0_chime : Int32} {x_q0_end : Int32} {x_q0_score : Int32} {x_q0_reportCount : Int32} {x_q0_z : Int32} {x_q0_rules : Nat} {x_q0_shades : Nat → Int32} {x_q0_facts : Nat → Int32} {x_q1_dials : Nat → Nat → Int32} {x_q1_spots : Nat → Nat → Int32} {x_q1_skies : Nat → Int32} {x_q1_reports : Nat → Nat → Int32} {x_q1_count : Int32} {x_q1_chime : Int32} {x_q1_end : Int32} {x_q1_score : Int32} {x_q1_reportCount : Int32} {x_q1_z : Int32} {x_q1_rules : Nat} {x_q1_shades : Nat → Int32} {x_q1_facts : Nat → Int32} {x_q2_dials : Nat → Nat → Int32} {x_q2_spots : Nat → Nat → Int32} {x_q2_skies : Nat → Int32} {x_q2_reports : Nat → Nat → Int32} {x_q2_count : Int32} {x_q2_chime : Int32} {x_q2_end : Int32} {x_q2_score : Int32} {x_q2_reportCount : Int32} {x_q2_z : Int32} {x_q2_rules : Nat} {x_q2_shades : Nat → Int32} {x_q2_facts : Nat → Int32} {x_isKept : Int32} {x_marks : Nat → Int32} {x_p_first : Nat → Int32} {x_p_steps : Int32} {x_p_most : Int32} {x_p_many : Int32} {x_p_fewest : Int32} {x_p_everRight : Int32} {x_p_opening : Int32} {x_p_rows : Nat → Nat → Int32} {x_p_rowCount : Int32} {x_p_acts : Nat → Int32} {x_p_marks : Nat → Nat → Int32} {x_p_deepest : Int32} {x_p_wanted : Int32} {x_t_length : Int32} {x_t_tape : Nat → Int32} {x_t_words : Nat → Int32} {x_t_places : Nat → Int32} {x_t_at : Int32} {x_t_kinds : Nat → Int32} {x_t_wills : Nat → Int32} {x_t_starts : Nat → Int32} {x_t_code : Nat → Int32} {x_t_count : Int32} {x_t_size : Int32} {x_h_sorts : Nat → Int32} {x_h_lengths : Nat → Int32} {x_h_items : Nat → Nat → Int32} {x_h_held : Nat → Int32} {x_h_things : Nat → Int32} {x_h_sizes : Nat → Int32} {x_h_bodies : Nat → Int32} {x_h_traced : Int32} {x_h_number : Int32} {x_h_spot : Int32} {x_h_parted : Int32} {x_g_count : Nat → Int32} {x_g_kinds : Nat → Nat → Int32} {x_g_wills : Nat → Nat → Int32} {x_g_starts : Nat → Nat → Int32} {x_g_code : Nat → Nat → Int32} {x_g_stack : Nat → Nat → Int32} {x_g_kl : Nat → Nat} {x_g_wl : Nat → Nat} {x_g_sl : Nat → Nat} {x_g_cl : Nat → Nat} {x_nr : Nat}
theorem dX0_shares_0 : decode cX0_shares 0 = .ok (.aload_n 1, 1) := by decide +kernel
theorem dX0_shares_1 : decode cX0_shares 1 = .ok (.bipush 12, 2) := by decide +kernel
theorem dX0_shares_3 : decode cX0_shares 3 = .ok (.invokevirtual 7, 3) := by decide +kernel
theorem dX0_shares_6 : decode cX0_shares 6 = .ok (.aload_n 1, 1) := by decide +kernel
theorem dX0_shares_7 : decode cX0_shares 7 = .ok (.getfield 23, 3) := by decide +kernel
theorem dX0_shares_10 : decode cX0_shares 10 = .ok (.aload_n 1, 1) := by decide +kernel
theorem dX0_shares_11 : decode cX0_shares 11 = .ok (.getfield 13, 3) := by decide +kernel
theorem dX0_shares_14 : decode cX0_shares 14 = .ok (.isub, 1) := by decide +kernel
theorem dX0_shares_15 : decode cX0_shares 15 = .ok (.iconst 2, 1) := by decide +kernel
theorem dX0_shares_16 : decode cX0_shares 16 = .ok (.iadd, 1) := by decide +kernel
theorem dX0_shares_17 : decode cX0_shares 17 = .ok (.istore_n 3, 1) := by decide +kernel
theorem dX0_shares_18 : decode cX0_shares 18 = .ok (.iload_n 3, 1) := by decide +kernel
theorem dX0_shares_19 : decode cX0_shares 19 = .ok (.ifCond .ne 10, 3) := by decide +kernel
theorem dX0_shares_22 : decode cX0_shares 22 = .ok (.aload_n 1, 1) := by decide +kernel
theorem dX0_shares_23 : decode cX0_shares 23 = .ok (.iconst 1, 1) := by decide +kernel
theorem dX0_shares_24 : decode cX0_shares 24 = .ok (.putfield 26, 3) := by decide +kernel
theorem dX0_shares_27 : decode cX0_shares 27 = .ok (.iconst 0, 1) := by decide +kernel
theorem dX0_shares_28 : decode cX0_shares 28 = .ok (.ireturn, 1) := by decide +kernel
theorem dX0_shares_29 : decode cX0_shares 29 = .ok (.iload_n 2, 1) := by decide +kernel
theorem dX0_shares_30 : decode cX0_shares 30 = .ok (.iload_n 3, 1) := by decide +kernel
theorem dX0_shares_31 : decode cX0_shares 31 = .ok (.irem, 1) := by decide +kernel
theorem dX0_shares_32 : decode cX0_shares 32 = .ok (.ireturn, 1) := by decide +kernel
theorem k_X0_shares : MV yX0_shares cX0_shares 4 (some .int) 2 := ⟨q_1035, q_1036, q_4, q_1053, ⟨by decide, by decide, by decide +kernel⟩⟩
theorem c_X0_shares_k0 {v2 : Int32} {res : Int32 × (Nat → Int32) × Int32 × Int32} (hf : X0_shares_k0 x_h_bodies x_h_traced x_h_number x_h_spot x_h_parted v2 = some res) : MC l E0 D t yX0_shares cX0_shares 4 (some .int) 2 0 0 [.ref (a (78 + 0)), .ref (a 105), .int v2] (cW a ar t x_q0_dials x_q0_spots x_q0_skies x_q0_reports x_q0_count x_q0_chime x_q0_end x_q0_score x_q0_reportCount x_q0_z x_q0_rules x_q0_shades x_q0_facts x_q1_dials x_q1_spots x_q1_skies x_q1_reports x_q1_count x_q1_chime x_q1_end x_q1_score x_q1_reportCount x_q1_z x_q1_rules x_q1_shades x_q1_facts x_q2_dials x_q2_spots x_q2_skies x_q2_reports x_q2_count x_q2_chime x_q2_end x_q2_score x_q2_reportCount x_q2_z x_q2_rules x_q2_shades x_q2_facts x_isKept x_marks x_p_first x_p_steps x_p_most x_p_many x_p_fewest x_p_everRight x_p_opening x_p_rows x_p_rowCount x_p_acts x_p_marks x_p_deepest x_p_wanted x_t_length x_t_tape x_t_words x_t_places x_t_at x_t_kinds x_t_wills x_t_starts x_t_code x_t_count x_t_size x_h_sorts x_h_lengths x_h_items x_h_held x_h_things x_h_sizes x_h_bodies x_h_traced x_h_number x_h_spot x_h_parted x_g_count x_g_kinds x_g_wills x_g_starts x_g_code x_g_stack x_g_kl x_g_wl x_g_sl x_g_cl x_nr) (Qi res.1 (cW a ar t x_q0_dials x_q0_spots x_q0_skies x_q0_reports x_q0_count x_q0_chime x_q0_end x_q0_score x_q0_reportCount x_q0_z x_q0_rules x_q0_shades x_q0_facts x_q1_dials x_q1_spots x_q1_skies x_q1_reports x_q1_count x_q1_chime x_q1_end x_q1_score x_q1_reportCount x_q1_z x_q1_rules x_q1_shades x_q1_facts x_q2_dials x_q2_spots x_q2_skies x_q2_reports x_q2_count x_q2_chime x_q2_end x_q2_score x_q2_reportCount x_q2_z x_q2_rules x_q2_shades x_q2_facts x_isKept x_marks x_p_first x_p_steps x_p_most x_p_many x_p_fewest x_p_everRight x_p_opening x_p_rows x_p_rowCount x_p_acts x_p_marks x_p_deepest x_p_wanted x_t_length x_t_tape x_t_words x_t_places x_t_at x_t_kinds x_t_wills x_t_starts x_t_code x_t_count x_t_size x_h_sorts x_h_lengths x_h_items x_h_held x_h_things x_h_sizes res.2.1 res.2.2.1 x_h_number x_h_spot res.2.2.2 x_g_count x_g_kinds x_g_wills x_g_starts x_g_code x_g_stack x_g_kl x_g_wl x_g_sl x_g_cl x_nr)) := by
  unfold X0_shares_k0 at hf
  refine MC.ofI pn_X0 (Nat.le_of_ble_eq_true rfl) ?_
  intro p e s m args below meth c A Q ls cx hR hw hl
  have hx := cx.1
  have hb := cx.2.1
  have hl : lv_has ls 4 [(0, .ref (a (78 + 0))), (1, .ref (a 105)), (2, .int v2)] := hl
  refine lv_aload_n hx hb dX0_shares_0 rfl (lv_at hl 1 rfl) ?_
  refine lv_bipush (v := 12) hx hb dX0_shares_1 (by decide) ?_
  obtain ⟨r1, h2, hf⟩ := bnS hf
  refine calVv cx hw hl.1 (c_X2_begin h2) q_1012 k_X2_begin rfl rv_host rfl dX0_shares_3 rfl (Nat.le_of_ble_eq_true rfl) ⟨Nat.le_of_ble_eq_true rfl, Nat.le_of_ble_eq_true rfl⟩ ⟨Nat.le_refl _, Nat.le_refl _⟩ (fun H locs hw => ?_)
  refine lv_aload_n hx hb dX0_shares_6 rfl (lv_at hl 1 rfl) ?_
  refine cg_X0_23_host cx hw dX0_shares_7 ?_
  refine lv_aload_n hx hb dX0_shares_10 rfl (lv_at hl 1 rfl) ?_
  refine cg_X0_13_host cx hw dX0_shares_11 ?_
  refine lv_isub hx hb dX0_shares_14 ?_
  refine lv_iconst (v := 2) hx hb dX0_shares_15 (by decide) ?_
  refine lv_iadd hx hb dX0_shares_16 ?_
  refine lv_istore_n (lv' := [(3, .int ((x_h_spot - x_h_number) + (2 : Int32))), (0, .ref (a (78 + 0))), (1, .ref (a 105)), (2, .int v2)]) hx hb dX0_shares_17 rfl hl (by decide) rfl (fun ls hl => ?_)
  refine lv_iload_n hx hb dX0_shares_18 rfl (lv_at hl 0 rfl) ?_
  refine lv_if_ne (tgt := 29) hx hb dX0_shares_19 (by decide) (fun hc => ?_) (fun hc => ?_)
  · have hf := ifF hf hc
    refine lv_iload_n hx hb dX0_shares_29 rfl (lv_at hl 3 rfl) ?_
    refine lv_iload_n hx hb dX0_shares_30 rfl (lv_at hl 0 rfl) ?_
    obtain ⟨h3, hf⟩ := ckS hf
    refine lv_irem hx hb dX0_shares_31 (by simpa using h3) ?_
    have hf := Option.some.inj hf
    subst hf
    exact hR _ _ _ _ _ _ hw rfl ⟨rfl, rfl⟩ dX0_shares_32
  · have hf := ifT hf hc
    refine lv_aload_n hx hb dX0_shares_22 rfl (lv_at hl 2 rfl) ?_
    refine lv_iconst (v := 1) hx hb dX0_shares_23 (by decide) ?_
    refine cp_X0_26_host cx hw (by decide) dX0_shares_24 (fun H locs hw => ?_)
    refine lv_iconst (v := 0) hx hb dX0_shares_27 (by decide) ?_
    have hf := Option.some.inj hf
    subst hf
    exact hR _ _ _ _ _ _ hw rfl ⟨rfl, rfl⟩ dX0_shares_28
theorem c_X0_shares_k1 {v2 : Int32} {res : Int32 × (Nat → Int32) × Int32 × Int32} (hf : X0_shares_k1 x_h_bodies x_h_traced x_h_number x_h_spot x_h_parted v2 = some res) : MC l E0 D t yX0_shares cX0_shares 4 (some .int) 2 0 0 [.ref (a (78 + 1)), .ref (a 105), .int v2] (cW a ar t x_q0_dials x_q0_spots x_q0_skies x_q0_reports x_q0_count x_q0_chime x_q0_end x_q0_score x_q0_reportCount x_q0_z x_q0_rules x_q0_shades x_q0_facts x_q1_dials x_q1_spots x_q1_skies x_q1_reports x_q1_count x_q1_chime x_q1_end x_q1_score x_q1_reportCount x_q1_z x_q1_rules x_q1_shades x_q1_facts x_q2_dials x_q2_spots x_q2_skies x_q2_reports x_q2_count x_q2_chime x_q2_end x_q2_score x_q2_reportCount x_q2_z x_q2_rules x_q2_shades x_q2_facts x_isKept x_marks x_p_first x_p_steps x_p_most x_p_many x_p_fewest x_p_everRight x_p_opening x_p_rows x_p_rowCount x_p_acts x_p_marks x_p_deepest x_p_wanted x_t_length x_t_tape x_t_words x_t_places x_t_at x_t_kinds x_t_wills x_t_starts x_t_code x_t_count x_t_size x_h_sorts x_h_lengths x_h_items x_h_held x_h_things x_h_sizes x_h_bodies x_h_traced x_h_number x_h_spot x_h_parted x_g_count x_g_kinds x_g_wills x_g_starts x_g_code x_g_stack x_g_kl x_g_wl x_g_sl x_g_cl x_nr) (Qi res.1 (cW a ar t x_q0_dials x_q0_spots x_q0_skies x_q0_reports x_q0_count x_q0_chime x_q0_end x_q0_score x_q0_reportCount x_q0_z x_q0_rules x_q0_shades x_q0_facts x_q1_dials x_q1_spots x_q1_skies x_q1_reports x_q1_count x_q1_chime x_q1_end x_q1_score x_q1_reportCount x_q1_z x_q1_rules x_q1_shades x_q1_facts x_q2_dials x_q2_spots x_q2_skies x_q2_reports x_q2_count x_q2_chime x_q2_end x_q2_score x_q2_reportCount x_q2_z x_q2_rules x_q2_shades x_q2_facts x_isKept x_marks x_p_first x_p_steps x_p_most x_p_many x_p_fewest x_p_everRight x_p_opening x_p_rows x_p_rowCount x_p_acts x_p_marks x_p_deepest x_p_wanted x_t_length x_t_tape x_t_words x_t_places x_t_at x_t_kinds x_t_wills x_t_starts x_t_code x_t_count x_t_size x_h_sorts x_h_lengths x_h_items x_h_held x_h_things x_h_sizes res.2.1 res.2.2.1 x_h_number x_h_spot res.2.2.2 x_g_count x_g_kinds x_g_wills x_g_starts x_g_code x_g_stack x_g_kl x_g_wl x_g_sl x_g_cl x_nr)) := by
  unfold X0_shares_k1 at hf
  refine MC.ofI pn_X0 (Nat.le_of_ble_eq_true rfl) ?_
  intro p e s m args below meth c A Q ls cx hR hw hl
  have hx := cx.1
  have hb := cx.2.1
  have hl : lv_has ls 4 [(0, .ref (a (78 + 1))), (1, .ref (a 105)), (2, .int v2)] := hl
  refine lv_aload_n hx hb dX0_shares_0 rfl (lv_at hl 1 rfl) ?_
  refine lv_bipush (v := 12) hx hb dX0_shares_1 (by decide) ?_
  obtain ⟨r1, h2, hf⟩ := bnS hf
  refine calVv cx hw hl.1 (c_X2_begin h2) q_1012 k_X2_begin rfl rv_host rfl dX0_shares_3 rfl (Nat.le_of_ble_eq_true rfl) ⟨Nat.le_of_ble_eq_true rfl, Nat.le_of_ble_eq_true rfl⟩ ⟨Nat.le_refl _, Nat.le_refl _⟩ (fun H locs hw => ?_)
  refine lv_aload_n hx hb dX0_shares_6 rfl (lv_at hl 1 rfl) ?_
  refine cg_X0_23_host cx hw dX0_shares_7 ?_
  refine lv_aload_n hx hb dX0_shares_10 rfl (lv_at hl 1 rfl) ?_
  refine cg_X0_13_host cx hw dX0_shares_11 ?_
  refine lv_isub hx hb dX0_shares_14 ?_
  refine lv_iconst (v := 2) hx hb dX0_shares_15 (by decide) ?_
  refine lv_iadd hx hb dX0_shares_16 ?_
  refine lv_istore_n (lv' := [(3, .int ((x_h_spot - x_h_number) + (2 : Int32))), (0, .ref (a (78 + 1))), (1, .ref (a 105)), (2, .int v2)]) hx hb dX0_shares_17 rfl hl (by decide) rfl (fun ls hl => ?_)
  refine lv_iload_n hx hb dX0_shares_18 rfl (lv_at hl 0 rfl) ?_
  refine lv_if_ne (tgt := 29) hx hb dX0_shares_19 (by decide) (fun hc => ?_) (fun hc => ?_)
  · have hf := ifF hf hc
    refine lv_iload_n hx hb dX0_shares_29 rfl (lv_at hl 3 rfl) ?_
    refine lv_iload_n hx hb dX0_shares_30 rfl (lv_at hl 0 rfl) ?_
    obtain ⟨h3, hf⟩ := ckS hf
    refine lv_irem hx hb dX0_shares_31 (by simpa using h3) ?_
    have hf := Option.some.inj hf
    subst hf
    exact hR _ _ _ _ _ _ hw rfl ⟨rfl, rfl⟩ dX0_shares_32
  · have hf := ifT hf hc
    refine lv_aload_n hx hb dX0_shares_22 rfl (lv_at hl 2 rfl) ?_
    refine lv_iconst (v := 1) hx hb dX0_shares_23 (by decide) ?_
    refine cp_X0_26_host cx hw (by decide) dX0_shares_24 (fun H locs hw => ?_)
    refine lv_iconst (v := 0) hx hb dX0_shares_27 (by decide) ?_
    have hf := Option.some.inj hf
    subst hf
    exact hR _ _ _ _ _ _ hw rfl ⟨rfl, rfl⟩ dX0_shares_28
theorem c_X0_shares_k2 {v2 : Int32} {res : Int32 × (Nat → Int32) × Int32 × Int32} (hf : X0_shares_k2 x_h_bodies x_h_traced x_h_number x_h_spot x_h_parted v2 = some res) : MC l E0 D t yX0_shares cX0_shares 4 (some .int) 2 0 0 [.ref (a (78 + 2)), .ref (a 105), .int v2] (cW a ar t x_q0_dials x_q0_spots x_q0_skies x_q0_reports x_q0_count x_q0_chime x_q0_end x_q0_score x_q0_reportCount x_q0_z x_q0_rules x_q0_shades x_q0_facts x_q1_dials x_q1_spots x_q1_skies x_q1_reports x_q1_count x_q1_chime x_q1_end x_q1_score x_q1_reportCount x_q1_z x_q1_rules x_q1_shades x_q1_facts x_q2_dials x_q2_spots x_q2_skies x_q2_reports x_q2_count x_q2_chime x_q2_end x_q2_score x_q2_reportCount x_q2_z x_q2_rules x_q2_shades x_q2_facts x_isKept x_marks x_p_first x_p_steps x_p_most x_p_many x_p_fewest x_p_everRight x_p_opening x_p_rows x_p_rowCount x_p_acts x_p_marks x_p_deepest x_p_wanted x_t_length x_t_tape x_t_words x_t_places x_t_at x_t_kinds x_t_wills x_t_starts x_t_code x_t_count x_t_size x_h_sorts x_h_lengths x_h_items x_h_held x_h_things x_h_sizes x_h_bodies x_h_traced x_h_number x_h_spot x_h_parted x_g_count x_g_kinds x_g_wills x_g_starts x_g_code x_g_stack x_g_kl x_g_wl x_g_sl x_g_cl x_nr) (Qi res.1 (cW a ar t x_q0_dials x_q0_spots x_q0_skies x_q0_reports x_q0_count x_q0_chime x_q0_end x_q0_score x_q0_reportCount x_q0_z x_q0_rules x_q0_shades x_q0_facts x_q1_dials x_q1_spots x_q1_skies x_q1_reports x_q1_count x_q1_chime x_q1_end x_q1_score x_q1_reportCount x_q1_z x_q1_rules x_q1_shades x_q1_facts x_q2_dials x_q2_spots x_q2_skies x_q2_reports x_q2_count x_q2_chime x_q2_end x_q2_score x_q2_reportCount x_q2_z x_q2_rules x_q2_shades x_q2_facts x_isKept x_marks x_p_first x_p_steps x_p_most x_p_many x_p_fewest x_p_everRight x_p_opening x_p_rows x_p_rowCount x_p_acts x_p_marks x_p_deepest x_p_wanted x_t_length x_t_tape x_t_words x_t_places x_t_at x_t_kinds x_t_wills x_t_starts x_t_code x_t_count x_t_size x_h_sorts x_h_lengths x_h_items x_h_held x_h_things x_h_sizes res.2.1 res.2.2.1 x_h_number x_h_spot res.2.2.2 x_g_count x_g_kinds x_g_wills x_g_starts x_g_code x_g_stack x_g_kl x_g_wl x_g_sl x_g_cl x_nr)) := by
  unfold X0_shares_k2 at hf
  refine MC.ofI pn_X0 (Nat.le_of_ble_eq_true rfl) ?_
  intro p e s m args below meth c A Q ls cx hR hw hl
  have hx := cx.1
  have hb := cx.2.1
  have hl : lv_has ls 4 [(0, .ref (a (78 + 2))), (1, .ref (a 105)), (2, .int v2)] := hl
  refine lv_aload_n hx hb dX0_shares_0 rfl (lv_at hl 1 rfl) ?_
  refine lv_bipush (v := 12) hx hb dX0_shares_1 (by decide) ?_
  obtain ⟨r1, h2, hf⟩ := bnS hf
  refine calVv cx hw hl.1 (c_X2_begin h2) q_1012 k_X2_begin rfl rv_host rfl dX0_shares_3 rfl (Nat.le_of_ble_eq_true rfl) ⟨Nat.le_of_ble_eq_true rfl, Nat.le_of_ble_eq_true rfl⟩ ⟨Nat.le_refl _, Nat.le_refl _⟩ (fun H locs hw => ?_)
  refine lv_aload_n hx hb dX0_shares_6 rfl (lv_at hl 1 rfl) ?_
  refine cg_X0_23_host cx hw dX0_shares_7 ?_
  refine lv_aload_n hx hb dX0_shares_10 rfl (lv_at hl 1 rfl) ?_
  refine cg_X0_13_host cx hw dX0_shares_11 ?_
  refine lv_isub hx hb dX0_shares_14 ?_
  refine lv_iconst (v := 2) hx hb dX0_shares_15 (by decide) ?_
  refine lv_iadd hx hb dX0_shares_16 ?_
  refine lv_istore_n (lv' := [(3, .int ((x_h_spot - x_h_number) + (2 : Int32))), (0, .ref (a (78 + 2))), (1, .ref (a 105)), (2, .int v2)]) hx hb dX0_shares_17 rfl hl (by decide) rfl (fun ls hl => ?_)
  refine lv_iload_n hx hb dX0_shares_18 rfl (lv_at hl 0 rfl) ?_
  refine lv_if_ne (tgt := 29) hx hb dX0_shares_19 (by decide) (fun hc => ?_) (fun hc => ?_)
  · have hf := ifF hf hc
    refine lv_iload_n hx hb dX0_shares_29 rfl (lv_at hl 3 rfl) ?_
    refine lv_iload_n hx hb dX0_shares_30 rfl (lv_at hl 0 rfl) ?_
    obtain ⟨h3, hf⟩ := ckS hf
    refine lv_irem hx hb dX0_shares_31 (by simpa using h3) ?_
    have hf := Option.some.inj hf
    subst hf
    exact hR _ _ _ _ _ _ hw rfl ⟨rfl, rfl⟩ dX0_shares_32
  · have hf := ifT hf hc
    refine lv_aload_n hx hb dX0_shares_22 rfl (lv_at hl 2 rfl) ?_
    refine lv_iconst (v := 1) hx hb dX0_shares_23 (by decide) ?_
    refine cp_X0_26_host cx hw (by decide) dX0_shares_24 (fun H locs hw => ?_)
    refine lv_iconst (v := 0) hx hb dX0_shares_27 (by decide) ?_
    have hf := Option.some.inj hf
    subst hf
    exact hR _ _ _ _ _ _ hw rfl ⟨rfl, rfl⟩ dX0_shares_28
theorem c_X0_shares_k3 {v2 : Int32} {res : Int32 × (Nat → Int32) × Int32 × Int32} (hf : X0_shares_k3 x_h_bodies x_h_traced x_h_number x_h_spot x_h_parted v2 = some res) : MC l E0 D t yX0_shares cX0_shares 4 (some .int) 2 0 0 [.ref (a (78 + 3)), .ref (a 105), .int v2] (cW a ar t x_q0_dials x_q0_spots x_q0_skies x_q0_reports x_q0_count x_q0_chime x_q0_end x_q0_score x_q0_reportCount x_q0_z x_q0_rules x_q0_shades x_q0_facts x_q1_dials x_q1_spots x_q1_skies x_q1_reports x_q1_count x_q1_chime x_q1_end x_q1_score x_q1_reportCount x_q1_z x_q1_rules x_q1_shades x_q1_facts x_q2_dials x_q2_spots x_q2_skies x_q2_reports x_q2_count x_q2_chime x_q2_end x_q2_score x_q2_reportCount x_q2_z x_q2_rules x_q2_shades x_q2_facts x_isKept x_marks x_p_first x_p_steps x_p_most x_p_many x_p_fewest x_p_everRight x_p_opening x_p_rows x_p_rowCount x_p_acts x_p_marks x_p_deepest x_p_wanted x_t_length x_t_tape x_t_words x_t_places x_t_at x_t_kinds x_t_wills x_t_starts x_t_code x_t_count x_t_size x_h_sorts x_h_lengths x_h_items x_h_held x_h_things x_h_sizes x_h_bodies x_h_traced x_h_number x_h_spot x_h_parted x_g_count x_g_kinds x_g_wills x_g_starts x_g_code x_g_stack x_g_kl x_g_wl x_g_sl x_g_cl x_nr) (Qi res.1 (cW a ar t x_q0_dials x_q0_spots x_q0_skies x_q0_reports x_q0_count x_q0_chime x_q0_end x_q0_score x_q0_reportCount x_q0_z x_q0_rules x_q0_shades x_q0_facts x_q1_dials x_q1_spots x_q1_skies x_q1_reports x_q1_count x_q1_chime x_q1_end x_q1_score x_q1_reportCount x_q1_z x_q1_rules x_q1_shades x_q1_facts x_q2_dials x_q2_spots x_q2_skies x_q2_reports x_q2_count x_q2_chime x_q2_end x_q2_score x_q2_reportCount x_q2_z x_q2_rules x_q2_shades x_q2_facts x_isKept x_marks x_p_first x_p_steps x_p_most x_p_many x_p_fewest x_p_everRight x_p_opening x_p_rows x_p_rowCount x_p_acts x_p_marks x_p_deepest x_p_wanted x_t_length x_t_tape x_t_words x_t_places x_t_at x_t_kinds x_t_wills x_t_starts x_t_code x_t_count x_t_size x_h_sorts x_h_lengths x_h_items x_h_held x_h_things x_h_sizes res.2.1 res.2.2.1 x_h_number x_h_spot res.2.2.2 x_g_count x_g_kinds x_g_wills x_g_starts x_g_code x_g_stack x_g_kl x_g_wl x_g_sl x_g_cl x_nr)) := by
  unfold X0_shares_k3 at hf
  refine MC.ofI pn_X0 (Nat.le_of_ble_eq_true rfl) ?_
  intro p e s m args below meth c A Q ls cx hR hw hl
  have hx := cx.1
  have hb := cx.2.1
  have hl : lv_has ls 4 [(0, .ref (a (78 + 3))), (1, .ref (a 105)), (2, .int v2)] := hl
  refine lv_aload_n hx hb dX0_shares_0 rfl (lv_at hl 1 rfl) ?_
  refine lv_bipush (v := 12) hx hb dX0_shares_1 (by decide) ?_
  obtain ⟨r1, h2, hf⟩ := bnS hf
  refine calVv cx hw hl.1 (c_X2_begin h2) q_1012 k_X2_begin rfl rv_host rfl dX0_shares_3 rfl (Nat.le_of_ble_eq_true rfl) ⟨Nat.le_of_ble_eq_true rfl, Nat.le_of_ble_eq_true rfl⟩ ⟨Nat.le_refl _, Nat.le_refl _⟩ (fun H locs hw => ?_)
  refine lv_aload_n hx hb dX0_shares_6 rfl (lv_at hl 1 rfl) ?_
  refine cg_X0_23_host cx hw dX0_shares_7 ?_
  refine lv_aload_n hx hb dX0_shares_10 rfl (lv_at hl 1 rfl) ?_
  refine cg_X0_13_host cx hw dX0_shares_11 ?_
  refine lv_isub hx hb dX0_shares_14 ?_
  refine lv_iconst (v := 2) hx hb dX0_shares_15 (by decide) ?_
  refine lv_iadd hx hb dX0_shares_16 ?_
  refine lv_istore_n (lv' := [(3, .int ((x_h_spot - x_h_number) + (2 : Int32))), (0, .ref (a (78 + 3))), (1, .ref (a 105)), (2, .int v2)]) hx hb dX0_shares_17 rfl hl (by decide) rfl (fun ls hl => ?_)
  refine lv_iload_n hx hb dX0_shares_18 rfl (lv_at hl 0 rfl) ?_
  refine lv_if_ne (tgt := 29) hx hb dX0_shares_19 (by decide) (fun hc => ?_) (fun hc => ?_)
  · have hf := ifF hf hc
    refine lv_iload_n hx hb dX0_shares_29 rfl (lv_at hl 3 rfl) ?_
    refine lv_iload_n hx hb dX0_shares_30 rfl (lv_at hl 0 rfl) ?_
    obtain ⟨h3, hf⟩ := ckS hf
    refine lv_irem hx hb dX0_shares_31 (by simpa using h3) ?_
    have hf := Option.some.inj hf
    subst hf
    exact hR _ _ _ _ _ _ hw rfl ⟨rfl, rfl⟩ dX0_shares_32
  · have hf := ifT hf hc
    refine lv_aload_n hx hb dX0_shares_22 rfl (lv_at hl 2 rfl) ?_
    refine lv_iconst (v := 1) hx hb dX0_shares_23 (by decide) ?_
    refine cp_X0_26_host cx hw (by decide) dX0_shares_24 (fun H locs hw => ?_)
    refine lv_iconst (v := 0) hx hb dX0_shares_27 (by decide) ?_
    have hf := Option.some.inj hf
    subst hf
    exact hR _ _ _ _ _ _ hw rfl ⟨rfl, rfl⟩ dX0_shares_28
theorem c_X0_shares_k4 {v2 : Int32} {res : Int32 × (Nat → Int32) × Int32 × Int32} (hf : X0_shares_k4 x_h_bodies x_h_traced x_h_number x_h_spot x_h_parted v2 = some res) : MC l E0 D t yX0_shares cX0_shares 4 (some .int) 2 0 0 [.ref (a (78 + 4)), .ref (a 105), .int v2] (cW a ar t x_q0_dials x_q0_spots x_q0_skies x_q0_reports x_q0_count x_q0_chime x_q0_end x_q0_score x_q0_reportCount x_q0_z x_q0_rules x_q0_shades x_q0_facts x_q1_dials x_q1_spots x_q1_skies x_q1_reports x_q1_count x_q1_chime x_q1_end x_q1_score x_q1_reportCount x_q1_z x_q1_rules x_q1_shades x_q1_facts x_q2_dials x_q2_spots x_q2_skies x_q2_reports x_q2_count x_q2_chime x_q2_end x_q2_score x_q2_reportCount x_q2_z x_q2_rules x_q2_shades x_q2_facts x_isKept x_marks x_p_first x_p_steps x_p_most x_p_many x_p_fewest x_p_everRight x_p_opening x_p_rows x_p_rowCount x_p_acts x_p_marks x_p_deepest x_p_wanted x_t_length x_t_tape x_t_words x_t_places x_t_at x_t_kinds x_t_wills x_t_starts x_t_code x_t_count x_t_size x_h_sorts x_h_lengths x_h_items x_h_held x_h_things x_h_sizes x_h_bodies x_h_traced x_h_number x_h_spot x_h_parted x_g_count x_g_kinds x_g_wills x_g_starts x_g_code x_g_stack x_g_kl x_g_wl x_g_sl x_g_cl x_nr) (Qi res.1 (cW a ar t x_q0_dials x_q0_spots x_q0_skies x_q0_reports x_q0_count x_q0_chime x_q0_end x_q0_score x_q0_reportCount x_q0_z x_q0_rules x_q0_shades x_q0_facts x_q1_dials x_q1_spots x_q1_skies x_q1_reports x_q1_count x_q1_chime x_q1_end x_q1_score x_q1_reportCount x_q1_z x_q1_rules x_q1_shades x_q1_facts x_q2_dials x_q2_spots x_q2_skies x_q2_reports x_q2_count x_q2_chime x_q2_end x_q2_score x_q2_reportCount x_q2_z x_q2_rules x_q2_shades x_q2_facts x_isKept x_marks x_p_first x_p_steps x_p_most x_p_many x_p_fewest x_p_everRight x_p_opening x_p_rows x_p_rowCount x_p_acts x_p_marks x_p_deepest x_p_wanted x_t_length x_t_tape x_t_words x_t_places x_t_at x_t_kinds x_t_wills x_t_starts x_t_code x_t_count x_t_size x_h_sorts x_h_lengths x_h_items x_h_held x_h_things x_h_sizes res.2.1 res.2.2.1 x_h_number x_h_spot res.2.2.2 x_g_count x_g_kinds x_g_wills x_g_starts x_g_code x_g_stack x_g_kl x_g_wl x_g_sl x_g_cl x_nr)) := by
  unfold X0_shares_k4 at hf
  refine MC.ofI pn_X0 (Nat.le_of_ble_eq_true rfl) ?_
  intro p e s m args below meth c A Q ls cx hR hw hl
  have hx := cx.1
  have hb := cx.2.1
  have hl : lv_has ls 4 [(0, .ref (a (78 + 4))), (1, .ref (a 105)), (2, .int v2)] := hl
  refine lv_aload_n hx hb dX0_shares_0 rfl (lv_at hl 1 rfl) ?_
  refine lv_bipush (v := 12) hx hb dX0_shares_1 (by decide) ?_
  obtain ⟨r1, h2, hf⟩ := bnS hf
  refine calVv cx hw hl.1 (c_X2_begin h2) q_1012 k_X2_begin rfl rv_host rfl dX0_shares_3 rfl (Nat.le_of_ble_eq_true rfl) ⟨Nat.le_of_ble_eq_true rfl, Nat.le_of_ble_eq_true rfl⟩ ⟨Nat.le_refl _, Nat.le_refl _⟩ (fun H locs hw => ?_)
  refine lv_aload_n hx hb dX0_shares_6 rfl (lv_at hl 1 rfl) ?_
  refine cg_X0_23_host cx hw dX0_shares_7 ?_
  refine lv_aload_n hx hb dX0_shares_10 rfl (lv_at hl 1 rfl) ?_
  refine cg_X0_13_host cx hw dX0_shares_11 ?_
  refine lv_isub hx hb dX0_shares_14 ?_
  refine lv_iconst (v := 2) hx hb dX0_shares_15 (by decide) ?_
  refine lv_iadd hx hb dX0_shares_16 ?_
  refine lv_istore_n (lv' := [(3, .int ((x_h_spot - x_h_number) + (2 : Int32))), (0, .ref (a (78 + 4))), (1, .ref (a 105)), (2, .int v2)]) hx hb dX0_shares_17 rfl hl (by decide) rfl (fun ls hl => ?_)
  refine lv_iload_n hx hb dX0_shares_18 rfl (lv_at hl 0 rfl) ?_
  refine lv_if_ne (tgt := 29) hx hb dX0_shares_19 (by decide) (fun hc => ?_) (fun hc => ?_)
  · have hf := ifF hf hc
    refine lv_iload_n hx hb dX0_shares_29 rfl (lv_at hl 3 rfl) ?_
    refine lv_iload_n hx hb dX0_shares_30 rfl (lv_at hl 0 rfl) ?_
    obtain ⟨h3, hf⟩ := ckS hf
    refine lv_irem hx hb dX0_shares_31 (by simpa using h3) ?_
    have hf := Option.some.inj hf
    subst hf
    exact hR _ _ _ _ _ _ hw rfl ⟨rfl, rfl⟩ dX0_shares_32
  · have hf := ifT hf hc
    refine lv_aload_n hx hb dX0_shares_22 rfl (lv_at hl 2 rfl) ?_
    refine lv_iconst (v := 1) hx hb dX0_shares_23 (by decide) ?_
    refine cp_X0_26_host cx hw (by decide) dX0_shares_24 (fun H locs hw => ?_)
    refine lv_iconst (v := 0) hx hb dX0_shares_27 (by decide) ?_
    have hf := Option.some.inj hf
    subst hf
    exact hR _ _ _ _ _ _ hw rfl ⟨rfl, rfl⟩ dX0_shares_28
theorem dX3_shares_0 : decode cX3_shares 0 = .ok (.aload_n 1, 1) := by decide +kernel
theorem dX3_shares_1 : decode cX3_shares 1 = .ok (.bipush 40, 2) := by decide +kernel
theorem dX3_shares_3 : decode cX3_shares 3 = .ok (.invokevirtual 11, 3) := by decide +kernel
theorem dX3_shares_6 : decode cX3_shares 6 = .ok (.aload_n 0, 1) := by decide +kernel
theorem dX3_shares_7 : decode cX3_shares 7 = .ok (.aload_n 1, 1) := by decide +kernel
theorem dX3_shares_8 : decode cX3_shares 8 = .ok (.iload_n 2, 1) := by decide +kernel
theorem dX3_shares_9 : decode cX3_shares 9 = .ok (.invokespecial 17, 3) := by decide +kernel
theorem dX3_shares_12 : decode cX3_shares 12 = .ok (.iconst 2, 1) := by decide +kernel
theorem dX3_shares_13 : decode cX3_shares 13 = .ok (.imul, 1) := by decide +kernel
theorem dX3_shares_14 : decode cX3_shares 14 = .ok (.ireturn, 1) := by decide +kernel
theorem c_X3_shares_k4 {v2 : Int32} {res : Int32 × (Nat → Int32) × Int32 × Int32} (hf : X3_shares_k4 x_h_bodies x_h_traced x_h_number x_h_spot x_h_parted v2 = some res) : MC l E0 D t yX3_shares cX3_shares 3 (some .int) 3 0 0 [.ref (a (78 + 4)), .ref (a 105), .int v2] (cW a ar t x_q0_dials x_q0_spots x_q0_skies x_q0_reports x_q0_count x_q0_chime x_q0_end x_q0_score x_q0_reportCount x_q0_z x_q0_rules x_q0_shades x_q0_facts x_q1_dials x_q1_spots x_q1_skies x_q1_reports x_q1_count x_q1_chime x_q1_end x_q1_score x_q1_reportCount x_q1_z x_q1_rules x_q1_shades x_q1_facts x_q2_dials x_q2_spots x_q2_skies x_q2_reports x_q2_count x_q2_chime x_q2_end x_q2_score x_q2_reportCount x_q2_z x_q2_rules x_q2_shades x_q2_facts x_isKept x_marks x_p_first x_p_steps x_p_most x_p_many x_p_fewest x_p_everRight x_p_opening x_p_rows x_p_rowCount x_p_acts x_p_marks x_p_deepest x_p_wanted x_t_length x_t_tape x_t_words x_t_places x_t_at x_t_kinds x_t_wills x_t_starts x_t_code x_t_count x_t_size x_h_sorts x_h_lengths x_h_items x_h_held x_h_things x_h_sizes x_h_bodies x_h_traced x_h_number x_h_spot x_h_parted x_g_count x_g_kinds x_g_wills x_g_starts x_g_code x_g_stack x_g_kl x_g_wl x_g_sl x_g_cl x_nr) (Qi res.1 (cW a ar t x_q0_dials x_q0_spots x_q0_skies x_q0_reports x_q0_count x_q0_chime x_q0_end x_q0_score x_q0_reportCount x_q0_z x_q0_rules x_q0_shades x_q0_facts x_q1_dials x_q1_spots x_q1_skies x_q1_reports x_q1_count x_q1_chime x_q1_end x_q1_score x_q1_reportCount x_q1_z x_q1_rules x_q1_shades x_q1_facts x_q2_dials x_q2_spots x_q2_skies x_q2_reports x_q2_count x_q2_chime x_q2_end x_q2_score x_q2_reportCount x_q2_z x_q2_rules x_q2_shades x_q2_facts x_isKept x_marks x_p_first x_p_steps x_p_most x_p_many x_p_fewest x_p_everRight x_p_opening x_p_rows x_p_rowCount x_p_acts x_p_marks x_p_deepest x_p_wanted x_t_length x_t_tape x_t_words x_t_places x_t_at x_t_kinds x_t_wills x_t_starts x_t_code x_t_count x_t_size x_h_sorts x_h_lengths x_h_items x_h_held x_h_things x_h_sizes res.2.1 res.2.2.1 x_h_number x_h_spot res.2.2.2 x_g_count x_g_kinds x_g_wills x_g_starts x_g_code x_g_stack x_g_kl x_g_wl x_g_sl x_g_cl x_nr)) := by
  unfold X3_shares_k4 at hf
  refine MC.ofI pn_X3 (Nat.le_of_ble_eq_true rfl) ?_
  intro p e s m args below meth c A Q ls cx hR hw hl
  have hx := cx.1
  have hb := cx.2.1
  have hl : lv_has ls 3 [(0, .ref (a (78 + 4))), (1, .ref (a 105)), (2, .int v2)] := hl
  refine lv_aload_n hx hb dX3_shares_0 rfl (lv_at hl 1 rfl) ?_
  refine lv_bipush (v := 40) hx hb dX3_shares_1 (by decide) ?_
  obtain ⟨r1, h2, hf⟩ := bnS hf
  refine calVv cx hw hl.1 (c_X2_begin h2) q_1042 k_X2_begin rfl rv_host rfl dX3_shares_3 rfl (Nat.le_of_ble_eq_true rfl) ⟨Nat.le_of_ble_eq_true rfl, Nat.le_of_ble_eq_true rfl⟩ ⟨Nat.le_refl _, Nat.le_refl _⟩ (fun H locs hw => ?_)
  refine lv_aload_n hx hb dX3_shares_6 rfl (lv_at hl 0 rfl) ?_
  refine lv_aload_n hx hb dX3_shares_7 rfl (lv_at hl 1 rfl) ?_
  refine lv_iload_n hx hb dX3_shares_8 rfl (lv_at hl 2 rfl) ?_
  obtain ⟨r3, h4, hf⟩ := bnS hf
  refine calSUi cx hw hl.1 (c_X0_shares_k4 h4) ws_X3_17 q_1053 hs_X0_shares rfl rv_k4 rfl dX3_shares_9 rfl (Nat.le_of_ble_eq_true rfl) ⟨Nat.le_of_ble_eq_true rfl, Nat.le_of_ble_eq_true rfl⟩ ⟨Nat.le_refl _, Nat.le_refl _⟩ (fun H locs hw => ?_)
  refine lv_iconst (v := 2) hx hb dX3_shares_12 (by decide) ?_
  refine lv_imul hx hb dX3_shares_13 ?_
  have hf := Option.some.inj hf
  subst hf
  exact hR _ _ _ _ _ _ hw rfl ⟨rfl, rfl⟩ dX3_shares_14
theorem c_X0_shares_k5 {v2 : Int32} {res : Int32 × (Nat → Int32) × Int32 × Int32} (hf : X0_shares_k5 x_h_bodies x_h_traced x_h_number x_h_spot x_h_parted v2 = some res) : MC l E0 D t yX0_shares cX0_shares 4 (some .int) 2 0 0 [.ref (a (78 + 5)), .ref (a 105), .int v2] (cW a ar t x_q0_dials x_q0_spots x_q0_skies x_q0_reports x_q0_count x_q0_chime x_q0_end x_q0_score x_q0_reportCount x_q0_z x_q0_rules x_q0_shades x_q0_facts x_q1_dials x_q1_spots x_q1_skies x_q1_reports x_q1_count x_q1_chime x_q1_end x_q1_score x_q1_reportCount x_q1_z x_q1_rules x_q1_shades x_q1_facts x_q2_dials x_q2_spots x_q2_skies x_q2_reports x_q2_count x_q2_chime x_q2_end x_q2_score x_q2_reportCount x_q2_z x_q2_rules x_q2_shades x_q2_facts x_isKept x_marks x_p_first x_p_steps x_p_most x_p_many x_p_fewest x_p_everRight x_p_opening x_p_rows x_p_rowCount x_p_acts x_p_marks x_p_deepest x_p_wanted x_t_length x_t_tape x_t_words x_t_places x_t_at x_t_kinds x_t_wills x_t_starts x_t_code x_t_count x_t_size x_h_sorts x_h_lengths x_h_items x_h_held x_h_things x_h_sizes x_h_bodies x_h_traced x_h_number x_h_spot x_h_parted x_g_count x_g_kinds x_g_wills x_g_starts x_g_code x_g_stack x_g_kl x_g_wl x_g_sl x_g_cl x_nr) (Qi res.1 (cW a ar t x_q0_dials x_q0_spots x_q0_skies x_q0_reports x_q0_count x_q0_chime x_q0_end x_q0_score x_q0_reportCount x_q0_z x_q0_rules x_q0_shades x_q0_facts x_q1_dials x_q1_spots x_q1_skies x_q1_reports x_q1_count x_q1_chime x_q1_end x_q1_score x_q1_reportCount x_q1_z x_q1_rules x_q1_shades x_q1_facts x_q2_dials x_q2_spots x_q2_skies x_q2_reports x_q2_count x_q2_chime x_q2_end x_q2_score x_q2_reportCount x_q2_z x_q2_rules x_q2_shades x_q2_facts x_isKept x_marks x_p_first x_p_steps x_p_most x_p_many x_p_fewest x_p_everRight x_p_opening x_p_rows x_p_rowCount x_p_acts x_p_marks x_p_deepest x_p_wanted x_t_length x_t_tape x_t_words x_t_places x_t_at x_t_kinds x_t_wills x_t_starts x_t_code x_t_count x_t_size x_h_sorts x_h_lengths x_h_items x_h_held x_h_things x_h_sizes res.2.1 res.2.2.1 x_h_number x_h_spot res.2.2.2 x_g_count x_g_kinds x_g_wills x_g_starts x_g_code x_g_stack x_g_kl x_g_wl x_g_sl x_g_cl x_nr)) := by
  unfold X0_shares_k5 at hf
  refine MC.ofI pn_X0 (Nat.le_of_ble_eq_true rfl) ?_
  intro p e s m args below meth c A Q ls cx hR hw hl
  have hx := cx.1
  have hb := cx.2.1
  have hl : lv_has ls 4 [(0, .ref (a (78 + 5))), (1, .ref (a 105)), (2, .int v2)] := hl
  refine lv_aload_n hx hb dX0_shares_0 rfl (lv_at hl 1 rfl) ?_
  refine lv_bipush (v := 12) hx hb dX0_shares_1 (by decide) ?_
  obtain ⟨r1, h2, hf⟩ := bnS hf
  refine calVv cx hw hl.1 (c_X2_begin h2) q_1012 k_X2_begin rfl rv_host rfl dX0_shares_3 rfl (Nat.le_of_ble_eq_true rfl) ⟨Nat.le_of_ble_eq_true rfl, Nat.le_of_ble_eq_true rfl⟩ ⟨Nat.le_refl _, Nat.le_refl _⟩ (fun H locs hw => ?_)
  refine lv_aload_n hx hb dX0_shares_6 rfl (lv_at hl 1 rfl) ?_
  refine cg_X0_23_host cx hw dX0_shares_7 ?_
  refine lv_aload_n hx hb dX0_shares_10 rfl (lv_at hl 1 rfl) ?_
  refine cg_X0_13_host cx hw dX0_shares_11 ?_
  refine lv_isub hx hb dX0_shares_14 ?_
  refine lv_iconst (v := 2) hx hb dX0_shares_15 (by decide) ?_
  refine lv_iadd hx hb dX0_shares_16 ?_
  refine lv_istore_n (lv' := [(3, .int ((x_h_spot - x_h_number) + (2 : Int32))), (0, .ref (a (78 + 5))), (1, .ref (a 105)), (2, .int v2)]) hx hb dX0_shares_17 rfl hl (by decide) rfl (fun ls hl => ?_)
  refine lv_iload_n hx hb dX0_shares_18 rfl (lv_at hl 0 rfl) ?_
  refine lv_if_ne (tgt := 29) hx hb dX0_shares_19 (by decide) (fun hc => ?_) (fun hc => ?_)
  · have hf := ifF hf hc
    refine lv_iload_n hx hb dX0_shares_29 rfl (lv_at hl 3 rfl) ?_
    refine lv_iload_n hx hb dX0_shares_30 rfl (lv_at hl 0 rfl) ?_
    obtain ⟨h3, hf⟩ := ckS hf
    refine lv_irem hx hb dX0_shares_31 (by simpa using h3) ?_
    have hf := Option.some.inj hf
    subst hf
    exact hR _ _ _ _ _ _ hw rfl ⟨rfl, rfl⟩ dX0_shares_32
  · have hf := ifT hf hc
    refine lv_aload_n hx hb dX0_shares_22 rfl (lv_at hl 2 rfl) ?_
    refine lv_iconst (v := 1) hx hb dX0_shares_23 (by decide) ?_
    refine cp_X0_26_host cx hw (by decide) dX0_shares_24 (fun H locs hw => ?_)
    refine lv_iconst (v := 0) hx hb dX0_shares_27 (by decide) ?_
    have hf := Option.some.inj hf
    subst hf
    exact hR _ _ _ _ _ _ hw rfl ⟨rfl, rfl⟩ dX0_shares_28
theorem c_X3_shares_k5 {v2 : Int32} {res : Int32 × (Nat → Int32) × Int32 × Int32} (hf : X3_shares_k5 x_h_bodies x_h_traced x_h_number x_h_spot x_h_parted v2 = some res) : MC l E0 D t yX3_shares cX3_shares 3 (some .int) 3 0 0 [.ref (a (78 + 5)), .ref (a 105), .int v2] (cW a ar t x_q0_dials x_q0_spots x_q0_skies x_q0_reports x_q0_count x_q0_chime x_q0_end x_q0_score x_q0_reportCount x_q0_z x_q0_rules x_q0_shades x_q0_facts x_q1_dials x_q1_spots x_q1_skies x_q1_reports x_q1_count x_q1_chime x_q1_end x_q1_score x_q1_reportCount x_q1_z x_q1_rules x_q1_shades x_q1_facts x_q2_dials x_q2_spots x_q2_skies x_q2_reports x_q2_count x_q2_chime x_q2_end x_q2_score x_q2_reportCount x_q2_z x_q2_rules x_q2_shades x_q2_facts x_isKept x_marks x_p_first x_p_steps x_p_most x_p_many x_p_fewest x_p_everRight x_p_opening x_p_rows x_p_rowCount x_p_acts x_p_marks x_p_deepest x_p_wanted x_t_length x_t_tape x_t_words x_t_places x_t_at x_t_kinds x_t_wills x_t_starts x_t_code x_t_count x_t_size x_h_sorts x_h_lengths x_h_items x_h_held x_h_things x_h_sizes x_h_bodies x_h_traced x_h_number x_h_spot x_h_parted x_g_count x_g_kinds x_g_wills x_g_starts x_g_code x_g_stack x_g_kl x_g_wl x_g_sl x_g_cl x_nr) (Qi res.1 (cW a ar t x_q0_dials x_q0_spots x_q0_skies x_q0_reports x_q0_count x_q0_chime x_q0_end x_q0_score x_q0_reportCount x_q0_z x_q0_rules x_q0_shades x_q0_facts x_q1_dials x_q1_spots x_q1_skies x_q1_reports x_q1_count x_q1_chime x_q1_end x_q1_score x_q1_reportCount x_q1_z x_q1_rules x_q1_shades x_q1_facts x_q2_dials x_q2_spots x_q2_skies x_q2_reports x_q2_count x_q2_chime x_q2_end x_q2_score x_q2_reportCount x_q2_z x_q2_rules x_q2_shades x_q2_facts x_isKept x_marks x_p_first x_p_steps x_p_most x_p_many x_p_fewest x_p_everRight x_p_opening x_p_rows x_p_rowCount x_p_acts x_p_marks x_p_deepest x_p_wanted x_t_length x_t_tape x_t_words x_t_places x_t_at x_t_kinds x_t_wills x_t_starts x_t_code x_t_count x_t_size x_h_sorts x_h_lengths x_h_items x_h_held x_h_things x_h_sizes res.2.1 res.2.2.1 x_h_number x_h_spot res.2.2.2 x_g_count x_g_kinds x_g_wills x_g_starts x_g_code x_g_stack x_g_kl x_g_wl x_g_sl x_g_cl x_nr)) := by
  unfold X3_shares_k5 at hf
  refine MC.ofI pn_X3 (Nat.le_of_ble_eq_true rfl) ?_
  intro p e s m args below meth c A Q ls cx hR hw hl
  have hx := cx.1
  have hb := cx.2.1
  have hl : lv_has ls 3 [(0, .ref (a (78 + 5))), (1, .ref (a 105)), (2, .int v2)] := hl
  refine lv_aload_n hx hb dX3_shares_0 rfl (lv_at hl 1 rfl) ?_
  refine lv_bipush (v := 40) hx hb dX3_shares_1 (by decide) ?_
  obtain ⟨r1, h2, hf⟩ := bnS hf
  refine calVv cx hw hl.1 (c_X2_begin h2) q_1042 k_X2_begin rfl rv_host rfl dX3_shares_3 rfl (Nat.le_of_ble_eq_true rfl) ⟨Nat.le_of_ble_eq_true rfl, Nat.le_of_ble_eq_true rfl⟩ ⟨Nat.le_refl _, Nat.le_refl _⟩ (fun H locs hw => ?_)
  refine lv_aload_n hx hb dX3_shares_6 rfl (lv_at hl 0 rfl) ?_
  refine lv_aload_n hx hb dX3_shares_7 rfl (lv_at hl 1 rfl) ?_
  refine lv_iload_n hx hb dX3_shares_8 rfl (lv_at hl 2 rfl) ?_
  obtain ⟨r3, h4, hf⟩ := bnS hf
  refine calSUi cx hw hl.1 (c_X0_shares_k5 h4) ws_X3_17 q_1053 hs_X0_shares rfl rv_k5 rfl dX3_shares_9 rfl (Nat.le_of_ble_eq_true rfl) ⟨Nat.le_of_ble_eq_true rfl, Nat.le_of_ble_eq_true rfl⟩ ⟨Nat.le_refl _, Nat.le_refl _⟩ (fun H locs hw => ?_)
  refine lv_iconst (v := 2) hx hb dX3_shares_12 (by decide) ?_
  refine lv_imul hx hb dX3_shares_13 ?_
  have hf := Option.some.inj hf
  subst hf
  exact hR _ _ _ _ _ _ hw rfl ⟨rfl, rfl⟩ dX3_shares_14
theorem dX8_shares_0 : decode cX8_shares 0 = .ok (.aload_n 1, 1) := by decide +kernel
theorem dX8_shares_1 : decode cX8_shares 1 = .ok (.bipush 61, 2) := by decide +kernel
theorem dX8_shares_3 : decode cX8_shares 3 = .ok (.invokevirtual 14, 3) := by decide +kernel
theorem dX8_shares_6 : decode cX8_shares 6 = .ok (.aload_n 0, 1) := by decide +kernel
theorem dX8_shares_7 : decode cX8_shares 7 = .ok (.aload_n 1, 1) := by decide +kernel
theorem dX8_shares_8 : decode cX8_shares 8 = .ok (.iload_n 2, 1) := by decide +kernel
theorem dX8_shares_9 : decode cX8_shares 9 = .ok (.invokespecial 24, 3) := by decide +kernel
theorem dX8_shares_12 : decode cX8_shares 12 = .ok (.istore_n 3, 1) := by decide +kernel
theorem dX8_shares_13 : decode cX8_shares 13 = .ok (.iload_n 3, 1) := by decide +kernel
theorem dX8_shares_14 : decode cX8_shares 14 = .ok (.aload_n 0, 1) := by decide +kernel
theorem dX8_shares_15 : decode cX8_shares 15 = .ok (.aload_n 1, 1) := by decide +kernel
theorem dX8_shares_16 : decode cX8_shares 16 = .ok (.aload_n 1, 1) := by decide +kernel
theorem dX8_shares_17 : decode cX8_shares 17 = .ok (.getfield 27, 3) := by decide +kernel
theorem dX8_shares_20 : decode cX8_shares 20 = .ok (.invokevirtual 31, 3) := by decide +kernel
theorem dX8_shares_23 : decode cX8_shares 23 = .ok (.iadd, 1) := by decide +kernel
theorem dX8_shares_24 : decode cX8_shares 24 = .ok (.ireturn, 1) := by decide +kernel
theorem c_X8_shares_k5 {v2 : Int32} {res : Int32 × (Nat → Int32) × Int32 × Int32} (hf : X8_shares_k5 x_h_bodies x_h_traced x_h_number x_h_spot x_h_parted v2 = some res) : MC l E0 D t yX8_shares cX8_shares 4 (some .int) 4 0 0 [.ref (a (78 + 5)), .ref (a 105), .int v2] (cW a ar t x_q0_dials x_q0_spots x_q0_skies x_q0_reports x_q0_count x_q0_chime x_q0_end x_q0_score x_q0_reportCount x_q0_z x_q0_rules x_q0_shades x_q0_facts x_q1_dials x_q1_spots x_q1_skies x_q1_reports x_q1_count x_q1_chime x_q1_end x_q1_score x_q1_reportCount x_q1_z x_q1_rules x_q1_shades x_q1_facts x_q2_dials x_q2_spots x_q2_skies x_q2_reports x_q2_count x_q2_chime x_q2_end x_q2_score x_q2_reportCount x_q2_z x_q2_rules x_q2_shades x_q2_facts x_isKept x_marks x_p_first x_p_steps x_p_most x_p_many x_p_fewest x_p_everRight x_p_opening x_p_rows x_p_rowCount x_p_acts x_p_marks x_p_deepest x_p_wanted x_t_length x_t_tape x_t_words x_t_places x_t_at x_t_kinds x_t_wills x_t_starts x_t_code x_t_count x_t_size x_h_sorts x_h_lengths x_h_items x_h_held x_h_things x_h_sizes x_h_bodies x_h_traced x_h_number x_h_spot x_h_parted x_g_count x_g_kinds x_g_wills x_g_starts x_g_code x_g_stack x_g_kl x_g_wl x_g_sl x_g_cl x_nr) (Qi res.1 (cW a ar t x_q0_dials x_q0_spots x_q0_skies x_q0_reports x_q0_count x_q0_chime x_q0_end x_q0_score x_q0_reportCount x_q0_z x_q0_rules x_q0_shades x_q0_facts x_q1_dials x_q1_spots x_q1_skies x_q1_reports x_q1_count x_q1_chime x_q1_end x_q1_score x_q1_reportCount x_q1_z x_q1_rules x_q1_shades x_q1_facts x_q2_dials x_q2_spots x_q2_skies x_q2_reports x_q2_count x_q2_chime x_q2_end x_q2_score x_q2_reportCount x_q2_z x_q2_rules x_q2_shades x_q2_facts x_isKept x_marks x_p_first x_p_steps x_p_most x_p_many x_p_fewest x_p_everRight x_p_opening x_p_rows x_p_rowCount x_p_acts x_p_marks x_p_deepest x_p_wanted x_t_length x_t_tape x_t_words x_t_places x_t_at x_t_kinds x_t_wills x_t_starts x_t_code x_t_count x_t_size x_h_sorts x_h_lengths x_h_items x_h_held x_h_things x_h_sizes res.2.1 res.2.2.1 x_h_number x_h_spot res.2.2.2 x_g_count x_g_kinds x_g_wills x_g_starts x_g_code x_g_stack x_g_kl x_g_wl x_g_sl x_g_cl x_nr)) := by
  unfold X8_shares_k5 at hf
  refine MC.ofI pn_X8 (Nat.le_of_ble_eq_true rfl) ?_
  intro p e s m args below meth c A Q ls cx hR hw hl
  have hx := cx.1
  have hb := cx.2.1
  have hl : lv_has ls 4 [(0, .ref (a (78 + 5))), (1, .ref (a 105)), (2, .int v2)] := hl
  refine lv_aload_n hx hb dX8_shares_0 rfl (lv_at hl 1 rfl) ?_
  refine lv_bipush (v := 61) hx hb dX8_shares_1 (by decide) ?_
  obtain ⟨r1, h2, hf⟩ := bnS hf
  refine calVv cx hw hl.1 (c_X2_begin h2) q_1027 k_X2_begin rfl rv_host rfl dX8_shares_3 rfl (Nat.le_of_ble_eq_true rfl) ⟨Nat.le_of_ble_eq_true rfl, Nat.le_of_ble_eq_true rfl⟩ ⟨Nat.le_refl _, Nat.le_refl _⟩ (fun H locs hw => ?_)
  refine lv_aload_n hx hb dX8_shares_6 rfl (lv_at hl 0 rfl) ?_
  refine lv_aload_n hx hb dX8_shares_7 rfl (lv_at hl 1 rfl) ?_
  refine lv_iload_n hx hb dX8_shares_8 rfl (lv_at hl 2 rfl) ?_
  obtain ⟨r3, h4, hf⟩ := bnS hf
  refine calSUi cx hw hl.1 (c_X3_shares_k5 h4) ws_X8_24 q_1041 hs_X3_shares rfl rv_k5 rfl dX8_shares_9 rfl (Nat.le_of_ble_eq_true rfl) ⟨Nat.le_of_ble_eq_true rfl, Nat.le_of_ble_eq_true rfl⟩ ⟨Nat.le_refl _, Nat.le_refl _⟩ (fun H locs hw => ?_)
  refine lv_istore_n (lv' := [(3, .int r3.1), (0, .ref (a (78 + 5))), (1, .ref (a 105)), (2, .int v2)]) hx hb dX8_shares_12 rfl hl (by decide) rfl (fun ls hl => ?_)
  refine lv_iload_n hx hb dX8_shares_13 rfl (lv_at hl 0 rfl) ?_
  refine lv_aload_n hx hb dX8_shares_14 rfl (lv_at hl 1 rfl) ?_
  refine lv_aload_n hx hb dX8_shares_15 rfl (lv_at hl 2 rfl) ?_
  refine lv_aload_n hx hb dX8_shares_16 rfl (lv_at hl 2 rfl) ?_
  refine cg_X8_27_host cx hw dX8_shares_17 ?_
  obtain ⟨r5, h6, hf⟩ := bnS hf
  refine calUi cx hw hl.1 (c_X0_points_k5 h6) wu_X8_31_5 q_1011 q_1011 hu_X0_points rfl rv_k5 rfl dX8_shares_20 rfl (Nat.le_of_ble_eq_true rfl) ⟨Nat.le_of_ble_eq_true rfl, Nat.le_of_ble_eq_true rfl⟩ ⟨Nat.le_refl _, Nat.le_refl _⟩ (fun H locs hw => ?_)
  refine lv_iadd hx hb dX8_shares_23 ?_
  have hf := Option.some.inj hf
  subst hf
  exact hR _ _ _ _ _ _ hw rfl ⟨rfl, rfl⟩ dX8_shares_24
section VR_vr_shares_X11_346
variable {p : Program} {l : Launch} {e : Env} {R : Room} {s : State} {m : MethodId} {args : Array Value} {below : List Frame} {meth : Method} {c : Code} {H : Heap} {locs : List Loc} {cells slots : Nat} {Q : State → Prop}
variable {E : EX} {D : va_G} {t : Nat → ClassId} {cc : ByteArray} {own nm : String} {nL pc : Nat} {A : Nat → Prop} {ls : Array Slot} {rest : List Value} {a : Nat → Nat} {ar : Nat → Nat → Nat} {x_q0_dials : Nat → Nat → Int32} {x_q0_spots : Nat → Nat → Int32} {x_q0_skies : Nat → Int32} {x_q0_reports : Nat → Nat → Int32} {x_q0_count : Int32} {x_q0_chime : Int32} {x_q0_end : Int32} {x_q0_score : Int32} {x_q0_reportCount : Int32} {x_q0_z : Int32} {x_q0_rules : Nat} {x_q0_shades : Nat → Int32} {x_q0_facts : Nat → Int32} {x_q1_dials : Nat → Nat → Int32} {x_q1_spots : Nat → Nat → Int32} {x_q1_skies : Nat → Int32} {x_q1_reports : Nat → Nat → Int32} {x_q1_count : Int32} {x_q1_chime : Int32} {x_q1_end : Int32} {x_q1_score : Int32} {x_q1_reportCount : Int32} {x_q1_z : Int32} {x_q1_rules : Nat} {x_q1_shades : Nat → Int32} {x_q1_facts : Nat → Int32} {x_q2_dials : Nat → Nat → Int32} {x_q2_spots : Nat → Nat → Int32} {x_q2_skies : Nat → Int32} {x_q2_reports : Nat → Nat → Int32} {x_q2_count : Int32} {x_q2_chime : Int32} {x_q2_end : Int32} {x_q2_score : Int32} {x_q2_reportCount : Int32} {x_q2_z : Int32} {x_q2_rules : Nat} {x_q2_shades : Nat → Int32} {x_q2_facts : Nat → Int32} {x_isKept : Int32} {x_marks : Nat → Int32} {x_p_first : Nat → Int32} {x_p_steps : Int32} {x_p_most : Int32} {x_p_many : Int32} {x_p_fewest : Int32} {x_p_everRight : Int32} {x_p_opening : Int32} {x_p_rows : Nat → Nat → Int32} {x_p_rowCount : Int32} {x_p_acts : Nat → Int32} {x_p_marks : Nat → Nat → Int32} {x_p_deepest : Int32} {x_p_wanted : Int32} {x_t_length : Int32} {x_t_tape : Nat → Int32} {x_t_words : Nat → Int32} {x_t_places : Nat → Int32} {x_t_at : Int32} {x_t_kinds : Nat → Int32} {x_t_wills : Nat → Int32} {x_t_starts : Nat → Int32} {x_t_code : Nat → Int32} {x_t_count : Int32} {x_t_size : Int32} {x_h_sorts : Nat → Int32} {x_h_lengths : Nat → Int32} {x_h_items : Nat → Nat → Int32} {x_h_held : Nat → Int32} {x_h_things : Nat → Int32} {x_h_sizes : Nat → Int32} {x_h_bodies : Nat → Int32} {x_h_traced : Int32} {x_h_number : Int32} {x_h_spot : Int32} {x_h_parted : Int32} {x_g_count : Nat → Int32} {x_g_kinds : Nat → Nat → Int32} {x_g_wills : Nat → Nat → Int32} {x_g_starts : Nat → Nat → Int32} {x_g_code : Nat → Nat → Int32} {x_g_stack : Nat → Nat → Int32} {x_g_kl : Nat → Nat} {x_g_wl : Nat → Nat} {x_g_sl : Nat → Nat} {x_g_cl : Nat → Nat} {x_nr : Nat}
theorem vr_shares_X11_346 {k : Nat} {v2 : Int32} (cx : Cx E D t p s m args meth c cc RX11 nm nL A) (hw : Wd D A s (cW a ar t x_q0_dials x_q0_spots x_q0_skies x_q0_reports x_q0_count x_q0_chime x_q0_end x_q0_score x_q0_reportCount x_q0_z x_q0_rules x_q0_shades x_q0_facts x_q1_dials x_q1_spots x_q1_skies x_q1_reports x_q1_count x_q1_chime x_q1_end x_q1_score x_q1_reportCount x_q1_z x_q1_rules x_q1_shades x_q1_facts x_q2_dials x_q2_spots x_q2_skies x_q2_reports x_q2_count x_q2_chime x_q2_end x_q2_score x_q2_reportCount x_q2_z x_q2_rules x_q2_shades x_q2_facts x_isKept x_marks x_p_first x_p_steps x_p_most x_p_many x_p_fewest x_p_everRight x_p_opening x_p_rows x_p_rowCount x_p_acts x_p_marks x_p_deepest x_p_wanted x_t_length x_t_tape x_t_words x_t_places x_t_at x_t_kinds x_t_wills x_t_starts x_t_code x_t_count x_t_size x_h_sorts x_h_lengths x_h_items x_h_held x_h_things x_h_sizes x_h_bodies x_h_traced x_h_number x_h_spot x_h_parted x_g_count x_g_kinds x_g_wills x_g_starts x_g_code x_g_stack x_g_kl x_g_wl x_g_sl x_g_cl x_nr) H locs) (hl : ls.size = nL) (hk : k < 6) {res : Int32 × (Nat → Int32) × Int32 × Int32} (hf : vd_shares k x_h_bodies x_h_traced x_h_number x_h_spot x_h_parted v2 = some res) (hdg : decode cc pc = .ok (.invokevirtual 346, 3)) (hcat : (rest.map fun v => v.category).sum ≤ 8) (h1 : 5 ≤ R.frames) (h2 : 320 ≤ R.locals) (hcs : cells ≤ R.cells ∧ slots ≤ R.slots) (kk : ∀ (H : Heap) (locs : List Loc), Wd D A s (cW a ar t x_q0_dials x_q0_spots x_q0_skies x_q0_reports x_q0_count x_q0_chime x_q0_end x_q0_score x_q0_reportCount x_q0_z x_q0_rules x_q0_shades x_q0_facts x_q1_dials x_q1_spots x_q1_skies x_q1_reports x_q1_count x_q1_chime x_q1_end x_q1_score x_q1_reportCount x_q1_z x_q1_rules x_q1_shades x_q1_facts x_q2_dials x_q2_spots x_q2_skies x_q2_reports x_q2_count x_q2_chime x_q2_end x_q2_score x_q2_reportCount x_q2_z x_q2_rules x_q2_shades x_q2_facts x_isKept x_marks x_p_first x_p_steps x_p_most x_p_many x_p_fewest x_p_everRight x_p_opening x_p_rows x_p_rowCount x_p_acts x_p_marks x_p_deepest x_p_wanted x_t_length x_t_tape x_t_words x_t_places x_t_at x_t_kinds x_t_wills x_t_starts x_t_code x_t_count x_t_size x_h_sorts x_h_lengths x_h_items x_h_held x_h_things x_h_sizes res.2.1 res.2.2.1 x_h_number x_h_spot res.2.2.2 x_g_count x_g_kinds x_g_wills x_g_starts x_g_code x_g_stack x_g_kl x_g_wl x_g_sl x_g_cl x_nr) H locs → W p l e R s m args below meth c H locs cells slots Q (F0 m (pc + 3) ls (.int res.1 :: rest))) : W p l e R s m args below meth c H locs cells slots Q (F0 m pc ls (.int v2 :: .ref (a 105) :: .ref (a (78 + k)) :: rest)) := by
  match k, hk with
  | 0, _ =>
    unfold vd_shares at hf
    have hf := ifT hf rfl
    exact calUi cx hw hl (c_X0_shares_k0 hf) wu_X11_346_0 q_1053 q_1053 hu_X0_shares rfl rv_k0 rfl hdg rfl hcat ⟨Nat.le_trans (Nat.le_of_ble_eq_true rfl) h1, Nat.le_trans (Nat.le_of_ble_eq_true rfl) h2⟩ hcs kk
  | 1, _ =>
    unfold vd_shares at hf
    have hf := ifF hf (by decide)
    have hf := ifT hf rfl
    exact calUi cx hw hl (c_X0_shares_k1 hf) wu_X11_346_1 q_1053 q_1053 hu_X0_shares rfl rv_k1 rfl hdg rfl hcat ⟨Nat.le_trans (Nat.le_of_ble_eq_true rfl) h1, Nat.le_trans (Nat.le_of_ble_eq_true rfl) h2⟩ hcs kk
  | 2, _ =>
    unfold vd_shares at hf
    have hf := ifF hf (by decide)
    have hf := ifF hf (by decide)
    have hf := ifT hf rfl
    exact calUi cx hw hl (c_X0_shares_k2 hf) wu_X11_346_2 q_1053 q_1053 hu_X0_shares rfl rv_k2 rfl hdg rfl hcat ⟨Nat.le_trans (Nat.le_of_ble_eq_true rfl) h1, Nat.le_trans (Nat.le_of_ble_eq_true rfl) h2⟩ hcs kk
  | 3, _ =>
    unfold vd_shares at hf
    have hf := ifF hf (by decide)
    have hf := ifF hf (by decide)
    have hf := ifF hf (by decide)
    have hf := ifT hf rfl
    exact calUi cx hw hl (c_X0_shares_k3 hf) wu_X11_346_3 q_1053 q_1053 hu_X0_shares rfl rv_k3 rfl hdg rfl hcat ⟨Nat.le_trans (Nat.le_of_ble_eq_true rfl) h1, Nat.le_trans (Nat.le_of_ble_eq_true rfl) h2⟩ hcs kk
  | 4, _ =>
    unfold vd_shares at hf
    have hf := ifF hf (by decide)
    have hf := ifF hf (by decide)
    have hf := ifF hf (by decide)
    have hf := ifF hf (by decide)
    have hf := ifT hf rfl
    exact calUi cx hw hl (c_X3_shares_k4 hf) wu_X11_346_4 q_1041 q_1053 hu_X0_shares rfl rv_k4 rfl hdg rfl hcat ⟨Nat.le_trans (Nat.le_of_ble_eq_true rfl) h1, Nat.le_trans (Nat.le_of_ble_eq_true rfl) h2⟩ hcs kk
  | 5, _ =>
    unfold vd_shares at hf
    have hf := ifF hf (by decide)
    have hf := ifF hf (by decide)
    have hf := ifF hf (by decide)
    have hf := ifF hf (by decide)
    have hf := ifF hf (by decide)
    have hf := ifT hf rfl
    exact calUi cx hw hl (c_X8_shares_k5 hf) wu_X11_346_5 q_1047 q_1053 hu_X0_shares rfl rv_k5 rfl hdg rfl hcat ⟨Nat.le_trans (Nat.le_of_ble_eq_true rfl) h1, Nat.le_trans (Nat.le_of_ble_eq_true rfl) h2⟩ hcs kk
  | z + 6, hk => exact absurd hk (by omega)
end VR_vr_shares_X11_346
theorem dX0_tells_0 : decode cX0_tells 0 = .ok (.aload_n 1, 1) := by decide +kernel
theorem dX0_tells_1 : decode cX0_tells 1 = .ok (.bipush 13, 2) := by decide +kernel
theorem dX0_tells_3 : decode cX0_tells 3 = .ok (.invokevirtual 7, 3) := by decide +kernel
theorem dX0_tells_6 : decode cX0_tells 6 = .ok (.aload_n 0, 1) := by decide +kernel
theorem dX0_tells_7 : decode cX0_tells 7 = .ok (.aload_n 1, 1) := by decide +kernel
theorem dX0_tells_8 : decode cX0_tells 8 = .ok (.iload_n 2, 1) := by decide +kernel
theorem dX0_tells_9 : decode cX0_tells 9 = .ok (.invokevirtual 30, 3) := by decide +kernel
theorem dX0_tells_12 : decode cX0_tells 12 = .ok (.istore_n 3, 1) := by decide +kernel
theorem dX0_tells_13 : decode cX0_tells 13 = .ok (.iload_n 3, 1) := by decide +kernel
theorem dX0_tells_14 : decode cX0_tells 14 = .ok (.aload_n 0, 1) := by decide +kernel
theorem dX0_tells_15 : decode cX0_tells 15 = .ok (.aload_n 1, 1) := by decide +kernel
theorem dX0_tells_16 : decode cX0_tells 16 = .ok (.iload_n 2, 1) := by decide +kernel
theorem dX0_tells_17 : decode cX0_tells 17 = .ok (.invokevirtual 33, 3) := by decide +kernel
theorem dX0_tells_20 : decode cX0_tells 20 = .ok (.ixor, 1) := by decide +kernel
theorem dX0_tells_21 : decode cX0_tells 21 = .ok (.ireturn, 1) := by decide +kernel
theorem k_X0_tells : MV yX0_tells cX0_tells 4 (some .int) 2 := ⟨q_1055, q_1056, q_4, q_1072, ⟨by decide, by decide, by decide +kernel⟩⟩
theorem c_X0_tells_k0 {v2 : Int32} {res : Int32 × (Nat → Int32) × Int32 × Int32} (hf : X0_tells_k0 x_h_bodies x_h_traced x_h_number x_h_spot x_h_parted v2 = some res) : MC l E0 D t yX0_tells cX0_tells 4 (some .int) 4 0 0 [.ref (a (78 + 0)), .ref (a 105), .int v2] (cW a ar t x_q0_dials x_q0_spots x_q0_skies x_q0_reports x_q0_count x_q0_chime x_q0_end x_q0_score x_q0_reportCount x_q0_z x_q0_rules x_q0_shades x_q0_facts x_q1_dials x_q1_spots x_q1_skies x_q1_reports x_q1_count x_q1_chime x_q1_end x_q1_score x_q1_reportCount x_q1_z x_q1_rules x_q1_shades x_q1_facts x_q2_dials x_q2_spots x_q2_skies x_q2_reports x_q2_count x_q2_chime x_q2_end x_q2_score x_q2_reportCount x_q2_z x_q2_rules x_q2_shades x_q2_facts x_isKept x_marks x_p_first x_p_steps x_p_most x_p_many x_p_fewest x_p_everRight x_p_opening x_p_rows x_p_rowCount x_p_acts x_p_marks x_p_deepest x_p_wanted x_t_length x_t_tape x_t_words x_t_places x_t_at x_t_kinds x_t_wills x_t_starts x_t_code x_t_count x_t_size x_h_sorts x_h_lengths x_h_items x_h_held x_h_things x_h_sizes x_h_bodies x_h_traced x_h_number x_h_spot x_h_parted x_g_count x_g_kinds x_g_wills x_g_starts x_g_code x_g_stack x_g_kl x_g_wl x_g_sl x_g_cl x_nr) (Qi res.1 (cW a ar t x_q0_dials x_q0_spots x_q0_skies x_q0_reports x_q0_count x_q0_chime x_q0_end x_q0_score x_q0_reportCount x_q0_z x_q0_rules x_q0_shades x_q0_facts x_q1_dials x_q1_spots x_q1_skies x_q1_reports x_q1_count x_q1_chime x_q1_end x_q1_score x_q1_reportCount x_q1_z x_q1_rules x_q1_shades x_q1_facts x_q2_dials x_q2_spots x_q2_skies x_q2_reports x_q2_count x_q2_chime x_q2_end x_q2_score x_q2_reportCount x_q2_z x_q2_rules x_q2_shades x_q2_facts x_isKept x_marks x_p_first x_p_steps x_p_most x_p_many x_p_fewest x_p_everRight x_p_opening x_p_rows x_p_rowCount x_p_acts x_p_marks x_p_deepest x_p_wanted x_t_length x_t_tape x_t_words x_t_places x_t_at x_t_kinds x_t_wills x_t_starts x_t_code x_t_count x_t_size x_h_sorts x_h_lengths x_h_items x_h_held x_h_things x_h_sizes res.2.1 res.2.2.1 x_h_number x_h_spot res.2.2.2 x_g_count x_g_kinds x_g_wills x_g_starts x_g_code x_g_stack x_g_kl x_g_wl x_g_sl x_g_cl x_nr)) := by
  unfold X0_tells_k0 at hf
  refine MC.ofI pn_X0 (Nat.le_of_ble_eq_true rfl) ?_
  intro p e s m args below meth c A Q ls cx hR hw hl
  have hx := cx.1
  have hb := cx.2.1
  have hl : lv_has ls 4 [(0, .ref (a (78 + 0))), (1, .ref (a 105)), (2, .int v2)] := hl
  refine lv_aload_n hx hb dX0_tells_0 rfl (lv_at hl 1 rfl) ?_
  refine lv_bipush (v := 13) hx hb dX0_tells_1 (by decide) ?_
  obtain ⟨r1, h2, hf⟩ := bnS hf
  refine calVv cx hw hl.1 (c_X2_begin h2) q_1012 k_X2_begin rfl rv_host rfl dX0_tells_3 rfl (Nat.le_of_ble_eq_true rfl) ⟨Nat.le_of_ble_eq_true rfl, Nat.le_of_ble_eq_true rfl⟩ ⟨Nat.le_refl _, Nat.le_refl _⟩ (fun H locs hw => ?_)
  refine lv_aload_n hx hb dX0_tells_6 rfl (lv_at hl 0 rfl) ?_
  refine lv_aload_n hx hb dX0_tells_7 rfl (lv_at hl 1 rfl) ?_
  refine lv_iload_n hx hb dX0_tells_8 rfl (lv_at hl 2 rfl) ?_
  obtain ⟨r3, h4, hf⟩ := bnS hf
  refine calUi cx hw hl.1 (c_X0_slants_k0 h4) wu_X0_30_0 q_1032 q_1032 hu_X0_slants rfl rv_k0 rfl dX0_tells_9 rfl (Nat.le_of_ble_eq_true rfl) ⟨Nat.le_of_ble_eq_true rfl, Nat.le_of_ble_eq_true rfl⟩ ⟨Nat.le_refl _, Nat.le_refl _⟩ (fun H locs hw => ?_)
  refine lv_istore_n (lv' := [(3, .int r3.1), (0, .ref (a (78 + 0))), (1, .ref (a 105)), (2, .int v2)]) hx hb dX0_tells_12 rfl hl (by decide) rfl (fun ls hl => ?_)
  refine lv_iload_n hx hb dX0_tells_13 rfl (lv_at hl 0 rfl) ?_
  refine lv_aload_n hx hb dX0_tells_14 rfl (lv_at hl 1 rfl) ?_
  refine lv_aload_n hx hb dX0_tells_15 rfl (lv_at hl 2 rfl) ?_
  refine lv_iload_n hx hb dX0_tells_16 rfl (lv_at hl 3 rfl) ?_
  obtain ⟨r5, h6, hf⟩ := bnS hf
  refine calUi cx hw hl.1 (c_X0_shares_k0 h6) wu_X0_33_0 q_1053 q_1053 hu_X0_shares rfl rv_k0 rfl dX0_tells_17 rfl (Nat.le_of_ble_eq_true rfl) ⟨Nat.le_of_ble_eq_true rfl, Nat.le_of_ble_eq_true rfl⟩ ⟨Nat.le_refl _, Nat.le_refl _⟩ (fun H locs hw => ?_)
  refine lv_ixor hx hb dX0_tells_20 ?_
  have hf := Option.some.inj hf
  subst hf
  exact hR _ _ _ _ _ _ hw rfl ⟨rfl, rfl⟩ dX0_tells_21
theorem c_X0_tells_k1 {v2 : Int32} {res : Int32 × (Nat → Int32) × Int32 × Int32} (hf : X0_tells_k1 x_h_bodies x_h_traced x_h_number x_h_spot x_h_parted v2 = some res) : MC l E0 D t yX0_tells cX0_tells 4 (some .int) 5 0 0 [.ref (a (78 + 1)), .ref (a 105), .int v2] (cW a ar t x_q0_dials x_q0_spots x_q0_skies x_q0_reports x_q0_count x_q0_chime x_q0_end x_q0_score x_q0_reportCount x_q0_z x_q0_rules x_q0_shades x_q0_facts x_q1_dials x_q1_spots x_q1_skies x_q1_reports x_q1_count x_q1_chime x_q1_end x_q1_score x_q1_reportCount x_q1_z x_q1_rules x_q1_shades x_q1_facts x_q2_dials x_q2_spots x_q2_skies x_q2_reports x_q2_count x_q2_chime x_q2_end x_q2_score x_q2_reportCount x_q2_z x_q2_rules x_q2_shades x_q2_facts x_isKept x_marks x_p_first x_p_steps x_p_most x_p_many x_p_fewest x_p_everRight x_p_opening x_p_rows x_p_rowCount x_p_acts x_p_marks x_p_deepest x_p_wanted x_t_length x_t_tape x_t_words x_t_places x_t_at x_t_kinds x_t_wills x_t_starts x_t_code x_t_count x_t_size x_h_sorts x_h_lengths x_h_items x_h_held x_h_things x_h_sizes x_h_bodies x_h_traced x_h_number x_h_spot x_h_parted x_g_count x_g_kinds x_g_wills x_g_starts x_g_code x_g_stack x_g_kl x_g_wl x_g_sl x_g_cl x_nr) (Qi res.1 (cW a ar t x_q0_dials x_q0_spots x_q0_skies x_q0_reports x_q0_count x_q0_chime x_q0_end x_q0_score x_q0_reportCount x_q0_z x_q0_rules x_q0_shades x_q0_facts x_q1_dials x_q1_spots x_q1_skies x_q1_reports x_q1_count x_q1_chime x_q1_end x_q1_score x_q1_reportCount x_q1_z x_q1_rules x_q1_shades x_q1_facts x_q2_dials x_q2_spots x_q2_skies x_q2_reports x_q2_count x_q2_chime x_q2_end x_q2_score x_q2_reportCount x_q2_z x_q2_rules x_q2_shades x_q2_facts x_isKept x_marks x_p_first x_p_steps x_p_most x_p_many x_p_fewest x_p_everRight x_p_opening x_p_rows x_p_rowCount x_p_acts x_p_marks x_p_deepest x_p_wanted x_t_length x_t_tape x_t_words x_t_places x_t_at x_t_kinds x_t_wills x_t_starts x_t_code x_t_count x_t_size x_h_sorts x_h_lengths x_h_items x_h_held x_h_things x_h_sizes res.2.1 res.2.2.1 x_h_number x_h_spot res.2.2.2 x_g_count x_g_kinds x_g_wills x_g_starts x_g_code x_g_stack x_g_kl x_g_wl x_g_sl x_g_cl x_nr)) := by
  unfold X0_tells_k1 at hf
  refine MC.ofI pn_X0 (Nat.le_of_ble_eq_true rfl) ?_
  intro p e s m args below meth c A Q ls cx hR hw hl
  have hx := cx.1
  have hb := cx.2.1
  have hl : lv_has ls 4 [(0, .ref (a (78 + 1))), (1, .ref (a 105)), (2, .int v2)] := hl
  refine lv_aload_n hx hb dX0_tells_0 rfl (lv_at hl 1 rfl) ?_
  refine lv_bipush (v := 13) hx hb dX0_tells_1 (by decide) ?_
  obtain ⟨r1, h2, hf⟩ := bnS hf
  refine calVv cx hw hl.1 (c_X2_begin h2) q_1012 k_X2_begin rfl rv_host rfl dX0_tells_3 rfl (Nat.le_of_ble_eq_true rfl) ⟨Nat.le_of_ble_eq_true rfl, Nat.le_of_ble_eq_true rfl⟩ ⟨Nat.le_refl _, Nat.le_refl _⟩ (fun H locs hw => ?_)
  refine lv_aload_n hx hb dX0_tells_6 rfl (lv_at hl 0 rfl) ?_
  refine lv_aload_n hx hb dX0_tells_7 rfl (lv_at hl 1 rfl) ?_
  refine lv_iload_n hx hb dX0_tells_8 rfl (lv_at hl 2 rfl) ?_
  obtain ⟨r3, h4, hf⟩ := bnS hf
  refine calUi cx hw hl.1 (c_X0_slants_k1 h4) wu_X0_30_1 q_1032 q_1032 hu_X0_slants rfl rv_k1 rfl dX0_tells_9 rfl (Nat.le_of_ble_eq_true rfl) ⟨Nat.le_of_ble_eq_true rfl, Nat.le_of_ble_eq_true rfl⟩ ⟨Nat.le_refl _, Nat.le_refl _⟩ (fun H locs hw => ?_)
  refine lv_istore_n (lv' := [(3, .int r3.1), (0, .ref (a (78 + 1))), (1, .ref (a 105)), (2, .int v2)]) hx hb dX0_tells_12 rfl hl (by decide) rfl (fun ls hl => ?_)
  refine lv_iload_n hx hb dX0_tells_13 rfl (lv_at hl 0 rfl) ?_
  refine lv_aload_n hx hb dX0_tells_14 rfl (lv_at hl 1 rfl) ?_
  refine lv_aload_n hx hb dX0_tells_15 rfl (lv_at hl 2 rfl) ?_
  refine lv_iload_n hx hb dX0_tells_16 rfl (lv_at hl 3 rfl) ?_
  obtain ⟨r5, h6, hf⟩ := bnS hf
  refine calUi cx hw hl.1 (c_X0_shares_k1 h6) wu_X0_33_1 q_1053 q_1053 hu_X0_shares rfl rv_k1 rfl dX0_tells_17 rfl (Nat.le_of_ble_eq_true rfl) ⟨Nat.le_of_ble_eq_true rfl, Nat.le_of_ble_eq_true rfl⟩ ⟨Nat.le_refl _, Nat.le_refl _⟩ (fun H locs hw => ?_)
  refine lv_ixor hx hb dX0_tells_20 ?_
  have hf := Option.some.inj hf
  subst hf
  exact hR _ _ _ _ _ _ hw rfl ⟨rfl, rfl⟩ dX0_tells_21
theorem c_X0_tells_k2 {v2 : Int32} {res : Int32 × (Nat → Int32) × Int32 × Int32} (hf : X0_tells_k2 x_h_bodies x_h_traced x_h_number x_h_spot x_h_parted v2 = some res) : MC l E0 D t yX0_tells cX0_tells 4 (some .int) 5 0 0 [.ref (a (78 + 2)), .ref (a 105), .int v2] (cW a ar t x_q0_dials x_q0_spots x_q0_skies x_q0_reports x_q0_count x_q0_chime x_q0_end x_q0_score x_q0_reportCount x_q0_z x_q0_rules x_q0_shades x_q0_facts x_q1_dials x_q1_spots x_q1_skies x_q1_reports x_q1_count x_q1_chime x_q1_end x_q1_score x_q1_reportCount x_q1_z x_q1_rules x_q1_shades x_q1_facts x_q2_dials x_q2_spots x_q2_skies x_q2_reports x_q2_count x_q2_chime x_q2_end x_q2_score x_q2_reportCount x_q2_z x_q2_rules x_q2_shades x_q2_facts x_isKept x_marks x_p_first x_p_steps x_p_most x_p_many x_p_fewest x_p_everRight x_p_opening x_p_rows x_p_rowCount x_p_acts x_p_marks x_p_deepest x_p_wanted x_t_length x_t_tape x_t_words x_t_places x_t_at x_t_kinds x_t_wills x_t_starts x_t_code x_t_count x_t_size x_h_sorts x_h_lengths x_h_items x_h_held x_h_things x_h_sizes x_h_bodies x_h_traced x_h_number x_h_spot x_h_parted x_g_count x_g_kinds x_g_wills x_g_starts x_g_code x_g_stack x_g_kl x_g_wl x_g_sl x_g_cl x_nr) (Qi res.1 (cW a ar t x_q0_dials x_q0_spots x_q0_skies x_q0_reports x_q0_count x_q0_chime x_q0_end x_q0_score x_q0_reportCount x_q0_z x_q0_rules x_q0_shades x_q0_facts x_q1_dials x_q1_spots x_q1_skies x_q1_reports x_q1_count x_q1_chime x_q1_end x_q1_score x_q1_reportCount x_q1_z x_q1_rules x_q1_shades x_q1_facts x_q2_dials x_q2_spots x_q2_skies x_q2_reports x_q2_count x_q2_chime x_q2_end x_q2_score x_q2_reportCount x_q2_z x_q2_rules x_q2_shades x_q2_facts x_isKept x_marks x_p_first x_p_steps x_p_most x_p_many x_p_fewest x_p_everRight x_p_opening x_p_rows x_p_rowCount x_p_acts x_p_marks x_p_deepest x_p_wanted x_t_length x_t_tape x_t_words x_t_places x_t_at x_t_kinds x_t_wills x_t_starts x_t_code x_t_count x_t_size x_h_sorts x_h_lengths x_h_items x_h_held x_h_things x_h_sizes res.2.1 res.2.2.1 x_h_number x_h_spot res.2.2.2 x_g_count x_g_kinds x_g_wills x_g_starts x_g_code x_g_stack x_g_kl x_g_wl x_g_sl x_g_cl x_nr)) := by
  unfold X0_tells_k2 at hf
  refine MC.ofI pn_X0 (Nat.le_of_ble_eq_true rfl) ?_
  intro p e s m args below meth c A Q ls cx hR hw hl
  have hx := cx.1
  have hb := cx.2.1
  have hl : lv_has ls 4 [(0, .ref (a (78 + 2))), (1, .ref (a 105)), (2, .int v2)] := hl
  refine lv_aload_n hx hb dX0_tells_0 rfl (lv_at hl 1 rfl) ?_
  refine lv_bipush (v := 13) hx hb dX0_tells_1 (by decide) ?_
  obtain ⟨r1, h2, hf⟩ := bnS hf
  refine calVv cx hw hl.1 (c_X2_begin h2) q_1012 k_X2_begin rfl rv_host rfl dX0_tells_3 rfl (Nat.le_of_ble_eq_true rfl) ⟨Nat.le_of_ble_eq_true rfl, Nat.le_of_ble_eq_true rfl⟩ ⟨Nat.le_refl _, Nat.le_refl _⟩ (fun H locs hw => ?_)
  refine lv_aload_n hx hb dX0_tells_6 rfl (lv_at hl 0 rfl) ?_
  refine lv_aload_n hx hb dX0_tells_7 rfl (lv_at hl 1 rfl) ?_
  refine lv_iload_n hx hb dX0_tells_8 rfl (lv_at hl 2 rfl) ?_
  obtain ⟨r3, h4, hf⟩ := bnS hf
  refine calUi cx hw hl.1 (c_X10_slants_k2 h4) wu_X0_30_2 q_1019 q_1032 hu_X0_slants rfl rv_k2 rfl dX0_tells_9 rfl (Nat.le_of_ble_eq_true rfl) ⟨Nat.le_of_ble_eq_true rfl, Nat.le_of_ble_eq_true rfl⟩ ⟨Nat.le_refl _, Nat.le_refl _⟩ (fun H locs hw => ?_)
  refine lv_istore_n (lv' := [(3, .int r3.1), (0, .ref (a (78 + 2))), (1, .ref (a 105)), (2, .int v2)]) hx hb dX0_tells_12 rfl hl (by decide) rfl (fun ls hl => ?_)
  refine lv_iload_n hx hb dX0_tells_13 rfl (lv_at hl 0 rfl) ?_
  refine lv_aload_n hx hb dX0_tells_14 rfl (lv_at hl 1 rfl) ?_
  refine lv_aload_n hx hb dX0_tells_15 rfl (lv_at hl 2 rfl) ?_
  refine lv_iload_n hx hb dX0_tells_16 rfl (lv_at hl 3 rfl) ?_
  obtain ⟨r5, h6, hf⟩ := bnS hf
  refine calUi cx hw hl.1 (c_X0_shares_k2 h6) wu_X0_33_2 q_1053 q_1053 hu_X0_shares rfl rv_k2 rfl dX0_tells_17 rfl (Nat.le_of_ble_eq_true rfl) ⟨Nat.le_of_ble_eq_true rfl, Nat.le_of_ble_eq_true rfl⟩ ⟨Nat.le_refl _, Nat.le_refl _⟩ (fun H locs hw => ?_)
  refine lv_ixor hx hb dX0_tells_20 ?_
  have hf := Option.some.inj hf
  subst hf
  exact hR _ _ _ _ _ _ hw rfl ⟨rfl, rfl⟩ dX0_tells_21
theorem c_X0_tells_k3 {v2 : Int32} {res : Int32 × (Nat → Int32) × Int32 × Int32} (hf : X0_tells_k3 x_h_bodies x_h_traced x_h_number x_h_spot x_h_parted v2 = some res) : MC l E0 D t yX0_tells cX0_tells 4 (some .int) 6 0 0 [.ref (a (78 + 3)), .ref (a 105), .int v2] (cW a ar t x_q0_dials x_q0_spots x_q0_skies x_q0_reports x_q0_count x_q0_chime x_q0_end x_q0_score x_q0_reportCount x_q0_z x_q0_rules x_q0_shades x_q0_facts x_q1_dials x_q1_spots x_q1_skies x_q1_reports x_q1_count x_q1_chime x_q1_end x_q1_score x_q1_reportCount x_q1_z x_q1_rules x_q1_shades x_q1_facts x_q2_dials x_q2_spots x_q2_skies x_q2_reports x_q2_count x_q2_chime x_q2_end x_q2_score x_q2_reportCount x_q2_z x_q2_rules x_q2_shades x_q2_facts x_isKept x_marks x_p_first x_p_steps x_p_most x_p_many x_p_fewest x_p_everRight x_p_opening x_p_rows x_p_rowCount x_p_acts x_p_marks x_p_deepest x_p_wanted x_t_length x_t_tape x_t_words x_t_places x_t_at x_t_kinds x_t_wills x_t_starts x_t_code x_t_count x_t_size x_h_sorts x_h_lengths x_h_items x_h_held x_h_things x_h_sizes x_h_bodies x_h_traced x_h_number x_h_spot x_h_parted x_g_count x_g_kinds x_g_wills x_g_starts x_g_code x_g_stack x_g_kl x_g_wl x_g_sl x_g_cl x_nr) (Qi res.1 (cW a ar t x_q0_dials x_q0_spots x_q0_skies x_q0_reports x_q0_count x_q0_chime x_q0_end x_q0_score x_q0_reportCount x_q0_z x_q0_rules x_q0_shades x_q0_facts x_q1_dials x_q1_spots x_q1_skies x_q1_reports x_q1_count x_q1_chime x_q1_end x_q1_score x_q1_reportCount x_q1_z x_q1_rules x_q1_shades x_q1_facts x_q2_dials x_q2_spots x_q2_skies x_q2_reports x_q2_count x_q2_chime x_q2_end x_q2_score x_q2_reportCount x_q2_z x_q2_rules x_q2_shades x_q2_facts x_isKept x_marks x_p_first x_p_steps x_p_most x_p_many x_p_fewest x_p_everRight x_p_opening x_p_rows x_p_rowCount x_p_acts x_p_marks x_p_deepest x_p_wanted x_t_length x_t_tape x_t_words x_t_places x_t_at x_t_kinds x_t_wills x_t_starts x_t_code x_t_count x_t_size x_h_sorts x_h_lengths x_h_items x_h_held x_h_things x_h_sizes res.2.1 res.2.2.1 x_h_number x_h_spot res.2.2.2 x_g_count x_g_kinds x_g_wills x_g_starts x_g_code x_g_stack x_g_kl x_g_wl x_g_sl x_g_cl x_nr)) := by
  unfold X0_tells_k3 at hf
  refine MC.ofI pn_X0 (Nat.le_of_ble_eq_true rfl) ?_
  intro p e s m args below meth c A Q ls cx hR hw hl
  have hx := cx.1
  have hb := cx.2.1
  have hl : lv_has ls 4 [(0, .ref (a (78 + 3))), (1, .ref (a 105)), (2, .int v2)] := hl
  refine lv_aload_n hx hb dX0_tells_0 rfl (lv_at hl 1 rfl) ?_
  refine lv_bipush (v := 13) hx hb dX0_tells_1 (by decide) ?_
  obtain ⟨r1, h2, hf⟩ := bnS hf
  refine calVv cx hw hl.1 (c_X2_begin h2) q_1012 k_X2_begin rfl rv_host rfl dX0_tells_3 rfl (Nat.le_of_ble_eq_true rfl) ⟨Nat.le_of_ble_eq_true rfl, Nat.le_of_ble_eq_true rfl⟩ ⟨Nat.le_refl _, Nat.le_refl _⟩ (fun H locs hw => ?_)
  refine lv_aload_n hx hb dX0_tells_6 rfl (lv_at hl 0 rfl) ?_
  refine lv_aload_n hx hb dX0_tells_7 rfl (lv_at hl 1 rfl) ?_
  refine lv_iload_n hx hb dX0_tells_8 rfl (lv_at hl 2 rfl) ?_
  obtain ⟨r3, h4, hf⟩ := bnS hf
  refine calUi cx hw hl.1 (c_X10_slants_k3 h4) wu_X0_30_3 q_1019 q_1032 hu_X0_slants rfl rv_k3 rfl dX0_tells_9 rfl (Nat.le_of_ble_eq_true rfl) ⟨Nat.le_of_ble_eq_true rfl, Nat.le_of_ble_eq_true rfl⟩ ⟨Nat.le_refl _, Nat.le_refl _⟩ (fun H locs hw => ?_)
  refine lv_istore_n (lv' := [(3, .int r3.1), (0, .ref (a (78 + 3))), (1, .ref (a 105)), (2, .int v2)]) hx hb dX0_tells_12 rfl hl (by decide) rfl (fun ls hl => ?_)
  refine lv_iload_n hx hb dX0_tells_13 rfl (lv_at hl 0 rfl) ?_
  refine lv_aload_n hx hb dX0_tells_14 rfl (lv_at hl 1 rfl) ?_
  refine lv_aload_n hx hb dX0_tells_15 rfl (lv_at hl 2 rfl) ?_
  refine lv_iload_n hx hb dX0_tells_16 rfl (lv_at hl 3 rfl) ?_
  obtain ⟨r5, h6, hf⟩ := bnS hf
  refine calUi cx hw hl.1 (c_X0_shares_k3 h6) wu_X0_33_3 q_1053 q_1053 hu_X0_shares rfl rv_k3 rfl dX0_tells_17 rfl (Nat.le_of_ble_eq_true rfl) ⟨Nat.le_of_ble_eq_true rfl, Nat.le_of_ble_eq_true rfl⟩ ⟨Nat.le_refl _, Nat.le_refl _⟩ (fun H locs hw => ?_)
  refine lv_ixor hx hb dX0_tells_20 ?_
  have hf := Option.some.inj hf
  subst hf
  exact hR _ _ _ _ _ _ hw rfl ⟨rfl, rfl⟩ dX0_tells_21
theorem dX1_tells_0 : decode cX1_tells 0 = .ok (.aload_n 1, 1) := by decide +kernel
theorem dX1_tells_1 : decode cX1_tells 1 = .ok (.bipush 51, 2) := by decide +kernel
theorem dX1_tells_3 : decode cX1_tells 3 = .ok (.invokevirtual 14, 3) := by decide +kernel
theorem dX1_tells_6 : decode cX1_tells 6 = .ok (.aload_n 0, 1) := by decide +kernel
theorem dX1_tells_7 : decode cX1_tells 7 = .ok (.aload_n 1, 1) := by decide +kernel
theorem dX1_tells_8 : decode cX1_tells 8 = .ok (.iload_n 2, 1) := by decide +kernel
theorem dX1_tells_9 : decode cX1_tells 9 = .ok (.invokespecial 24, 3) := by decide +kernel
theorem dX1_tells_12 : decode cX1_tells 12 = .ok (.istore_n 3, 1) := by decide +kernel
theorem dX1_tells_13 : decode cX1_tells 13 = .ok (.iload_n 3, 1) := by decide +kernel
theorem dX1_tells_14 : decode cX1_tells 14 = .ok (.aload_n 0, 1) := by decide +kernel
theorem dX1_tells_15 : decode cX1_tells 15 = .ok (.aload_n 1, 1) := by decide +kernel
theorem dX1_tells_16 : decode cX1_tells 16 = .ok (.aload_n 1, 1) := by decide +kernel
theorem dX1_tells_17 : decode cX1_tells 17 = .ok (.getfield 27, 3) := by decide +kernel
theorem dX1_tells_20 : decode cX1_tells 20 = .ok (.invokevirtual 31, 3) := by decide +kernel
theorem dX1_tells_23 : decode cX1_tells 23 = .ok (.isub, 1) := by decide +kernel
theorem dX1_tells_24 : decode cX1_tells 24 = .ok (.ireturn, 1) := by decide +kernel
theorem c_X1_tells_k3 {v2 : Int32} {res : Int32 × (Nat → Int32) × Int32 × Int32} (hf : X1_tells_k3 x_h_bodies x_h_traced x_h_number x_h_spot x_h_parted v2 = some res) : MC l E0 D t yX1_tells cX1_tells 4 (some .int) 7 0 0 [.ref (a (78 + 3)), .ref (a 105), .int v2] (cW a ar t x_q0_dials x_q0_spots x_q0_skies x_q0_reports x_q0_count x_q0_chime x_q0_end x_q0_score x_q0_reportCount x_q0_z x_q0_rules x_q0_shades x_q0_facts x_q1_dials x_q1_spots x_q1_skies x_q1_reports x_q1_count x_q1_chime x_q1_end x_q1_score x_q1_reportCount x_q1_z x_q1_rules x_q1_shades x_q1_facts x_q2_dials x_q2_spots x_q2_skies x_q2_reports x_q2_count x_q2_chime x_q2_end x_q2_score x_q2_reportCount x_q2_z x_q2_rules x_q2_shades x_q2_facts x_isKept x_marks x_p_first x_p_steps x_p_most x_p_many x_p_fewest x_p_everRight x_p_opening x_p_rows x_p_rowCount x_p_acts x_p_marks x_p_deepest x_p_wanted x_t_length x_t_tape x_t_words x_t_places x_t_at x_t_kinds x_t_wills x_t_starts x_t_code x_t_count x_t_size x_h_sorts x_h_lengths x_h_items x_h_held x_h_things x_h_sizes x_h_bodies x_h_traced x_h_number x_h_spot x_h_parted x_g_count x_g_kinds x_g_wills x_g_starts x_g_code x_g_stack x_g_kl x_g_wl x_g_sl x_g_cl x_nr) (Qi res.1 (cW a ar t x_q0_dials x_q0_spots x_q0_skies x_q0_reports x_q0_count x_q0_chime x_q0_end x_q0_score x_q0_reportCount x_q0_z x_q0_rules x_q0_shades x_q0_facts x_q1_dials x_q1_spots x_q1_skies x_q1_reports x_q1_count x_q1_chime x_q1_end x_q1_score x_q1_reportCount x_q1_z x_q1_rules x_q1_shades x_q1_facts x_q2_dials x_q2_spots x_q2_skies x_q2_reports x_q2_count x_q2_chime x_q2_end x_q2_score x_q2_reportCount x_q2_z x_q2_rules x_q2_shades x_q2_facts x_isKept x_marks x_p_first x_p_steps x_p_most x_p_many x_p_fewest x_p_everRight x_p_opening x_p_rows x_p_rowCount x_p_acts x_p_marks x_p_deepest x_p_wanted x_t_length x_t_tape x_t_words x_t_places x_t_at x_t_kinds x_t_wills x_t_starts x_t_code x_t_count x_t_size x_h_sorts x_h_lengths x_h_items x_h_held x_h_things x_h_sizes res.2.1 res.2.2.1 x_h_number x_h_spot res.2.2.2 x_g_count x_g_kinds x_g_wills x_g_starts x_g_code x_g_stack x_g_kl x_g_wl x_g_sl x_g_cl x_nr)) := by
  unfold X1_tells_k3 at hf
  refine MC.ofI pn_X1 (Nat.le_of_ble_eq_true rfl) ?_
  intro p e s m args below meth c A Q ls cx hR hw hl
  have hx := cx.1
  have hb := cx.2.1
  have hl : lv_has ls 4 [(0, .ref (a (78 + 3))), (1, .ref (a 105)), (2, .int v2)] := hl
  refine lv_aload_n hx hb dX1_tells_0 rfl (lv_at hl 1 rfl) ?_
  refine lv_bipush (v := 51) hx hb dX1_tells_1 (by decide) ?_
  obtain ⟨r1, h2, hf⟩ := bnS hf
  refine calVv cx hw hl.1 (c_X2_begin h2) q_996 k_X2_begin rfl rv_host rfl dX1_tells_3 rfl (Nat.le_of_ble_eq_true rfl) ⟨Nat.le_of_ble_eq_true rfl, Nat.le_of_ble_eq_true rfl⟩ ⟨Nat.le_refl _, Nat.le_refl _⟩ (fun H locs hw => ?_)
  refine lv_aload_n hx hb dX1_tells_6 rfl (lv_at hl 0 rfl) ?_
  refine lv_aload_n hx hb dX1_tells_7 rfl (lv_at hl 1 rfl) ?_
  refine lv_iload_n hx hb dX1_tells_8 rfl (lv_at hl 2 rfl) ?_
  obtain ⟨r3, h4, hf⟩ := bnS hf
  refine calSWi cx hw hl.1 (c_X0_tells_k3 h4) wx_X1_24 q_1072 rfl hs_X0_tells rfl rv_k3 rfl dX1_tells_9 rfl (Nat.le_of_ble_eq_true rfl) ⟨Nat.le_of_ble_eq_true rfl, Nat.le_of_ble_eq_true rfl⟩ ⟨Nat.le_refl _, Nat.le_refl _⟩ (fun H locs hw => ?_)
  refine lv_istore_n (lv' := [(3, .int r3.1), (0, .ref (a (78 + 3))), (1, .ref (a 105)), (2, .int v2)]) hx hb dX1_tells_12 rfl hl (by decide) rfl (fun ls hl => ?_)
  refine lv_iload_n hx hb dX1_tells_13 rfl (lv_at hl 0 rfl) ?_
  refine lv_aload_n hx hb dX1_tells_14 rfl (lv_at hl 1 rfl) ?_
  refine lv_aload_n hx hb dX1_tells_15 rfl (lv_at hl 2 rfl) ?_
  refine lv_aload_n hx hb dX1_tells_16 rfl (lv_at hl 2 rfl) ?_
  refine cg_X1_27_host cx hw dX1_tells_17 ?_
  obtain ⟨r5, h6, hf⟩ := bnS hf
  refine calUi cx hw hl.1 (c_X10_slants_k3 h6) wu_X1_31_3 q_1019 q_1019 hu_X10_slants rfl rv_k3 rfl dX1_tells_20 rfl (Nat.le_of_ble_eq_true rfl) ⟨Nat.le_of_ble_eq_true rfl, Nat.le_of_ble_eq_true rfl⟩ ⟨Nat.le_refl _, Nat.le_refl _⟩ (fun H locs hw => ?_)
  refine lv_isub hx hb dX1_tells_23 ?_
  have hf := Option.some.inj hf
  subst hf
  exact hR _ _ _ _ _ _ hw rfl ⟨rfl, rfl⟩ dX1_tells_24
theorem c_X0_tells_k4 {v2 : Int32} {res : Int32 × (Nat → Int32) × Int32 × Int32} (hf : X0_tells_k4 x_h_bodies x_h_traced x_h_number x_h_spot x_h_parted v2 = some res) : MC l E0 D t yX0_tells cX0_tells 4 (some .int) 4 0 0 [.ref (a (78 + 4)), .ref (a 105), .int v2] (cW a ar t x_q0_dials x_q0_spots x_q0_skies x_q0_reports x_q0_count x_q0_chime x_q0_end x_q0_score x_q0_reportCount x_q0_z x_q0_rules x_q0_shades x_q0_facts x_q1_dials x_q1_spots x_q1_skies x_q1_reports x_q1_count x_q1_chime x_q1_end x_q1_score x_q1_reportCount x_q1_z x_q1_rules x_q1_shades x_q1_facts x_q2_dials x_q2_spots x_q2_skies x_q2_reports x_q2_count x_q2_chime x_q2_end x_q2_score x_q2_reportCount x_q2_z x_q2_rules x_q2_shades x_q2_facts x_isKept x_marks x_p_first x_p_steps x_p_most x_p_many x_p_fewest x_p_everRight x_p_opening x_p_rows x_p_rowCount x_p_acts x_p_marks x_p_deepest x_p_wanted x_t_length x_t_tape x_t_words x_t_places x_t_at x_t_kinds x_t_wills x_t_starts x_t_code x_t_count x_t_size x_h_sorts x_h_lengths x_h_items x_h_held x_h_things x_h_sizes x_h_bodies x_h_traced x_h_number x_h_spot x_h_parted x_g_count x_g_kinds x_g_wills x_g_starts x_g_code x_g_stack x_g_kl x_g_wl x_g_sl x_g_cl x_nr) (Qi res.1 (cW a ar t x_q0_dials x_q0_spots x_q0_skies x_q0_reports x_q0_count x_q0_chime x_q0_end x_q0_score x_q0_reportCount x_q0_z x_q0_rules x_q0_shades x_q0_facts x_q1_dials x_q1_spots x_q1_skies x_q1_reports x_q1_count x_q1_chime x_q1_end x_q1_score x_q1_reportCount x_q1_z x_q1_rules x_q1_shades x_q1_facts x_q2_dials x_q2_spots x_q2_skies x_q2_reports x_q2_count x_q2_chime x_q2_end x_q2_score x_q2_reportCount x_q2_z x_q2_rules x_q2_shades x_q2_facts x_isKept x_marks x_p_first x_p_steps x_p_most x_p_many x_p_fewest x_p_everRight x_p_opening x_p_rows x_p_rowCount x_p_acts x_p_marks x_p_deepest x_p_wanted x_t_length x_t_tape x_t_words x_t_places x_t_at x_t_kinds x_t_wills x_t_starts x_t_code x_t_count x_t_size x_h_sorts x_h_lengths x_h_items x_h_held x_h_things x_h_sizes res.2.1 res.2.2.1 x_h_number x_h_spot res.2.2.2 x_g_count x_g_kinds x_g_wills x_g_starts x_g_code x_g_stack x_g_kl x_g_wl x_g_sl x_g_cl x_nr)) := by
  unfold X0_tells_k4 at hf
  refine MC.ofI pn_X0 (Nat.le_of_ble_eq_true rfl) ?_
  intro p e s m args below meth c A Q ls cx hR hw hl
  have hx := cx.1
  have hb := cx.2.1
  have hl : lv_has ls 4 [(0, .ref (a (78 + 4))), (1, .ref (a 105)), (2, .int v2)] := hl
  refine lv_aload_n hx hb dX0_tells_0 rfl (lv_at hl 1 rfl) ?_
  refine lv_bipush (v := 13) hx hb dX0_tells_1 (by decide) ?_
  obtain ⟨r1, h2, hf⟩ := bnS hf
  refine calVv cx hw hl.1 (c_X2_begin h2) q_1012 k_X2_begin rfl rv_host rfl dX0_tells_3 rfl (Nat.le_of_ble_eq_true rfl) ⟨Nat.le_of_ble_eq_true rfl, Nat.le_of_ble_eq_true rfl⟩ ⟨Nat.le_refl _, Nat.le_refl _⟩ (fun H locs hw => ?_)
  refine lv_aload_n hx hb dX0_tells_6 rfl (lv_at hl 0 rfl) ?_
  refine lv_aload_n hx hb dX0_tells_7 rfl (lv_at hl 1 rfl) ?_
  refine lv_iload_n hx hb dX0_tells_8 rfl (lv_at hl 2 rfl) ?_
  obtain ⟨r3, h4, hf⟩ := bnS hf
  refine calUi cx hw hl.1 (c_X0_slants_k4 h4) wu_X0_30_4 q_1032 q_1032 hu_X0_slants rfl rv_k4 rfl dX0_tells_9 rfl (Nat.le_of_ble_eq_true rfl) ⟨Nat.le_of_ble_eq_true rfl, Nat.le_of_ble_eq_true rfl⟩ ⟨Nat.le_refl _, Nat.le_refl _⟩ (fun H locs hw => ?_)
  refine lv_istore_n (lv' := [(3, .int r3.1), (0, .ref (a (78 + 4))), (1, .ref (a 105)), (2, .int v2)]) hx hb dX0_tells_12 rfl hl (by decide) rfl (fun ls hl => ?_)
  refine lv_iload_n hx hb dX0_tells_13 rfl (lv_at hl 0 rfl) ?_
  refine lv_aload_n hx hb dX0_tells_14 rfl (lv_at hl 1 rfl) ?_
  refine lv_aload_n hx hb dX0_tells_15 rfl (lv_at hl 2 rfl) ?_
  refine lv_iload_n hx hb dX0_tells_16 rfl (lv_at hl 3 rfl) ?_
  obtain ⟨r5, h6, hf⟩ := bnS hf
  refine calUi cx hw hl.1 (c_X3_shares_k4 h6) wu_X0_33_4 q_1041 q_1053 hu_X0_shares rfl rv_k4 rfl dX0_tells_17 rfl (Nat.le_of_ble_eq_true rfl) ⟨Nat.le_of_ble_eq_true rfl, Nat.le_of_ble_eq_true rfl⟩ ⟨Nat.le_refl _, Nat.le_refl _⟩ (fun H locs hw => ?_)
  refine lv_ixor hx hb dX0_tells_20 ?_
  have hf := Option.some.inj hf
  subst hf
  exact hR _ _ _ _ _ _ hw rfl ⟨rfl, rfl⟩ dX0_tells_21
theorem c_X0_tells_k5 {v2 : Int32} {res : Int32 × (Nat → Int32) × Int32 × Int32} (hf : X0_tells_k5 x_h_bodies x_h_traced x_h_number x_h_spot x_h_parted v2 = some res) : MC l E0 D t yX0_tells cX0_tells 4 (some .int) 5 0 0 [.ref (a (78 + 5)), .ref (a 105), .int v2] (cW a ar t x_q0_dials x_q0_spots x_q0_skies x_q0_reports x_q0_count x_q0_chime x_q0_end x_q0_score x_q0_reportCount x_q0_z x_q0_rules x_q0_shades x_q0_facts x_q1_dials x_q1_spots x_q1_skies x_q1_reports x_q1_count x_q1_chime x_q1_end x_q1_score x_q1_reportCount x_q1_z x_q1_rules x_q1_shades x_q1_facts x_q2_dials x_q2_spots x_q2_skies x_q2_reports x_q2_count x_q2_chime x_q2_end x_q2_score x_q2_reportCount x_q2_z x_q2_rules x_q2_shades x_q2_facts x_isKept x_marks x_p_first x_p_steps x_p_most x_p_many x_p_fewest x_p_everRight x_p_opening x_p_rows x_p_rowCount x_p_acts x_p_marks x_p_deepest x_p_wanted x_t_length x_t_tape x_t_words x_t_places x_t_at x_t_kinds x_t_wills x_t_starts x_t_code x_t_count x_t_size x_h_sorts x_h_lengths x_h_items x_h_held x_h_things x_h_sizes x_h_bodies x_h_traced x_h_number x_h_spot x_h_parted x_g_count x_g_kinds x_g_wills x_g_starts x_g_code x_g_stack x_g_kl x_g_wl x_g_sl x_g_cl x_nr) (Qi res.1 (cW a ar t x_q0_dials x_q0_spots x_q0_skies x_q0_reports x_q0_count x_q0_chime x_q0_end x_q0_score x_q0_reportCount x_q0_z x_q0_rules x_q0_shades x_q0_facts x_q1_dials x_q1_spots x_q1_skies x_q1_reports x_q1_count x_q1_chime x_q1_end x_q1_score x_q1_reportCount x_q1_z x_q1_rules x_q1_shades x_q1_facts x_q2_dials x_q2_spots x_q2_skies x_q2_reports x_q2_count x_q2_chime x_q2_end x_q2_score x_q2_reportCount x_q2_z x_q2_rules x_q2_shades x_q2_facts x_isKept x_marks x_p_first x_p_steps x_p_most x_p_many x_p_fewest x_p_everRight x_p_opening x_p_rows x_p_rowCount x_p_acts x_p_marks x_p_deepest x_p_wanted x_t_length x_t_tape x_t_words x_t_places x_t_at x_t_kinds x_t_wills x_t_starts x_t_code x_t_count x_t_size x_h_sorts x_h_lengths x_h_items x_h_held x_h_things x_h_sizes res.2.1 res.2.2.1 x_h_number x_h_spot res.2.2.2 x_g_count x_g_kinds x_g_wills x_g_starts x_g_code x_g_stack x_g_kl x_g_wl x_g_sl x_g_cl x_nr)) := by
  unfold X0_tells_k5 at hf
  refine MC.ofI pn_X0 (Nat.le_of_ble_eq_true rfl) ?_
  intro p e s m args below meth c A Q ls cx hR hw hl
  have hx := cx.1
  have hb := cx.2.1
  have hl : lv_has ls 4 [(0, .ref (a (78 + 5))), (1, .ref (a 105)), (2, .int v2)] := hl
  refine lv_aload_n hx hb dX0_tells_0 rfl (lv_at hl 1 rfl) ?_
  refine lv_bipush (v := 13) hx hb dX0_tells_1 (by decide) ?_
  obtain ⟨r1, h2, hf⟩ := bnS hf
  refine calVv cx hw hl.1 (c_X2_begin h2) q_1012 k_X2_begin rfl rv_host rfl dX0_tells_3 rfl (Nat.le_of_ble_eq_true rfl) ⟨Nat.le_of_ble_eq_true rfl, Nat.le_of_ble_eq_true rfl⟩ ⟨Nat.le_refl _, Nat.le_refl _⟩ (fun H locs hw => ?_)
  refine lv_aload_n hx hb dX0_tells_6 rfl (lv_at hl 0 rfl) ?_
  refine lv_aload_n hx hb dX0_tells_7 rfl (lv_at hl 1 rfl) ?_
  refine lv_iload_n hx hb dX0_tells_8 rfl (lv_at hl 2 rfl) ?_
  obtain ⟨r3, h4, hf⟩ := bnS hf
  refine calUi cx hw hl.1 (c_X8_slants_k5 h4) wu_X0_30_5 q_1026 q_1032 hu_X0_slants rfl rv_k5 rfl dX0_tells_9 rfl (Nat.le_of_ble_eq_true rfl) ⟨Nat.le_of_ble_eq_true rfl, Nat.le_of_ble_eq_true rfl⟩ ⟨Nat.le_refl _, Nat.le_refl _⟩ (fun H locs hw => ?_)
  refine lv_istore_n (lv' := [(3, .int r3.1), (0, .ref (a (78 + 5))), (1, .ref (a 105)), (2, .int v2)]) hx hb dX0_tells_12 rfl hl (by decide) rfl (fun ls hl => ?_)
  refine lv_iload_n hx hb dX0_tells_13 rfl (lv_at hl 0 rfl) ?_
  refine lv_aload_n hx hb dX0_tells_14 rfl (lv_at hl 1 rfl) ?_
  refine lv_aload_n hx hb dX0_tells_15 rfl (lv_at hl 2 rfl) ?_
  refine lv_iload_n hx hb dX0_tells_16 rfl (lv_at hl 3 rfl) ?_
  obtain ⟨r5, h6, hf⟩ := bnS hf
  refine calUi cx hw hl.1 (c_X8_shares_k5 h6) wu_X0_33_5 q_1047 q_1053 hu_X0_shares rfl rv_k5 rfl dX0_tells_17 rfl (Nat.le_of_ble_eq_true rfl) ⟨Nat.le_of_ble_eq_true rfl, Nat.le_of_ble_eq_true rfl⟩ ⟨Nat.le_refl _, Nat.le_refl _⟩ (fun H locs hw => ?_)
  refine lv_ixor hx hb dX0_tells_20 ?_
  have hf := Option.some.inj hf
  subst hf
  exact hR _ _ _ _ _ _ hw rfl ⟨rfl, rfl⟩ dX0_tells_21
section VR_vr_tells_X11_349
variable {p : Program} {l : Launch} {e : Env} {R : Room} {s : State} {m : MethodId} {args : Array Value} {below : List Frame} {meth : Method} {c : Code} {H : Heap} {locs : List Loc} {cells slots : Nat} {Q : State → Prop}
variable {E : EX} {D : va_G} {t : Nat → ClassId} {cc : ByteArray} {own nm : String} {nL pc : Nat} {A : Nat → Prop} {ls : Array Slot} {rest : List Value} {a : Nat → Nat} {ar : Nat → Nat → Nat} {x_q0_dials : Nat → Nat → Int32} {x_q0_spots : Nat → Nat → Int32} {x_q0_skies : Nat → Int32} {x_q0_reports : Nat → Nat → Int32} {x_q0_count : Int32} {x_q0_chime : Int32} {x_q0_end : Int32} {x_q0_score : Int32} {x_q0_reportCount : Int32} {x_q0_z : Int32} {x_q0_rules : Nat} {x_q0_shades : Nat → Int32} {x_q0_facts : Nat → Int32} {x_q1_dials : Nat → Nat → Int32} {x_q1_spots : Nat → Nat → Int32} {x_q1_skies : Nat → Int32} {x_q1_reports : Nat → Nat → Int32} {x_q1_count : Int32} {x_q1_chime : Int32} {x_q1_end : Int32} {x_q1_score : Int32} {x_q1_reportCount : Int32} {x_q1_z : Int32} {x_q1_rules : Nat} {x_q1_shades : Nat → Int32} {x_q1_facts : Nat → Int32} {x_q2_dials : Nat → Nat → Int32} {x_q2_spots : Nat → Nat → Int32} {x_q2_skies : Nat → Int32} {x_q2_reports : Nat → Nat → Int32} {x_q2_count : Int32} {x_q2_chime : Int32} {x_q2_end : Int32} {x_q2_score : Int32} {x_q2_reportCount : Int32} {x_q2_z : Int32} {x_q2_rules : Nat} {x_q2_shades : Nat → Int32} {x_q2_facts : Nat → Int32} {x_isKept : Int32} {x_marks : Nat → Int32} {x_p_first : Nat → Int32} {x_p_steps : Int32} {x_p_most : Int32} {x_p_many : Int32} {x_p_fewest : Int32} {x_p_everRight : Int32} {x_p_opening : Int32} {x_p_rows : Nat → Nat → Int32} {x_p_rowCount : Int32} {x_p_acts : Nat → Int32} {x_p_marks : Nat → Nat → Int32} {x_p_deepest : Int32} {x_p_wanted : Int32} {x_t_length : Int32} {x_t_tape : Nat → Int32} {x_t_words : Nat → Int32} {x_t_places : Nat → Int32} {x_t_at : Int32} {x_t_kinds : Nat → Int32} {x_t_wills : Nat → Int32} {x_t_starts : Nat → Int32} {x_t_code : Nat → Int32} {x_t_count : Int32} {x_t_size : Int32} {x_h_sorts : Nat → Int32} {x_h_lengths : Nat → Int32} {x_h_items : Nat → Nat → Int32} {x_h_held : Nat → Int32} {x_h_things : Nat → Int32} {x_h_sizes : Nat → Int32} {x_h_bodies : Nat → Int32} {x_h_traced : Int32} {x_h_number : Int32} {x_h_spot : Int32} {x_h_parted : Int32} {x_g_count : Nat → Int32} {x_g_kinds : Nat → Nat → Int32} {x_g_wills : Nat → Nat → Int32} {x_g_starts : Nat → Nat → Int32} {x_g_code : Nat → Nat → Int32} {x_g_stack : Nat → Nat → Int32} {x_g_kl : Nat → Nat} {x_g_wl : Nat → Nat} {x_g_sl : Nat → Nat} {x_g_cl : Nat → Nat} {x_nr : Nat}
theorem vr_tells_X11_349 {k : Nat} {v2 : Int32} (cx : Cx E D t p s m args meth c cc RX11 nm nL A) (hw : Wd D A s (cW a ar t x_q0_dials x_q0_spots x_q0_skies x_q0_reports x_q0_count x_q0_chime x_q0_end x_q0_score x_q0_reportCount x_q0_z x_q0_rules x_q0_shades x_q0_facts x_q1_dials x_q1_spots x_q1_skies x_q1_reports x_q1_count x_q1_chime x_q1_end x_q1_score x_q1_reportCount x_q1_z x_q1_rules x_q1_shades x_q1_facts x_q2_dials x_q2_spots x_q2_skies x_q2_reports x_q2_count x_q2_chime x_q2_end x_q2_score x_q2_reportCount x_q2_z x_q2_rules x_q2_shades x_q2_facts x_isKept x_marks x_p_first x_p_steps x_p_most x_p_many x_p_fewest x_p_everRight x_p_opening x_p_rows x_p_rowCount x_p_acts x_p_marks x_p_deepest x_p_wanted x_t_length x_t_tape x_t_words x_t_places x_t_at x_t_kinds x_t_wills x_t_starts x_t_code x_t_count x_t_size x_h_sorts x_h_lengths x_h_items x_h_held x_h_things x_h_sizes x_h_bodies x_h_traced x_h_number x_h_spot x_h_parted x_g_count x_g_kinds x_g_wills x_g_starts x_g_code x_g_stack x_g_kl x_g_wl x_g_sl x_g_cl x_nr) H locs) (hl : ls.size = nL) (hk : k < 6) {res : Int32 × (Nat → Int32) × Int32 × Int32} (hf : vd_tells k x_h_bodies x_h_traced x_h_number x_h_spot x_h_parted v2 = some res) (hdg : decode cc pc = .ok (.invokevirtual 349, 3)) (hcat : (rest.map fun v => v.category).sum ≤ 8) (h1 : 8 ≤ R.frames) (h2 : 512 ≤ R.locals) (hcs : cells ≤ R.cells ∧ slots ≤ R.slots) (kk : ∀ (H : Heap) (locs : List Loc), Wd D A s (cW a ar t x_q0_dials x_q0_spots x_q0_skies x_q0_reports x_q0_count x_q0_chime x_q0_end x_q0_score x_q0_reportCount x_q0_z x_q0_rules x_q0_shades x_q0_facts x_q1_dials x_q1_spots x_q1_skies x_q1_reports x_q1_count x_q1_chime x_q1_end x_q1_score x_q1_reportCount x_q1_z x_q1_rules x_q1_shades x_q1_facts x_q2_dials x_q2_spots x_q2_skies x_q2_reports x_q2_count x_q2_chime x_q2_end x_q2_score x_q2_reportCount x_q2_z x_q2_rules x_q2_shades x_q2_facts x_isKept x_marks x_p_first x_p_steps x_p_most x_p_many x_p_fewest x_p_everRight x_p_opening x_p_rows x_p_rowCount x_p_acts x_p_marks x_p_deepest x_p_wanted x_t_length x_t_tape x_t_words x_t_places x_t_at x_t_kinds x_t_wills x_t_starts x_t_code x_t_count x_t_size x_h_sorts x_h_lengths x_h_items x_h_held x_h_things x_h_sizes res.2.1 res.2.2.1 x_h_number x_h_spot res.2.2.2 x_g_count x_g_kinds x_g_wills x_g_starts x_g_code x_g_stack x_g_kl x_g_wl x_g_sl x_g_cl x_nr) H locs → W p l e R s m args below meth c H locs cells slots Q (F0 m (pc + 3) ls (.int res.1 :: rest))) : W p l e R s m args below meth c H locs cells slots Q (F0 m pc ls (.int v2 :: .ref (a 105) :: .ref (a (78 + k)) :: rest)) := by
  match k, hk with
  | 0, _ =>
    unfold vd_tells at hf
    have hf := ifT hf rfl
    exact calUi cx hw hl (c_X0_tells_k0 hf) wu_X11_349_0 q_1072 q_1072 hu_X0_tells rfl rv_k0 rfl hdg rfl hcat ⟨Nat.le_trans (Nat.le_of_ble_eq_true rfl) h1, Nat.le_trans (Nat.le_of_ble_eq_true rfl) h2⟩ hcs kk
  | 1, _ =>
    unfold vd_tells at hf
    have hf := ifF hf (by decide)
    have hf := ifT hf rfl
    exact calUi cx hw hl (c_X0_tells_k1 hf) wu_X11_349_1 q_1072 q_1072 hu_X0_tells rfl rv_k1 rfl hdg rfl hcat ⟨Nat.le_trans (Nat.le_of_ble_eq_true rfl) h1, Nat.le_trans (Nat.le_of_ble_eq_true rfl) h2⟩ hcs kk
  | 2, _ =>
    unfold vd_tells at hf
    have hf := ifF hf (by decide)
    have hf := ifF hf (by decide)
    have hf := ifT hf rfl
    exact calUi cx hw hl (c_X0_tells_k2 hf) wu_X11_349_2 q_1072 q_1072 hu_X0_tells rfl rv_k2 rfl hdg rfl hcat ⟨Nat.le_trans (Nat.le_of_ble_eq_true rfl) h1, Nat.le_trans (Nat.le_of_ble_eq_true rfl) h2⟩ hcs kk
  | 3, _ =>
    unfold vd_tells at hf
    have hf := ifF hf (by decide)
    have hf := ifF hf (by decide)
    have hf := ifF hf (by decide)
    have hf := ifT hf rfl
    exact calUi cx hw hl (c_X1_tells_k3 hf) wu_X11_349_3 q_1060 q_1072 hu_X0_tells rfl rv_k3 rfl hdg rfl hcat ⟨Nat.le_trans (Nat.le_of_ble_eq_true rfl) h1, Nat.le_trans (Nat.le_of_ble_eq_true rfl) h2⟩ hcs kk
  | 4, _ =>
    unfold vd_tells at hf
    have hf := ifF hf (by decide)
    have hf := ifF hf (by decide)
    have hf := ifF hf (by decide)
    have hf := ifF hf (by decide)
    have hf := ifT hf rfl
    exact calUi cx hw hl (c_X0_tells_k4 hf) wu_X11_349_4 q_1072 q_1072 hu_X0_tells rfl rv_k4 rfl hdg rfl hcat ⟨Nat.le_trans (Nat.le_of_ble_eq_true rfl) h1, Nat.le_trans (Nat.le_of_ble_eq_true rfl) h2⟩ hcs kk
  | 5, _ =>
    unfold vd_tells at hf
    have hf := ifF hf (by decide)
    have hf := ifF hf (by decide)
    have hf := ifF hf (by decide)
    have hf := ifF hf (by decide)
    have hf := ifF hf (by decide)
    have hf := ifT hf rfl
    exact calUi cx hw hl (c_X0_tells_k5 hf) wu_X11_349_5 q_1072 q_1072 hu_X0_tells rfl rv_k5 rfl hdg rfl hcat ⟨Nat.le_trans (Nat.le_of_ble_eq_true rfl) h1, Nat.le_trans (Nat.le_of_ble_eq_true rfl) h2⟩ hcs kk
  | z + 6, hk => exact absurd hk (by omega)
end VR_vr_tells_X11_349
theorem dX11_act_0 : decode cX11_act 0 = .ok (.aload_n 0, 1) := by decide +kernel
theorem dX11_act_1 : decode cX11_act 1 = .ok (.getfield 23, 3) := by decide +kernel
theorem dX11_act_4 : decode cX11_act 4 = .ok (.invokevirtual 326, 3) := by decide +kernel
theorem dX11_act_7 : decode cX11_act 7 = .ok (.iload_n 1, 1) := by decide +kernel
theorem dX11_act_8 : decode cX11_act 8 = .ok (.invokestatic 280, 3) := by decide +kernel
theorem dX11_act_11 : decode cX11_act 11 = .ok (.ifCond .eq 20, 3) := by decide +kernel
theorem dX11_act_14 : decode cX11_act 14 = .ok (.iload_n 2, 1) := by decide +kernel
theorem dX11_act_15 : decode cX11_act 15 = .ok (.iconst 0, 1) := by decide +kernel
theorem dX11_act_16 : decode cX11_act 16 = .ok (.iconst 3, 1) := by decide +kernel
theorem dX11_act_17 : decode cX11_act 17 = .ok (.invokestatic 74, 3) := by decide +kernel
theorem dX11_act_20 : decode cX11_act 20 = .ok (.ifCond .eq 11, 3) := by decide +kernel
theorem dX11_act_23 : decode cX11_act 23 = .ok (.aload_n 0, 1) := by decide +kernel
theorem dX11_act_24 : decode cX11_act 24 = .ok (.iload_n 1, 1) := by decide +kernel
theorem dX11_act_25 : decode cX11_act 25 = .ok (.invokevirtual 320, 3) := by decide +kernel
theorem dX11_act_28 : decode cX11_act 28 = .ok (.ifCond .ne 5, 3) := by decide +kernel
theorem dX11_act_31 : decode cX11_act 31 = .ok (.iconst 0, 1) := by decide +kernel
theorem dX11_act_32 : decode cX11_act 32 = .ok (.ireturn, 1) := by decide +kernel
theorem dX11_act_33 : decode cX11_act 33 = .ok (.aload_n 0, 1) := by decide +kernel
theorem dX11_act_34 : decode cX11_act 34 = .ok (.getfield 23, 3) := by decide +kernel
theorem dX11_act_37 : decode cX11_act 37 = .ok (.getfield 314, 3) := by decide +kernel
theorem dX11_act_40 : decode cX11_act 40 = .ok (.iload_n 1, 1) := by decide +kernel
theorem dX11_act_41 : decode cX11_act 41 = .ok (.iaload, 1) := by decide +kernel
theorem dX11_act_42 : decode cX11_act 42 = .ok (.istore 4, 2) := by decide +kernel
theorem dX11_act_44 : decode cX11_act 44 = .ok (.aload_n 0, 1) := by decide +kernel
theorem dX11_act_45 : decode cX11_act 45 = .ok (.getfield 23, 3) := by decide +kernel
theorem dX11_act_48 : decode cX11_act 48 = .ok (.iload 4, 2) := by decide +kernel
theorem dX11_act_50 : decode cX11_act 50 = .ok (.putfield 329, 3) := by decide +kernel
theorem dX11_act_53 : decode cX11_act 53 = .ok (.aload_n 0, 1) := by decide +kernel
theorem dX11_act_54 : decode cX11_act 54 = .ok (.getfield 23, 3) := by decide +kernel
theorem dX11_act_57 : decode cX11_act 57 = .ok (.aload_n 0, 1) := by decide +kernel
theorem dX11_act_58 : decode cX11_act 58 = .ok (.getfield 55, 3) := by decide +kernel
theorem dX11_act_61 : decode cX11_act 61 = .ok (.getfield 93, 3) := by decide +kernel
theorem dX11_act_64 : decode cX11_act 64 = .ok (.iload 4, 2) := by decide +kernel
theorem dX11_act_66 : decode cX11_act 66 = .ok (.aaload, 1) := by decide +kernel
theorem dX11_act_67 : decode cX11_act 67 = .ok (.iconst 3, 1) := by decide +kernel
theorem dX11_act_68 : decode cX11_act 68 = .ok (.iaload, 1) := by decide +kernel
theorem dX11_act_69 : decode cX11_act 69 = .ok (.putfield 332, 3) := by decide +kernel
theorem dX11_act_72 : decode cX11_act 72 = .ok (.aload_n 0, 1) := by decide +kernel
theorem dX11_act_73 : decode cX11_act 73 = .ok (.getfield 55, 3) := by decide +kernel
theorem dX11_act_76 : decode cX11_act 76 = .ok (.iload 4, 2) := by decide +kernel
theorem dX11_act_78 : decode cX11_act 78 = .ok (.invokevirtual 335, 3) := by decide +kernel
theorem dX11_act_81 : decode cX11_act 81 = .ok (.astore 5, 2) := by decide +kernel
theorem dX11_act_83 : decode cX11_act 83 = .ok (.iload_n 2, 1) := by decide +kernel
theorem dX11_act_84 : decode cX11_act 84 = .ok (.tableswitch 73 0 2 #[28, 43, 58], 28) := by decide +kernel
theorem dX11_act_112 : decode cX11_act 112 = .ok (.aload 5, 2) := by decide +kernel
theorem dX11_act_114 : decode cX11_act 114 = .ok (.aload_n 0, 1) := by decide +kernel
theorem dX11_act_115 : decode cX11_act 115 = .ok (.getfield 23, 3) := by decide +kernel
theorem dX11_act_118 : decode cX11_act 118 = .ok (.iload_n 3, 1) := by decide +kernel
theorem dX11_act_119 : decode cX11_act 119 = .ok (.invokevirtual 339, 3) := by decide +kernel
theorem dX11_act_122 : decode cX11_act 122 = .ok (.istore 6, 2) := by decide +kernel
theorem dX11_act_124 : decode cX11_act 124 = .ok (.goto 45, 3) := by decide +kernel
theorem dX11_act_127 : decode cX11_act 127 = .ok (.aload 5, 2) := by decide +kernel
theorem dX11_act_129 : decode cX11_act 129 = .ok (.aload_n 0, 1) := by decide +kernel
theorem dX11_act_130 : decode cX11_act 130 = .ok (.getfield 23, 3) := by decide +kernel
theorem dX11_act_133 : decode cX11_act 133 = .ok (.iload_n 3, 1) := by decide +kernel
theorem dX11_act_134 : decode cX11_act 134 = .ok (.invokevirtual 343, 3) := by decide +kernel
theorem dX11_act_137 : decode cX11_act 137 = .ok (.istore 6, 2) := by decide +kernel
theorem dX11_act_139 : decode cX11_act 139 = .ok (.goto 30, 3) := by decide +kernel
theorem dX11_act_142 : decode cX11_act 142 = .ok (.aload 5, 2) := by decide +kernel
theorem dX11_act_144 : decode cX11_act 144 = .ok (.aload_n 0, 1) := by decide +kernel
theorem dX11_act_145 : decode cX11_act 145 = .ok (.getfield 23, 3) := by decide +kernel
theorem dX11_act_148 : decode cX11_act 148 = .ok (.iload_n 3, 1) := by decide +kernel
theorem dX11_act_149 : decode cX11_act 149 = .ok (.invokevirtual 346, 3) := by decide +kernel
theorem dX11_act_152 : decode cX11_act 152 = .ok (.istore 6, 2) := by decide +kernel
theorem dX11_act_154 : decode cX11_act 154 = .ok (.goto 15, 3) := by decide +kernel
theorem dX11_act_157 : decode cX11_act 157 = .ok (.aload 5, 2) := by decide +kernel
theorem dX11_act_159 : decode cX11_act 159 = .ok (.aload_n 0, 1) := by decide +kernel
theorem dX11_act_160 : decode cX11_act 160 = .ok (.getfield 23, 3) := by decide +kernel
theorem dX11_act_163 : decode cX11_act 163 = .ok (.iload_n 3, 1) := by decide +kernel
theorem dX11_act_164 : decode cX11_act 164 = .ok (.invokevirtual 349, 3) := by decide +kernel
theorem dX11_act_167 : decode cX11_act 167 = .ok (.istore 6, 2) := by decide +kernel
theorem dX11_act_169 : decode cX11_act 169 = .ok (.aload_n 0, 1) := by decide +kernel
theorem dX11_act_170 : decode cX11_act 170 = .ok (.getfield 23, 3) := by decide +kernel
theorem dX11_act_173 : decode cX11_act 173 = .ok (.getfield 352, 3) := by decide +kernel
theorem dX11_act_176 : decode cX11_act 176 = .ok (.ifCond .eq 8, 3) := by decide +kernel
theorem dX11_act_179 : decode cX11_act 179 = .ok (.bipush (-15), 2) := by decide +kernel
theorem dX11_act_181 : decode cX11_act 181 = .ok (.goto 5, 3) := by decide +kernel
theorem dX11_act_184 : decode cX11_act 184 = .ok (.iload 6, 2) := by decide +kernel
theorem dX11_act_186 : decode cX11_act 186 = .ok (.ireturn, 1) := by decide +kernel
theorem k_X11_act : MV yX11_act cX11_act 7 (some .int) 3 := ⟨q_981, q_982, q_1, q_983, ⟨by decide, by decide, by decide +kernel⟩⟩
theorem c_X11_act {v1 : Int32} {v2 : Int32} {v3 : Int32} {res : Int32 × (Nat → Int32) × Int32 × Int32 × Int32 × Int32} (hf : X11_act x_q0_dials x_q0_count x_h_held x_h_things x_h_bodies x_h_number x_h_spot v1 v2 v3 = some res) : MC l E0 D t yX11_act cX11_act 7 (some .int) 8 0 0 [.ref (a 0), .int v1, .int v2, .int v3] (cW a ar t x_q0_dials x_q0_spots x_q0_skies x_q0_reports x_q0_count x_q0_chime x_q0_end x_q0_score x_q0_reportCount x_q0_z x_q0_rules x_q0_shades x_q0_facts x_q1_dials x_q1_spots x_q1_skies x_q1_reports x_q1_count x_q1_chime x_q1_end x_q1_score x_q1_reportCount x_q1_z x_q1_rules x_q1_shades x_q1_facts x_q2_dials x_q2_spots x_q2_skies x_q2_reports x_q2_count x_q2_chime x_q2_end x_q2_score x_q2_reportCount x_q2_z x_q2_rules x_q2_shades x_q2_facts x_isKept x_marks x_p_first x_p_steps x_p_most x_p_many x_p_fewest x_p_everRight x_p_opening x_p_rows x_p_rowCount x_p_acts x_p_marks x_p_deepest x_p_wanted x_t_length x_t_tape x_t_words x_t_places x_t_at x_t_kinds x_t_wills x_t_starts x_t_code x_t_count x_t_size x_h_sorts x_h_lengths x_h_items x_h_held x_h_things x_h_sizes x_h_bodies x_h_traced x_h_number x_h_spot x_h_parted x_g_count x_g_kinds x_g_wills x_g_starts x_g_code x_g_stack x_g_kl x_g_wl x_g_sl x_g_cl x_nr) (Qi res.1 (cW a ar t x_q0_dials x_q0_spots x_q0_skies x_q0_reports x_q0_count x_q0_chime x_q0_end x_q0_score x_q0_reportCount x_q0_z x_q0_rules x_q0_shades x_q0_facts x_q1_dials x_q1_spots x_q1_skies x_q1_reports x_q1_count x_q1_chime x_q1_end x_q1_score x_q1_reportCount x_q1_z x_q1_rules x_q1_shades x_q1_facts x_q2_dials x_q2_spots x_q2_skies x_q2_reports x_q2_count x_q2_chime x_q2_end x_q2_score x_q2_reportCount x_q2_z x_q2_rules x_q2_shades x_q2_facts x_isKept x_marks x_p_first x_p_steps x_p_most x_p_many x_p_fewest x_p_everRight x_p_opening x_p_rows x_p_rowCount x_p_acts x_p_marks x_p_deepest x_p_wanted x_t_length x_t_tape x_t_words x_t_places x_t_at x_t_kinds x_t_wills x_t_starts x_t_code x_t_count x_t_size x_h_sorts x_h_lengths x_h_items x_h_held x_h_things x_h_sizes res.2.1 res.2.2.1 res.2.2.2.1 res.2.2.2.2.1 res.2.2.2.2.2 x_g_count x_g_kinds x_g_wills x_g_starts x_g_code x_g_stack x_g_kl x_g_wl x_g_sl x_g_cl x_nr)) := by
  unfold X11_act at hf
  refine MC.ofI pn_X11 (Nat.le_of_ble_eq_true rfl) ?_
  intro p e s m args below meth c A Q ls cx hR hw hl
  have hx := cx.1
  have hb := cx.2.1
  have hl : lv_has ls 7 [(0, .ref (a 0)), (1, .int v1), (2, .int v2), (3, .int v3)] := hl
  refine lv_aload_n hx hb dX11_act_0 rfl (lv_at hl 0 rfl) ?_
  refine cg_X11_23_ds cx hw dX11_act_1 ?_
  refine calVv cx hw hl.1 (c_X2_clearTrace rfl) q_984 k_X2_clearTrace rfl rv_host rfl dX11_act_4 rfl (Nat.le_of_ble_eq_true rfl) ⟨Nat.le_of_ble_eq_true rfl, Nat.le_of_ble_eq_true rfl⟩ ⟨Nat.le_refl _, Nat.le_refl _⟩ (fun H locs hw => ?_)
  refine lv_iload_n hx hb dX11_act_7 rfl (lv_at hl 1 rfl) ?_
  refine calSi cx hw hl.1 (c_X11_isSheet rfl) q_926 k_X11_isSheet rfl dX11_act_8 rfl (Nat.le_of_ble_eq_true rfl) ⟨Nat.le_of_ble_eq_true rfl, Nat.le_of_ble_eq_true rfl⟩ ⟨Nat.le_refl _, Nat.le_refl _⟩ (fun H locs hw => ?_)
  refine lv_if_eq (tgt := 31) hx hb dX11_act_11 (by decide) (fun hc => ?_) (fun hc => ?_)
  · have hf := ifT hf hc
    refine lv_iconst (v := 0) hx hb dX11_act_31 (by decide) ?_
    have hf := Option.some.inj hf
    subst hf
    exact hR _ _ _ _ _ _ hw rfl ⟨rfl, rfl⟩ dX11_act_32
  · have hf := ifF hf hc
    refine lv_iload_n hx hb dX11_act_14 rfl (lv_at hl 2 rfl) ?_
    refine lv_iconst (v := 0) hx hb dX11_act_15 (by decide) ?_
    refine lv_iconst (v := 3) hx hb dX11_act_16 (by decide) ?_
    refine calSi cx hw hl.1 (c_X11_isIn rfl) q_350 k_X11_isIn rfl dX11_act_17 rfl (Nat.le_of_ble_eq_true rfl) ⟨Nat.le_of_ble_eq_true rfl, Nat.le_of_ble_eq_true rfl⟩ ⟨Nat.le_refl _, Nat.le_refl _⟩ (fun H locs hw => ?_)
    refine lv_if_eq (tgt := 31) hx hb dX11_act_20 (by decide) (fun hc => ?_) (fun hc => ?_)
    · have hf := ifT hf hc
      refine lv_iconst (v := 0) hx hb dX11_act_31 (by decide) ?_
      have hf := Option.some.inj hf
      subst hf
      exact hR _ _ _ _ _ _ hw rfl ⟨rfl, rfl⟩ dX11_act_32
    · have hf := ifF hf hc
      refine lv_aload_n hx hb dX11_act_23 rfl (lv_at hl 0 rfl) ?_
      refine lv_iload_n hx hb dX11_act_24 rfl (lv_at hl 1 rfl) ?_
      obtain ⟨r1, h2, hf⟩ := bnS hf
      refine calVi cx hw hl.1 (c_X11_holdsDial h2) q_975 k_X11_holdsDial rfl rv_ds rfl dX11_act_25 rfl (Nat.le_of_ble_eq_true rfl) ⟨Nat.le_of_ble_eq_true rfl, Nat.le_of_ble_eq_true rfl⟩ ⟨Nat.le_refl _, Nat.le_refl _⟩ (fun H locs hw => ?_)
      refine lv_if_ne (tgt := 33) hx hb dX11_act_28 (by decide) (fun hc => ?_) (fun hc => ?_)
      · have hf := ifF hf hc
        refine lv_aload_n hx hb dX11_act_33 rfl (lv_at hl 0 rfl) ?_
        refine cg_X11_23_ds cx hw dX11_act_34 ?_
        refine cg_X11_314_host cx hw dX11_act_37 ?_
        refine lv_iload_n hx hb dX11_act_40 rfl (lv_at hl 1 rfl) ?_
        obtain ⟨h3, hf⟩ := ckS hf
        refine cl_h_things (j := v1.toNatClampNeg) cx hw (ib_in h3) rfl dX11_act_41 ?_
        refine lv_istore (lv' := [(4, .int (x_h_things v1.toNatClampNeg)), (0, .ref (a 0)), (1, .int v1), (2, .int v2), (3, .int v3)]) hx hb dX11_act_42 hl (by decide) rfl (fun ls hl => ?_)
        refine lv_aload_n hx hb dX11_act_44 rfl (lv_at hl 1 rfl) ?_
        refine cg_X11_23_ds cx hw dX11_act_45 ?_
        refine lv_iload hx hb dX11_act_48 (lv_at hl 0 rfl) ?_
        refine cp_X11_329_host cx hw dX11_act_50 (fun H locs hw => ?_)
        refine lv_aload_n hx hb dX11_act_53 rfl (lv_at hl 1 rfl) ?_
        refine cg_X11_23_ds cx hw dX11_act_54 ?_
        refine lv_aload_n hx hb dX11_act_57 rfl (lv_at hl 1 rfl) ?_
        refine cg_X11_55_ds cx hw dX11_act_58 ?_
        refine cg_X11_93_q0 cx hw dX11_act_61 ?_
        refine lv_iload hx hb dX11_act_64 (lv_at hl 0 rfl) ?_
        obtain ⟨h4, hf⟩ := ckS hf
        refine co_q0_dials (j := (x_h_things v1.toNatClampNeg).toNatClampNeg) cx hw (ib_in h4) rfl dX11_act_66 ?_
        refine lv_iconst (v := 3) hx hb dX11_act_67 (by decide) ?_
        refine cm_q0_dials (j := 3) cx hw (ib_lt h4) (ib_in (by decide)) (by decide) dX11_act_68 ?_
        refine cp_X11_332_host cx hw dX11_act_69 (fun H locs hw => ?_)
        refine lv_aload_n hx hb dX11_act_72 rfl (lv_at hl 1 rfl) ?_
        refine cg_X11_55_ds cx hw dX11_act_73 ?_
        refine lv_iload hx hb dX11_act_76 (lv_at hl 0 rfl) ?_
        obtain ⟨r5, h6, hf⟩ := bnS hf
        refine calVa cx hw hl.1 (c_X9_kindOf_q0 h6) q_988 k_X9_kindOf rfl rv_q0 rfl dX11_act_78 rfl (Nat.le_of_ble_eq_true rfl) ⟨Nat.le_of_ble_eq_true rfl, Nat.le_of_ble_eq_true rfl⟩ ⟨Nat.le_refl _, Nat.le_refl _⟩ (fun H locs hw => ?_)
        obtain ⟨h7, hf⟩ := ckS hf
        refine lv_astore (lv' := [(5, .ref (a (78 + r5))), (4, .int (x_h_things v1.toNatClampNeg)), (0, .ref (a 0)), (1, .int v1), (2, .int v2), (3, .int v3)]) hx hb dX11_act_81 hl (by decide) rfl (fun ls hl => ?_)
        refine lv_iload_n hx hb dX11_act_83 rfl (lv_at hl 4 rfl) ?_
        obtain ⟨j16, hj16, hf⟩ := bnS hf
        have wj16 : ∀ (H : Heap) (locs : List Loc) (ls : Array Slot), Wd D A s (cW a ar t x_q0_dials x_q0_spots x_q0_skies x_q0_reports x_q0_count x_q0_chime x_q0_end x_q0_score x_q0_reportCount x_q0_z x_q0_rules x_q0_shades x_q0_facts x_q1_dials x_q1_spots x_q1_skies x_q1_reports x_q1_count x_q1_chime x_q1_end x_q1_score x_q1_reportCount x_q1_z x_q1_rules x_q1_shades x_q1_facts x_q2_dials x_q2_spots x_q2_skies x_q2_reports x_q2_count x_q2_chime x_q2_end x_q2_score x_q2_reportCount x_q2_z x_q2_rules x_q2_shades x_q2_facts x_isKept x_marks x_p_first x_p_steps x_p_most x_p_many x_p_fewest x_p_everRight x_p_opening x_p_rows x_p_rowCount x_p_acts x_p_marks x_p_deepest x_p_wanted x_t_length x_t_tape x_t_words x_t_places x_t_at x_t_kinds x_t_wills x_t_starts x_t_code x_t_count x_t_size x_h_sorts x_h_lengths x_h_items x_h_held x_h_things x_h_sizes j16.2.1 j16.2.2.1 (x_h_things v1.toNatClampNeg) (x_q0_dials ((x_h_things v1.toNatClampNeg).toNatClampNeg) 3) j16.2.2.2 x_g_count x_g_kinds x_g_wills x_g_starts x_g_code x_g_stack x_g_kl x_g_wl x_g_sl x_g_cl x_nr) H locs → lv_has ls 7 [(0, .ref (a 0)), (1, .int v1), (2, .int v2), (3, .int v3), (4, .int (x_h_things v1.toNatClampNeg)), (5, .ref (a (78 + r5))), (6, .int j16.1)] → W p l e (rmz 8 0 0) s m args below meth c H locs 0 0 Q (F0 m 169 ls []) := by
          intro H locs ls hw hl
          refine lv_aload_n hx hb dX11_act_169 rfl (lv_at hl 0 rfl) ?_
          refine cg_X11_23_ds cx hw dX11_act_170 ?_
          refine cg_X11_352_host cx hw dX11_act_173 ?_
          refine lv_if_eq (tgt := 184) hx hb dX11_act_176 (by decide) (fun hc => ?_) (fun hc => ?_)
          · have hf := ifT hf hc
            refine lv_iload hx hb dX11_act_184 (lv_at hl 6 rfl) ?_
            have hf := Option.some.inj hf
            subst hf
            exact hR _ _ _ _ _ _ hw rfl ⟨rfl, rfl⟩ dX11_act_186
          · have hf := ifF hf hc
            refine lv_bipush (v := (-15)) hx hb dX11_act_179 (by decide) ?_
            refine lv_goto (tgt := 186) hx hb dX11_act_181 (by decide) ?_
            have hf := Option.some.inj hf
            subst hf
            exact hR _ _ _ _ _ _ hw rfl ⟨rfl, rfl⟩ dX11_act_186
        clear hf
        have hf := hj16
        clear hj16
        by_cases hc0 : v2 = (0 : Int32)
        · have hf := ifT hf hc0
          refine lv_tableIn (tgt := 112) hx hb dX11_act_84 (by rw [hc0]; decide) (by rw [hc0]; decide) (by rw [hc0]; rfl) (by decide) ?_
          refine lv_aload hx hb dX11_act_112 (lv_at hl 0 rfl) ?_
          refine lv_aload_n hx hb dX11_act_114 rfl (lv_at hl 2 rfl) ?_
          refine cg_X11_23_ds cx hw dX11_act_115 ?_
          refine lv_iload_n hx hb dX11_act_118 rfl (lv_at hl 5 rfl) ?_
          obtain ⟨r8, h9, hf⟩ := bnS hf
          refine vr_points_X11_339 cx hw hl.1 (dc h7) h9 dX11_act_119 (Nat.le_of_ble_eq_true rfl) (Nat.le_of_ble_eq_true rfl) (Nat.le_of_ble_eq_true rfl) ⟨Nat.le_refl _, Nat.le_refl _⟩ (fun H locs hw => ?_)
          refine lv_istore (lv' := [(6, .int r8.1), (5, .ref (a (78 + r5))), (4, .int (x_h_things v1.toNatClampNeg)), (0, .ref (a 0)), (1, .int v1), (2, .int v2), (3, .int v3)]) hx hb dX11_act_122 hl (by decide) rfl (fun ls hl => ?_)
          refine lv_goto (tgt := 169) hx hb dX11_act_124 (by decide) ?_
          have hf := Option.some.inj hf
          subst hf
          exact wj16 _ _ _ hw (lv_sub hl [3, 4, 5, 6, 2, 1, 0] rfl)
        · have hf := ifF hf hc0
          by_cases hc1 : v2 = (1 : Int32)
          · have hf := ifT hf hc1
            refine lv_tableIn (tgt := 127) hx hb dX11_act_84 (by rw [hc1]; decide) (by rw [hc1]; decide) (by rw [hc1]; rfl) (by decide) ?_
            refine lv_aload hx hb dX11_act_127 (lv_at hl 0 rfl) ?_
            refine lv_aload_n hx hb dX11_act_129 rfl (lv_at hl 2 rfl) ?_
            refine cg_X11_23_ds cx hw dX11_act_130 ?_
            refine lv_iload_n hx hb dX11_act_133 rfl (lv_at hl 5 rfl) ?_
            obtain ⟨r10, h11, hf⟩ := bnS hf
            refine vr_slants_X11_343 cx hw hl.1 (dc h7) h11 dX11_act_134 (Nat.le_of_ble_eq_true rfl) (Nat.le_of_ble_eq_true rfl) (Nat.le_of_ble_eq_true rfl) ⟨Nat.le_refl _, Nat.le_refl _⟩ (fun H locs hw => ?_)
            refine lv_istore (lv' := [(6, .int r10.1), (5, .ref (a (78 + r5))), (4, .int (x_h_things v1.toNatClampNeg)), (0, .ref (a 0)), (1, .int v1), (2, .int v2), (3, .int v3)]) hx hb dX11_act_137 hl (by decide) rfl (fun ls hl => ?_)
            refine lv_goto (tgt := 169) hx hb dX11_act_139 (by decide) ?_
            have hf := Option.some.inj hf
            subst hf
            exact wj16 _ _ _ hw (lv_sub hl [3, 4, 5, 6, 2, 1, 0] rfl)
          · have hf := ifF hf hc1
            by_cases hc2 : v2 = (2 : Int32)
            · have hf := ifT hf hc2
              refine lv_tableIn (tgt := 142) hx hb dX11_act_84 (by rw [hc2]; decide) (by rw [hc2]; decide) (by rw [hc2]; rfl) (by decide) ?_
              refine lv_aload hx hb dX11_act_142 (lv_at hl 0 rfl) ?_
              refine lv_aload_n hx hb dX11_act_144 rfl (lv_at hl 2 rfl) ?_
              refine cg_X11_23_ds cx hw dX11_act_145 ?_
              refine lv_iload_n hx hb dX11_act_148 rfl (lv_at hl 5 rfl) ?_
              obtain ⟨r12, h13, hf⟩ := bnS hf
              refine vr_shares_X11_346 cx hw hl.1 (dc h7) h13 dX11_act_149 (Nat.le_of_ble_eq_true rfl) (Nat.le_of_ble_eq_true rfl) (Nat.le_of_ble_eq_true rfl) ⟨Nat.le_refl _, Nat.le_refl _⟩ (fun H locs hw => ?_)
              refine lv_istore (lv' := [(6, .int r12.1), (5, .ref (a (78 + r5))), (4, .int (x_h_things v1.toNatClampNeg)), (0, .ref (a 0)), (1, .int v1), (2, .int v2), (3, .int v3)]) hx hb dX11_act_152 hl (by decide) rfl (fun ls hl => ?_)
              refine lv_goto (tgt := 169) hx hb dX11_act_154 (by decide) ?_
              have hf := Option.some.inj hf
              subst hf
              exact wj16 _ _ _ hw (lv_sub hl [3, 4, 5, 6, 2, 1, 0] rfl)
            · have hf := ifF hf hc2
              refine lv_tableOut (tgt := 157) hx hb dX11_act_84 (by have h0 := lv_neT hc0 (a := 0) (by decide); have h1 := lv_neT hc1 (a := 1) (by decide); have h2 := lv_neT hc2 (a := 2) (by decide); omega) (by decide) ?_
              refine lv_aload hx hb dX11_act_157 (lv_at hl 0 rfl) ?_
              refine lv_aload_n hx hb dX11_act_159 rfl (lv_at hl 2 rfl) ?_
              refine cg_X11_23_ds cx hw dX11_act_160 ?_
              refine lv_iload_n hx hb dX11_act_163 rfl (lv_at hl 5 rfl) ?_
              obtain ⟨r14, h15, hf⟩ := bnS hf
              refine vr_tells_X11_349 cx hw hl.1 (dc h7) h15 dX11_act_164 (Nat.le_of_ble_eq_true rfl) (Nat.le_of_ble_eq_true rfl) (Nat.le_of_ble_eq_true rfl) ⟨Nat.le_refl _, Nat.le_refl _⟩ (fun H locs hw => ?_)
              refine lv_istore (lv' := [(6, .int r14.1), (5, .ref (a (78 + r5))), (4, .int (x_h_things v1.toNatClampNeg)), (0, .ref (a 0)), (1, .int v1), (2, .int v2), (3, .int v3)]) hx hb dX11_act_167 hl (by decide) rfl (fun ls hl => ?_)
              have hf := Option.some.inj hf
              subst hf
              exact wj16 _ _ _ hw (lv_sub hl [3, 4, 5, 6, 2, 1, 0] rfl)
      · have hf := ifT hf hc
        refine lv_iconst (v := 0) hx hb dX11_act_31 (by decide) ?_
        have hf := Option.some.inj hf
        subst hf
        exact hR _ _ _ _ _ _ hw rfl ⟨rfl, rfl⟩ dX11_act_32
theorem dX11_trace_0 : decode cX11_trace 0 = .ok (.iload_n 1, 1) := by decide +kernel
theorem dX11_trace_1 : decode cX11_trace 1 = .ok (.iconst 0, 1) := by decide +kernel
theorem dX11_trace_2 : decode cX11_trace 2 = .ok (.aload_n 0, 1) := by decide +kernel
theorem dX11_trace_3 : decode cX11_trace 3 = .ok (.getfield 23, 3) := by decide +kernel
theorem dX11_trace_6 : decode cX11_trace 6 = .ok (.getfield 356, 3) := by decide +kernel
theorem dX11_trace_9 : decode cX11_trace 9 = .ok (.iconst 1, 1) := by decide +kernel
theorem dX11_trace_10 : decode cX11_trace 10 = .ok (.isub, 1) := by decide +kernel
theorem dX11_trace_11 : decode cX11_trace 11 = .ok (.invokestatic 74, 3) := by decide +kernel
theorem dX11_trace_14 : decode cX11_trace 14 = .ok (.ifCond .eq 15, 3) := by decide +kernel
theorem dX11_trace_17 : decode cX11_trace 17 = .ok (.aload_n 0, 1) := by decide +kernel
theorem dX11_trace_18 : decode cX11_trace 18 = .ok (.getfield 23, 3) := by decide +kernel
theorem dX11_trace_21 : decode cX11_trace 21 = .ok (.getfield 359, 3) := by decide +kernel
theorem dX11_trace_24 : decode cX11_trace 24 = .ok (.iload_n 1, 1) := by decide +kernel
theorem dX11_trace_25 : decode cX11_trace 25 = .ok (.iaload, 1) := by decide +kernel
theorem dX11_trace_26 : decode cX11_trace 26 = .ok (.goto 5, 3) := by decide +kernel
theorem dX11_trace_29 : decode cX11_trace 29 = .ok (.bipush (-3), 2) := by decide +kernel
theorem dX11_trace_31 : decode cX11_trace 31 = .ok (.ireturn, 1) := by decide +kernel
theorem k_X11_trace : MV yX11_trace cX11_trace 2 (some .int) 1 := ⟨q_1076, q_1077, q_1, q_1078, ⟨by decide, by decide, by decide +kernel⟩⟩
theorem c_X11_trace {v1 : Int32} {res : Int32} (hf : X11_trace x_h_bodies x_h_traced v1 = some res) : MC l E0 D t yX11_trace cX11_trace 2 (some .int) 2 0 0 [.ref (a 0), .int v1] (cW a ar t x_q0_dials x_q0_spots x_q0_skies x_q0_reports x_q0_count x_q0_chime x_q0_end x_q0_score x_q0_reportCount x_q0_z x_q0_rules x_q0_shades x_q0_facts x_q1_dials x_q1_spots x_q1_skies x_q1_reports x_q1_count x_q1_chime x_q1_end x_q1_score x_q1_reportCount x_q1_z x_q1_rules x_q1_shades x_q1_facts x_q2_dials x_q2_spots x_q2_skies x_q2_reports x_q2_count x_q2_chime x_q2_end x_q2_score x_q2_reportCount x_q2_z x_q2_rules x_q2_shades x_q2_facts x_isKept x_marks x_p_first x_p_steps x_p_most x_p_many x_p_fewest x_p_everRight x_p_opening x_p_rows x_p_rowCount x_p_acts x_p_marks x_p_deepest x_p_wanted x_t_length x_t_tape x_t_words x_t_places x_t_at x_t_kinds x_t_wills x_t_starts x_t_code x_t_count x_t_size x_h_sorts x_h_lengths x_h_items x_h_held x_h_things x_h_sizes x_h_bodies x_h_traced x_h_number x_h_spot x_h_parted x_g_count x_g_kinds x_g_wills x_g_starts x_g_code x_g_stack x_g_kl x_g_wl x_g_sl x_g_cl x_nr) (Qi res (cW a ar t x_q0_dials x_q0_spots x_q0_skies x_q0_reports x_q0_count x_q0_chime x_q0_end x_q0_score x_q0_reportCount x_q0_z x_q0_rules x_q0_shades x_q0_facts x_q1_dials x_q1_spots x_q1_skies x_q1_reports x_q1_count x_q1_chime x_q1_end x_q1_score x_q1_reportCount x_q1_z x_q1_rules x_q1_shades x_q1_facts x_q2_dials x_q2_spots x_q2_skies x_q2_reports x_q2_count x_q2_chime x_q2_end x_q2_score x_q2_reportCount x_q2_z x_q2_rules x_q2_shades x_q2_facts x_isKept x_marks x_p_first x_p_steps x_p_most x_p_many x_p_fewest x_p_everRight x_p_opening x_p_rows x_p_rowCount x_p_acts x_p_marks x_p_deepest x_p_wanted x_t_length x_t_tape x_t_words x_t_places x_t_at x_t_kinds x_t_wills x_t_starts x_t_code x_t_count x_t_size x_h_sorts x_h_lengths x_h_items x_h_held x_h_things x_h_sizes x_h_bodies x_h_traced x_h_number x_h_spot x_h_parted x_g_count x_g_kinds x_g_wills x_g_starts x_g_code x_g_stack x_g_kl x_g_wl x_g_sl x_g_cl x_nr)) := by
  unfold X11_trace at hf
  refine MC.ofI pn_X11 (Nat.le_of_ble_eq_true rfl) ?_
  intro p e s m args below meth c A Q ls cx hR hw hl
  have hx := cx.1
  have hb := cx.2.1
  have hl : lv_has ls 2 [(0, .ref (a 0)), (1, .int v1)] := hl
  refine lv_iload_n hx hb dX11_trace_0 rfl (lv_at hl 1 rfl) ?_
  refine lv_iconst (v := 0) hx hb dX11_trace_1 (by decide) ?_
  refine lv_aload_n hx hb dX11_trace_2 rfl (lv_at hl 0 rfl) ?_
  refine cg_X11_23_ds cx hw dX11_trace_3 ?_
  refine cg_X11_356_host cx hw dX11_trace_6 ?_
  refine lv_iconst (v := 1) hx hb dX11_trace_9 (by decide) ?_
  refine lv_isub hx hb dX11_trace_10 ?_
  refine calSi cx hw hl.1 (c_X11_isIn rfl) q_350 k_X11_isIn rfl dX11_trace_11 rfl (Nat.le_of_ble_eq_true rfl) ⟨Nat.le_of_ble_eq_true rfl, Nat.le_of_ble_eq_true rfl⟩ ⟨Nat.le_refl _, Nat.le_refl _⟩ (fun H locs hw => ?_)
  refine lv_if_eq (tgt := 29) hx hb dX11_trace_14 (by decide) (fun hc => ?_) (fun hc => ?_)
  · have hf := ifT hf hc
    refine lv_bipush (v := (-3)) hx hb dX11_trace_29 (by decide) ?_
    have hf := Option.some.inj hf
    subst hf
    exact hR _ _ _ _ _ _ hw rfl ⟨rfl, rfl⟩ dX11_trace_31
  · have hf := ifF hf hc
    refine lv_aload_n hx hb dX11_trace_17 rfl (lv_at hl 0 rfl) ?_
    refine cg_X11_23_ds cx hw dX11_trace_18 ?_
    refine cg_X11_359_host cx hw dX11_trace_21 ?_
    refine lv_iload_n hx hb dX11_trace_24 rfl (lv_at hl 1 rfl) ?_
    obtain ⟨h1, hf⟩ := ckS hf
    refine cl_h_bodies (j := v1.toNatClampNeg) cx hw (ib_in h1) rfl dX11_trace_25 ?_
    refine lv_goto (tgt := 31) hx hb dX11_trace_26 (by decide) ?_
    have hf := Option.some.inj hf
    subst hf
    exact hR _ _ _ _ _ _ hw rfl ⟨rfl, rfl⟩ dX11_trace_31
theorem dX11_many_0 : decode cX11_many 0 = .ok (.iload_n 1, 1) := by decide +kernel
theorem dX11_many_1 : decode cX11_many 1 = .ok (.tableswitch 105 0 6 #[43, 51, 62, 73, 81, 89, 97], 43) := by decide +kernel
theorem dX11_many_44 : decode cX11_many 44 = .ok (.aload_n 0, 1) := by decide +kernel
theorem dX11_many_45 : decode cX11_many 45 = .ok (.getfield 55, 3) := by decide +kernel
theorem dX11_many_48 : decode cX11_many 48 = .ok (.getfield 82, 3) := by decide +kernel
theorem dX11_many_51 : decode cX11_many 51 = .ok (.ireturn, 1) := by decide +kernel
theorem dX11_many_52 : decode cX11_many 52 = .ok (.aload_n 0, 1) := by decide +kernel
theorem dX11_many_53 : decode cX11_many 53 = .ok (.getfield 55, 3) := by decide +kernel
theorem dX11_many_56 : decode cX11_many 56 = .ok (.getfield 168, 3) := by decide +kernel
theorem dX11_many_59 : decode cX11_many 59 = .ok (.getfield 172, 3) := by decide +kernel
theorem dX11_many_62 : decode cX11_many 62 = .ok (.ireturn, 1) := by decide +kernel
theorem dX11_many_63 : decode cX11_many 63 = .ok (.aload_n 0, 1) := by decide +kernel
theorem dX11_many_64 : decode cX11_many 64 = .ok (.getfield 55, 3) := by decide +kernel
theorem dX11_many_67 : decode cX11_many 67 = .ok (.invokevirtual 141, 3) := by decide +kernel
theorem dX11_many_70 : decode cX11_many 70 = .ok (.invokestatic 252, 3) := by decide +kernel
theorem dX11_many_73 : decode cX11_many 73 = .ok (.ireturn, 1) := by decide +kernel
theorem dX11_many_74 : decode cX11_many 74 = .ok (.aload_n 0, 1) := by decide +kernel
theorem dX11_many_75 : decode cX11_many 75 = .ok (.getfield 55, 3) := by decide +kernel
theorem dX11_many_78 : decode cX11_many 78 = .ok (.getfield 240, 3) := by decide +kernel
theorem dX11_many_81 : decode cX11_many 81 = .ok (.ireturn, 1) := by decide +kernel
theorem dX11_many_82 : decode cX11_many 82 = .ok (.aload_n 0, 1) := by decide +kernel
theorem dX11_many_83 : decode cX11_many 83 = .ok (.getfield 70, 3) := by decide +kernel
theorem dX11_many_86 : decode cX11_many 86 = .ok (.getfield 362, 3) := by decide +kernel
theorem dX11_many_89 : decode cX11_many 89 = .ok (.ireturn, 1) := by decide +kernel
theorem dX11_many_90 : decode cX11_many 90 = .ok (.aload_n 0, 1) := by decide +kernel
theorem dX11_many_91 : decode cX11_many 91 = .ok (.getfield 16, 3) := by decide +kernel
theorem dX11_many_94 : decode cX11_many 94 = .ok (.getfield 151, 3) := by decide +kernel
theorem dX11_many_97 : decode cX11_many 97 = .ok (.ireturn, 1) := by decide +kernel
theorem dX11_many_98 : decode cX11_many 98 = .ok (.aload_n 0, 1) := by decide +kernel
theorem dX11_many_99 : decode cX11_many 99 = .ok (.getfield 23, 3) := by decide +kernel
theorem dX11_many_102 : decode cX11_many 102 = .ok (.getfield 356, 3) := by decide +kernel
theorem dX11_many_105 : decode cX11_many 105 = .ok (.ireturn, 1) := by decide +kernel
theorem dX11_many_106 : decode cX11_many 106 = .ok (.iconst (-1), 1) := by decide +kernel
theorem dX11_many_107 : decode cX11_many 107 = .ok (.ireturn, 1) := by decide +kernel
theorem k_X11_many : MV yX11_many cX11_many 2 (some .int) 1 := ⟨q_1080, q_1081, q_1, q_1082, ⟨by decide, by decide, by decide +kernel⟩⟩
theorem c_X11_many {v1 : Int32} {res : Int32} (hf : X11_many n x_q0_dials x_q0_count x_q0_reportCount x_q0_rules x_p_rowCount x_t_length x_h_traced x_g_count x_nr v1 = some res) : MC l E0 D t yX11_many cX11_many 2 (some .int) 3 0 0 [.ref (a 0), .int v1] (cW a ar t x_q0_dials x_q0_spots x_q0_skies x_q0_reports x_q0_count x_q0_chime x_q0_end x_q0_score x_q0_reportCount x_q0_z x_q0_rules x_q0_shades x_q0_facts x_q1_dials x_q1_spots x_q1_skies x_q1_reports x_q1_count x_q1_chime x_q1_end x_q1_score x_q1_reportCount x_q1_z x_q1_rules x_q1_shades x_q1_facts x_q2_dials x_q2_spots x_q2_skies x_q2_reports x_q2_count x_q2_chime x_q2_end x_q2_score x_q2_reportCount x_q2_z x_q2_rules x_q2_shades x_q2_facts x_isKept x_marks x_p_first x_p_steps x_p_most x_p_many x_p_fewest x_p_everRight x_p_opening x_p_rows x_p_rowCount x_p_acts x_p_marks x_p_deepest x_p_wanted x_t_length x_t_tape x_t_words x_t_places x_t_at x_t_kinds x_t_wills x_t_starts x_t_code x_t_count x_t_size x_h_sorts x_h_lengths x_h_items x_h_held x_h_things x_h_sizes x_h_bodies x_h_traced x_h_number x_h_spot x_h_parted x_g_count x_g_kinds x_g_wills x_g_starts x_g_code x_g_stack x_g_kl x_g_wl x_g_sl x_g_cl x_nr) (Qi res (cW a ar t x_q0_dials x_q0_spots x_q0_skies x_q0_reports x_q0_count x_q0_chime x_q0_end x_q0_score x_q0_reportCount x_q0_z x_q0_rules x_q0_shades x_q0_facts x_q1_dials x_q1_spots x_q1_skies x_q1_reports x_q1_count x_q1_chime x_q1_end x_q1_score x_q1_reportCount x_q1_z x_q1_rules x_q1_shades x_q1_facts x_q2_dials x_q2_spots x_q2_skies x_q2_reports x_q2_count x_q2_chime x_q2_end x_q2_score x_q2_reportCount x_q2_z x_q2_rules x_q2_shades x_q2_facts x_isKept x_marks x_p_first x_p_steps x_p_most x_p_many x_p_fewest x_p_everRight x_p_opening x_p_rows x_p_rowCount x_p_acts x_p_marks x_p_deepest x_p_wanted x_t_length x_t_tape x_t_words x_t_places x_t_at x_t_kinds x_t_wills x_t_starts x_t_code x_t_count x_t_size x_h_sorts x_h_lengths x_h_items x_h_held x_h_things x_h_sizes x_h_bodies x_h_traced x_h_number x_h_spot x_h_parted x_g_count x_g_kinds x_g_wills x_g_starts x_g_code x_g_stack x_g_kl x_g_wl x_g_sl x_g_cl x_nr)) := by
  unfold X11_many at hf
  refine MC.ofI pn_X11 (Nat.le_of_ble_eq_true rfl) ?_
  intro p e s m args below meth c A Q ls cx hR hw hl
  have hx := cx.1
  have hb := cx.2.1
  have hl : lv_has ls 2 [(0, .ref (a 0)), (1, .int v1)] := hl
  refine lv_iload_n hx hb dX11_many_0 rfl (lv_at hl 1 rfl) ?_
  by_cases hc0 : v1 = (0 : Int32)
  · have hf := ifT hf hc0
    refine lv_tableIn (tgt := 44) hx hb dX11_many_1 (by rw [hc0]; decide) (by rw [hc0]; decide) (by rw [hc0]; rfl) (by decide) ?_
    refine lv_aload_n hx hb dX11_many_44 rfl (lv_at hl 0 rfl) ?_
    refine cg_X11_55_ds cx hw dX11_many_45 ?_
    refine cg_X11_82_q0 cx hw dX11_many_48 ?_
    have hf := Option.some.inj hf
    subst hf
    exact hR _ _ _ _ _ _ hw rfl ⟨rfl, rfl⟩ dX11_many_51
  · have hf := ifF hf hc0
    by_cases hc1 : v1 = (1 : Int32)
    · have hf := ifT hf hc1
      refine lv_tableIn (tgt := 52) hx hb dX11_many_1 (by rw [hc1]; decide) (by rw [hc1]; decide) (by rw [hc1]; rfl) (by decide) ?_
      refine lv_aload_n hx hb dX11_many_52 rfl (lv_at hl 0 rfl) ?_
      refine cg_X11_55_ds cx hw dX11_many_53 ?_
      obtain ⟨h1, hf⟩ := ckS hf
      refine cg_X11_168_q0 cx hw dX11_many_56 ?_
      refine cg_X11_172_r cx hw (dc h1) dX11_many_59 ?_
      have hf := Option.some.inj hf
      subst hf
      exact hR _ _ _ _ _ _ hw rfl ⟨rfl, rfl⟩ dX11_many_62
    · have hf := ifF hf hc1
      by_cases hc2 : v1 = (2 : Int32)
      · have hf := ifT hf hc2
        refine lv_tableIn (tgt := 63) hx hb dX11_many_1 (by rw [hc2]; decide) (by rw [hc2]; decide) (by rw [hc2]; rfl) (by decide) ?_
        refine lv_aload_n hx hb dX11_many_63 rfl (lv_at hl 0 rfl) ?_
        refine cg_X11_55_ds cx hw dX11_many_64 ?_
        obtain ⟨r2, h3, hf⟩ := bnS hf
        refine calVi cx hw hl.1 (c_X9_rightSet_q0 h3) q_504 k_X9_rightSet rfl rv_q0 rfl dX11_many_67 rfl (Nat.le_of_ble_eq_true rfl) ⟨Nat.le_of_ble_eq_true rfl, Nat.le_of_ble_eq_true rfl⟩ ⟨Nat.le_refl _, Nat.le_refl _⟩ (fun H locs hw => ?_)
        refine calSi cx hw hl.1 (c_J6_bitCount_0f7a4 rfl) q_867 k_J6_bitCount_0f7a4 rfl dX11_many_70 rfl (Nat.le_of_ble_eq_true rfl) ⟨Nat.le_of_ble_eq_true rfl, Nat.le_of_ble_eq_true rfl⟩ ⟨Nat.le_refl _, Nat.le_refl _⟩ (fun H locs hw => ?_)
        have hf := Option.some.inj hf
        subst hf
        exact hR _ _ _ _ _ _ hw rfl ⟨rfl, rfl⟩ dX11_many_73
      · have hf := ifF hf hc2
        by_cases hc3 : v1 = (3 : Int32)
        · have hf := ifT hf hc3
          refine lv_tableIn (tgt := 74) hx hb dX11_many_1 (by rw [hc3]; decide) (by rw [hc3]; decide) (by rw [hc3]; rfl) (by decide) ?_
          refine lv_aload_n hx hb dX11_many_74 rfl (lv_at hl 0 rfl) ?_
          refine cg_X11_55_ds cx hw dX11_many_75 ?_
          refine cg_X11_240_q0 cx hw dX11_many_78 ?_
          have hf := Option.some.inj hf
          subst hf
          exact hR _ _ _ _ _ _ hw rfl ⟨rfl, rfl⟩ dX11_many_81
        · have hf := ifF hf hc3
          by_cases hc4 : v1 = (4 : Int32)
          · have hf := ifT hf hc4
            refine lv_tableIn (tgt := 82) hx hb dX11_many_1 (by rw [hc4]; decide) (by rw [hc4]; decide) (by rw [hc4]; rfl) (by decide) ?_
            refine lv_aload_n hx hb dX11_many_82 rfl (lv_at hl 0 rfl) ?_
            refine cg_X11_70_ds cx hw dX11_many_83 ?_
            refine cg_X11_362_plans cx hw dX11_many_86 ?_
            have hf := Option.some.inj hf
            subst hf
            exact hR _ _ _ _ _ _ hw rfl ⟨rfl, rfl⟩ dX11_many_89
          · have hf := ifF hf hc4
            by_cases hc5 : v1 = (5 : Int32)
            · have hf := ifT hf hc5
              refine lv_tableIn (tgt := 90) hx hb dX11_many_1 (by rw [hc5]; decide) (by rw [hc5]; decide) (by rw [hc5]; rfl) (by decide) ?_
              refine lv_aload_n hx hb dX11_many_90 rfl (lv_at hl 0 rfl) ?_
              refine cg_X11_16_ds cx hw dX11_many_91 ?_
              refine cg_X11_151_text cx hw dX11_many_94 ?_
              have hf := Option.some.inj hf
              subst hf
              exact hR _ _ _ _ _ _ hw rfl ⟨rfl, rfl⟩ dX11_many_97
            · have hf := ifF hf hc5
              by_cases hc6 : v1 = (6 : Int32)
              · have hf := ifT hf hc6
                refine lv_tableIn (tgt := 98) hx hb dX11_many_1 (by rw [hc6]; decide) (by rw [hc6]; decide) (by rw [hc6]; rfl) (by decide) ?_
                refine lv_aload_n hx hb dX11_many_98 rfl (lv_at hl 0 rfl) ?_
                refine cg_X11_23_ds cx hw dX11_many_99 ?_
                refine cg_X11_356_host cx hw dX11_many_102 ?_
                have hf := Option.some.inj hf
                subst hf
                exact hR _ _ _ _ _ _ hw rfl ⟨rfl, rfl⟩ dX11_many_105
              · have hf := ifF hf hc6
                refine lv_tableOut (tgt := 106) hx hb dX11_many_1 (by have h0 := lv_neT hc0 (a := 0) (by decide); have h1 := lv_neT hc1 (a := 1) (by decide); have h2 := lv_neT hc2 (a := 2) (by decide); have h3 := lv_neT hc3 (a := 3) (by decide); have h4 := lv_neT hc4 (a := 4) (by decide); have h5 := lv_neT hc5 (a := 5) (by decide); have h6 := lv_neT hc6 (a := 6) (by decide); omega) (by decide) ?_
                refine lv_iconst (v := (-1)) hx hb dX11_many_106 (by decide) ?_
                have hf := Option.some.inj hf
                subst hf
                exact hR _ _ _ _ _ _ hw rfl ⟨rfl, rfl⟩ dX11_many_107
end CW11
