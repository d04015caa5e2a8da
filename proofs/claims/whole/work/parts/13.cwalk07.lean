section CW7
variable {l : Launch} {D : va_G} {t : Nat → ClassId} {a : Nat → Nat} {ar : Nat → Nat → Nat} {n : Nat} {x_q0_dials : Nat → Nat → Int32} {x_q0_spots : Nat → Nat → Int32} {x_q0_skies : Nat → Int32} {x_q0_reports : Nat → Nat → Int32} {x_q0_count : Int32} {x_q0_chime : Int32} {x_q0_end : Int32} {x_q0_score : Int32} {x_q0_reportCount : Int32} {x_q0_z : Int32} {x_q0_rules : Nat} {x_q0_shades : Nat → Int32} {x_q0_facts : Nat → Int32} {x_q1_dials : Nat → Nat → Int32} {x_q1_spots : Nat → Nat → Int32} {x_q1_skies : Nat → Int32} {x_q1_reports : Nat → Nat → Int32} {x_q1_count : Int32} {x_q1_chime : Int32} {x_q1_end : Int32} {x_q1_score : Int32} {x_q1_reportCount : Int32} {x_q1_z : Int32} {x_q1_rules : Nat} {x_q1_shades : Nat → Int32} {x_q1_facts : Nat → Int32} {x_q2_dials : Nat → Nat → Int32} {x_q2_spots : Nat → Nat → Int32} {x_q2_skies : Nat → Int32} {x_q2_reports : Nat → Nat → Int32} {x_q2_count : Int32} {x_q2_chime : Int32} {x_q2_end : Int32} {x_q2_score : Int32} {x_q2_reportCount : Int32} {x_q2_z : Int32} {x_q2_rules : Nat} {x_q2_shades : Nat → Int32} {x_q2_facts : Nat → Int32} {x_isKept : Int32} {x_marks : Nat → Int32} {x_p_first : Nat → Int32} {x_p_steps : Int32} {x_p_most : Int32} {x_p_many : Int32} {x_p_fewest : Int32} {x_p_everRight : Int32} {x_p_opening : Int32} {x_p_rows : Nat → Nat → Int32} {x_p_rowCount : Int32} {x_p_acts : Nat → Int32} {x_p_marks : Nat → Nat → Int32} {x_p_deepest : Int32} {x_p_wanted : Int32} {x_t_length : Int32} {x_t_tape : Nat → Int32} {x_t_words : Nat → Int32} {x_t_places : Nat → Int32} {x_t_at : Int32} {x_t_kinds : Nat → Int32} {x_t_wills : Nat → Int32} {x_t_starts : Nat → Int32} {x_t_code : Nat → Int32} {x_t_count : Int32} {x_t_size : Int32} {x_h_sorts : Nat → Int32} {x_h_lengths : Nat → Int32} {x_h_items : Nat → Nat → Int32} {x_h_held : Nat → Int32} {x_h_things : Nat → Int32} {x_h_sizes : Nat → Int32} {x_h_bodies : Nat → Int32} {x_h_traced : Int32} {x_h_number : Int32} {x_h_spot : Int32} {x_h_parted : Int32} {x_g_count : Nat → Int32} {x_g_kinds : Nat → Nat → Int32} {x_g_wills : Nat → Nat → Int32} {x_g_starts : Nat → Nat → Int32} {x_g_code : Nat → Nat → Int32} {x_g_stack : Nat → Nat → Int32} {x_g_kl : Nat → Nat} {x_g_wl : Nat → Nat} {x_g_sl : Nat → Nat} {x_g_cl : Nat → Nat} {x_nr : Nat}
theorem dX5_look_0 : decode cX5_look 0 = .ok (.aload_n 0, 1) := by decide +kernel
theorem dX5_look_1 : decode cX5_look 1 = .ok (.getfield 26, 3) := by decide +kernel
theorem dX5_look_4 : decode cX5_look 4 = .ok (.aload_n 1, 1) := by decide +kernel
theorem dX5_look_5 : decode cX5_look 5 = .ok (.invokevirtual 30, 3) := by decide +kernel
theorem dX5_look_8 : decode cX5_look 8 = .ok (.aload_n 0, 1) := by decide +kernel
theorem dX5_look_9 : decode cX5_look 9 = .ok (.iload_n 3, 1) := by decide +kernel
theorem dX5_look_10 : decode cX5_look 10 = .ok (.putfield 36, 3) := by decide +kernel
theorem dX5_look_13 : decode cX5_look 13 = .ok (.aload_n 0, 1) := by decide +kernel
theorem dX5_look_14 : decode cX5_look 14 = .ok (.iload_n 2, 1) := by decide +kernel
theorem dX5_look_15 : decode cX5_look 15 = .ok (.putfield 40, 3) := by decide +kernel
theorem dX5_look_18 : decode cX5_look 18 = .ok (.aload_n 0, 1) := by decide +kernel
theorem dX5_look_19 : decode cX5_look 19 = .ok (.iconst 0, 1) := by decide +kernel
theorem dX5_look_20 : decode cX5_look 20 = .ok (.putfield 43, 3) := by decide +kernel
theorem dX5_look_23 : decode cX5_look 23 = .ok (.aload_n 0, 1) := by decide +kernel
theorem dX5_look_24 : decode cX5_look 24 = .ok (.iconst 0, 1) := by decide +kernel
theorem dX5_look_25 : decode cX5_look 25 = .ok (.putfield 46, 3) := by decide +kernel
theorem dX5_look_28 : decode cX5_look 28 = .ok (.aload_n 0, 1) := by decide +kernel
theorem dX5_look_29 : decode cX5_look 29 = .ok (.iconst 0, 1) := by decide +kernel
theorem dX5_look_30 : decode cX5_look 30 = .ok (.putfield 49, 3) := by decide +kernel
theorem dX5_look_33 : decode cX5_look 33 = .ok (.aload_n 0, 1) := by decide +kernel
theorem dX5_look_34 : decode cX5_look 34 = .ok (.bipush (-3), 2) := by decide +kernel
theorem dX5_look_36 : decode cX5_look 36 = .ok (.putfield 52, 3) := by decide +kernel
theorem dX5_look_39 : decode cX5_look 39 = .ok (.aload_n 0, 1) := by decide +kernel
theorem dX5_look_40 : decode cX5_look 40 = .ok (.iconst 0, 1) := by decide +kernel
theorem dX5_look_41 : decode cX5_look 41 = .ok (.putfield 55, 3) := by decide +kernel
theorem dX5_look_44 : decode cX5_look 44 = .ok (.aload_n 0, 1) := by decide +kernel
theorem dX5_look_45 : decode cX5_look 45 = .ok (.iconst 0, 1) := by decide +kernel
theorem dX5_look_46 : decode cX5_look 46 = .ok (.iconst 0, 1) := by decide +kernel
theorem dX5_look_47 : decode cX5_look 47 = .ok (.iconst 0, 1) := by decide +kernel
theorem dX5_look_48 : decode cX5_look 48 = .ok (.invokevirtual 58, 3) := by decide +kernel
theorem dX5_look_51 : decode cX5_look 51 = .ok (.return_, 1) := by decide +kernel
theorem k_X5_look : MV yX5_look cX5_look 4 none 3 := ⟨q_777, q_778, q_13, q_779, ⟨by decide, by decide, by decide +kernel⟩⟩
theorem c_X5_look_oq0 {v2 : Int32} {v3 : Int32} {res : (Nat → Nat → Int32) × (Nat → Nat → Int32) × (Nat → Int32) × (Nat → Nat → Int32) × Int32 × Int32 × Int32 × Int32 × Int32 × Int32 × Nat × (Nat → Int32) × (Nat → Int32) × (Nat → Int32) × Int32 × Int32 × Int32 × Int32 × Int32 × (Nat → Int32) × (Nat → Nat → Int32) × Int32 × Int32 × (Nat → Nat → Int32)} (hf : X5_look_oq0 n x_q0_dials x_q0_spots x_q0_skies x_q0_reports x_q0_count x_q0_chime x_q0_end x_q0_score x_q0_reportCount x_q0_z x_q0_rules x_q2_dials x_q2_spots x_q2_skies x_q2_reports x_q2_shades x_q2_facts x_p_first x_p_acts x_p_marks x_g_count x_g_kinds x_g_wills x_g_starts x_g_code x_g_stack x_g_kl x_g_wl x_g_sl x_g_cl x_nr v2 v3 = some res) : MC l E0 D t yX5_look cX5_look 4 none 31 0 0 [.ref (a 84), .ref (a 1), .int v2, .int v3] (cW a ar t x_q0_dials x_q0_spots x_q0_skies x_q0_reports x_q0_count x_q0_chime x_q0_end x_q0_score x_q0_reportCount x_q0_z x_q0_rules x_q0_shades x_q0_facts x_q1_dials x_q1_spots x_q1_skies x_q1_reports x_q1_count x_q1_chime x_q1_end x_q1_score x_q1_reportCount x_q1_z x_q1_rules x_q1_shades x_q1_facts x_q2_dials x_q2_spots x_q2_skies x_q2_reports x_q2_count x_q2_chime x_q2_end x_q2_score x_q2_reportCount x_q2_z x_q2_rules x_q2_shades x_q2_facts x_isKept x_marks x_p_first x_p_steps x_p_most x_p_many x_p_fewest x_p_everRight x_p_opening x_p_rows x_p_rowCount x_p_acts x_p_marks x_p_deepest x_p_wanted x_t_length x_t_tape x_t_words x_t_places x_t_at x_t_kinds x_t_wills x_t_starts x_t_code x_t_count x_t_size x_h_sorts x_h_lengths x_h_items x_h_held x_h_things x_h_sizes x_h_bodies x_h_traced x_h_number x_h_spot x_h_parted x_g_count x_g_kinds x_g_wills x_g_starts x_g_code x_g_stack x_g_kl x_g_wl x_g_sl x_g_cl x_nr) (Qn (cW a ar t x_q0_dials x_q0_spots x_q0_skies x_q0_reports x_q0_count x_q0_chime x_q0_end x_q0_score x_q0_reportCount x_q0_z x_q0_rules x_q0_shades x_q0_facts x_q1_dials x_q1_spots x_q1_skies x_q1_reports x_q1_count x_q1_chime x_q1_end x_q1_score x_q1_reportCount x_q1_z x_q1_rules x_q1_shades x_q1_facts res.1 res.2.1 res.2.2.1 res.2.2.2.1 res.2.2.2.2.1 res.2.2.2.2.2.1 res.2.2.2.2.2.2.1 res.2.2.2.2.2.2.2.1 res.2.2.2.2.2.2.2.2.1 res.2.2.2.2.2.2.2.2.2.1 res.2.2.2.2.2.2.2.2.2.2.1 res.2.2.2.2.2.2.2.2.2.2.2.1 res.2.2.2.2.2.2.2.2.2.2.2.2.1 x_isKept x_marks res.2.2.2.2.2.2.2.2.2.2.2.2.2.1 res.2.2.2.2.2.2.2.2.2.2.2.2.2.2.1 res.2.2.2.2.2.2.2.2.2.2.2.2.2.2.2.1 res.2.2.2.2.2.2.2.2.2.2.2.2.2.2.2.2.1 res.2.2.2.2.2.2.2.2.2.2.2.2.2.2.2.2.2.1 res.2.2.2.2.2.2.2.2.2.2.2.2.2.2.2.2.2.2.1 x_p_opening x_p_rows x_p_rowCount res.2.2.2.2.2.2.2.2.2.2.2.2.2.2.2.2.2.2.2.1 res.2.2.2.2.2.2.2.2.2.2.2.2.2.2.2.2.2.2.2.2.1 res.2.2.2.2.2.2.2.2.2.2.2.2.2.2.2.2.2.2.2.2.2.1 res.2.2.2.2.2.2.2.2.2.2.2.2.2.2.2.2.2.2.2.2.2.2.1 x_t_length x_t_tape x_t_words x_t_places x_t_at x_t_kinds x_t_wills x_t_starts x_t_code x_t_count x_t_size x_h_sorts x_h_lengths x_h_items x_h_held x_h_things x_h_sizes x_h_bodies x_h_traced x_h_number x_h_spot x_h_parted x_g_count x_g_kinds x_g_wills x_g_starts x_g_code res.2.2.2.2.2.2.2.2.2.2.2.2.2.2.2.2.2.2.2.2.2.2.2 x_g_kl x_g_wl x_g_sl x_g_cl x_nr)) := by
  unfold X5_look_oq0 at hf
  refine MC.ofV pn_X5 (Nat.le_of_ble_eq_true rfl) ?_
  intro p e s m args below meth c A Q ls cx hR hw hl
  have hx := cx.1
  have hb := cx.2.1
  have hl : lv_has ls 4 [(0, .ref (a 84)), (1, .ref (a 1)), (2, .int v2), (3, .int v3)] := hl
  refine lv_aload_n hx hb dX5_look_0 rfl (lv_at hl 0 rfl) ?_
  refine cg_X5_26_plans cx hw dX5_look_1 ?_
  refine lv_aload_n hx hb dX5_look_4 rfl (lv_at hl 1 rfl) ?_
  obtain ⟨r1, h2, hf⟩ := bnS hf
  refine calVv cx hw hl.1 (c_X9_copyFrom_q2_oq0 h2) q_780 k_X9_copyFrom rfl rv_q2 rfl dX5_look_5 rfl (Nat.le_of_ble_eq_true rfl) ⟨Nat.le_of_ble_eq_true rfl, Nat.le_of_ble_eq_true rfl⟩ ⟨Nat.le_refl _, Nat.le_refl _⟩ (fun H locs hw => ?_)
  refine lv_aload_n hx hb dX5_look_8 rfl (lv_at hl 0 rfl) ?_
  refine lv_iload_n hx hb dX5_look_9 rfl (lv_at hl 3 rfl) ?_
  refine cp_X5_36_plans cx hw dX5_look_10 (fun H locs hw => ?_)
  refine lv_aload_n hx hb dX5_look_13 rfl (lv_at hl 0 rfl) ?_
  refine lv_iload_n hx hb dX5_look_14 rfl (lv_at hl 2 rfl) ?_
  refine cp_X5_40_plans cx hw dX5_look_15 (fun H locs hw => ?_)
  refine lv_aload_n hx hb dX5_look_18 rfl (lv_at hl 0 rfl) ?_
  refine lv_iconst (v := 0) hx hb dX5_look_19 (by decide) ?_
  refine cp_X5_43_plans cx hw dX5_look_20 (fun H locs hw => ?_)
  refine lv_aload_n hx hb dX5_look_23 rfl (lv_at hl 0 rfl) ?_
  refine lv_iconst (v := 0) hx hb dX5_look_24 (by decide) ?_
  refine cp_X5_46_plans cx hw dX5_look_25 (fun H locs hw => ?_)
  refine lv_aload_n hx hb dX5_look_28 rfl (lv_at hl 0 rfl) ?_
  refine lv_iconst (v := 0) hx hb dX5_look_29 (by decide) ?_
  refine cp_X5_49_plans cx hw dX5_look_30 (fun H locs hw => ?_)
  refine lv_aload_n hx hb dX5_look_33 rfl (lv_at hl 0 rfl) ?_
  refine lv_bipush (v := (-3)) hx hb dX5_look_34 (by decide) ?_
  refine cp_X5_52_plans cx hw dX5_look_36 (fun H locs hw => ?_)
  refine lv_aload_n hx hb dX5_look_39 rfl (lv_at hl 0 rfl) ?_
  refine lv_iconst (v := 0) hx hb dX5_look_40 (by decide) ?_
  refine cp_X5_55_plans cx hw dX5_look_41 (fun H locs hw => ?_)
  refine lv_aload_n hx hb dX5_look_44 rfl (lv_at hl 0 rfl) ?_
  refine lv_iconst (v := 0) hx hb dX5_look_45 (by decide) ?_
  refine lv_iconst (v := 0) hx hb dX5_look_46 (by decide) ?_
  refine lv_iconst (v := 0) hx hb dX5_look_47 (by decide) ?_
  obtain ⟨r3, h4, hf⟩ := bnS hf
  refine calVv cx hw hl.1 (c_X5_explore h4) q_781 k_X5_explore rfl rv_plans rfl dX5_look_48 rfl (Nat.le_of_ble_eq_true rfl) ⟨Nat.le_of_ble_eq_true rfl, Nat.le_of_ble_eq_true rfl⟩ ⟨Nat.le_refl _, Nat.le_refl _⟩ (fun H locs hw => ?_)
  have hf := Option.some.inj hf
  subst hf
  exact hR _ _ _ _ _ hw ⟨rfl, rfl⟩ dX5_look_51
theorem dX11_best_0 : decode cX11_best 0 = .ok (.iload_n 1, 1) := by decide +kernel
theorem dX11_best_1 : decode cX11_best 1 = .ok (.iconst 0, 1) := by decide +kernel
theorem dX11_best_2 : decode cX11_best 2 = .ok (.iconst 4, 1) := by decide +kernel
theorem dX11_best_3 : decode cX11_best 3 = .ok (.invokestatic 74, 3) := by decide +kernel
theorem dX11_best_6 : decode cX11_best 6 = .ok (.ifCond .ne 5, 3) := by decide +kernel
theorem dX11_best_9 : decode cX11_best 9 = .ok (.iconst (-1), 1) := by decide +kernel
theorem dX11_best_10 : decode cX11_best 10 = .ok (.ireturn, 1) := by decide +kernel
theorem dX11_best_11 : decode cX11_best 11 = .ok (.aload_n 0, 1) := by decide +kernel
theorem dX11_best_12 : decode cX11_best 12 = .ok (.getfield 70, 3) := by decide +kernel
theorem dX11_best_15 : decode cX11_best 15 = .ok (.aload_n 0, 1) := by decide +kernel
theorem dX11_best_16 : decode cX11_best 16 = .ok (.getfield 55, 3) := by decide +kernel
theorem dX11_best_19 : decode cX11_best 19 = .ok (.iload_n 1, 1) := by decide +kernel
theorem dX11_best_20 : decode cX11_best 20 = .ok (.iconst 0, 1) := by decide +kernel
theorem dX11_best_21 : decode cX11_best 21 = .ok (.invokevirtual 208, 3) := by decide +kernel
theorem dX11_best_24 : decode cX11_best 24 = .ok (.aload_n 0, 1) := by decide +kernel
theorem dX11_best_25 : decode cX11_best 25 = .ok (.getfield 70, 3) := by decide +kernel
theorem dX11_best_28 : decode cX11_best 28 = .ok (.getfield 212, 3) := by decide +kernel
theorem dX11_best_31 : decode cX11_best 31 = .ok (.ireturn, 1) := by decide +kernel
theorem k_X11_best : MV yX11_best cX11_best 2 (some .int) 1 := ⟨q_773, q_774, q_1, q_775, ⟨by decide, by decide, by decide +kernel⟩⟩
theorem c_X11_best {v1 : Int32} {res : Int32 × (Nat → Nat → Int32) × (Nat → Nat → Int32) × (Nat → Int32) × (Nat → Nat → Int32) × Int32 × Int32 × Int32 × Int32 × Int32 × Int32 × Nat × (Nat → Int32) × (Nat → Int32) × (Nat → Int32) × Int32 × Int32 × Int32 × Int32 × Int32 × (Nat → Int32) × (Nat → Nat → Int32) × Int32 × Int32 × (Nat → Nat → Int32)} (hf : X11_best n x_q0_dials x_q0_spots x_q0_skies x_q0_reports x_q0_count x_q0_chime x_q0_end x_q0_score x_q0_reportCount x_q0_z x_q0_rules x_q2_dials x_q2_spots x_q2_skies x_q2_reports x_q2_count x_q2_chime x_q2_end x_q2_score x_q2_reportCount x_q2_z x_q2_rules x_q2_shades x_q2_facts x_p_first x_p_steps x_p_most x_p_many x_p_fewest x_p_everRight x_p_acts x_p_marks x_p_deepest x_p_wanted x_g_count x_g_kinds x_g_wills x_g_starts x_g_code x_g_stack x_g_kl x_g_wl x_g_sl x_g_cl x_nr v1 = some res) : MC l E0 D t yX11_best cX11_best 2 (some .int) 32 0 0 [.ref (a 0), .int v1] (cW a ar t x_q0_dials x_q0_spots x_q0_skies x_q0_reports x_q0_count x_q0_chime x_q0_end x_q0_score x_q0_reportCount x_q0_z x_q0_rules x_q0_shades x_q0_facts x_q1_dials x_q1_spots x_q1_skies x_q1_reports x_q1_count x_q1_chime x_q1_end x_q1_score x_q1_reportCount x_q1_z x_q1_rules x_q1_shades x_q1_facts x_q2_dials x_q2_spots x_q2_skies x_q2_reports x_q2_count x_q2_chime x_q2_end x_q2_score x_q2_reportCount x_q2_z x_q2_rules x_q2_shades x_q2_facts x_isKept x_marks x_p_first x_p_steps x_p_most x_p_many x_p_fewest x_p_everRight x_p_opening x_p_rows x_p_rowCount x_p_acts x_p_marks x_p_deepest x_p_wanted x_t_length x_t_tape x_t_words x_t_places x_t_at x_t_kinds x_t_wills x_t_starts x_t_code x_t_count x_t_size x_h_sorts x_h_lengths x_h_items x_h_held x_h_things x_h_sizes x_h_bodies x_h_traced x_h_number x_h_spot x_h_parted x_g_count x_g_kinds x_g_wills x_g_starts x_g_code x_g_stack x_g_kl x_g_wl x_g_sl x_g_cl x_nr) (Qi res.1 (cW a ar t x_q0_dials x_q0_spots x_q0_skies x_q0_reports x_q0_count x_q0_chime x_q0_end x_q0_score x_q0_reportCount x_q0_z x_q0_rules x_q0_shades x_q0_facts x_q1_dials x_q1_spots x_q1_skies x_q1_reports x_q1_count x_q1_chime x_q1_end x_q1_score x_q1_reportCount x_q1_z x_q1_rules x_q1_shades x_q1_facts res.2.1 res.2.2.1 res.2.2.2.1 res.2.2.2.2.1 res.2.2.2.2.2.1 res.2.2.2.2.2.2.1 res.2.2.2.2.2.2.2.1 res.2.2.2.2.2.2.2.2.1 res.2.2.2.2.2.2.2.2.2.1 res.2.2.2.2.2.2.2.2.2.2.1 res.2.2.2.2.2.2.2.2.2.2.2.1 res.2.2.2.2.2.2.2.2.2.2.2.2.1 res.2.2.2.2.2.2.2.2.2.2.2.2.2.1 x_isKept x_marks res.2.2.2.2.2.2.2.2.2.2.2.2.2.2.1 res.2.2.2.2.2.2.2.2.2.2.2.2.2.2.2.1 res.2.2.2.2.2.2.2.2.2.2.2.2.2.2.2.2.1 res.2.2.2.2.2.2.2.2.2.2.2.2.2.2.2.2.2.1 res.2.2.2.2.2.2.2.2.2.2.2.2.2.2.2.2.2.2.1 res.2.2.2.2.2.2.2.2.2.2.2.2.2.2.2.2.2.2.2.1 x_p_opening x_p_rows x_p_rowCount res.2.2.2.2.2.2.2.2.2.2.2.2.2.2.2.2.2.2.2.2.1 res.2.2.2.2.2.2.2.2.2.2.2.2.2.2.2.2.2.2.2.2.2.1 res.2.2.2.2.2.2.2.2.2.2.2.2.2.2.2.2.2.2.2.2.2.2.1 res.2.2.2.2.2.2.2.2.2.2.2.2.2.2.2.2.2.2.2.2.2.2.2.1 x_t_length x_t_tape x_t_words x_t_places x_t_at x_t_kinds x_t_wills x_t_starts x_t_code x_t_count x_t_size x_h_sorts x_h_lengths x_h_items x_h_held x_h_things x_h_sizes x_h_bodies x_h_traced x_h_number x_h_spot x_h_parted x_g_count x_g_kinds x_g_wills x_g_starts x_g_code res.2.2.2.2.2.2.2.2.2.2.2.2.2.2.2.2.2.2.2.2.2.2.2.2 x_g_kl x_g_wl x_g_sl x_g_cl x_nr)) := by
  unfold X11_best at hf
  refine MC.ofI pn_X11 (Nat.le_of_ble_eq_true rfl) ?_
  intro p e s m args below meth c A Q ls cx hR hw hl
  have hx := cx.1
  have hb := cx.2.1
  have hl : lv_has ls 2 [(0, .ref (a 0)), (1, .int v1)] := hl
  refine lv_iload_n hx hb dX11_best_0 rfl (lv_at hl 1 rfl) ?_
  refine lv_iconst (v := 0) hx hb dX11_best_1 (by decide) ?_
  refine lv_iconst (v := 4) hx hb dX11_best_2 (by decide) ?_
  refine calSi cx hw hl.1 (c_X11_isIn rfl) q_350 k_X11_isIn rfl dX11_best_3 rfl (Nat.le_of_ble_eq_true rfl) ⟨Nat.le_of_ble_eq_true rfl, Nat.le_of_ble_eq_true rfl⟩ ⟨Nat.le_refl _, Nat.le_refl _⟩ (fun H locs hw => ?_)
  refine lv_if_ne (tgt := 11) hx hb dX11_best_6 (by decide) (fun hc => ?_) (fun hc => ?_)
  · have hf := ifF hf hc
    refine lv_aload_n hx hb dX11_best_11 rfl (lv_at hl 0 rfl) ?_
    refine cg_X11_70_ds cx hw dX11_best_12 ?_
    refine lv_aload_n hx hb dX11_best_15 rfl (lv_at hl 0 rfl) ?_
    refine cg_X11_55_ds cx hw dX11_best_16 ?_
    refine lv_iload_n hx hb dX11_best_19 rfl (lv_at hl 1 rfl) ?_
    refine lv_iconst (v := 0) hx hb dX11_best_20 (by decide) ?_
    obtain ⟨r1, h2, hf⟩ := bnS hf
    refine calVv cx hw hl.1 (c_X5_look_oq0 h2) q_776 k_X5_look rfl rv_plans rfl dX11_best_21 rfl (Nat.le_of_ble_eq_true rfl) ⟨Nat.le_of_ble_eq_true rfl, Nat.le_of_ble_eq_true rfl⟩ ⟨Nat.le_refl _, Nat.le_refl _⟩ (fun H locs hw => ?_)
    refine lv_aload_n hx hb dX11_best_24 rfl (lv_at hl 0 rfl) ?_
    refine cg_X11_70_ds cx hw dX11_best_25 ?_
    refine cg_X11_212_plans cx hw dX11_best_28 ?_
    have hf := Option.some.inj hf
    subst hf
    exact hR _ _ _ _ _ _ hw rfl ⟨rfl, rfl⟩ dX11_best_31
  · have hf := ifT hf hc
    refine lv_iconst (v := (-1)) hx hb dX11_best_9 (by decide) ?_
    have hf := Option.some.inj hf
    subst hf
    exact hR _ _ _ _ _ _ hw rfl ⟨rfl, rfl⟩ dX11_best_10
theorem dX11_ith_0 : decode cX11_ith 0 = .ok (.iload_n 1, 1) := by decide +kernel
theorem dX11_ith_1 : decode cX11_ith 1 = .ok (.iconst 0, 1) := by decide +kernel
theorem dX11_ith_2 : decode cX11_ith 2 = .ok (.iconst 4, 1) := by decide +kernel
theorem dX11_ith_3 : decode cX11_ith 3 = .ok (.invokestatic 74, 3) := by decide +kernel
theorem dX11_ith_6 : decode cX11_ith 6 = .ok (.ifCond .eq 12, 3) := by decide +kernel
theorem dX11_ith_9 : decode cX11_ith 9 = .ok (.iload_n 2, 1) := by decide +kernel
theorem dX11_ith_10 : decode cX11_ith 10 = .ok (.iconst 0, 1) := by decide +kernel
theorem dX11_ith_11 : decode cX11_ith 11 = .ok (.iconst 3, 1) := by decide +kernel
theorem dX11_ith_12 : decode cX11_ith 12 = .ok (.invokestatic 74, 3) := by decide +kernel
theorem dX11_ith_15 : decode cX11_ith 15 = .ok (.ifCond .ne 5, 3) := by decide +kernel
theorem dX11_ith_18 : decode cX11_ith 18 = .ok (.iconst (-1), 1) := by decide +kernel
theorem dX11_ith_19 : decode cX11_ith 19 = .ok (.ireturn, 1) := by decide +kernel
theorem dX11_ith_20 : decode cX11_ith 20 = .ok (.aload_n 0, 1) := by decide +kernel
theorem dX11_ith_21 : decode cX11_ith 21 = .ok (.getfield 70, 3) := by decide +kernel
theorem dX11_ith_24 : decode cX11_ith 24 = .ok (.aload_n 0, 1) := by decide +kernel
theorem dX11_ith_25 : decode cX11_ith 25 = .ok (.getfield 55, 3) := by decide +kernel
theorem dX11_ith_28 : decode cX11_ith 28 = .ok (.iload_n 1, 1) := by decide +kernel
theorem dX11_ith_29 : decode cX11_ith 29 = .ok (.iconst 0, 1) := by decide +kernel
theorem dX11_ith_30 : decode cX11_ith 30 = .ok (.invokevirtual 208, 3) := by decide +kernel
theorem dX11_ith_33 : decode cX11_ith 33 = .ok (.iload_n 2, 1) := by decide +kernel
theorem dX11_ith_34 : decode cX11_ith 34 = .ok (.aload_n 0, 1) := by decide +kernel
theorem dX11_ith_35 : decode cX11_ith 35 = .ok (.getfield 70, 3) := by decide +kernel
theorem dX11_ith_38 : decode cX11_ith 38 = .ok (.getfield 215, 3) := by decide +kernel
theorem dX11_ith_41 : decode cX11_ith 41 = .ok (.if_icmp .ge 15, 3) := by decide +kernel
theorem dX11_ith_44 : decode cX11_ith 44 = .ok (.aload_n 0, 1) := by decide +kernel
theorem dX11_ith_45 : decode cX11_ith 45 = .ok (.getfield 70, 3) := by decide +kernel
theorem dX11_ith_48 : decode cX11_ith 48 = .ok (.getfield 218, 3) := by decide +kernel
theorem dX11_ith_51 : decode cX11_ith 51 = .ok (.iload_n 2, 1) := by decide +kernel
theorem dX11_ith_52 : decode cX11_ith 52 = .ok (.iaload, 1) := by decide +kernel
theorem dX11_ith_53 : decode cX11_ith 53 = .ok (.goto 5, 3) := by decide +kernel
theorem dX11_ith_56 : decode cX11_ith 56 = .ok (.bipush (-3), 2) := by decide +kernel
theorem dX11_ith_58 : decode cX11_ith 58 = .ok (.ireturn, 1) := by decide +kernel
theorem k_X11_ith : MV yX11_ith cX11_ith 3 (some .int) 2 := ⟨q_796, q_797, q_1, q_798, ⟨by decide, by decide, by decide +kernel⟩⟩
theorem c_X11_ith {v1 : Int32} {v2 : Int32} {res : Int32 × (Nat → Nat → Int32) × (Nat → Nat → Int32) × (Nat → Int32) × (Nat → Nat → Int32) × Int32 × Int32 × Int32 × Int32 × Int32 × Int32 × Nat × (Nat → Int32) × (Nat → Int32) × (Nat → Int32) × Int32 × Int32 × Int32 × Int32 × Int32 × (Nat → Int32) × (Nat → Nat → Int32) × Int32 × Int32 × (Nat → Nat → Int32)} (hf : X11_ith n x_q0_dials x_q0_spots x_q0_skies x_q0_reports x_q0_count x_q0_chime x_q0_end x_q0_score x_q0_reportCount x_q0_z x_q0_rules x_q2_dials x_q2_spots x_q2_skies x_q2_reports x_q2_count x_q2_chime x_q2_end x_q2_score x_q2_reportCount x_q2_z x_q2_rules x_q2_shades x_q2_facts x_p_first x_p_steps x_p_most x_p_many x_p_fewest x_p_everRight x_p_acts x_p_marks x_p_deepest x_p_wanted x_g_count x_g_kinds x_g_wills x_g_starts x_g_code x_g_stack x_g_kl x_g_wl x_g_sl x_g_cl x_nr v1 v2 = some res) : MC l E0 D t yX11_ith cX11_ith 3 (some .int) 32 0 0 [.ref (a 0), .int v1, .int v2] (cW a ar t x_q0_dials x_q0_spots x_q0_skies x_q0_reports x_q0_count x_q0_chime x_q0_end x_q0_score x_q0_reportCount x_q0_z x_q0_rules x_q0_shades x_q0_facts x_q1_dials x_q1_spots x_q1_skies x_q1_reports x_q1_count x_q1_chime x_q1_end x_q1_score x_q1_reportCount x_q1_z x_q1_rules x_q1_shades x_q1_facts x_q2_dials x_q2_spots x_q2_skies x_q2_reports x_q2_count x_q2_chime x_q2_end x_q2_score x_q2_reportCount x_q2_z x_q2_rules x_q2_shades x_q2_facts x_isKept x_marks x_p_first x_p_steps x_p_most x_p_many x_p_fewest x_p_everRight x_p_opening x_p_rows x_p_rowCount x_p_acts x_p_marks x_p_deepest x_p_wanted x_t_length x_t_tape x_t_words x_t_places x_t_at x_t_kinds x_t_wills x_t_starts x_t_code x_t_count x_t_size x_h_sorts x_h_lengths x_h_items x_h_held x_h_things x_h_sizes x_h_bodies x_h_traced x_h_number x_h_spot x_h_parted x_g_count x_g_kinds x_g_wills x_g_starts x_g_code x_g_stack x_g_kl x_g_wl x_g_sl x_g_cl x_nr) (Qi res.1 (cW a ar t x_q0_dials x_q0_spots x_q0_skies x_q0_reports x_q0_count x_q0_chime x_q0_end x_q0_score x_q0_reportCount x_q0_z x_q0_rules x_q0_shades x_q0_facts x_q1_dials x_q1_spots x_q1_skies x_q1_reports x_q1_count x_q1_chime x_q1_end x_q1_score x_q1_reportCount x_q1_z x_q1_rules x_q1_shades x_q1_facts res.2.1 res.2.2.1 res.2.2.2.1 res.2.2.2.2.1 res.2.2.2.2.2.1 res.2.2.2.2.2.2.1 res.2.2.2.2.2.2.2.1 res.2.2.2.2.2.2.2.2.1 res.2.2.2.2.2.2.2.2.2.1 res.2.2.2.2.2.2.2.2.2.2.1 res.2.2.2.2.2.2.2.2.2.2.2.1 res.2.2.2.2.2.2.2.2.2.2.2.2.1 res.2.2.2.2.2.2.2.2.2.2.2.2.2.1 x_isKept x_marks res.2.2.2.2.2.2.2.2.2.2.2.2.2.2.1 res.2.2.2.2.2.2.2.2.2.2.2.2.2.2.2.1 res.2.2.2.2.2.2.2.2.2.2.2.2.2.2.2.2.1 res.2.2.2.2.2.2.2.2.2.2.2.2.2.2.2.2.2.1 res.2.2.2.2.2.2.2.2.2.2.2.2.2.2.2.2.2.2.1 res.2.2.2.2.2.2.2.2.2.2.2.2.2.2.2.2.2.2.2.1 x_p_opening x_p_rows x_p_rowCount res.2.2.2.2.2.2.2.2.2.2.2.2.2.2.2.2.2.2.2.2.1 res.2.2.2.2.2.2.2.2.2.2.2.2.2.2.2.2.2.2.2.2.2.1 res.2.2.2.2.2.2.2.2.2.2.2.2.2.2.2.2.2.2.2.2.2.2.1 res.2.2.2.2.2.2.2.2.2.2.2.2.2.2.2.2.2.2.2.2.2.2.2.1 x_t_length x_t_tape x_t_words x_t_places x_t_at x_t_kinds x_t_wills x_t_starts x_t_code x_t_count x_t_size x_h_sorts x_h_lengths x_h_items x_h_held x_h_things x_h_sizes x_h_bodies x_h_traced x_h_number x_h_spot x_h_parted x_g_count x_g_kinds x_g_wills x_g_starts x_g_code res.2.2.2.2.2.2.2.2.2.2.2.2.2.2.2.2.2.2.2.2.2.2.2.2 x_g_kl x_g_wl x_g_sl x_g_cl x_nr)) := by
  unfold X11_ith at hf
  refine MC.ofI pn_X11 (Nat.le_of_ble_eq_true rfl) ?_
  intro p e s m args below meth c A Q ls cx hR hw hl
  have hx := cx.1
  have hb := cx.2.1
  have hl : lv_has ls 3 [(0, .ref (a 0)), (1, .int v1), (2, .int v2)] := hl
  refine lv_iload_n hx hb dX11_ith_0 rfl (lv_at hl 1 rfl) ?_
  refine lv_iconst (v := 0) hx hb dX11_ith_1 (by decide) ?_
  refine lv_iconst (v := 4) hx hb dX11_ith_2 (by decide) ?_
  refine calSi cx hw hl.1 (c_X11_isIn rfl) q_350 k_X11_isIn rfl dX11_ith_3 rfl (Nat.le_of_ble_eq_true rfl) ⟨Nat.le_of_ble_eq_true rfl, Nat.le_of_ble_eq_true rfl⟩ ⟨Nat.le_refl _, Nat.le_refl _⟩ (fun H locs hw => ?_)
  refine lv_if_eq (tgt := 18) hx hb dX11_ith_6 (by decide) (fun hc => ?_) (fun hc => ?_)
  · have hf := ifT hf hc
    refine lv_iconst (v := (-1)) hx hb dX11_ith_18 (by decide) ?_
    have hf := Option.some.inj hf
    subst hf
    exact hR _ _ _ _ _ _ hw rfl ⟨rfl, rfl⟩ dX11_ith_19
  · have hf := ifF hf hc
    refine lv_iload_n hx hb dX11_ith_9 rfl (lv_at hl 2 rfl) ?_
    refine lv_iconst (v := 0) hx hb dX11_ith_10 (by decide) ?_
    refine lv_iconst (v := 3) hx hb dX11_ith_11 (by decide) ?_
    refine calSi cx hw hl.1 (c_X11_isIn rfl) q_350 k_X11_isIn rfl dX11_ith_12 rfl (Nat.le_of_ble_eq_true rfl) ⟨Nat.le_of_ble_eq_true rfl, Nat.le_of_ble_eq_true rfl⟩ ⟨Nat.le_refl _, Nat.le_refl _⟩ (fun H locs hw => ?_)
    refine lv_if_ne (tgt := 20) hx hb dX11_ith_15 (by decide) (fun hc => ?_) (fun hc => ?_)
    · have hf := ifF hf hc
      refine lv_aload_n hx hb dX11_ith_20 rfl (lv_at hl 0 rfl) ?_
      refine cg_X11_70_ds cx hw dX11_ith_21 ?_
      refine lv_aload_n hx hb dX11_ith_24 rfl (lv_at hl 0 rfl) ?_
      refine cg_X11_55_ds cx hw dX11_ith_25 ?_
      refine lv_iload_n hx hb dX11_ith_28 rfl (lv_at hl 1 rfl) ?_
      refine lv_iconst (v := 0) hx hb dX11_ith_29 (by decide) ?_
      obtain ⟨r1, h2, hf⟩ := bnS hf
      refine calVv cx hw hl.1 (c_X5_look_oq0 h2) q_776 k_X5_look rfl rv_plans rfl dX11_ith_30 rfl (Nat.le_of_ble_eq_true rfl) ⟨Nat.le_of_ble_eq_true rfl, Nat.le_of_ble_eq_true rfl⟩ ⟨Nat.le_refl _, Nat.le_refl _⟩ (fun H locs hw => ?_)
      refine lv_iload_n hx hb dX11_ith_33 rfl (lv_at hl 2 rfl) ?_
      refine lv_aload_n hx hb dX11_ith_34 rfl (lv_at hl 0 rfl) ?_
      refine cg_X11_70_ds cx hw dX11_ith_35 ?_
      refine cg_X11_215_plans cx hw dX11_ith_38 ?_
      refine lv_icmp_ge (tgt := 56) hx hb dX11_ith_41 (by decide) (fun hc => ?_) (fun hc => ?_)
      · have hf := ifT hf hc
        refine lv_bipush (v := (-3)) hx hb dX11_ith_56 (by decide) ?_
        have hf := Option.some.inj hf
        subst hf
        exact hR _ _ _ _ _ _ hw rfl ⟨rfl, rfl⟩ dX11_ith_58
      · have hf := ifF hf hc
        refine lv_aload_n hx hb dX11_ith_44 rfl (lv_at hl 0 rfl) ?_
        refine cg_X11_70_ds cx hw dX11_ith_45 ?_
        refine cg_X11_218_plans cx hw dX11_ith_48 ?_
        refine lv_iload_n hx hb dX11_ith_51 rfl (lv_at hl 2 rfl) ?_
        obtain ⟨h3, hf⟩ := ckS hf
        refine cl_p_first (j := v2.toNatClampNeg) cx hw (ib_in h3) rfl dX11_ith_52 ?_
        refine lv_goto (tgt := 58) hx hb dX11_ith_53 (by decide) ?_
        have hf := Option.some.inj hf
        subst hf
        exact hR _ _ _ _ _ _ hw rfl ⟨rfl, rfl⟩ dX11_ith_58
    · have hf := ifT hf hc
      refine lv_iconst (v := (-1)) hx hb dX11_ith_18 (by decide) ?_
      have hf := Option.some.inj hf
      subst hf
      exact hR _ _ _ _ _ _ hw rfl ⟨rfl, rfl⟩ dX11_ith_19
theorem dX11_ways_0 : decode cX11_ways 0 = .ok (.iload_n 1, 1) := by decide +kernel
theorem dX11_ways_1 : decode cX11_ways 1 = .ok (.iconst 0, 1) := by decide +kernel
theorem dX11_ways_2 : decode cX11_ways 2 = .ok (.iconst 4, 1) := by decide +kernel
theorem dX11_ways_3 : decode cX11_ways 3 = .ok (.invokestatic 74, 3) := by decide +kernel
theorem dX11_ways_6 : decode cX11_ways 6 = .ok (.ifCond .ne 5, 3) := by decide +kernel
theorem dX11_ways_9 : decode cX11_ways 9 = .ok (.iconst (-1), 1) := by decide +kernel
theorem dX11_ways_10 : decode cX11_ways 10 = .ok (.ireturn, 1) := by decide +kernel
theorem dX11_ways_11 : decode cX11_ways 11 = .ok (.aload_n 0, 1) := by decide +kernel
theorem dX11_ways_12 : decode cX11_ways 12 = .ok (.getfield 70, 3) := by decide +kernel
theorem dX11_ways_15 : decode cX11_ways 15 = .ok (.aload_n 0, 1) := by decide +kernel
theorem dX11_ways_16 : decode cX11_ways 16 = .ok (.getfield 55, 3) := by decide +kernel
theorem dX11_ways_19 : decode cX11_ways 19 = .ok (.iload_n 1, 1) := by decide +kernel
theorem dX11_ways_20 : decode cX11_ways 20 = .ok (.iconst 0, 1) := by decide +kernel
theorem dX11_ways_21 : decode cX11_ways 21 = .ok (.invokevirtual 208, 3) := by decide +kernel
theorem dX11_ways_24 : decode cX11_ways 24 = .ok (.aload_n 0, 1) := by decide +kernel
theorem dX11_ways_25 : decode cX11_ways 25 = .ok (.getfield 70, 3) := by decide +kernel
theorem dX11_ways_28 : decode cX11_ways 28 = .ok (.getfield 221, 3) := by decide +kernel
theorem dX11_ways_31 : decode cX11_ways 31 = .ok (.ireturn, 1) := by decide +kernel
theorem k_X11_ways : MV yX11_ways cX11_ways 2 (some .int) 1 := ⟨q_800, q_801, q_1, q_802, ⟨by decide, by decide, by decide +kernel⟩⟩
theorem c_X11_ways {v1 : Int32} {res : Int32 × (Nat → Nat → Int32) × (Nat → Nat → Int32) × (Nat → Int32) × (Nat → Nat → Int32) × Int32 × Int32 × Int32 × Int32 × Int32 × Int32 × Nat × (Nat → Int32) × (Nat → Int32) × (Nat → Int32) × Int32 × Int32 × Int32 × Int32 × Int32 × (Nat → Int32) × (Nat → Nat → Int32) × Int32 × Int32 × (Nat → Nat → Int32)} (hf : X11_ways n x_q0_dials x_q0_spots x_q0_skies x_q0_reports x_q0_count x_q0_chime x_q0_end x_q0_score x_q0_reportCount x_q0_z x_q0_rules x_q2_dials x_q2_spots x_q2_skies x_q2_reports x_q2_count x_q2_chime x_q2_end x_q2_score x_q2_reportCount x_q2_z x_q2_rules x_q2_shades x_q2_facts x_p_first x_p_steps x_p_most x_p_many x_p_fewest x_p_everRight x_p_acts x_p_marks x_p_deepest x_p_wanted x_g_count x_g_kinds x_g_wills x_g_starts x_g_code x_g_stack x_g_kl x_g_wl x_g_sl x_g_cl x_nr v1 = some res) : MC l E0 D t yX11_ways cX11_ways 2 (some .int) 32 0 0 [.ref (a 0), .int v1] (cW a ar t x_q0_dials x_q0_spots x_q0_skies x_q0_reports x_q0_count x_q0_chime x_q0_end x_q0_score x_q0_reportCount x_q0_z x_q0_rules x_q0_shades x_q0_facts x_q1_dials x_q1_spots x_q1_skies x_q1_reports x_q1_count x_q1_chime x_q1_end x_q1_score x_q1_reportCount x_q1_z x_q1_rules x_q1_shades x_q1_facts x_q2_dials x_q2_spots x_q2_skies x_q2_reports x_q2_count x_q2_chime x_q2_end x_q2_score x_q2_reportCount x_q2_z x_q2_rules x_q2_shades x_q2_facts x_isKept x_marks x_p_first x_p_steps x_p_most x_p_many x_p_fewest x_p_everRight x_p_opening x_p_rows x_p_rowCount x_p_acts x_p_marks x_p_deepest x_p_wanted x_t_length x_t_tape x_t_words x_t_places x_t_at x_t_kinds x_t_wills x_t_starts x_t_code x_t_count x_t_size x_h_sorts x_h_lengths x_h_items x_h_held x_h_things x_h_sizes x_h_bodies x_h_traced x_h_number x_h_spot x_h_parted x_g_count x_g_kinds x_g_wills x_g_starts x_g_code x_g_stack x_g_kl x_g_wl x_g_sl x_g_cl x_nr) (Qi res.1 (cW a ar t x_q0_dials x_q0_spots x_q0_skies x_q0_reports x_q0_count x_q0_chime x_q0_end x_q0_score x_q0_reportCount x_q0_z x_q0_rules x_q0_shades x_q0_facts x_q1_dials x_q1_spots x_q1_skies x_q1_reports x_q1_count x_q1_chime x_q1_end x_q1_score x_q1_reportCount x_q1_z x_q1_rules x_q1_shades x_q1_facts res.2.1 res.2.2.1 res.2.2.2.1 res.2.2.2.2.1 res.2.2.2.2.2.1 res.2.2.2.2.2.2.1 res.2.2.2.2.2.2.2.1 res.2.2.2.2.2.2.2.2.1 res.2.2.2.2.2.2.2.2.2.1 res.2.2.2.2.2.2.2.2.2.2.1 res.2.2.2.2.2.2.2.2.2.2.2.1 res.2.2.2.2.2.2.2.2.2.2.2.2.1 res.2.2.2.2.2.2.2.2.2.2.2.2.2.1 x_isKept x_marks res.2.2.2.2.2.2.2.2.2.2.2.2.2.2.1 res.2.2.2.2.2.2.2.2.2.2.2.2.2.2.2.1 res.2.2.2.2.2.2.2.2.2.2.2.2.2.2.2.2.1 res.2.2.2.2.2.2.2.2.2.2.2.2.2.2.2.2.2.1 res.2.2.2.2.2.2.2.2.2.2.2.2.2.2.2.2.2.2.1 res.2.2.2.2.2.2.2.2.2.2.2.2.2.2.2.2.2.2.2.1 x_p_opening x_p_rows x_p_rowCount res.2.2.2.2.2.2.2.2.2.2.2.2.2.2.2.2.2.2.2.2.1 res.2.2.2.2.2.2.2.2.2.2.2.2.2.2.2.2.2.2.2.2.2.1 res.2.2.2.2.2.2.2.2.2.2.2.2.2.2.2.2.2.2.2.2.2.2.1 res.2.2.2.2.2.2.2.2.2.2.2.2.2.2.2.2.2.2.2.2.2.2.2.1 x_t_length x_t_tape x_t_words x_t_places x_t_at x_t_kinds x_t_wills x_t_starts x_t_code x_t_count x_t_size x_h_sorts x_h_lengths x_h_items x_h_held x_h_things x_h_sizes x_h_bodies x_h_traced x_h_number x_h_spot x_h_parted x_g_count x_g_kinds x_g_wills x_g_starts x_g_code res.2.2.2.2.2.2.2.2.2.2.2.2.2.2.2.2.2.2.2.2.2.2.2.2 x_g_kl x_g_wl x_g_sl x_g_cl x_nr)) := by
  unfold X11_ways at hf
  refine MC.ofI pn_X11 (Nat.le_of_ble_eq_true rfl) ?_
  intro p e s m args below meth c A Q ls cx hR hw hl
  have hx := cx.1
  have hb := cx.2.1
  have hl : lv_has ls 2 [(0, .ref (a 0)), (1, .int v1)] := hl
  refine lv_iload_n hx hb dX11_ways_0 rfl (lv_at hl 1 rfl) ?_
  refine lv_iconst (v := 0) hx hb dX11_ways_1 (by decide) ?_
  refine lv_iconst (v := 4) hx hb dX11_ways_2 (by decide) ?_
  refine calSi cx hw hl.1 (c_X11_isIn rfl) q_350 k_X11_isIn rfl dX11_ways_3 rfl (Nat.le_of_ble_eq_true rfl) ⟨Nat.le_of_ble_eq_true rfl, Nat.le_of_ble_eq_true rfl⟩ ⟨Nat.le_refl _, Nat.le_refl _⟩ (fun H locs hw => ?_)
  refine lv_if_ne (tgt := 11) hx hb dX11_ways_6 (by decide) (fun hc => ?_) (fun hc => ?_)
  · have hf := ifF hf hc
    refine lv_aload_n hx hb dX11_ways_11 rfl (lv_at hl 0 rfl) ?_
    refine cg_X11_70_ds cx hw dX11_ways_12 ?_
    refine lv_aload_n hx hb dX11_ways_15 rfl (lv_at hl 0 rfl) ?_
    refine cg_X11_55_ds cx hw dX11_ways_16 ?_
    refine lv_iload_n hx hb dX11_ways_19 rfl (lv_at hl 1 rfl) ?_
    refine lv_iconst (v := 0) hx hb dX11_ways_20 (by decide) ?_
    obtain ⟨r1, h2, hf⟩ := bnS hf
    refine calVv cx hw hl.1 (c_X5_look_oq0 h2) q_776 k_X5_look rfl rv_plans rfl dX11_ways_21 rfl (Nat.le_of_ble_eq_true rfl) ⟨Nat.le_of_ble_eq_true rfl, Nat.le_of_ble_eq_true rfl⟩ ⟨Nat.le_refl _, Nat.le_refl _⟩ (fun H locs hw => ?_)
    refine lv_aload_n hx hb dX11_ways_24 rfl (lv_at hl 0 rfl) ?_
    refine cg_X11_70_ds cx hw dX11_ways_25 ?_
    refine cg_X11_221_plans cx hw dX11_ways_28 ?_
    have hf := Option.some.inj hf
    subst hf
    exact hR _ _ _ _ _ _ hw rfl ⟨rfl, rfl⟩ dX11_ways_31
  · have hf := ifT hf hc
    refine lv_iconst (v := (-1)) hx hb dX11_ways_9 (by decide) ?_
    have hf := Option.some.inj hf
    subst hf
    exact hR _ _ _ _ _ _ hw rfl ⟨rfl, rfl⟩ dX11_ways_10
theorem dX11_isSetOfDials_0 : decode cX11_isSetOfDials 0 = .ok (.iload_n 1, 1) := by decide +kernel
theorem dX11_isSetOfDials_1 : decode cX11_isSetOfDials 1 = .ok (.iconst 0, 1) := by decide +kernel
theorem dX11_isSetOfDials_2 : decode cX11_isSetOfDials 2 = .ok (.iconst 1, 1) := by decide +kernel
theorem dX11_isSetOfDials_3 : decode cX11_isSetOfDials 3 = .ok (.aload_n 0, 1) := by decide +kernel
theorem dX11_isSetOfDials_4 : decode cX11_isSetOfDials 4 = .ok (.getfield 55, 3) := by decide +kernel
theorem dX11_isSetOfDials_7 : decode cX11_isSetOfDials 7 = .ok (.getfield 82, 3) := by decide +kernel
theorem dX11_isSetOfDials_10 : decode cX11_isSetOfDials 10 = .ok (.ishl, 1) := by decide +kernel
theorem dX11_isSetOfDials_11 : decode cX11_isSetOfDials 11 = .ok (.iconst 1, 1) := by decide +kernel
theorem dX11_isSetOfDials_12 : decode cX11_isSetOfDials 12 = .ok (.isub, 1) := by decide +kernel
theorem dX11_isSetOfDials_13 : decode cX11_isSetOfDials 13 = .ok (.invokestatic 74, 3) := by decide +kernel
theorem dX11_isSetOfDials_16 : decode cX11_isSetOfDials 16 = .ok (.ireturn, 1) := by decide +kernel
theorem k_X11_isSetOfDials : MV yX11_isSetOfDials cX11_isSetOfDials 2 (some .boolean) 1 := ⟨q_809, qs_25, q_1, q_810, ⟨by decide, by decide, by decide +kernel⟩⟩
theorem c_X11_isSetOfDials {v1 : Int32} {res : Int32} (hf : X11_isSetOfDials x_q0_count v1 = res) : MC l E0 D t yX11_isSetOfDials cX11_isSetOfDials 2 (some .boolean) 2 0 0 [.ref (a 0), .int v1] (cW a ar t x_q0_dials x_q0_spots x_q0_skies x_q0_reports x_q0_count x_q0_chime x_q0_end x_q0_score x_q0_reportCount x_q0_z x_q0_rules x_q0_shades x_q0_facts x_q1_dials x_q1_spots x_q1_skies x_q1_reports x_q1_count x_q1_chime x_q1_end x_q1_score x_q1_reportCount x_q1_z x_q1_rules x_q1_shades x_q1_facts x_q2_dials x_q2_spots x_q2_skies x_q2_reports x_q2_count x_q2_chime x_q2_end x_q2_score x_q2_reportCount x_q2_z x_q2_rules x_q2_shades x_q2_facts x_isKept x_marks x_p_first x_p_steps x_p_most x_p_many x_p_fewest x_p_everRight x_p_opening x_p_rows x_p_rowCount x_p_acts x_p_marks x_p_deepest x_p_wanted x_t_length x_t_tape x_t_words x_t_places x_t_at x_t_kinds x_t_wills x_t_starts x_t_code x_t_count x_t_size x_h_sorts x_h_lengths x_h_items x_h_held x_h_things x_h_sizes x_h_bodies x_h_traced x_h_number x_h_spot x_h_parted x_g_count x_g_kinds x_g_wills x_g_starts x_g_code x_g_stack x_g_kl x_g_wl x_g_sl x_g_cl x_nr) (Qi res (cW a ar t x_q0_dials x_q0_spots x_q0_skies x_q0_reports x_q0_count x_q0_chime x_q0_end x_q0_score x_q0_reportCount x_q0_z x_q0_rules x_q0_shades x_q0_facts x_q1_dials x_q1_spots x_q1_skies x_q1_reports x_q1_count x_q1_chime x_q1_end x_q1_score x_q1_reportCount x_q1_z x_q1_rules x_q1_shades x_q1_facts x_q2_dials x_q2_spots x_q2_skies x_q2_reports x_q2_count x_q2_chime x_q2_end x_q2_score x_q2_reportCount x_q2_z x_q2_rules x_q2_shades x_q2_facts x_isKept x_marks x_p_first x_p_steps x_p_most x_p_many x_p_fewest x_p_everRight x_p_opening x_p_rows x_p_rowCount x_p_acts x_p_marks x_p_deepest x_p_wanted x_t_length x_t_tape x_t_words x_t_places x_t_at x_t_kinds x_t_wills x_t_starts x_t_code x_t_count x_t_size x_h_sorts x_h_lengths x_h_items x_h_held x_h_things x_h_sizes x_h_bodies x_h_traced x_h_number x_h_spot x_h_parted x_g_count x_g_kinds x_g_wills x_g_starts x_g_code x_g_stack x_g_kl x_g_wl x_g_sl x_g_cl x_nr)) := by
  unfold X11_isSetOfDials at hf
  refine MC.ofI pn_X11 (Nat.le_of_ble_eq_true rfl) ?_
  intro p e s m args below meth c A Q ls cx hR hw hl
  have hx := cx.1
  have hb := cx.2.1
  have hl : lv_has ls 2 [(0, .ref (a 0)), (1, .int v1)] := hl
  refine lv_iload_n hx hb dX11_isSetOfDials_0 rfl (lv_at hl 1 rfl) ?_
  refine lv_iconst (v := 0) hx hb dX11_isSetOfDials_1 (by decide) ?_
  refine lv_iconst (v := 1) hx hb dX11_isSetOfDials_2 (by decide) ?_
  refine lv_aload_n hx hb dX11_isSetOfDials_3 rfl (lv_at hl 0 rfl) ?_
  refine cg_X11_55_ds cx hw dX11_isSetOfDials_4 ?_
  refine cg_X11_82_q0 cx hw dX11_isSetOfDials_7 ?_
  refine lv_ishl hx hb dX11_isSetOfDials_10 ?_
  refine lv_iconst (v := 1) hx hb dX11_isSetOfDials_11 (by decide) ?_
  refine lv_isub hx hb dX11_isSetOfDials_12 ?_
  refine calSi cx hw hl.1 (c_X11_isIn rfl) q_350 k_X11_isIn rfl dX11_isSetOfDials_13 rfl (Nat.le_of_ble_eq_true rfl) ⟨Nat.le_of_ble_eq_true rfl, Nat.le_of_ble_eq_true rfl⟩ ⟨Nat.le_refl _, Nat.le_refl _⟩ (fun H locs hw => ?_)
  subst hf
  exact hR _ _ _ _ _ _ hw (nb (b_X11_isIn _ _ _)) ⟨rfl, rfl⟩ dX11_isSetOfDials_16
theorem b_X11_isSetOfDials (x_q0_count : Int32) (v1 : Int32) : X11_isSetOfDials x_q0_count v1 = 0 ∨ X11_isSetOfDials x_q0_count v1 = 1 := by unfold X11_isSetOfDials; repeat (first | exact Or.inl rfl | exact Or.inr rfl | apply b_X11_isIn | split)
theorem dX11_order_0 : decode cX11_order 0 = .ok (.iload_n 1, 1) := by decide +kernel
theorem dX11_order_1 : decode cX11_order 1 = .ok (.iconst 0, 1) := by decide +kernel
theorem dX11_order_2 : decode cX11_order 2 = .ok (.iconst 4, 1) := by decide +kernel
theorem dX11_order_3 : decode cX11_order 3 = .ok (.invokestatic 74, 3) := by decide +kernel
theorem dX11_order_6 : decode cX11_order 6 = .ok (.ifCond .eq 11, 3) := by decide +kernel
theorem dX11_order_9 : decode cX11_order 9 = .ok (.aload_n 0, 1) := by decide +kernel
theorem dX11_order_10 : decode cX11_order 10 = .ok (.iload_n 2, 1) := by decide +kernel
theorem dX11_order_11 : decode cX11_order 11 = .ok (.invokevirtual 224, 3) := by decide +kernel
theorem dX11_order_14 : decode cX11_order 14 = .ok (.ifCond .ne 5, 3) := by decide +kernel
theorem dX11_order_17 : decode cX11_order 17 = .ok (.iconst (-1), 1) := by decide +kernel
theorem dX11_order_18 : decode cX11_order 18 = .ok (.ireturn, 1) := by decide +kernel
theorem dX11_order_19 : decode cX11_order 19 = .ok (.aload_n 0, 1) := by decide +kernel
theorem dX11_order_20 : decode cX11_order 20 = .ok (.getfield 70, 3) := by decide +kernel
theorem dX11_order_23 : decode cX11_order 23 = .ok (.aload_n 0, 1) := by decide +kernel
theorem dX11_order_24 : decode cX11_order 24 = .ok (.getfield 55, 3) := by decide +kernel
theorem dX11_order_27 : decode cX11_order 27 = .ok (.iload_n 1, 1) := by decide +kernel
theorem dX11_order_28 : decode cX11_order 28 = .ok (.iload_n 2, 1) := by decide +kernel
theorem dX11_order_29 : decode cX11_order 29 = .ok (.invokevirtual 208, 3) := by decide +kernel
theorem dX11_order_32 : decode cX11_order 32 = .ok (.aload_n 0, 1) := by decide +kernel
theorem dX11_order_33 : decode cX11_order 33 = .ok (.getfield 70, 3) := by decide +kernel
theorem dX11_order_36 : decode cX11_order 36 = .ok (.getfield 227, 3) := by decide +kernel
theorem dX11_order_39 : decode cX11_order 39 = .ok (.ireturn, 1) := by decide +kernel
theorem k_X11_order : MV yX11_order cX11_order 3 (some .int) 2 := ⟨q_804, q_805, q_1, q_806, ⟨by decide, by decide, by decide +kernel⟩⟩
theorem c_X11_order {v1 : Int32} {v2 : Int32} {res : Int32 × (Nat → Nat → Int32) × (Nat → Nat → Int32) × (Nat → Int32) × (Nat → Nat → Int32) × Int32 × Int32 × Int32 × Int32 × Int32 × Int32 × Nat × (Nat → Int32) × (Nat → Int32) × (Nat → Int32) × Int32 × Int32 × Int32 × Int32 × Int32 × (Nat → Int32) × (Nat → Nat → Int32) × Int32 × Int32 × (Nat → Nat → Int32)} (hf : X11_order n x_q0_dials x_q0_spots x_q0_skies x_q0_reports x_q0_count x_q0_chime x_q0_end x_q0_score x_q0_reportCount x_q0_z x_q0_rules x_q2_dials x_q2_spots x_q2_skies x_q2_reports x_q2_count x_q2_chime x_q2_end x_q2_score x_q2_reportCount x_q2_z x_q2_rules x_q2_shades x_q2_facts x_p_first x_p_steps x_p_most x_p_many x_p_fewest x_p_everRight x_p_acts x_p_marks x_p_deepest x_p_wanted x_g_count x_g_kinds x_g_wills x_g_starts x_g_code x_g_stack x_g_kl x_g_wl x_g_sl x_g_cl x_nr v1 v2 = some res) : MC l E0 D t yX11_order cX11_order 3 (some .int) 32 0 0 [.ref (a 0), .int v1, .int v2] (cW a ar t x_q0_dials x_q0_spots x_q0_skies x_q0_reports x_q0_count x_q0_chime x_q0_end x_q0_score x_q0_reportCount x_q0_z x_q0_rules x_q0_shades x_q0_facts x_q1_dials x_q1_spots x_q1_skies x_q1_reports x_q1_count x_q1_chime x_q1_end x_q1_score x_q1_reportCount x_q1_z x_q1_rules x_q1_shades x_q1_facts x_q2_dials x_q2_spots x_q2_skies x_q2_reports x_q2_count x_q2_chime x_q2_end x_q2_score x_q2_reportCount x_q2_z x_q2_rules x_q2_shades x_q2_facts x_isKept x_marks x_p_first x_p_steps x_p_most x_p_many x_p_fewest x_p_everRight x_p_opening x_p_rows x_p_rowCount x_p_acts x_p_marks x_p_deepest x_p_wanted x_t_length x_t_tape x_t_words x_t_places x_t_at x_t_kinds x_t_wills x_t_starts x_t_code x_t_count x_t_size x_h_sorts x_h_lengths x_h_items x_h_held x_h_things x_h_sizes x_h_bodies x_h_traced x_h_number x_h_spot x_h_parted x_g_count x_g_kinds x_g_wills x_g_starts x_g_code x_g_stack x_g_kl x_g_wl x_g_sl x_g_cl x_nr) (Qi res.1 (cW a ar t x_q0_dials x_q0_spots x_q0_skies x_q0_reports x_q0_count x_q0_chime x_q0_end x_q0_score x_q0_reportCount x_q0_z x_q0_rules x_q0_shades x_q0_facts x_q1_dials x_q1_spots x_q1_skies x_q1_reports x_q1_count x_q1_chime x_q1_end x_q1_score x_q1_reportCount x_q1_z x_q1_rules x_q1_shades x_q1_facts res.2.1 res.2.2.1 res.2.2.2.1 res.2.2.2.2.1 res.2.2.2.2.2.1 res.2.2.2.2.2.2.1 res.2.2.2.2.2.2.2.1 res.2.2.2.2.2.2.2.2.1 res.2.2.2.2.2.2.2.2.2.1 res.2.2.2.2.2.2.2.2.2.2.1 res.2.2.2.2.2.2.2.2.2.2.2.1 res.2.2.2.2.2.2.2.2.2.2.2.2.1 res.2.2.2.2.2.2.2.2.2.2.2.2.2.1 x_isKept x_marks res.2.2.2.2.2.2.2.2.2.2.2.2.2.2.1 res.2.2.2.2.2.2.2.2.2.2.2.2.2.2.2.1 res.2.2.2.2.2.2.2.2.2.2.2.2.2.2.2.2.1 res.2.2.2.2.2.2.2.2.2.2.2.2.2.2.2.2.2.1 res.2.2.2.2.2.2.2.2.2.2.2.2.2.2.2.2.2.2.1 res.2.2.2.2.2.2.2.2.2.2.2.2.2.2.2.2.2.2.2.1 x_p_opening x_p_rows x_p_rowCount res.2.2.2.2.2.2.2.2.2.2.2.2.2.2.2.2.2.2.2.2.1 res.2.2.2.2.2.2.2.2.2.2.2.2.2.2.2.2.2.2.2.2.2.1 res.2.2.2.2.2.2.2.2.2.2.2.2.2.2.2.2.2.2.2.2.2.2.1 res.2.2.2.2.2.2.2.2.2.2.2.2.2.2.2.2.2.2.2.2.2.2.2.1 x_t_length x_t_tape x_t_words x_t_places x_t_at x_t_kinds x_t_wills x_t_starts x_t_code x_t_count x_t_size x_h_sorts x_h_lengths x_h_items x_h_held x_h_things x_h_sizes x_h_bodies x_h_traced x_h_number x_h_spot x_h_parted x_g_count x_g_kinds x_g_wills x_g_starts x_g_code res.2.2.2.2.2.2.2.2.2.2.2.2.2.2.2.2.2.2.2.2.2.2.2.2 x_g_kl x_g_wl x_g_sl x_g_cl x_nr)) := by
  unfold X11_order at hf
  refine MC.ofI pn_X11 (Nat.le_of_ble_eq_true rfl) ?_
  intro p e s m args below meth c A Q ls cx hR hw hl
  have hx := cx.1
  have hb := cx.2.1
  have hl : lv_has ls 3 [(0, .ref (a 0)), (1, .int v1), (2, .int v2)] := hl
  refine lv_iload_n hx hb dX11_order_0 rfl (lv_at hl 1 rfl) ?_
  refine lv_iconst (v := 0) hx hb dX11_order_1 (by decide) ?_
  refine lv_iconst (v := 4) hx hb dX11_order_2 (by decide) ?_
  refine calSi cx hw hl.1 (c_X11_isIn rfl) q_350 k_X11_isIn rfl dX11_order_3 rfl (Nat.le_of_ble_eq_true rfl) ⟨Nat.le_of_ble_eq_true rfl, Nat.le_of_ble_eq_true rfl⟩ ⟨Nat.le_refl _, Nat.le_refl _⟩ (fun H locs hw => ?_)
  refine lv_if_eq (tgt := 17) hx hb dX11_order_6 (by decide) (fun hc => ?_) (fun hc => ?_)
  · have hf := ifT hf hc
    refine lv_iconst (v := (-1)) hx hb dX11_order_17 (by decide) ?_
    have hf := Option.some.inj hf
    subst hf
    exact hR _ _ _ _ _ _ hw rfl ⟨rfl, rfl⟩ dX11_order_18
  · have hf := ifF hf hc
    refine lv_aload_n hx hb dX11_order_9 rfl (lv_at hl 0 rfl) ?_
    refine lv_iload_n hx hb dX11_order_10 rfl (lv_at hl 2 rfl) ?_
    refine calVi cx hw hl.1 (c_X11_isSetOfDials rfl) q_807 k_X11_isSetOfDials rfl rv_ds rfl dX11_order_11 rfl (Nat.le_of_ble_eq_true rfl) ⟨Nat.le_of_ble_eq_true rfl, Nat.le_of_ble_eq_true rfl⟩ ⟨Nat.le_refl _, Nat.le_refl _⟩ (fun H locs hw => ?_)
    refine lv_if_ne (tgt := 19) hx hb dX11_order_14 (by decide) (fun hc => ?_) (fun hc => ?_)
    · have hf := ifF hf hc
      refine lv_aload_n hx hb dX11_order_19 rfl (lv_at hl 0 rfl) ?_
      refine cg_X11_70_ds cx hw dX11_order_20 ?_
      refine lv_aload_n hx hb dX11_order_23 rfl (lv_at hl 0 rfl) ?_
      refine cg_X11_55_ds cx hw dX11_order_24 ?_
      refine lv_iload_n hx hb dX11_order_27 rfl (lv_at hl 1 rfl) ?_
      refine lv_iload_n hx hb dX11_order_28 rfl (lv_at hl 2 rfl) ?_
      obtain ⟨r1, h2, hf⟩ := bnS hf
      refine calVv cx hw hl.1 (c_X5_look_oq0 h2) q_776 k_X5_look rfl rv_plans rfl dX11_order_29 rfl (Nat.le_of_ble_eq_true rfl) ⟨Nat.le_of_ble_eq_true rfl, Nat.le_of_ble_eq_true rfl⟩ ⟨Nat.le_refl _, Nat.le_refl _⟩ (fun H locs hw => ?_)
      refine lv_aload_n hx hb dX11_order_32 rfl (lv_at hl 0 rfl) ?_
      refine cg_X11_70_ds cx hw dX11_order_33 ?_
      refine cg_X11_227_plans cx hw dX11_order_36 ?_
      have hf := Option.some.inj hf
      subst hf
      exact hR _ _ _ _ _ _ hw rfl ⟨rfl, rfl⟩ dX11_order_39
    · have hf := ifT hf hc
      refine lv_iconst (v := (-1)) hx hb dX11_order_17 (by decide) ?_
      have hf := Option.some.inj hf
      subst hf
      exact hR _ _ _ _ _ _ hw rfl ⟨rfl, rfl⟩ dX11_order_18
theorem dX11_bars_0 : decode cX11_bars 0 = .ok (.iload_n 1, 1) := by decide +kernel
theorem dX11_bars_1 : decode cX11_bars 1 = .ok (.iconst 0, 1) := by decide +kernel
theorem dX11_bars_2 : decode cX11_bars 2 = .ok (.iconst 4, 1) := by decide +kernel
theorem dX11_bars_3 : decode cX11_bars 3 = .ok (.invokestatic 74, 3) := by decide +kernel
theorem dX11_bars_6 : decode cX11_bars 6 = .ok (.ifCond .eq 11, 3) := by decide +kernel
theorem dX11_bars_9 : decode cX11_bars 9 = .ok (.aload_n 0, 1) := by decide +kernel
theorem dX11_bars_10 : decode cX11_bars 10 = .ok (.iload_n 2, 1) := by decide +kernel
theorem dX11_bars_11 : decode cX11_bars 11 = .ok (.invokevirtual 224, 3) := by decide +kernel
theorem dX11_bars_14 : decode cX11_bars 14 = .ok (.ifCond .ne 5, 3) := by decide +kernel
theorem dX11_bars_17 : decode cX11_bars 17 = .ok (.iconst (-1), 1) := by decide +kernel
theorem dX11_bars_18 : decode cX11_bars 18 = .ok (.ireturn, 1) := by decide +kernel
theorem dX11_bars_19 : decode cX11_bars 19 = .ok (.aload_n 0, 1) := by decide +kernel
theorem dX11_bars_20 : decode cX11_bars 20 = .ok (.getfield 70, 3) := by decide +kernel
theorem dX11_bars_23 : decode cX11_bars 23 = .ok (.aload_n 0, 1) := by decide +kernel
theorem dX11_bars_24 : decode cX11_bars 24 = .ok (.getfield 55, 3) := by decide +kernel
theorem dX11_bars_27 : decode cX11_bars 27 = .ok (.iload_n 1, 1) := by decide +kernel
theorem dX11_bars_28 : decode cX11_bars 28 = .ok (.iload_n 2, 1) := by decide +kernel
theorem dX11_bars_29 : decode cX11_bars 29 = .ok (.invokevirtual 208, 3) := by decide +kernel
theorem dX11_bars_32 : decode cX11_bars 32 = .ok (.iload_n 2, 1) := by decide +kernel
theorem dX11_bars_33 : decode cX11_bars 33 = .ok (.aload_n 0, 1) := by decide +kernel
theorem dX11_bars_34 : decode cX11_bars 34 = .ok (.getfield 70, 3) := by decide +kernel
theorem dX11_bars_37 : decode cX11_bars 37 = .ok (.getfield 230, 3) := by decide +kernel
theorem dX11_bars_40 : decode cX11_bars 40 = .ok (.iconst (-1), 1) := by decide +kernel
theorem dX11_bars_41 : decode cX11_bars 41 = .ok (.ixor, 1) := by decide +kernel
theorem dX11_bars_42 : decode cX11_bars 42 = .ok (.iand, 1) := by decide +kernel
theorem dX11_bars_43 : decode cX11_bars 43 = .ok (.istore_n 3, 1) := by decide +kernel
theorem dX11_bars_44 : decode cX11_bars 44 = .ok (.iconst 0, 1) := by decide +kernel
theorem dX11_bars_45 : decode cX11_bars 45 = .ok (.istore 4, 2) := by decide +kernel
theorem dX11_bars_47 : decode cX11_bars 47 = .ok (.iload 4, 2) := by decide +kernel
theorem dX11_bars_49 : decode cX11_bars 49 = .ok (.aload_n 0, 1) := by decide +kernel
theorem dX11_bars_50 : decode cX11_bars 50 = .ok (.getfield 55, 3) := by decide +kernel
theorem dX11_bars_53 : decode cX11_bars 53 = .ok (.getfield 82, 3) := by decide +kernel
theorem dX11_bars_56 : decode cX11_bars 56 = .ok (.if_icmp .ge 21, 3) := by decide +kernel
theorem dX11_bars_59 : decode cX11_bars 59 = .ok (.iload_n 3, 1) := by decide +kernel
theorem dX11_bars_60 : decode cX11_bars 60 = .ok (.iload 4, 2) := by decide +kernel
theorem dX11_bars_62 : decode cX11_bars 62 = .ok (.ishr, 1) := by decide +kernel
theorem dX11_bars_63 : decode cX11_bars 63 = .ok (.iconst 1, 1) := by decide +kernel
theorem dX11_bars_64 : decode cX11_bars 64 = .ok (.iand, 1) := by decide +kernel
theorem dX11_bars_65 : decode cX11_bars 65 = .ok (.ifCond .eq 6, 3) := by decide +kernel
theorem dX11_bars_68 : decode cX11_bars 68 = .ok (.iload 4, 2) := by decide +kernel
theorem dX11_bars_70 : decode cX11_bars 70 = .ok (.ireturn, 1) := by decide +kernel
theorem dX11_bars_71 : decode cX11_bars 71 = .ok (.iinc 4 1, 3) := by decide +kernel
theorem dX11_bars_74 : decode cX11_bars 74 = .ok (.goto (-27), 3) := by decide +kernel
theorem dX11_bars_77 : decode cX11_bars 77 = .ok (.bipush (-3), 2) := by decide +kernel
theorem dX11_bars_79 : decode cX11_bars 79 = .ok (.ireturn, 1) := by decide +kernel
theorem k_X11_bars : MV yX11_bars cX11_bars 5 (some .int) 2 := ⟨q_812, q_813, q_1, q_814, ⟨by decide, by decide, by decide +kernel⟩⟩
theorem c_X11_bars {v1 : Int32} {v2 : Int32} {res : Int32 × (Nat → Nat → Int32) × (Nat → Nat → Int32) × (Nat → Int32) × (Nat → Nat → Int32) × Int32 × Int32 × Int32 × Int32 × Int32 × Int32 × Nat × (Nat → Int32) × (Nat → Int32) × (Nat → Int32) × Int32 × Int32 × Int32 × Int32 × Int32 × (Nat → Int32) × (Nat → Nat → Int32) × Int32 × Int32 × (Nat → Nat → Int32)} (hf : X11_bars n x_q0_dials x_q0_spots x_q0_skies x_q0_reports x_q0_count x_q0_chime x_q0_end x_q0_score x_q0_reportCount x_q0_z x_q0_rules x_q2_dials x_q2_spots x_q2_skies x_q2_reports x_q2_count x_q2_chime x_q2_end x_q2_score x_q2_reportCount x_q2_z x_q2_rules x_q2_shades x_q2_facts x_p_first x_p_steps x_p_most x_p_many x_p_fewest x_p_everRight x_p_acts x_p_marks x_p_deepest x_p_wanted x_g_count x_g_kinds x_g_wills x_g_starts x_g_code x_g_stack x_g_kl x_g_wl x_g_sl x_g_cl x_nr v1 v2 = some res) : MC l E0 D t yX11_bars cX11_bars 5 (some .int) 32 0 0 [.ref (a 0), .int v1, .int v2] (cW a ar t x_q0_dials x_q0_spots x_q0_skies x_q0_reports x_q0_count x_q0_chime x_q0_end x_q0_score x_q0_reportCount x_q0_z x_q0_rules x_q0_shades x_q0_facts x_q1_dials x_q1_spots x_q1_skies x_q1_reports x_q1_count x_q1_chime x_q1_end x_q1_score x_q1_reportCount x_q1_z x_q1_rules x_q1_shades x_q1_facts x_q2_dials x_q2_spots x_q2_skies x_q2_reports x_q2_count x_q2_chime x_q2_end x_q2_score x_q2_reportCount x_q2_z x_q2_rules x_q2_shades x_q2_facts x_isKept x_marks x_p_first x_p_steps x_p_most x_p_many x_p_fewest x_p_everRight x_p_opening x_p_rows x_p_rowCount x_p_acts x_p_marks x_p_deepest x_p_wanted x_t_length x_t_tape x_t_words x_t_places x_t_at x_t_kinds x_t_wills x_t_starts x_t_code x_t_count x_t_size x_h_sorts x_h_lengths x_h_items x_h_held x_h_things x_h_sizes x_h_bodies x_h_traced x_h_number x_h_spot x_h_parted x_g_count x_g_kinds x_g_wills x_g_starts x_g_code x_g_stack x_g_kl x_g_wl x_g_sl x_g_cl x_nr) (Qi res.1 (cW a ar t x_q0_dials x_q0_spots x_q0_skies x_q0_reports x_q0_count x_q0_chime x_q0_end x_q0_score x_q0_reportCount x_q0_z x_q0_rules x_q0_shades x_q0_facts x_q1_dials x_q1_spots x_q1_skies x_q1_reports x_q1_count x_q1_chime x_q1_end x_q1_score x_q1_reportCount x_q1_z x_q1_rules x_q1_shades x_q1_facts res.2.1 res.2.2.1 res.2.2.2.1 res.2.2.2.2.1 res.2.2.2.2.2.1 res.2.2.2.2.2.2.1 res.2.2.2.2.2.2.2.1 res.2.2.2.2.2.2.2.2.1 res.2.2.2.2.2.2.2.2.2.1 res.2.2.2.2.2.2.2.2.2.2.1 res.2.2.2.2.2.2.2.2.2.2.2.1 res.2.2.2.2.2.2.2.2.2.2.2.2.1 res.2.2.2.2.2.2.2.2.2.2.2.2.2.1 x_isKept x_marks res.2.2.2.2.2.2.2.2.2.2.2.2.2.2.1 res.2.2.2.2.2.2.2.2.2.2.2.2.2.2.2.1 res.2.2.2.2.2.2.2.2.2.2.2.2.2.2.2.2.1 res.2.2.2.2.2.2.2.2.2.2.2.2.2.2.2.2.2.1 res.2.2.2.2.2.2.2.2.2.2.2.2.2.2.2.2.2.2.1 res.2.2.2.2.2.2.2.2.2.2.2.2.2.2.2.2.2.2.2.1 x_p_opening x_p_rows x_p_rowCount res.2.2.2.2.2.2.2.2.2.2.2.2.2.2.2.2.2.2.2.2.1 res.2.2.2.2.2.2.2.2.2.2.2.2.2.2.2.2.2.2.2.2.2.1 res.2.2.2.2.2.2.2.2.2.2.2.2.2.2.2.2.2.2.2.2.2.2.1 res.2.2.2.2.2.2.2.2.2.2.2.2.2.2.2.2.2.2.2.2.2.2.2.1 x_t_length x_t_tape x_t_words x_t_places x_t_at x_t_kinds x_t_wills x_t_starts x_t_code x_t_count x_t_size x_h_sorts x_h_lengths x_h_items x_h_held x_h_things x_h_sizes x_h_bodies x_h_traced x_h_number x_h_spot x_h_parted x_g_count x_g_kinds x_g_wills x_g_starts x_g_code res.2.2.2.2.2.2.2.2.2.2.2.2.2.2.2.2.2.2.2.2.2.2.2.2 x_g_kl x_g_wl x_g_sl x_g_cl x_nr)) := by
  unfold X11_bars at hf
  refine MC.ofI pn_X11 (Nat.le_of_ble_eq_true rfl) ?_
  intro p e s m args below meth c A Q ls cx hR hw hl
  have hx := cx.1
  have hb := cx.2.1
  have hl : lv_has ls 5 [(0, .ref (a 0)), (1, .int v1), (2, .int v2)] := hl
  refine lv_iload_n hx hb dX11_bars_0 rfl (lv_at hl 1 rfl) ?_
  refine lv_iconst (v := 0) hx hb dX11_bars_1 (by decide) ?_
  refine lv_iconst (v := 4) hx hb dX11_bars_2 (by decide) ?_
  refine calSi cx hw hl.1 (c_X11_isIn rfl) q_350 k_X11_isIn rfl dX11_bars_3 rfl (Nat.le_of_ble_eq_true rfl) ⟨Nat.le_of_ble_eq_true rfl, Nat.le_of_ble_eq_true rfl⟩ ⟨Nat.le_refl _, Nat.le_refl _⟩ (fun H locs hw => ?_)
  refine lv_if_eq (tgt := 17) hx hb dX11_bars_6 (by decide) (fun hc => ?_) (fun hc => ?_)
  · have hf := ifT hf hc
    refine lv_iconst (v := (-1)) hx hb dX11_bars_17 (by decide) ?_
    have hf := Option.some.inj hf
    subst hf
    exact hR _ _ _ _ _ _ hw rfl ⟨rfl, rfl⟩ dX11_bars_18
  · have hf := ifF hf hc
    refine lv_aload_n hx hb dX11_bars_9 rfl (lv_at hl 0 rfl) ?_
    refine lv_iload_n hx hb dX11_bars_10 rfl (lv_at hl 2 rfl) ?_
    refine calVi cx hw hl.1 (c_X11_isSetOfDials rfl) q_807 k_X11_isSetOfDials rfl rv_ds rfl dX11_bars_11 rfl (Nat.le_of_ble_eq_true rfl) ⟨Nat.le_of_ble_eq_true rfl, Nat.le_of_ble_eq_true rfl⟩ ⟨Nat.le_refl _, Nat.le_refl _⟩ (fun H locs hw => ?_)
    refine lv_if_ne (tgt := 19) hx hb dX11_bars_14 (by decide) (fun hc => ?_) (fun hc => ?_)
    · have hf := ifF hf hc
      refine lv_aload_n hx hb dX11_bars_19 rfl (lv_at hl 0 rfl) ?_
      refine cg_X11_70_ds cx hw dX11_bars_20 ?_
      refine lv_aload_n hx hb dX11_bars_23 rfl (lv_at hl 0 rfl) ?_
      refine cg_X11_55_ds cx hw dX11_bars_24 ?_
      refine lv_iload_n hx hb dX11_bars_27 rfl (lv_at hl 1 rfl) ?_
      refine lv_iload_n hx hb dX11_bars_28 rfl (lv_at hl 2 rfl) ?_
      obtain ⟨r1, h2, hf⟩ := bnS hf
      refine calVv cx hw hl.1 (c_X5_look_oq0 h2) q_776 k_X5_look rfl rv_plans rfl dX11_bars_29 rfl (Nat.le_of_ble_eq_true rfl) ⟨Nat.le_of_ble_eq_true rfl, Nat.le_of_ble_eq_true rfl⟩ ⟨Nat.le_refl _, Nat.le_refl _⟩ (fun H locs hw => ?_)
      refine lv_iload_n hx hb dX11_bars_32 rfl (lv_at hl 2 rfl) ?_
      refine lv_aload_n hx hb dX11_bars_33 rfl (lv_at hl 0 rfl) ?_
      refine cg_X11_70_ds cx hw dX11_bars_34 ?_
      refine cg_X11_230_plans cx hw dX11_bars_37 ?_
      refine lv_iconst (v := (-1)) hx hb dX11_bars_40 (by decide) ?_
      refine lv_ixor hx hb dX11_bars_41 ?_
      refine lv_iand hx hb dX11_bars_42 ?_
      refine lv_istore_n (lv' := [(3, .int (v2 &&& (r1.2.2.2.2.2.2.2.2.2.2.2.2.2.2.2.2.2.2.1 ^^^ (-1 : Int32)))), (0, .ref (a 0)), (1, .int v1), (2, .int v2)]) hx hb dX11_bars_43 rfl hl (by decide) rfl (fun ls hl => ?_)
      refine lv_iconst (v := 0) hx hb dX11_bars_44 (by decide) ?_
      refine lv_istore (lv' := [(4, .int (0 : Int32)), (3, .int (v2 &&& (r1.2.2.2.2.2.2.2.2.2.2.2.2.2.2.2.2.2.2.1 ^^^ (-1 : Int32)))), (0, .ref (a 0)), (1, .int v1), (2, .int v2)]) hx hb dX11_bars_45 hl (by decide) rfl (fun ls hl => ?_)
      obtain ⟨K1, hK1, hf⟩ := jnS hf
      have kx1 : ∀ (o3 : Int32) (H : Heap) (locs : List Loc) (ls : Array Slot), K1 o3 = some res → Wd D A s (cW a ar t x_q0_dials x_q0_spots x_q0_skies x_q0_reports x_q0_count x_q0_chime x_q0_end x_q0_score x_q0_reportCount x_q0_z x_q0_rules x_q0_shades x_q0_facts x_q1_dials x_q1_spots x_q1_skies x_q1_reports x_q1_count x_q1_chime x_q1_end x_q1_score x_q1_reportCount x_q1_z x_q1_rules x_q1_shades x_q1_facts r1.1 r1.2.1 r1.2.2.1 r1.2.2.2.1 r1.2.2.2.2.1 r1.2.2.2.2.2.1 r1.2.2.2.2.2.2.1 r1.2.2.2.2.2.2.2.1 r1.2.2.2.2.2.2.2.2.1 r1.2.2.2.2.2.2.2.2.2.1 r1.2.2.2.2.2.2.2.2.2.2.1 r1.2.2.2.2.2.2.2.2.2.2.2.1 r1.2.2.2.2.2.2.2.2.2.2.2.2.1 x_isKept x_marks r1.2.2.2.2.2.2.2.2.2.2.2.2.2.1 r1.2.2.2.2.2.2.2.2.2.2.2.2.2.2.1 r1.2.2.2.2.2.2.2.2.2.2.2.2.2.2.2.1 r1.2.2.2.2.2.2.2.2.2.2.2.2.2.2.2.2.1 r1.2.2.2.2.2.2.2.2.2.2.2.2.2.2.2.2.2.1 r1.2.2.2.2.2.2.2.2.2.2.2.2.2.2.2.2.2.2.1 x_p_opening x_p_rows x_p_rowCount r1.2.2.2.2.2.2.2.2.2.2.2.2.2.2.2.2.2.2.2.1 r1.2.2.2.2.2.2.2.2.2.2.2.2.2.2.2.2.2.2.2.2.1 r1.2.2.2.2.2.2.2.2.2.2.2.2.2.2.2.2.2.2.2.2.2.1 r1.2.2.2.2.2.2.2.2.2.2.2.2.2.2.2.2.2.2.2.2.2.2.1 x_t_length x_t_tape x_t_words x_t_places x_t_at x_t_kinds x_t_wills x_t_starts x_t_code x_t_count x_t_size x_h_sorts x_h_lengths x_h_items x_h_held x_h_things x_h_sizes x_h_bodies x_h_traced x_h_number x_h_spot x_h_parted x_g_count x_g_kinds x_g_wills x_g_starts x_g_code r1.2.2.2.2.2.2.2.2.2.2.2.2.2.2.2.2.2.2.2.2.2.2.2 x_g_kl x_g_wl x_g_sl x_g_cl x_nr) H locs → lv_has ls 5 [(0, .ref (a 0)), (1, .int v1), (2, .int v2), (3, .int (v2 &&& (r1.2.2.2.2.2.2.2.2.2.2.2.2.2.2.2.2.2.2.1 ^^^ (-1 : Int32)))), (4, .int o3)] → W p l e (rmz 32 0 0) s m args below meth c H locs 0 0 Q (F0 m 77 ls []) := by
        intro o3 H locs ls hf hw hl
        have hf := hK1 _ hf
        refine lv_bipush (v := (-3)) hx hb dX11_bars_77 (by decide) ?_
        have hf := Option.some.inj hf
        subst hf
        exact hR _ _ _ _ _ _ hw rfl ⟨rfl, rfl⟩ dX11_bars_79
      have wL1 : ∀ (k : Nat) {v1 : Int32} {v2 : Int32} {v3 : Int32} {v4 : Int32} {x_q2_dials : Nat → Nat → Int32} {x_q2_spots : Nat → Nat → Int32} {x_q2_skies : Nat → Int32} {x_q2_reports : Nat → Nat → Int32} {x_q2_count : Int32} {x_q2_chime : Int32} {x_q2_end : Int32} {x_q2_score : Int32} {x_q2_reportCount : Int32} {x_q2_z : Int32} {x_q2_rules : Nat} {x_q2_shades : Nat → Int32} {x_q2_facts : Nat → Int32} {x_p_first : Nat → Int32} {x_p_steps : Int32} {x_p_most : Int32} {x_p_many : Int32} {x_p_fewest : Int32} {x_p_everRight : Int32} {x_p_acts : Nat → Int32} {x_p_marks : Nat → Nat → Int32} {x_p_deepest : Int32} {x_p_wanted : Int32} {x_g_stack : Nat → Nat → Int32} {H : Heap} {locs : List Loc} {ls : Array Slot}, X11_bars_L1 n x_q0_count x_q2_dials x_q2_spots x_q2_skies x_q2_reports x_q2_count x_q2_chime x_q2_end x_q2_score x_q2_reportCount x_q2_z x_q2_rules x_q2_shades x_q2_facts x_p_first x_p_steps x_p_most x_p_many x_p_fewest x_p_everRight x_p_acts x_p_marks x_p_deepest x_p_wanted x_g_stack v3 K1 k v4 = some res → Wd D A s (cW a ar t x_q0_dials x_q0_spots x_q0_skies x_q0_reports x_q0_count x_q0_chime x_q0_end x_q0_score x_q0_reportCount x_q0_z x_q0_rules x_q0_shades x_q0_facts x_q1_dials x_q1_spots x_q1_skies x_q1_reports x_q1_count x_q1_chime x_q1_end x_q1_score x_q1_reportCount x_q1_z x_q1_rules x_q1_shades x_q1_facts x_q2_dials x_q2_spots x_q2_skies x_q2_reports x_q2_count x_q2_chime x_q2_end x_q2_score x_q2_reportCount x_q2_z x_q2_rules x_q2_shades x_q2_facts x_isKept x_marks x_p_first x_p_steps x_p_most x_p_many x_p_fewest x_p_everRight x_p_opening x_p_rows x_p_rowCount x_p_acts x_p_marks x_p_deepest x_p_wanted x_t_length x_t_tape x_t_words x_t_places x_t_at x_t_kinds x_t_wills x_t_starts x_t_code x_t_count x_t_size x_h_sorts x_h_lengths x_h_items x_h_held x_h_things x_h_sizes x_h_bodies x_h_traced x_h_number x_h_spot x_h_parted x_g_count x_g_kinds x_g_wills x_g_starts x_g_code x_g_stack x_g_kl x_g_wl x_g_sl x_g_cl x_nr) H locs → lv_has ls 5 [(0, .ref (a 0)), (1, .int v1), (2, .int v2), (3, .int v3), (4, .int v4)] → (∀ (o : Int32) (H : Heap) (locs : List Loc) (ls : Array Slot), K1 o = some res → Wd D A s (cW a ar t x_q0_dials x_q0_spots x_q0_skies x_q0_reports x_q0_count x_q0_chime x_q0_end x_q0_score x_q0_reportCount x_q0_z x_q0_rules x_q0_shades x_q0_facts x_q1_dials x_q1_spots x_q1_skies x_q1_reports x_q1_count x_q1_chime x_q1_end x_q1_score x_q1_reportCount x_q1_z x_q1_rules x_q1_shades x_q1_facts x_q2_dials x_q2_spots x_q2_skies x_q2_reports x_q2_count x_q2_chime x_q2_end x_q2_score x_q2_reportCount x_q2_z x_q2_rules x_q2_shades x_q2_facts x_isKept x_marks x_p_first x_p_steps x_p_most x_p_many x_p_fewest x_p_everRight x_p_opening x_p_rows x_p_rowCount x_p_acts x_p_marks x_p_deepest x_p_wanted x_t_length x_t_tape x_t_words x_t_places x_t_at x_t_kinds x_t_wills x_t_starts x_t_code x_t_count x_t_size x_h_sorts x_h_lengths x_h_items x_h_held x_h_things x_h_sizes x_h_bodies x_h_traced x_h_number x_h_spot x_h_parted x_g_count x_g_kinds x_g_wills x_g_starts x_g_code x_g_stack x_g_kl x_g_wl x_g_sl x_g_cl x_nr) H locs → lv_has ls 5 [(0, .ref (a 0)), (1, .int v1), (2, .int v2), (3, .int v3), (4, .int o)] → W p l e (rmz 32 0 0) s m args below meth c H locs 0 0 Q (F0 m 77 ls [])) → W p l e (rmz 32 0 0) s m args below meth c H locs 0 0 Q (F0 m 47 ls []) := by
        clear hf hw hl hK1 kx1
        intro k
        induction k with
        | zero => intro v1 v2 v3 v4 x_q2_dials x_q2_spots x_q2_skies x_q2_reports x_q2_count x_q2_chime x_q2_end x_q2_score x_q2_reportCount x_q2_z x_q2_rules x_q2_shades x_q2_facts x_p_first x_p_steps x_p_most x_p_many x_p_fewest x_p_everRight x_p_acts x_p_marks x_p_deepest x_p_wanted x_g_stack H locs ls hf hw hl kx; simp [X11_bars_L1] at hf
        | succ k ih =>
          intro v1 v2 v3 v4 x_q2_dials x_q2_spots x_q2_skies x_q2_reports x_q2_count x_q2_chime x_q2_end x_q2_score x_q2_reportCount x_q2_z x_q2_rules x_q2_shades x_q2_facts x_p_first x_p_steps x_p_most x_p_many x_p_fewest x_p_everRight x_p_acts x_p_marks x_p_deepest x_p_wanted x_g_stack H locs ls hf hw hl kx
          rw [X11_bars_L1] at hf
          refine lv_iload hx hb dX11_bars_47 (lv_at hl 4 rfl) ?_
          refine lv_aload_n hx hb dX11_bars_49 rfl (lv_at hl 0 rfl) ?_
          refine cg_X11_55_ds cx hw dX11_bars_50 ?_
          refine cg_X11_82_q0 cx hw dX11_bars_53 ?_
          refine lv_icmp_ge (tgt := 77) hx hb dX11_bars_56 (by decide) (fun hc => ?_) (fun hc => ?_)
          · have hf := ifT hf hc
            exact kx _ _ _ _ hf hw (lv_sub hl [0, 1, 2, 3, 4] rfl)
          · have hf := ifF hf hc
            refine lv_iload_n hx hb dX11_bars_59 rfl (lv_at hl 3 rfl) ?_
            refine lv_iload hx hb dX11_bars_60 (lv_at hl 4 rfl) ?_
            refine lv_ishr hx hb dX11_bars_62 ?_
            refine lv_iconst (v := 1) hx hb dX11_bars_63 (by decide) ?_
            refine lv_iand hx hb dX11_bars_64 ?_
            refine lv_if_eq (tgt := 71) hx hb dX11_bars_65 (by decide) (fun hc => ?_) (fun hc => ?_)
            · have hf := ifT hf hc
              refine lv_iinc (v := (v4 + (1 : Int32))) (lv' := [(4, .int (v4 + (1 : Int32))), (0, .ref (a 0)), (1, .int v1), (2, .int v2), (3, .int v3)]) hx hb dX11_bars_71 hl (k := 4) rfl rfl (by decide) rfl (fun ls hl => ?_)
              refine lv_goto (tgt := 47) hx hb dX11_bars_74 (by decide) ?_
              exact ih hf hw (lv_sub hl [1, 2, 3, 4, 0] rfl) kx
            · have hf := ifF hf hc
              refine lv_iload hx hb dX11_bars_68 (lv_at hl 4 rfl) ?_
              have hf := Option.some.inj hf
              subst hf
              exact hR _ _ _ _ _ _ hw rfl ⟨rfl, rfl⟩ dX11_bars_70
      exact wL1 n hf hw (lv_sub hl [2, 3, 4, 1, 0] rfl) kx1
    · have hf := ifT hf hc
      refine lv_iconst (v := (-1)) hx hb dX11_bars_17 (by decide) ?_
      have hf := Option.some.inj hf
      subst hf
      exact hR _ _ _ _ _ _ hw rfl ⟨rfl, rfl⟩ dX11_bars_18
theorem dX5_valueFrom_0 : decode cX5_valueFrom 0 = .ok (.iload_n 1, 1) := by decide +kernel
theorem dX5_valueFrom_1 : decode cX5_valueFrom 1 = .ok (.aload_n 0, 1) := by decide +kernel
theorem dX5_valueFrom_2 : decode cX5_valueFrom 2 = .ok (.getfield 40, 3) := by decide +kernel
theorem dX5_valueFrom_5 : decode cX5_valueFrom 5 = .ok (.if_icmp .ge 18, 3) := by decide +kernel
theorem dX5_valueFrom_8 : decode cX5_valueFrom 8 = .ok (.iload_n 1, 1) := by decide +kernel
theorem dX5_valueFrom_9 : decode cX5_valueFrom 9 = .ok (.iconst 4, 1) := by decide +kernel
theorem dX5_valueFrom_10 : decode cX5_valueFrom 10 = .ok (.if_icmp .ge 13, 3) := by decide +kernel
theorem dX5_valueFrom_13 : decode cX5_valueFrom 13 = .ok (.aload_n 0, 1) := by decide +kernel
theorem dX5_valueFrom_14 : decode cX5_valueFrom 14 = .ok (.getfield 26, 3) := by decide +kernel
theorem dX5_valueFrom_17 : decode cX5_valueFrom 17 = .ok (.invokevirtual 62, 3) := by decide +kernel
theorem dX5_valueFrom_20 : decode cX5_valueFrom 20 = .ok (.ifCond .eq 5, 3) := by decide +kernel
theorem dX5_valueFrom_23 : decode cX5_valueFrom 23 = .ok (.iconst 0, 1) := by decide +kernel
theorem dX5_valueFrom_24 : decode cX5_valueFrom 24 = .ok (.ireturn, 1) := by decide +kernel
theorem dX5_valueFrom_25 : decode cX5_valueFrom 25 = .ok (.aload_n 0, 1) := by decide +kernel
theorem dX5_valueFrom_26 : decode cX5_valueFrom 26 = .ok (.getfield 26, 3) := by decide +kernel
theorem dX5_valueFrom_29 : decode cX5_valueFrom 29 = .ok (.aload_n 0, 1) := by decide +kernel
theorem dX5_valueFrom_30 : decode cX5_valueFrom 30 = .ok (.getfield 23, 3) := by decide +kernel
theorem dX5_valueFrom_33 : decode cX5_valueFrom 33 = .ok (.iload_n 1, 1) := by decide +kernel
theorem dX5_valueFrom_34 : decode cX5_valueFrom 34 = .ok (.aaload, 1) := by decide +kernel
theorem dX5_valueFrom_35 : decode cX5_valueFrom 35 = .ok (.invokevirtual 69, 3) := by decide +kernel
theorem dX5_valueFrom_38 : decode cX5_valueFrom 38 = .ok (.iconst 0, 1) := by decide +kernel
theorem dX5_valueFrom_39 : decode cX5_valueFrom 39 = .ok (.istore_n 2, 1) := by decide +kernel
theorem dX5_valueFrom_40 : decode cX5_valueFrom 40 = .ok (.iconst 0, 1) := by decide +kernel
theorem dX5_valueFrom_41 : decode cX5_valueFrom 41 = .ok (.istore_n 3, 1) := by decide +kernel
theorem dX5_valueFrom_42 : decode cX5_valueFrom 42 = .ok (.iload_n 3, 1) := by decide +kernel
theorem dX5_valueFrom_43 : decode cX5_valueFrom 43 = .ok (.aload_n 0, 1) := by decide +kernel
theorem dX5_valueFrom_44 : decode cX5_valueFrom 44 = .ok (.getfield 26, 3) := by decide +kernel
theorem dX5_valueFrom_47 : decode cX5_valueFrom 47 = .ok (.getfield 73, 3) := by decide +kernel
theorem dX5_valueFrom_50 : decode cX5_valueFrom 50 = .ok (.if_icmp .gt 94, 3) := by decide +kernel
theorem dX5_valueFrom_53 : decode cX5_valueFrom 53 = .ok (.aload_n 0, 1) := by decide +kernel
theorem dX5_valueFrom_54 : decode cX5_valueFrom 54 = .ok (.getfield 26, 3) := by decide +kernel
theorem dX5_valueFrom_57 : decode cX5_valueFrom 57 = .ok (.aload_n 0, 1) := by decide +kernel
theorem dX5_valueFrom_58 : decode cX5_valueFrom 58 = .ok (.getfield 23, 3) := by decide +kernel
theorem dX5_valueFrom_61 : decode cX5_valueFrom 61 = .ok (.iload_n 1, 1) := by decide +kernel
theorem dX5_valueFrom_62 : decode cX5_valueFrom 62 = .ok (.aaload, 1) := by decide +kernel
theorem dX5_valueFrom_63 : decode cX5_valueFrom 63 = .ok (.invokevirtual 76, 3) := by decide +kernel
theorem dX5_valueFrom_66 : decode cX5_valueFrom 66 = .ok (.aload_n 0, 1) := by decide +kernel
theorem dX5_valueFrom_67 : decode cX5_valueFrom 67 = .ok (.getfield 26, 3) := by decide +kernel
theorem dX5_valueFrom_70 : decode cX5_valueFrom 70 = .ok (.iload_n 3, 1) := by decide +kernel
theorem dX5_valueFrom_71 : decode cX5_valueFrom 71 = .ok (.invokevirtual 79, 3) := by decide +kernel
theorem dX5_valueFrom_74 : decode cX5_valueFrom 74 = .ok (.aload_n 0, 1) := by decide +kernel
theorem dX5_valueFrom_75 : decode cX5_valueFrom 75 = .ok (.iload_n 1, 1) := by decide +kernel
theorem dX5_valueFrom_76 : decode cX5_valueFrom 76 = .ok (.iconst 1, 1) := by decide +kernel
theorem dX5_valueFrom_77 : decode cX5_valueFrom 77 = .ok (.iadd, 1) := by decide +kernel
theorem dX5_valueFrom_78 : decode cX5_valueFrom 78 = .ok (.invokevirtual 93, 3) := by decide +kernel
theorem dX5_valueFrom_81 : decode cX5_valueFrom 81 = .ok (.iadd, 1) := by decide +kernel
theorem dX5_valueFrom_82 : decode cX5_valueFrom 82 = .ok (.istore 4, 2) := by decide +kernel
theorem dX5_valueFrom_84 : decode cX5_valueFrom 84 = .ok (.iload_n 1, 1) := by decide +kernel
theorem dX5_valueFrom_85 : decode cX5_valueFrom 85 = .ok (.iconst 2, 1) := by decide +kernel
theorem dX5_valueFrom_86 : decode cX5_valueFrom 86 = .ok (.irem, 1) := by decide +kernel
theorem dX5_valueFrom_87 : decode cX5_valueFrom 87 = .ok (.ifCond .ne 17, 3) := by decide +kernel
theorem dX5_valueFrom_90 : decode cX5_valueFrom 90 = .ok (.iload 4, 2) := by decide +kernel
theorem dX5_valueFrom_92 : decode cX5_valueFrom 92 = .ok (.iload_n 2, 1) := by decide +kernel
theorem dX5_valueFrom_93 : decode cX5_valueFrom 93 = .ok (.if_icmp .le 7, 3) := by decide +kernel
theorem dX5_valueFrom_96 : decode cX5_valueFrom 96 = .ok (.iconst 1, 1) := by decide +kernel
theorem dX5_valueFrom_97 : decode cX5_valueFrom 97 = .ok (.goto 18, 3) := by decide +kernel
theorem dX5_valueFrom_100 : decode cX5_valueFrom 100 = .ok (.iconst 0, 1) := by decide +kernel
theorem dX5_valueFrom_101 : decode cX5_valueFrom 101 = .ok (.goto 14, 3) := by decide +kernel
theorem dX5_valueFrom_104 : decode cX5_valueFrom 104 = .ok (.iload 4, 2) := by decide +kernel
theorem dX5_valueFrom_106 : decode cX5_valueFrom 106 = .ok (.iload_n 2, 1) := by decide +kernel
theorem dX5_valueFrom_107 : decode cX5_valueFrom 107 = .ok (.if_icmp .ge 7, 3) := by decide +kernel
theorem dX5_valueFrom_110 : decode cX5_valueFrom 110 = .ok (.iconst 1, 1) := by decide +kernel
theorem dX5_valueFrom_111 : decode cX5_valueFrom 111 = .ok (.goto 4, 3) := by decide +kernel
theorem dX5_valueFrom_114 : decode cX5_valueFrom 114 = .ok (.iconst 0, 1) := by decide +kernel
theorem dX5_valueFrom_115 : decode cX5_valueFrom 115 = .ok (.istore 5, 2) := by decide +kernel
theorem dX5_valueFrom_117 : decode cX5_valueFrom 117 = .ok (.iload_n 3, 1) := by decide +kernel
theorem dX5_valueFrom_118 : decode cX5_valueFrom 118 = .ok (.ifCond .eq 8, 3) := by decide +kernel
theorem dX5_valueFrom_121 : decode cX5_valueFrom 121 = .ok (.iload 5, 2) := by decide +kernel
theorem dX5_valueFrom_123 : decode cX5_valueFrom 123 = .ok (.ifCond .eq 15, 3) := by decide +kernel
theorem dX5_valueFrom_126 : decode cX5_valueFrom 126 = .ok (.iload 4, 2) := by decide +kernel
theorem dX5_valueFrom_128 : decode cX5_valueFrom 128 = .ok (.istore_n 2, 1) := by decide +kernel
theorem dX5_valueFrom_129 : decode cX5_valueFrom 129 = .ok (.iload_n 1, 1) := by decide +kernel
theorem dX5_valueFrom_130 : decode cX5_valueFrom 130 = .ok (.ifCond .ne 8, 3) := by decide +kernel
theorem dX5_valueFrom_133 : decode cX5_valueFrom 133 = .ok (.aload_n 0, 1) := by decide +kernel
theorem dX5_valueFrom_134 : decode cX5_valueFrom 134 = .ok (.iload_n 3, 1) := by decide +kernel
theorem dX5_valueFrom_135 : decode cX5_valueFrom 135 = .ok (.putfield 96, 3) := by decide +kernel
theorem dX5_valueFrom_138 : decode cX5_valueFrom 138 = .ok (.iinc 3 1, 3) := by decide +kernel
theorem dX5_valueFrom_141 : decode cX5_valueFrom 141 = .ok (.goto (-99), 3) := by decide +kernel
theorem dX5_valueFrom_144 : decode cX5_valueFrom 144 = .ok (.iload_n 2, 1) := by decide +kernel
theorem dX5_valueFrom_145 : decode cX5_valueFrom 145 = .ok (.ireturn, 1) := by decide +kernel
theorem k_X5_valueFrom : MV yX5_valueFrom cX5_valueFrom 6 (some .int) 1 := ⟨q_825, qs_26, q_13, q_826, ⟨by decide, by decide, by decide +kernel⟩⟩
theorem cb_X5_valueFrom {F : (Nat → Nat → Int32) → (Nat → Nat → Int32) → (Nat → Int32) → Int32 → Int32 → Int32 → Int32 → Nat → (Nat → Int32) → (Nat → Int32) → Int32 → (Nat → Nat → Int32) → Int32 → (Nat → Int32) → (Nat → Nat → Int32) → (Nat → Nat → Int32) → (Nat → Nat → Int32) → (Nat → Nat → Int32) → (Nat → Nat → Int32) → (Nat → Nat) → (Nat → Nat) → (Nat → Nat) → (Nat → Nat) → Nat → Int32 → Option (Int32 × (Nat → Nat → Int32) × Int32 × Int32 × (Nat → Int32) × (Nat → Int32) × Int32 × (Nat → Nat → Int32) × (Nat → Nat → Int32))} {d : Nat} (hF0 : ∀ {x_q0_dials : Nat → Nat → Int32} {x_q0_spots : Nat → Nat → Int32} {x_q0_skies : Nat → Int32} {x_q0_reports : Nat → Nat → Int32} {x_q0_count : Int32} {x_q0_chime : Int32} {x_q0_end : Int32} {x_q0_score : Int32} {x_q0_reportCount : Int32} {x_q0_z : Int32} {x_q0_rules : Nat} {x_q0_shades : Nat → Int32} {x_q0_facts : Nat → Int32} {x_q1_dials : Nat → Nat → Int32} {x_q1_spots : Nat → Nat → Int32} {x_q1_skies : Nat → Int32} {x_q1_reports : Nat → Nat → Int32} {x_q1_count : Int32} {x_q1_chime : Int32} {x_q1_end : Int32} {x_q1_score : Int32} {x_q1_reportCount : Int32} {x_q1_z : Int32} {x_q1_rules : Nat} {x_q1_shades : Nat → Int32} {x_q1_facts : Nat → Int32} {x_q2_dials : Nat → Nat → Int32} {x_q2_spots : Nat → Nat → Int32} {x_q2_skies : Nat → Int32} {x_q2_reports : Nat → Nat → Int32} {x_q2_count : Int32} {x_q2_chime : Int32} {x_q2_end : Int32} {x_q2_score : Int32} {x_q2_reportCount : Int32} {x_q2_z : Int32} {x_q2_rules : Nat} {x_q2_shades : Nat → Int32} {x_q2_facts : Nat → Int32} {x_isKept : Int32} {x_marks : Nat → Int32} {x_p_first : Nat → Int32} {x_p_steps : Int32} {x_p_most : Int32} {x_p_many : Int32} {x_p_fewest : Int32} {x_p_everRight : Int32} {x_p_opening : Int32} {x_p_rows : Nat → Nat → Int32} {x_p_rowCount : Int32} {x_p_acts : Nat → Int32} {x_p_marks : Nat → Nat → Int32} {x_p_deepest : Int32} {x_p_wanted : Int32} {x_t_length : Int32} {x_t_tape : Nat → Int32} {x_t_words : Nat → Int32} {x_t_places : Nat → Int32} {x_t_at : Int32} {x_t_kinds : Nat → Int32} {x_t_wills : Nat → Int32} {x_t_starts : Nat → Int32} {x_t_code : Nat → Int32} {x_t_count : Int32} {x_t_size : Int32} {x_h_sorts : Nat → Int32} {x_h_lengths : Nat → Int32} {x_h_items : Nat → Nat → Int32} {x_h_held : Nat → Int32} {x_h_things : Nat → Int32} {x_h_sizes : Nat → Int32} {x_h_bodies : Nat → Int32} {x_h_traced : Int32} {x_h_number : Int32} {x_h_spot : Int32} {x_h_parted : Int32} {x_g_count : Nat → Int32} {x_g_kinds : Nat → Nat → Int32} {x_g_wills : Nat → Nat → Int32} {x_g_starts : Nat → Nat → Int32} {x_g_code : Nat → Nat → Int32} {x_g_stack : Nat → Nat → Int32} {x_g_kl : Nat → Nat} {x_g_wl : Nat → Nat} {x_g_sl : Nat → Nat} {x_g_cl : Nat → Nat} {x_nr : Nat} {v1 : Int32} {res : Int32 × (Nat → Nat → Int32) × Int32 × Int32 × (Nat → Int32) × (Nat → Int32) × Int32 × (Nat → Nat → Int32) × (Nat → Nat → Int32)}, F x_q2_dials x_q2_spots x_q2_skies x_q2_count x_q2_chime x_q2_end x_q2_score x_q2_rules x_q2_shades x_q2_facts x_p_opening x_p_marks x_p_deepest x_g_count x_g_kinds x_g_wills x_g_starts x_g_code x_g_stack x_g_kl x_g_wl x_g_sl x_g_cl x_nr v1 = some res → MC l E0 D t yX5_valueFrom cX5_valueFrom 6 (some .int) (6 + 4 * d) 0 0 [.ref (a 84), .int v1] (cW a ar t x_q0_dials x_q0_spots x_q0_skies x_q0_reports x_q0_count x_q0_chime x_q0_end x_q0_score x_q0_reportCount x_q0_z x_q0_rules x_q0_shades x_q0_facts x_q1_dials x_q1_spots x_q1_skies x_q1_reports x_q1_count x_q1_chime x_q1_end x_q1_score x_q1_reportCount x_q1_z x_q1_rules x_q1_shades x_q1_facts x_q2_dials x_q2_spots x_q2_skies x_q2_reports x_q2_count x_q2_chime x_q2_end x_q2_score x_q2_reportCount x_q2_z x_q2_rules x_q2_shades x_q2_facts x_isKept x_marks x_p_first x_p_steps x_p_most x_p_many x_p_fewest x_p_everRight x_p_opening x_p_rows x_p_rowCount x_p_acts x_p_marks x_p_deepest x_p_wanted x_t_length x_t_tape x_t_words x_t_places x_t_at x_t_kinds x_t_wills x_t_starts x_t_code x_t_count x_t_size x_h_sorts x_h_lengths x_h_items x_h_held x_h_things x_h_sizes x_h_bodies x_h_traced x_h_number x_h_spot x_h_parted x_g_count x_g_kinds x_g_wills x_g_starts x_g_code x_g_stack x_g_kl x_g_wl x_g_sl x_g_cl x_nr) (Qi res.1 (cW a ar t x_q0_dials x_q0_spots x_q0_skies x_q0_reports x_q0_count x_q0_chime x_q0_end x_q0_score x_q0_reportCount x_q0_z x_q0_rules x_q0_shades x_q0_facts x_q1_dials x_q1_spots x_q1_skies x_q1_reports x_q1_count x_q1_chime x_q1_end x_q1_score x_q1_reportCount x_q1_z x_q1_rules x_q1_shades x_q1_facts res.2.1 x_q2_spots x_q2_skies x_q2_reports x_q2_count res.2.2.1 x_q2_end res.2.2.2.1 x_q2_reportCount x_q2_z x_q2_rules res.2.2.2.2.1 res.2.2.2.2.2.1 x_isKept x_marks x_p_first x_p_steps x_p_most x_p_many x_p_fewest x_p_everRight res.2.2.2.2.2.2.1 x_p_rows x_p_rowCount x_p_acts res.2.2.2.2.2.2.2.1 x_p_deepest x_p_wanted x_t_length x_t_tape x_t_words x_t_places x_t_at x_t_kinds x_t_wills x_t_starts x_t_code x_t_count x_t_size x_h_sorts x_h_lengths x_h_items x_h_held x_h_things x_h_sizes x_h_bodies x_h_traced x_h_number x_h_spot x_h_parted x_g_count x_g_kinds x_g_wills x_g_starts x_g_code res.2.2.2.2.2.2.2.2 x_g_kl x_g_wl x_g_sl x_g_cl x_nr))) {v1 : Int32} {res : Int32 × (Nat → Nat → Int32) × Int32 × Int32 × (Nat → Int32) × (Nat → Int32) × Int32 × (Nat → Nat → Int32) × (Nat → Nat → Int32)} (hf : X5_valueFrom_b n F x_q2_dials x_q2_spots x_q2_skies x_q2_count x_q2_chime x_q2_end x_q2_score x_q2_rules x_q2_shades x_q2_facts x_p_opening x_p_marks x_p_deepest x_g_count x_g_kinds x_g_wills x_g_starts x_g_code x_g_stack x_g_kl x_g_wl x_g_sl x_g_cl x_nr v1 = some res) : MC l E0 D t yX5_valueFrom cX5_valueFrom 6 (some .int) (6 + 4 * (d + 1)) 0 0 [.ref (a 84), .int v1] (cW a ar t x_q0_dials x_q0_spots x_q0_skies x_q0_reports x_q0_count x_q0_chime x_q0_end x_q0_score x_q0_reportCount x_q0_z x_q0_rules x_q0_shades x_q0_facts x_q1_dials x_q1_spots x_q1_skies x_q1_reports x_q1_count x_q1_chime x_q1_end x_q1_score x_q1_reportCount x_q1_z x_q1_rules x_q1_shades x_q1_facts x_q2_dials x_q2_spots x_q2_skies x_q2_reports x_q2_count x_q2_chime x_q2_end x_q2_score x_q2_reportCount x_q2_z x_q2_rules x_q2_shades x_q2_facts x_isKept x_marks x_p_first x_p_steps x_p_most x_p_many x_p_fewest x_p_everRight x_p_opening x_p_rows x_p_rowCount x_p_acts x_p_marks x_p_deepest x_p_wanted x_t_length x_t_tape x_t_words x_t_places x_t_at x_t_kinds x_t_wills x_t_starts x_t_code x_t_count x_t_size x_h_sorts x_h_lengths x_h_items x_h_held x_h_things x_h_sizes x_h_bodies x_h_traced x_h_number x_h_spot x_h_parted x_g_count x_g_kinds x_g_wills x_g_starts x_g_code x_g_stack x_g_kl x_g_wl x_g_sl x_g_cl x_nr) (Qi res.1 (cW a ar t x_q0_dials x_q0_spots x_q0_skies x_q0_reports x_q0_count x_q0_chime x_q0_end x_q0_score x_q0_reportCount x_q0_z x_q0_rules x_q0_shades x_q0_facts x_q1_dials x_q1_spots x_q1_skies x_q1_reports x_q1_count x_q1_chime x_q1_end x_q1_score x_q1_reportCount x_q1_z x_q1_rules x_q1_shades x_q1_facts res.2.1 x_q2_spots x_q2_skies x_q2_reports x_q2_count res.2.2.1 x_q2_end res.2.2.2.1 x_q2_reportCount x_q2_z x_q2_rules res.2.2.2.2.1 res.2.2.2.2.2.1 x_isKept x_marks x_p_first x_p_steps x_p_most x_p_many x_p_fewest x_p_everRight res.2.2.2.2.2.2.1 x_p_rows x_p_rowCount x_p_acts res.2.2.2.2.2.2.2.1 x_p_deepest x_p_wanted x_t_length x_t_tape x_t_words x_t_places x_t_at x_t_kinds x_t_wills x_t_starts x_t_code x_t_count x_t_size x_h_sorts x_h_lengths x_h_items x_h_held x_h_things x_h_sizes x_h_bodies x_h_traced x_h_number x_h_spot x_h_parted x_g_count x_g_kinds x_g_wills x_g_starts x_g_code res.2.2.2.2.2.2.2.2 x_g_kl x_g_wl x_g_sl x_g_cl x_nr)) := by
  unfold X5_valueFrom_b at hf
  refine MC.ofI pn_X5 (Nat.le_of_ble_eq_true rfl) ?_
  intro p e s m args below meth c A Q ls cx hR hw hl
  have hx := cx.1
  have hb := cx.2.1
  have hl : lv_has ls 6 [(0, .ref (a 84)), (1, .int v1)] := hl
  refine lv_iload_n hx hb dX5_valueFrom_0 rfl (lv_at hl 1 rfl) ?_
  refine lv_aload_n hx hb dX5_valueFrom_1 rfl (lv_at hl 0 rfl) ?_
  refine cg_X5_40_plans cx hw dX5_valueFrom_2 ?_
  refine lv_icmp_ge (tgt := 23) hx hb dX5_valueFrom_5 (by decide) (fun hc => ?_) (fun hc => ?_)
  · have hf := ifT hf hc
    refine lv_iconst (v := 0) hx hb dX5_valueFrom_23 (by decide) ?_
    have hf := Option.some.inj hf
    subst hf
    exact hR _ _ _ _ _ _ hw rfl ⟨rfl, rfl⟩ dX5_valueFrom_24
  · have hf := ifF hf hc
    refine lv_iload_n hx hb dX5_valueFrom_8 rfl (lv_at hl 1 rfl) ?_
    refine lv_iconst (v := 4) hx hb dX5_valueFrom_9 (by decide) ?_
    refine lv_icmp_ge (tgt := 23) hx hb dX5_valueFrom_10 (by decide) (fun hc => ?_) (fun hc => ?_)
    · have hf := ifT hf hc
      refine lv_iconst (v := 0) hx hb dX5_valueFrom_23 (by decide) ?_
      have hf := Option.some.inj hf
      subst hf
      exact hR _ _ _ _ _ _ hw rfl ⟨rfl, rfl⟩ dX5_valueFrom_24
    · have hf := ifF hf hc
      refine lv_aload_n hx hb dX5_valueFrom_13 rfl (lv_at hl 0 rfl) ?_
      refine cg_X5_26_plans cx hw dX5_valueFrom_14 ?_
      refine calVi cx hw hl.1 (c_X9_isOver_q2 rfl) q_785 k_X9_isOver rfl rv_q2 rfl dX5_valueFrom_17 rfl (Nat.le_of_ble_eq_true rfl) ⟨by show _ ≤ 6 + 4 * (d + 1); omega, by show _ ≤ 64 * (6 + 4 * (d + 1)); omega⟩ ⟨Nat.le_refl _, Nat.le_refl _⟩ (fun H locs hw => ?_)
      refine lv_if_eq (tgt := 25) hx hb dX5_valueFrom_20 (by decide) (fun hc => ?_) (fun hc => ?_)
      · have hf := ifT hf hc
        refine lv_aload_n hx hb dX5_valueFrom_25 rfl (lv_at hl 0 rfl) ?_
        refine cg_X5_26_plans cx hw dX5_valueFrom_26 ?_
        refine lv_aload_n hx hb dX5_valueFrom_29 rfl (lv_at hl 0 rfl) ?_
        refine cg_X5_23_plans cx hw dX5_valueFrom_30 ?_
        refine lv_iload_n hx hb dX5_valueFrom_33 rfl (lv_at hl 1 rfl) ?_
        obtain ⟨h1, hf⟩ := ckS hf
        refine co_p_marks (j := v1.toNatClampNeg) cx hw (ib_in h1) rfl dX5_valueFrom_34 ?_
        obtain ⟨r2, h3, hf⟩ := bnS hf
        refine calVv cx hw hl.1 (c_X9_mark_q2_pm (ib_lt h1) h3) q_792 k_X9_mark rfl rv_q2 rfl dX5_valueFrom_35 rfl (Nat.le_of_ble_eq_true rfl) ⟨by show _ ≤ 6 + 4 * (d + 1); omega, by show _ ≤ 64 * (6 + 4 * (d + 1)); omega⟩ ⟨Nat.le_refl _, Nat.le_refl _⟩ (fun H locs hw => ?_)
        refine lv_iconst (v := 0) hx hb dX5_valueFrom_38 (by decide) ?_
        refine lv_istore_n (lv' := [(2, .int (0 : Int32)), (0, .ref (a 84)), (1, .int v1)]) hx hb dX5_valueFrom_39 rfl hl (by decide) rfl (fun ls hl => ?_)
        refine lv_iconst (v := 0) hx hb dX5_valueFrom_40 (by decide) ?_
        refine lv_istore_n (lv' := [(3, .int (0 : Int32)), (2, .int (0 : Int32)), (0, .ref (a 84)), (1, .int v1)]) hx hb dX5_valueFrom_41 rfl hl (by decide) rfl (fun ls hl => ?_)
        obtain ⟨o13, ho13, hf⟩ := bnS hf
        have wL1 : ∀ (k : Nat) {v1 : Int32} {v2 : Int32} {v3 : Int32} {x_q2_dials : Nat → Nat → Int32} {x_q2_chime : Int32} {x_q2_score : Int32} {x_q2_shades : Nat → Int32} {x_q2_facts : Nat → Int32} {x_p_opening : Int32} {x_p_marks : Nat → Nat → Int32} {x_g_stack : Nat → Nat → Int32} {H : Heap} {locs : List Loc} {ls : Array Slot} {o : Int32 × Int32 × (Nat → Nat → Int32) × Int32 × Int32 × (Nat → Int32) × (Nat → Int32) × Int32 × (Nat → Nat → Int32) × (Nat → Nat → Int32)}, X5_valueFrom_L1 n F x_q2_spots x_q2_skies x_q2_count x_q2_end x_q2_rules x_p_deepest x_g_count x_g_kinds x_g_wills x_g_starts x_g_code x_g_kl x_g_wl x_g_sl x_g_cl x_nr v1 k v2 v3 x_q2_dials x_q2_chime x_q2_score x_q2_shades x_q2_facts x_p_opening x_p_marks x_g_stack = some o → Wd D A s (cW a ar t x_q0_dials x_q0_spots x_q0_skies x_q0_reports x_q0_count x_q0_chime x_q0_end x_q0_score x_q0_reportCount x_q0_z x_q0_rules x_q0_shades x_q0_facts x_q1_dials x_q1_spots x_q1_skies x_q1_reports x_q1_count x_q1_chime x_q1_end x_q1_score x_q1_reportCount x_q1_z x_q1_rules x_q1_shades x_q1_facts x_q2_dials x_q2_spots x_q2_skies x_q2_reports x_q2_count x_q2_chime x_q2_end x_q2_score x_q2_reportCount x_q2_z x_q2_rules x_q2_shades x_q2_facts x_isKept x_marks x_p_first x_p_steps x_p_most x_p_many x_p_fewest x_p_everRight x_p_opening x_p_rows x_p_rowCount x_p_acts x_p_marks x_p_deepest x_p_wanted x_t_length x_t_tape x_t_words x_t_places x_t_at x_t_kinds x_t_wills x_t_starts x_t_code x_t_count x_t_size x_h_sorts x_h_lengths x_h_items x_h_held x_h_things x_h_sizes x_h_bodies x_h_traced x_h_number x_h_spot x_h_parted x_g_count x_g_kinds x_g_wills x_g_starts x_g_code x_g_stack x_g_kl x_g_wl x_g_sl x_g_cl x_nr) H locs → lv_has ls 6 [(0, .ref (a 84)), (1, .int v1), (2, .int v2), (3, .int v3)] → (∀ (H : Heap) (locs : List Loc) (ls : Array Slot), Wd D A s (cW a ar t x_q0_dials x_q0_spots x_q0_skies x_q0_reports x_q0_count x_q0_chime x_q0_end x_q0_score x_q0_reportCount x_q0_z x_q0_rules x_q0_shades x_q0_facts x_q1_dials x_q1_spots x_q1_skies x_q1_reports x_q1_count x_q1_chime x_q1_end x_q1_score x_q1_reportCount x_q1_z x_q1_rules x_q1_shades x_q1_facts o.2.2.1 x_q2_spots x_q2_skies x_q2_reports x_q2_count o.2.2.2.1 x_q2_end o.2.2.2.2.1 x_q2_reportCount x_q2_z x_q2_rules o.2.2.2.2.2.1 o.2.2.2.2.2.2.1 x_isKept x_marks x_p_first x_p_steps x_p_most x_p_many x_p_fewest x_p_everRight o.2.2.2.2.2.2.2.1 x_p_rows x_p_rowCount x_p_acts o.2.2.2.2.2.2.2.2.1 x_p_deepest x_p_wanted x_t_length x_t_tape x_t_words x_t_places x_t_at x_t_kinds x_t_wills x_t_starts x_t_code x_t_count x_t_size x_h_sorts x_h_lengths x_h_items x_h_held x_h_things x_h_sizes x_h_bodies x_h_traced x_h_number x_h_spot x_h_parted x_g_count x_g_kinds x_g_wills x_g_starts x_g_code o.2.2.2.2.2.2.2.2.2 x_g_kl x_g_wl x_g_sl x_g_cl x_nr) H locs → lv_has ls 6 [(0, .ref (a 84)), (1, .int v1), (2, .int o.1), (3, .int o.2.1)] → W p l e (rmz (6 + 4 * (d + 1)) 0 0) s m args below meth c H locs 0 0 Q (F0 m 144 ls [])) → W p l e (rmz (6 + 4 * (d + 1)) 0 0) s m args below meth c H locs 0 0 Q (F0 m 42 ls []) := by
          clear hf ho13 hw hl
          intro k
          induction k with
          | zero => intro v1 v2 v3 x_q2_dials x_q2_chime x_q2_score x_q2_shades x_q2_facts x_p_opening x_p_marks x_g_stack H locs ls o hf hw hl kx; simp [X5_valueFrom_L1] at hf
          | succ k ih =>
            intro v1 v2 v3 x_q2_dials x_q2_chime x_q2_score x_q2_shades x_q2_facts x_p_opening x_p_marks x_g_stack H locs ls o hf hw hl kx
            rw [X5_valueFrom_L1] at hf
            refine lv_iload_n hx hb dX5_valueFrom_42 rfl (lv_at hl 3 rfl) ?_
            refine lv_aload_n hx hb dX5_valueFrom_43 rfl (lv_at hl 0 rfl) ?_
            refine cg_X5_26_plans cx hw dX5_valueFrom_44 ?_
            refine cg_X5_73_q2 cx hw dX5_valueFrom_47 ?_
            refine lv_icmp_gt (tgt := 144) hx hb dX5_valueFrom_50 (by decide) (fun hc => ?_) (fun hc => ?_)
            · have hf := ifT hf hc
              have hf := Option.some.inj hf
              subst hf
              exact kx _ _ _ hw (lv_sub hl [0, 1, 2, 3] rfl)
            · have hf := ifF hf hc
              refine lv_aload_n hx hb dX5_valueFrom_53 rfl (lv_at hl 0 rfl) ?_
              refine cg_X5_26_plans cx hw dX5_valueFrom_54 ?_
              refine lv_aload_n hx hb dX5_valueFrom_57 rfl (lv_at hl 0 rfl) ?_
              refine cg_X5_23_plans cx hw dX5_valueFrom_58 ?_
              refine lv_iload_n hx hb dX5_valueFrom_61 rfl (lv_at hl 1 rfl) ?_
              obtain ⟨h4, hf⟩ := ckS hf
              refine co_p_marks (j := v1.toNatClampNeg) cx hw (ib_in h4) rfl dX5_valueFrom_62 ?_
              obtain ⟨r5, h6, hf⟩ := bnS hf
              refine calVv cx hw hl.1 (c_X9_back_q2_pm (ib_lt h4) h6) q_793 k_X9_back rfl rv_q2 rfl dX5_valueFrom_63 rfl (Nat.le_of_ble_eq_true rfl) ⟨by show _ ≤ 6 + 4 * (d + 1); omega, by show _ ≤ 64 * (6 + 4 * (d + 1)); omega⟩ ⟨Nat.le_refl _, Nat.le_refl _⟩ (fun H locs hw => ?_)
              refine lv_aload_n hx hb dX5_valueFrom_66 rfl (lv_at hl 0 rfl) ?_
              refine cg_X5_26_plans cx hw dX5_valueFrom_67 ?_
              refine lv_iload_n hx hb dX5_valueFrom_70 rfl (lv_at hl 3 rfl) ?_
              obtain ⟨r7, h8, hf⟩ := bnS hf
              refine calVi cx hw hl.1 (c_X9_goBy_q2 h8) q_794 k_X9_goBy rfl rv_q2 rfl dX5_valueFrom_71 rfl (Nat.le_of_ble_eq_true rfl) ⟨by show _ ≤ 6 + 4 * (d + 1); omega, by show _ ≤ 64 * (6 + 4 * (d + 1)); omega⟩ ⟨Nat.le_refl _, Nat.le_refl _⟩ (fun H locs hw => ?_)
              refine lv_aload_n hx hb dX5_valueFrom_74 rfl (lv_at hl 0 rfl) ?_
              refine lv_iload_n hx hb dX5_valueFrom_75 rfl (lv_at hl 1 rfl) ?_
              refine lv_iconst (v := 1) hx hb dX5_valueFrom_76 (by decide) ?_
              refine lv_iadd hx hb dX5_valueFrom_77 ?_
              obtain ⟨r9, h10, hf⟩ := bnS hf
              refine calVi cx hw hl.1 (hF0 h10) q_823 k_X5_valueFrom rfl rv_plans rfl dX5_valueFrom_78 rfl (Nat.le_of_ble_eq_true rfl) ⟨by show _ ≤ 6 + 4 * (d + 1); omega, by show _ ≤ 64 * (6 + 4 * (d + 1)); omega⟩ ⟨Nat.le_refl _, Nat.le_refl _⟩ (fun H locs hw => ?_)
              refine lv_iadd hx hb dX5_valueFrom_81 ?_
              refine lv_istore (lv' := [(4, .int (r7.1 + r9.1)), (0, .ref (a 84)), (1, .int v1), (2, .int v2), (3, .int v3)]) hx hb dX5_valueFrom_82 hl (by decide) rfl (fun ls hl => ?_)
              refine lv_iload_n hx hb dX5_valueFrom_84 rfl (lv_at hl 2 rfl) ?_
              refine lv_iconst (v := 2) hx hb dX5_valueFrom_85 (by decide) ?_
              refine lv_irem hx hb dX5_valueFrom_86 (by decide) ?_
              obtain ⟨j11, hj11, hf⟩ := pbS hf
              have wj11 : ∀ (H : Heap) (locs : List Loc) (ls : Array Slot), Wd D A s (cW a ar t x_q0_dials x_q0_spots x_q0_skies x_q0_reports x_q0_count x_q0_chime x_q0_end x_q0_score x_q0_reportCount x_q0_z x_q0_rules x_q0_shades x_q0_facts x_q1_dials x_q1_spots x_q1_skies x_q1_reports x_q1_count x_q1_chime x_q1_end x_q1_score x_q1_reportCount x_q1_z x_q1_rules x_q1_shades x_q1_facts r9.2.1 x_q2_spots x_q2_skies x_q2_reports x_q2_count r9.2.2.1 x_q2_end r9.2.2.2.1 x_q2_reportCount x_q2_z x_q2_rules r9.2.2.2.2.1 r9.2.2.2.2.2.1 x_isKept x_marks x_p_first x_p_steps x_p_most x_p_many x_p_fewest x_p_everRight r9.2.2.2.2.2.2.1 x_p_rows x_p_rowCount x_p_acts r9.2.2.2.2.2.2.2.1 x_p_deepest x_p_wanted x_t_length x_t_tape x_t_words x_t_places x_t_at x_t_kinds x_t_wills x_t_starts x_t_code x_t_count x_t_size x_h_sorts x_h_lengths x_h_items x_h_held x_h_things x_h_sizes x_h_bodies x_h_traced x_h_number x_h_spot x_h_parted x_g_count x_g_kinds x_g_wills x_g_starts x_g_code r9.2.2.2.2.2.2.2.2 x_g_kl x_g_wl x_g_sl x_g_cl x_nr) H locs → lv_has ls 6 [(0, .ref (a 84)), (1, .int v1), (2, .int v2), (3, .int v3), (4, .int (r7.1 + r9.1))] → W p l e (rmz (6 + 4 * (d + 1)) 0 0) s m args below meth c H locs 0 0 Q (F0 m 115 ls [.int j11]) := by
                intro H locs ls hw hl
                refine lv_istore (lv' := [(5, .int j11), (0, .ref (a 84)), (1, .int v1), (2, .int v2), (3, .int v3), (4, .int (r7.1 + r9.1))]) hx hb dX5_valueFrom_115 hl (by decide) rfl (fun ls hl => ?_)
                refine lv_iload_n hx hb dX5_valueFrom_117 rfl (lv_at hl 4 rfl) ?_
                obtain ⟨j12, hj12, hf⟩ := pbS hf
                have wj12 : ∀ (H : Heap) (locs : List Loc) (ls : Array Slot), Wd D A s (cW a ar t x_q0_dials x_q0_spots x_q0_skies x_q0_reports x_q0_count x_q0_chime x_q0_end x_q0_score x_q0_reportCount x_q0_z x_q0_rules x_q0_shades x_q0_facts x_q1_dials x_q1_spots x_q1_skies x_q1_reports x_q1_count x_q1_chime x_q1_end x_q1_score x_q1_reportCount x_q1_z x_q1_rules x_q1_shades x_q1_facts r9.2.1 x_q2_spots x_q2_skies x_q2_reports x_q2_count r9.2.2.1 x_q2_end r9.2.2.2.1 x_q2_reportCount x_q2_z x_q2_rules r9.2.2.2.2.1 r9.2.2.2.2.2.1 x_isKept x_marks x_p_first x_p_steps x_p_most x_p_many x_p_fewest x_p_everRight j12.2 x_p_rows x_p_rowCount x_p_acts r9.2.2.2.2.2.2.2.1 x_p_deepest x_p_wanted x_t_length x_t_tape x_t_words x_t_places x_t_at x_t_kinds x_t_wills x_t_starts x_t_code x_t_count x_t_size x_h_sorts x_h_lengths x_h_items x_h_held x_h_things x_h_sizes x_h_bodies x_h_traced x_h_number x_h_spot x_h_parted x_g_count x_g_kinds x_g_wills x_g_starts x_g_code r9.2.2.2.2.2.2.2.2 x_g_kl x_g_wl x_g_sl x_g_cl x_nr) H locs → lv_has ls 6 [(0, .ref (a 84)), (1, .int v1), (2, .int j12.1), (3, .int v3), (4, .int (r7.1 + r9.1)), (5, .int j11)] → W p l e (rmz (6 + 4 * (d + 1)) 0 0) s m args below meth c H locs 0 0 Q (F0 m 138 ls []) := by
                  intro H locs ls hw hl
                  refine lv_iinc (v := (v3 + (1 : Int32))) (lv' := [(3, .int (v3 + (1 : Int32))), (0, .ref (a 84)), (1, .int v1), (2, .int j12.1), (4, .int (r7.1 + r9.1)), (5, .int j11)]) hx hb dX5_valueFrom_138 hl (k := 3) rfl rfl (by decide) rfl (fun ls hl => ?_)
                  refine lv_goto (tgt := 42) hx hb dX5_valueFrom_141 (by decide) ?_
                  exact ih hf hw (lv_sub hl [1, 2, 3, 0] rfl) kx
                clear hf
                have hf := hj12
                clear hj12
                refine lv_if_eq (tgt := 126) hx hb dX5_valueFrom_118 (by decide) (fun hc => ?_) (fun hc => ?_)
                · have hf := ifT hf hc
                  refine lv_iload hx hb dX5_valueFrom_126 (lv_at hl 5 rfl) ?_
                  refine lv_istore_n (lv' := [(2, .int (r7.1 + r9.1)), (5, .int j11), (0, .ref (a 84)), (1, .int v1), (3, .int v3), (4, .int (r7.1 + r9.1))]) hx hb dX5_valueFrom_128 rfl hl (by decide) rfl (fun ls hl => ?_)
                  refine lv_iload_n hx hb dX5_valueFrom_129 rfl (lv_at hl 3 rfl) ?_
                  refine lv_if_ne (tgt := 138) hx hb dX5_valueFrom_130 (by decide) (fun hc => ?_) (fun hc => ?_)
                  · have hf := ifF hf hc
                    subst hf
                    exact wj12 _ _ _ hw (lv_sub hl [2, 3, 0, 4, 5, 1] rfl)
                  · have hf := ifT hf hc
                    refine lv_aload_n hx hb dX5_valueFrom_133 rfl (lv_at hl 2 rfl) ?_
                    refine lv_iload_n hx hb dX5_valueFrom_134 rfl (lv_at hl 4 rfl) ?_
                    refine cp_X5_96_plans cx hw dX5_valueFrom_135 (fun H locs hw => ?_)
                    subst hf
                    exact wj12 _ _ _ hw (lv_sub hl [2, 3, 0, 4, 5, 1] rfl)
                · have hf := ifF hf hc
                  refine lv_iload hx hb dX5_valueFrom_121 (lv_at hl 0 rfl) ?_
                  refine lv_if_eq (tgt := 138) hx hb dX5_valueFrom_123 (by decide) (fun hc => ?_) (fun hc => ?_)
                  · have hf := ifT hf hc
                    subst hf
                    exact wj12 _ _ _ hw (lv_sub hl [1, 2, 3, 4, 5, 0] rfl)
                  · have hf := ifF hf hc
                    refine lv_iload hx hb dX5_valueFrom_126 (lv_at hl 5 rfl) ?_
                    refine lv_istore_n (lv' := [(2, .int (r7.1 + r9.1)), (5, .int j11), (0, .ref (a 84)), (1, .int v1), (3, .int v3), (4, .int (r7.1 + r9.1))]) hx hb dX5_valueFrom_128 rfl hl (by decide) rfl (fun ls hl => ?_)
                    refine lv_iload_n hx hb dX5_valueFrom_129 rfl (lv_at hl 3 rfl) ?_
                    refine lv_if_ne (tgt := 138) hx hb dX5_valueFrom_130 (by decide) (fun hc => ?_) (fun hc => ?_)
                    · have hf := ifF hf hc
                      subst hf
                      exact wj12 _ _ _ hw (lv_sub hl [2, 3, 0, 4, 5, 1] rfl)
                    · have hf := ifT hf hc
                      refine lv_aload_n hx hb dX5_valueFrom_133 rfl (lv_at hl 2 rfl) ?_
                      refine lv_iload_n hx hb dX5_valueFrom_134 rfl (lv_at hl 4 rfl) ?_
                      refine cp_X5_96_plans cx hw dX5_valueFrom_135 (fun H locs hw => ?_)
                      subst hf
                      exact wj12 _ _ _ hw (lv_sub hl [2, 3, 0, 4, 5, 1] rfl)
              clear hf
              have hf := hj11
              clear hj11
              refine lv_if_ne (tgt := 104) hx hb dX5_valueFrom_87 (by decide) (fun hc => ?_) (fun hc => ?_)
              · have hf := ifF hf hc
                refine lv_iload hx hb dX5_valueFrom_104 (lv_at hl 0 rfl) ?_
                refine lv_iload_n hx hb dX5_valueFrom_106 rfl (lv_at hl 3 rfl) ?_
                refine lv_icmp_ge (tgt := 114) hx hb dX5_valueFrom_107 (by decide) (fun hc => ?_) (fun hc => ?_)
                · have hf := ifT hf hc
                  refine lv_iconst (v := 0) hx hb dX5_valueFrom_114 (by decide) ?_
                  subst hf
                  exact wj11 _ _ _ hw (lv_sub hl [1, 2, 3, 4, 0] rfl)
                · have hf := ifF hf hc
                  refine lv_iconst (v := 1) hx hb dX5_valueFrom_110 (by decide) ?_
                  refine lv_goto (tgt := 115) hx hb dX5_valueFrom_111 (by decide) ?_
                  subst hf
                  exact wj11 _ _ _ hw (lv_sub hl [1, 2, 3, 4, 0] rfl)
              · have hf := ifT hf hc
                refine lv_iload hx hb dX5_valueFrom_90 (lv_at hl 0 rfl) ?_
                refine lv_iload_n hx hb dX5_valueFrom_92 rfl (lv_at hl 3 rfl) ?_
                refine lv_icmp_le (tgt := 100) hx hb dX5_valueFrom_93 (by decide) (fun hc => ?_) (fun hc => ?_)
                · have hf := ifT hf hc
                  refine lv_iconst (v := 0) hx hb dX5_valueFrom_100 (by decide) ?_
                  refine lv_goto (tgt := 115) hx hb dX5_valueFrom_101 (by decide) ?_
                  subst hf
                  exact wj11 _ _ _ hw (lv_sub hl [1, 2, 3, 4, 0] rfl)
                · have hf := ifF hf hc
                  refine lv_iconst (v := 1) hx hb dX5_valueFrom_96 (by decide) ?_
                  refine lv_goto (tgt := 115) hx hb dX5_valueFrom_97 (by decide) ?_
                  subst hf
                  exact wj11 _ _ _ hw (lv_sub hl [1, 2, 3, 4, 0] rfl)
        refine wL1 n ho13 hw (lv_sub hl [2, 3, 1, 0] rfl) (fun H locs ls hw hl => ?_)
        clear wL1 ho13
        refine lv_iload_n hx hb dX5_valueFrom_144 rfl (lv_at hl 2 rfl) ?_
        have hf := Option.some.inj hf
        subst hf
        exact hR _ _ _ _ _ _ hw rfl ⟨rfl, rfl⟩ dX5_valueFrom_145
      · have hf := ifF hf hc
        refine lv_iconst (v := 0) hx hb dX5_valueFrom_23 (by decide) ?_
        have hf := Option.some.inj hf
        subst hf
        exact hR _ _ _ _ _ _ hw rfl ⟨rfl, rfl⟩ dX5_valueFrom_24
theorem c_X5_valueFrom : ∀ {d : Nat} {x_q0_dials : Nat → Nat → Int32} {x_q0_spots : Nat → Nat → Int32} {x_q0_skies : Nat → Int32} {x_q0_reports : Nat → Nat → Int32} {x_q0_count : Int32} {x_q0_chime : Int32} {x_q0_end : Int32} {x_q0_score : Int32} {x_q0_reportCount : Int32} {x_q0_z : Int32} {x_q0_rules : Nat} {x_q0_shades : Nat → Int32} {x_q0_facts : Nat → Int32} {x_q1_dials : Nat → Nat → Int32} {x_q1_spots : Nat → Nat → Int32} {x_q1_skies : Nat → Int32} {x_q1_reports : Nat → Nat → Int32} {x_q1_count : Int32} {x_q1_chime : Int32} {x_q1_end : Int32} {x_q1_score : Int32} {x_q1_reportCount : Int32} {x_q1_z : Int32} {x_q1_rules : Nat} {x_q1_shades : Nat → Int32} {x_q1_facts : Nat → Int32} {x_q2_dials : Nat → Nat → Int32} {x_q2_spots : Nat → Nat → Int32} {x_q2_skies : Nat → Int32} {x_q2_reports : Nat → Nat → Int32} {x_q2_count : Int32} {x_q2_chime : Int32} {x_q2_end : Int32} {x_q2_score : Int32} {x_q2_reportCount : Int32} {x_q2_z : Int32} {x_q2_rules : Nat} {x_q2_shades : Nat → Int32} {x_q2_facts : Nat → Int32} {x_isKept : Int32} {x_marks : Nat → Int32} {x_p_first : Nat → Int32} {x_p_steps : Int32} {x_p_most : Int32} {x_p_many : Int32} {x_p_fewest : Int32} {x_p_everRight : Int32} {x_p_opening : Int32} {x_p_rows : Nat → Nat → Int32} {x_p_rowCount : Int32} {x_p_acts : Nat → Int32} {x_p_marks : Nat → Nat → Int32} {x_p_deepest : Int32} {x_p_wanted : Int32} {x_t_length : Int32} {x_t_tape : Nat → Int32} {x_t_words : Nat → Int32} {x_t_places : Nat → Int32} {x_t_at : Int32} {x_t_kinds : Nat → Int32} {x_t_wills : Nat → Int32} {x_t_starts : Nat → Int32} {x_t_code : Nat → Int32} {x_t_count : Int32} {x_t_size : Int32} {x_h_sorts : Nat → Int32} {x_h_lengths : Nat → Int32} {x_h_items : Nat → Nat → Int32} {x_h_held : Nat → Int32} {x_h_things : Nat → Int32} {x_h_sizes : Nat → Int32} {x_h_bodies : Nat → Int32} {x_h_traced : Int32} {x_h_number : Int32} {x_h_spot : Int32} {x_h_parted : Int32} {x_g_count : Nat → Int32} {x_g_kinds : Nat → Nat → Int32} {x_g_wills : Nat → Nat → Int32} {x_g_starts : Nat → Nat → Int32} {x_g_code : Nat → Nat → Int32} {x_g_stack : Nat → Nat → Int32} {x_g_kl : Nat → Nat} {x_g_wl : Nat → Nat} {x_g_sl : Nat → Nat} {x_g_cl : Nat → Nat} {x_nr : Nat} {v1 : Int32} {res : Int32 × (Nat → Nat → Int32) × Int32 × Int32 × (Nat → Int32) × (Nat → Int32) × Int32 × (Nat → Nat → Int32) × (Nat → Nat → Int32)} (hf : X5_valueFrom n d x_q2_dials x_q2_spots x_q2_skies x_q2_count x_q2_chime x_q2_end x_q2_score x_q2_rules x_q2_shades x_q2_facts x_p_opening x_p_marks x_p_deepest x_g_count x_g_kinds x_g_wills x_g_starts x_g_code x_g_stack x_g_kl x_g_wl x_g_sl x_g_cl x_nr v1 = some res), MC l E0 D t yX5_valueFrom cX5_valueFrom 6 (some .int) (6 + 4 * d) 0 0 [.ref (a 84), .int v1] (cW a ar t x_q0_dials x_q0_spots x_q0_skies x_q0_reports x_q0_count x_q0_chime x_q0_end x_q0_score x_q0_reportCount x_q0_z x_q0_rules x_q0_shades x_q0_facts x_q1_dials x_q1_spots x_q1_skies x_q1_reports x_q1_count x_q1_chime x_q1_end x_q1_score x_q1_reportCount x_q1_z x_q1_rules x_q1_shades x_q1_facts x_q2_dials x_q2_spots x_q2_skies x_q2_reports x_q2_count x_q2_chime x_q2_end x_q2_score x_q2_reportCount x_q2_z x_q2_rules x_q2_shades x_q2_facts x_isKept x_marks x_p_first x_p_steps x_p_most x_p_many x_p_fewest x_p_everRight x_p_opening x_p_rows x_p_rowCount x_p_acts x_p_marks x_p_deepest x_p_wanted x_t_length x_t_tape x_t_words x_t_places x_t_at x_t_kinds x_t_wills x_t_starts x_t_code x_t_count x_t_size x_h_sorts x_h_lengths x_h_items x_h_held x_h_things x_h_sizes x_h_bodies x_h_traced x_h_number x_h_spot x_h_parted x_g_count x_g_kinds x_g_wills x_g_starts x_g_code x_g_stack x_g_kl x_g_wl x_g_sl x_g_cl x_nr) (Qi res.1 (cW a ar t x_q0_dials x_q0_spots x_q0_skies x_q0_reports x_q0_count x_q0_chime x_q0_end x_q0_score x_q0_reportCount x_q0_z x_q0_rules x_q0_shades x_q0_facts x_q1_dials x_q1_spots x_q1_skies x_q1_reports x_q1_count x_q1_chime x_q1_end x_q1_score x_q1_reportCount x_q1_z x_q1_rules x_q1_shades x_q1_facts res.2.1 x_q2_spots x_q2_skies x_q2_reports x_q2_count res.2.2.1 x_q2_end res.2.2.2.1 x_q2_reportCount x_q2_z x_q2_rules res.2.2.2.2.1 res.2.2.2.2.2.1 x_isKept x_marks x_p_first x_p_steps x_p_most x_p_many x_p_fewest x_p_everRight res.2.2.2.2.2.2.1 x_p_rows x_p_rowCount x_p_acts res.2.2.2.2.2.2.2.1 x_p_deepest x_p_wanted x_t_length x_t_tape x_t_words x_t_places x_t_at x_t_kinds x_t_wills x_t_starts x_t_code x_t_count x_t_size x_h_sorts x_h_lengths x_h_items x_h_held x_h_things x_h_sizes x_h_bodies x_h_traced x_h_number x_h_spot x_h_parted x_g_count x_g_kinds x_g_wills x_g_starts x_g_code res.2.2.2.2.2.2.2.2 x_g_kl x_g_wl x_g_sl x_g_cl x_nr)) := by
  intro d
  induction d with
  | zero => intros; rename_i hf; simp [X5_valueFrom] at hf
  | succ d ih => intros; rename_i hf; rw [X5_valueFrom] at hf; exact cb_X5_valueFrom (fun h => ih h) hf
theorem dX5_valueOf_0 : decode cX5_valueOf 0 = .ok (.aload_n 0, 1) := by decide +kernel
theorem dX5_valueOf_1 : decode cX5_valueOf 1 = .ok (.getfield 26, 3) := by decide +kernel
theorem dX5_valueOf_4 : decode cX5_valueOf 4 = .ok (.aload_n 1, 1) := by decide +kernel
theorem dX5_valueOf_5 : decode cX5_valueOf 5 = .ok (.invokevirtual 30, 3) := by decide +kernel
theorem dX5_valueOf_8 : decode cX5_valueOf 8 = .ok (.aload_n 0, 1) := by decide +kernel
theorem dX5_valueOf_9 : decode cX5_valueOf 9 = .ok (.iload_n 2, 1) := by decide +kernel
theorem dX5_valueOf_10 : decode cX5_valueOf 10 = .ok (.putfield 40, 3) := by decide +kernel
theorem dX5_valueOf_13 : decode cX5_valueOf 13 = .ok (.aload_n 0, 1) := by decide +kernel
theorem dX5_valueOf_14 : decode cX5_valueOf 14 = .ok (.iconst 0, 1) := by decide +kernel
theorem dX5_valueOf_15 : decode cX5_valueOf 15 = .ok (.invokevirtual 93, 3) := by decide +kernel
theorem dX5_valueOf_18 : decode cX5_valueOf 18 = .ok (.ireturn, 1) := by decide +kernel
theorem k_X5_valueOf : MV yX5_valueOf cX5_valueOf 3 (some .int) 2 := ⟨q_820, q_821, q_13, q_822, ⟨by decide, by decide, by decide +kernel⟩⟩
theorem c_X5_valueOf_oq0 {v2 : Int32} {res : Int32 × (Nat → Nat → Int32) × (Nat → Nat → Int32) × (Nat → Int32) × (Nat → Nat → Int32) × Int32 × Int32 × Int32 × Int32 × Int32 × Int32 × Nat × (Nat → Int32) × (Nat → Int32) × Int32 × (Nat → Nat → Int32) × Int32 × (Nat → Nat → Int32)} (hf : X5_valueOf_oq0 n x_q0_dials x_q0_spots x_q0_skies x_q0_reports x_q0_count x_q0_chime x_q0_end x_q0_score x_q0_reportCount x_q0_z x_q0_rules x_q2_dials x_q2_spots x_q2_skies x_q2_reports x_q2_shades x_q2_facts x_p_opening x_p_marks x_g_count x_g_kinds x_g_wills x_g_starts x_g_code x_g_stack x_g_kl x_g_wl x_g_sl x_g_cl x_nr v2 = some res) : MC l E0 D t yX5_valueOf cX5_valueOf 3 (some .int) 31 0 0 [.ref (a 84), .ref (a 1), .int v2] (cW a ar t x_q0_dials x_q0_spots x_q0_skies x_q0_reports x_q0_count x_q0_chime x_q0_end x_q0_score x_q0_reportCount x_q0_z x_q0_rules x_q0_shades x_q0_facts x_q1_dials x_q1_spots x_q1_skies x_q1_reports x_q1_count x_q1_chime x_q1_end x_q1_score x_q1_reportCount x_q1_z x_q1_rules x_q1_shades x_q1_facts x_q2_dials x_q2_spots x_q2_skies x_q2_reports x_q2_count x_q2_chime x_q2_end x_q2_score x_q2_reportCount x_q2_z x_q2_rules x_q2_shades x_q2_facts x_isKept x_marks x_p_first x_p_steps x_p_most x_p_many x_p_fewest x_p_everRight x_p_opening x_p_rows x_p_rowCount x_p_acts x_p_marks x_p_deepest x_p_wanted x_t_length x_t_tape x_t_words x_t_places x_t_at x_t_kinds x_t_wills x_t_starts x_t_code x_t_count x_t_size x_h_sorts x_h_lengths x_h_items x_h_held x_h_things x_h_sizes x_h_bodies x_h_traced x_h_number x_h_spot x_h_parted x_g_count x_g_kinds x_g_wills x_g_starts x_g_code x_g_stack x_g_kl x_g_wl x_g_sl x_g_cl x_nr) (Qi res.1 (cW a ar t x_q0_dials x_q0_spots x_q0_skies x_q0_reports x_q0_count x_q0_chime x_q0_end x_q0_score x_q0_reportCount x_q0_z x_q0_rules x_q0_shades x_q0_facts x_q1_dials x_q1_spots x_q1_skies x_q1_reports x_q1_count x_q1_chime x_q1_end x_q1_score x_q1_reportCount x_q1_z x_q1_rules x_q1_shades x_q1_facts res.2.1 res.2.2.1 res.2.2.2.1 res.2.2.2.2.1 res.2.2.2.2.2.1 res.2.2.2.2.2.2.1 res.2.2.2.2.2.2.2.1 res.2.2.2.2.2.2.2.2.1 res.2.2.2.2.2.2.2.2.2.1 res.2.2.2.2.2.2.2.2.2.2.1 res.2.2.2.2.2.2.2.2.2.2.2.1 res.2.2.2.2.2.2.2.2.2.2.2.2.1 res.2.2.2.2.2.2.2.2.2.2.2.2.2.1 x_isKept x_marks x_p_first x_p_steps x_p_most x_p_many x_p_fewest x_p_everRight res.2.2.2.2.2.2.2.2.2.2.2.2.2.2.1 x_p_rows x_p_rowCount x_p_acts res.2.2.2.2.2.2.2.2.2.2.2.2.2.2.2.1 res.2.2.2.2.2.2.2.2.2.2.2.2.2.2.2.2.1 x_p_wanted x_t_length x_t_tape x_t_words x_t_places x_t_at x_t_kinds x_t_wills x_t_starts x_t_code x_t_count x_t_size x_h_sorts x_h_lengths x_h_items x_h_held x_h_things x_h_sizes x_h_bodies x_h_traced x_h_number x_h_spot x_h_parted x_g_count x_g_kinds x_g_wills x_g_starts x_g_code res.2.2.2.2.2.2.2.2.2.2.2.2.2.2.2.2.2 x_g_kl x_g_wl x_g_sl x_g_cl x_nr)) := by
  unfold X5_valueOf_oq0 at hf
  refine MC.ofI pn_X5 (Nat.le_of_ble_eq_true rfl) ?_
  intro p e s m args below meth c A Q ls cx hR hw hl
  have hx := cx.1
  have hb := cx.2.1
  have hl : lv_has ls 3 [(0, .ref (a 84)), (1, .ref (a 1)), (2, .int v2)] := hl
  refine lv_aload_n hx hb dX5_valueOf_0 rfl (lv_at hl 0 rfl) ?_
  refine cg_X5_26_plans cx hw dX5_valueOf_1 ?_
  refine lv_aload_n hx hb dX5_valueOf_4 rfl (lv_at hl 1 rfl) ?_
  obtain ⟨r1, h2, hf⟩ := bnS hf
  refine calVv cx hw hl.1 (c_X9_copyFrom_q2_oq0 h2) q_780 k_X9_copyFrom rfl rv_q2 rfl dX5_valueOf_5 rfl (Nat.le_of_ble_eq_true rfl) ⟨Nat.le_of_ble_eq_true rfl, Nat.le_of_ble_eq_true rfl⟩ ⟨Nat.le_refl _, Nat.le_refl _⟩ (fun H locs hw => ?_)
  refine lv_aload_n hx hb dX5_valueOf_8 rfl (lv_at hl 0 rfl) ?_
  refine lv_iload_n hx hb dX5_valueOf_9 rfl (lv_at hl 2 rfl) ?_
  refine cp_X5_40_plans cx hw dX5_valueOf_10 (fun H locs hw => ?_)
  refine lv_aload_n hx hb dX5_valueOf_13 rfl (lv_at hl 0 rfl) ?_
  refine lv_iconst (v := 0) hx hb dX5_valueOf_14 (by decide) ?_
  obtain ⟨r3, h4, hf⟩ := bnS hf
  refine calVi cx hw hl.1 (c_X5_valueFrom h4) q_823 k_X5_valueFrom rfl rv_plans rfl dX5_valueOf_15 rfl (Nat.le_of_ble_eq_true rfl) ⟨Nat.le_of_ble_eq_true rfl, Nat.le_of_ble_eq_true rfl⟩ ⟨Nat.le_refl _, Nat.le_refl _⟩ (fun H locs hw => ?_)
  have hf := Option.some.inj hf
  subst hf
  exact hR _ _ _ _ _ _ hw rfl ⟨rfl, rfl⟩ dX5_valueOf_18
theorem dX11_game_0 : decode cX11_game 0 = .ok (.iload_n 1, 1) := by decide +kernel
theorem dX11_game_1 : decode cX11_game 1 = .ok (.iconst 1, 1) := by decide +kernel
theorem dX11_game_2 : decode cX11_game 2 = .ok (.iconst 4, 1) := by decide +kernel
theorem dX11_game_3 : decode cX11_game 3 = .ok (.invokestatic 74, 3) := by decide +kernel
theorem dX11_game_6 : decode cX11_game 6 = .ok (.ifCond .eq 18, 3) := by decide +kernel
theorem dX11_game_9 : decode cX11_game 9 = .ok (.aload_n 0, 1) := by decide +kernel
theorem dX11_game_10 : decode cX11_game 10 = .ok (.getfield 70, 3) := by decide +kernel
theorem dX11_game_13 : decode cX11_game 13 = .ok (.aload_n 0, 1) := by decide +kernel
theorem dX11_game_14 : decode cX11_game 14 = .ok (.getfield 55, 3) := by decide +kernel
theorem dX11_game_17 : decode cX11_game 17 = .ok (.iload_n 1, 1) := by decide +kernel
theorem dX11_game_18 : decode cX11_game 18 = .ok (.invokevirtual 233, 3) := by decide +kernel
theorem dX11_game_21 : decode cX11_game 21 = .ok (.goto 4, 3) := by decide +kernel
theorem dX11_game_24 : decode cX11_game 24 = .ok (.iconst (-1), 1) := by decide +kernel
theorem dX11_game_25 : decode cX11_game 25 = .ok (.ireturn, 1) := by decide +kernel
theorem k_X11_game : MV yX11_game cX11_game 2 (some .int) 1 := ⟨q_816, q_817, q_1, q_818, ⟨by decide, by decide, by decide +kernel⟩⟩
theorem c_X11_game {v1 : Int32} {res : Int32 × (Nat → Nat → Int32) × (Nat → Nat → Int32) × (Nat → Int32) × (Nat → Nat → Int32) × Int32 × Int32 × Int32 × Int32 × Int32 × Int32 × Nat × (Nat → Int32) × (Nat → Int32) × Int32 × (Nat → Nat → Int32) × Int32 × (Nat → Nat → Int32)} (hf : X11_game n x_q0_dials x_q0_spots x_q0_skies x_q0_reports x_q0_count x_q0_chime x_q0_end x_q0_score x_q0_reportCount x_q0_z x_q0_rules x_q2_dials x_q2_spots x_q2_skies x_q2_reports x_q2_count x_q2_chime x_q2_end x_q2_score x_q2_reportCount x_q2_z x_q2_rules x_q2_shades x_q2_facts x_p_opening x_p_marks x_p_deepest x_g_count x_g_kinds x_g_wills x_g_starts x_g_code x_g_stack x_g_kl x_g_wl x_g_sl x_g_cl x_nr v1 = some res) : MC l E0 D t yX11_game cX11_game 2 (some .int) 32 0 0 [.ref (a 0), .int v1] (cW a ar t x_q0_dials x_q0_spots x_q0_skies x_q0_reports x_q0_count x_q0_chime x_q0_end x_q0_score x_q0_reportCount x_q0_z x_q0_rules x_q0_shades x_q0_facts x_q1_dials x_q1_spots x_q1_skies x_q1_reports x_q1_count x_q1_chime x_q1_end x_q1_score x_q1_reportCount x_q1_z x_q1_rules x_q1_shades x_q1_facts x_q2_dials x_q2_spots x_q2_skies x_q2_reports x_q2_count x_q2_chime x_q2_end x_q2_score x_q2_reportCount x_q2_z x_q2_rules x_q2_shades x_q2_facts x_isKept x_marks x_p_first x_p_steps x_p_most x_p_many x_p_fewest x_p_everRight x_p_opening x_p_rows x_p_rowCount x_p_acts x_p_marks x_p_deepest x_p_wanted x_t_length x_t_tape x_t_words x_t_places x_t_at x_t_kinds x_t_wills x_t_starts x_t_code x_t_count x_t_size x_h_sorts x_h_lengths x_h_items x_h_held x_h_things x_h_sizes x_h_bodies x_h_traced x_h_number x_h_spot x_h_parted x_g_count x_g_kinds x_g_wills x_g_starts x_g_code x_g_stack x_g_kl x_g_wl x_g_sl x_g_cl x_nr) (Qi res.1 (cW a ar t x_q0_dials x_q0_spots x_q0_skies x_q0_reports x_q0_count x_q0_chime x_q0_end x_q0_score x_q0_reportCount x_q0_z x_q0_rules x_q0_shades x_q0_facts x_q1_dials x_q1_spots x_q1_skies x_q1_reports x_q1_count x_q1_chime x_q1_end x_q1_score x_q1_reportCount x_q1_z x_q1_rules x_q1_shades x_q1_facts res.2.1 res.2.2.1 res.2.2.2.1 res.2.2.2.2.1 res.2.2.2.2.2.1 res.2.2.2.2.2.2.1 res.2.2.2.2.2.2.2.1 res.2.2.2.2.2.2.2.2.1 res.2.2.2.2.2.2.2.2.2.1 res.2.2.2.2.2.2.2.2.2.2.1 res.2.2.2.2.2.2.2.2.2.2.2.1 res.2.2.2.2.2.2.2.2.2.2.2.2.1 res.2.2.2.2.2.2.2.2.2.2.2.2.2.1 x_isKept x_marks x_p_first x_p_steps x_p_most x_p_many x_p_fewest x_p_everRight res.2.2.2.2.2.2.2.2.2.2.2.2.2.2.1 x_p_rows x_p_rowCount x_p_acts res.2.2.2.2.2.2.2.2.2.2.2.2.2.2.2.1 res.2.2.2.2.2.2.2.2.2.2.2.2.2.2.2.2.1 x_p_wanted x_t_length x_t_tape x_t_words x_t_places x_t_at x_t_kinds x_t_wills x_t_starts x_t_code x_t_count x_t_size x_h_sorts x_h_lengths x_h_items x_h_held x_h_things x_h_sizes x_h_bodies x_h_traced x_h_number x_h_spot x_h_parted x_g_count x_g_kinds x_g_wills x_g_starts x_g_code res.2.2.2.2.2.2.2.2.2.2.2.2.2.2.2.2.2 x_g_kl x_g_wl x_g_sl x_g_cl x_nr)) := by
  unfold X11_game at hf
  refine MC.ofI pn_X11 (Nat.le_of_ble_eq_true rfl) ?_
  intro p e s m args below meth c A Q ls cx hR hw hl
  have hx := cx.1
  have hb := cx.2.1
  have hl : lv_has ls 2 [(0, .ref (a 0)), (1, .int v1)] := hl
  refine lv_iload_n hx hb dX11_game_0 rfl (lv_at hl 1 rfl) ?_
  refine lv_iconst (v := 1) hx hb dX11_game_1 (by decide) ?_
  refine lv_iconst (v := 4) hx hb dX11_game_2 (by decide) ?_
  refine calSi cx hw hl.1 (c_X11_isIn rfl) q_350 k_X11_isIn rfl dX11_game_3 rfl (Nat.le_of_ble_eq_true rfl) ⟨Nat.le_of_ble_eq_true rfl, Nat.le_of_ble_eq_true rfl⟩ ⟨Nat.le_refl _, Nat.le_refl _⟩ (fun H locs hw => ?_)
  refine lv_if_eq (tgt := 24) hx hb dX11_game_6 (by decide) (fun hc => ?_) (fun hc => ?_)
  · have hf := ifT hf hc
    refine lv_iconst (v := (-1)) hx hb dX11_game_24 (by decide) ?_
    have hf := Option.some.inj hf
    subst hf
    exact hR _ _ _ _ _ _ hw rfl ⟨rfl, rfl⟩ dX11_game_25
  · have hf := ifF hf hc
    refine lv_aload_n hx hb dX11_game_9 rfl (lv_at hl 0 rfl) ?_
    refine cg_X11_70_ds cx hw dX11_game_10 ?_
    refine lv_aload_n hx hb dX11_game_13 rfl (lv_at hl 0 rfl) ?_
    refine cg_X11_55_ds cx hw dX11_game_14 ?_
    refine lv_iload_n hx hb dX11_game_17 rfl (lv_at hl 1 rfl) ?_
    obtain ⟨r1, h2, hf⟩ := bnS hf
    refine calVi cx hw hl.1 (c_X5_valueOf_oq0 h2) q_819 k_X5_valueOf rfl rv_plans rfl dX11_game_18 rfl (Nat.le_of_ble_eq_true rfl) ⟨Nat.le_of_ble_eq_true rfl, Nat.le_of_ble_eq_true rfl⟩ ⟨Nat.le_refl _, Nat.le_refl _⟩ (fun H locs hw => ?_)
    refine lv_goto (tgt := 25) hx hb dX11_game_21 (by decide) ?_
    have hf := Option.some.inj hf
    subst hf
    exact hR _ _ _ _ _ _ hw rfl ⟨rfl, rfl⟩ dX11_game_25
end CW7
