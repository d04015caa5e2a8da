section CW8
variable {l : Launch} {D : va_G} {t : Nat → ClassId} {a : Nat → Nat} {ar : Nat → Nat → Nat} {n : Nat} {x_q0_dials : Nat → Nat → Int32} {x_q0_spots : Nat → Nat → Int32} {x_q0_skies : Nat → Int32} {x_q0_reports : Nat → Nat → Int32} {x_q0_count : Int32} {x_q0_chime : Int32} {x_q0_end : Int32} {x_q0_score : Int32} {x_q0_reportCount : Int32} {x_q0_z : Int32} {x_q0_rules : Nat} {x_q0_shades : Nat → Int32} {x_q0_facts : Nat → Int32} {x_q1_dials : Nat → Nat → Int32} {x_q1_spots : Nat → Nat → Int32} {x_q1_skies : Nat → Int32} {x_q1_reports : Nat → Nat → Int32} {x_q1_count : Int32} {x_q1_chime : Int32} {x_q1_end : Int32} {x_q1_score : Int32} {x_q1_reportCount : Int32} {x_q1_z : Int32} {x_q1_rules : Nat} {x_q1_shades : Nat → Int32} {x_q1_facts : Nat → Int32} {x_q2_dials : Nat → Nat → Int32} {x_q2_spots : Nat → Nat → Int32} {x_q2_skies : Nat → Int32} {x_q2_reports : Nat → Nat → Int32} {x_q2_count : Int32} {x_q2_chime : Int32} {x_q2_end : Int32} {x_q2_score : Int32} {x_q2_reportCount : Int32} {x_q2_z : Int32} {x_q2_rules : Nat} {x_q2_shades : Nat → Int32} {x_q2_facts : Nat → Int32} {x_isKept : Int32} {x_marks : Nat → Int32} {x_p_first : Nat → Int32} {x_p_steps : Int32} {x_p_most : Int32} {x_p_many : Int32} {x_p_fewest : Int32} {x_p_everRight : Int32} {x_p_opening : Int32} {x_p_rows : Nat → Nat → Int32} {x_p_rowCount : Int32} {x_p_acts : Nat → Int32} {x_p_marks : Nat → Nat → Int32} {x_p_deepest : Int32} {x_p_wanted : Int32} {x_t_length : Int32} {x_t_tape : Nat → Int32} {x_t_words : Nat → Int32} {x_t_places : Nat → Int32} {x_t_at : Int32} {x_t_kinds : Nat → Int32} {x_t_wills : Nat → Int32} {x_t_starts : Nat → Int32} {x_t_code : Nat → Int32} {x_t_count : Int32} {x_t_size : Int32} {x_h_sorts : Nat → Int32} {x_h_lengths : Nat → Int32} {x_h_items : Nat → Nat → Int32} {x_h_held : Nat → Int32} {x_h_things : Nat → Int32} {x_h_sizes : Nat → Int32} {x_h_bodies : Nat → Int32} {x_h_traced : Int32} {x_h_number : Int32} {x_h_spot : Int32} {x_h_parted : Int32} {x_g_count : Nat → Int32} {x_g_kinds : Nat → Nat → Int32} {x_g_wills : Nat → Nat → Int32} {x_g_starts : Nat → Nat → Int32} {x_g_code : Nat → Nat → Int32} {x_g_stack : Nat → Nat → Int32} {x_g_kl : Nat → Nat} {x_g_wl : Nat → Nat} {x_g_sl : Nat → Nat} {x_g_cl : Nat → Nat} {x_nr : Nat}
theorem dX11_play_0 : decode cX11_play 0 = .ok (.iload_n 1, 1) := by decide +kernel
theorem dX11_play_1 : decode cX11_play 1 = .ok (.iconst 1, 1) := by decide +kernel
theorem dX11_play_2 : decode cX11_play 2 = .ok (.iconst 4, 1) := by decide +kernel
theorem dX11_play_3 : decode cX11_play 3 = .ok (.invokestatic 74, 3) := by decide +kernel
theorem dX11_play_6 : decode cX11_play 6 = .ok (.ifCond .ne 5, 3) := by decide +kernel
theorem dX11_play_9 : decode cX11_play 9 = .ok (.iconst (-1), 1) := by decide +kernel
theorem dX11_play_10 : decode cX11_play 10 = .ok (.ireturn, 1) := by decide +kernel
theorem dX11_play_11 : decode cX11_play 11 = .ok (.aload_n 0, 1) := by decide +kernel
theorem dX11_play_12 : decode cX11_play 12 = .ok (.getfield 55, 3) := by decide +kernel
theorem dX11_play_15 : decode cX11_play 15 = .ok (.invokevirtual 137, 3) := by decide +kernel
theorem dX11_play_18 : decode cX11_play 18 = .ok (.ifCond .eq 6, 3) := by decide +kernel
theorem dX11_play_21 : decode cX11_play 21 = .ok (.bipush (-3), 2) := by decide +kernel
theorem dX11_play_23 : decode cX11_play 23 = .ok (.ireturn, 1) := by decide +kernel
theorem dX11_play_24 : decode cX11_play 24 = .ok (.aload_n 0, 1) := by decide +kernel
theorem dX11_play_25 : decode cX11_play 25 = .ok (.getfield 70, 3) := by decide +kernel
theorem dX11_play_28 : decode cX11_play 28 = .ok (.aload_n 0, 1) := by decide +kernel
theorem dX11_play_29 : decode cX11_play 29 = .ok (.getfield 55, 3) := by decide +kernel
theorem dX11_play_32 : decode cX11_play 32 = .ok (.iload_n 1, 1) := by decide +kernel
theorem dX11_play_33 : decode cX11_play 33 = .ok (.invokevirtual 233, 3) := by decide +kernel
theorem dX11_play_36 : decode cX11_play 36 = .ok (.pop, 1) := by decide +kernel
theorem dX11_play_37 : decode cX11_play 37 = .ok (.aload_n 0, 1) := by decide +kernel
theorem dX11_play_38 : decode cX11_play 38 = .ok (.getfield 70, 3) := by decide +kernel
theorem dX11_play_41 : decode cX11_play 41 = .ok (.getfield 237, 3) := by decide +kernel
theorem dX11_play_44 : decode cX11_play 44 = .ok (.ireturn, 1) := by decide +kernel
theorem k_X11_play : MV yX11_play cX11_play 2 (some .int) 1 := ⟨q_828, q_829, q_1, q_830, ⟨by decide, by decide, by decide +kernel⟩⟩
theorem c_X11_play {v1 : Int32} {res : Int32 × (Nat → Nat → Int32) × (Nat → Nat → Int32) × (Nat → Int32) × (Nat → Nat → Int32) × Int32 × Int32 × Int32 × Int32 × Int32 × Int32 × Nat × (Nat → Int32) × (Nat → Int32) × Int32 × (Nat → Nat → Int32) × Int32 × (Nat → Nat → Int32)} (hf : X11_play n x_q0_dials x_q0_spots x_q0_skies x_q0_reports x_q0_count x_q0_chime x_q0_end x_q0_score x_q0_reportCount x_q0_z x_q0_rules x_q2_dials x_q2_spots x_q2_skies x_q2_reports x_q2_count x_q2_chime x_q2_end x_q2_score x_q2_reportCount x_q2_z x_q2_rules x_q2_shades x_q2_facts x_p_opening x_p_marks x_p_deepest x_g_count x_g_kinds x_g_wills x_g_starts x_g_code x_g_stack x_g_kl x_g_wl x_g_sl x_g_cl x_nr v1 = some res) : MC l E0 D t yX11_play cX11_play 2 (some .int) 32 0 0 [.ref (a 0), .int v1] (cW a ar t x_q0_dials x_q0_spots x_q0_skies x_q0_reports x_q0_count x_q0_chime x_q0_end x_q0_score x_q0_reportCount x_q0_z x_q0_rules x_q0_shades x_q0_facts x_q1_dials x_q1_spots x_q1_skies x_q1_reports x_q1_count x_q1_chime x_q1_end x_q1_score x_q1_reportCount x_q1_z x_q1_rules x_q1_shades x_q1_facts x_q2_dials x_q2_spots x_q2_skies x_q2_reports x_q2_count x_q2_chime x_q2_end x_q2_score x_q2_reportCount x_q2_z x_q2_rules x_q2_shades x_q2_facts x_isKept x_marks x_p_first x_p_steps x_p_most x_p_many x_p_fewest x_p_everRight x_p_opening x_p_rows x_p_rowCount x_p_acts x_p_marks x_p_deepest x_p_wanted x_t_length x_t_tape x_t_words x_t_places x_t_at x_t_kinds x_t_wills x_t_starts x_t_code x_t_count x_t_size x_h_sorts x_h_lengths x_h_items x_h_held x_h_things x_h_sizes x_h_bodies x_h_traced x_h_number x_h_spot x_h_parted x_g_count x_g_kinds x_g_wills x_g_starts x_g_code x_g_stack x_g_kl x_g_wl x_g_sl x_g_cl x_nr) (Qi res.1 (cW a ar t x_q0_dials x_q0_spots x_q0_skies x_q0_reports x_q0_count x_q0_chime x_q0_end x_q0_score x_q0_reportCount x_q0_z x_q0_rules x_q0_shades x_q0_facts x_q1_dials x_q1_spots x_q1_skies x_q1_reports x_q1_count x_q1_chime x_q1_end x_q1_score x_q1_reportCount x_q1_z x_q1_rules x_q1_shades x_q1_facts res.2.1 res.2.2.1 res.2.2.2.1 res.2.2.2.2.1 res.2.2.2.2.2.1 res.2.2.2.2.2.2.1 res.2.2.2.2.2.2.2.1 res.2.2.2.2.2.2.2.2.1 res.2.2.2.2.2.2.2.2.2.1 res.2.2.2.2.2.2.2.2.2.2.1 res.2.2.2.2.2.2.2.2.2.2.2.1 res.2.2.2.2.2.2.2.2.2.2.2.2.1 res.2.2.2.2.2.2.2.2.2.2.2.2.2.1 x_isKept x_marks x_p_first x_p_steps x_p_most x_p_many x_p_fewest x_p_everRight res.2.2.2.2.2.2.2.2.2.2.2.2.2.2.1 x_p_rows x_p_rowCount x_p_acts res.2.2.2.2.2.2.2.2.2.2.2.2.2.2.2.1 res.2.2.2.2.2.2.2.2.2.2.2.2.2.2.2.2.1 x_p_wanted x_t_length x_t_tape x_t_words x_t_places x_t_at x_t_kinds x_t_wills x_t_starts x_t_code x_t_count x_t_size x_h_sorts x_h_lengths x_h_items x_h_held x_h_things x_h_sizes x_h_bodies x_h_traced x_h_number x_h_spot x_h_parted x_g_count x_g_kinds x_g_wills x_g_starts x_g_code res.2.2.2.2.2.2.2.2.2.2.2.2.2.2.2.2.2 x_g_kl x_g_wl x_g_sl x_g_cl x_nr)) := by
  unfold X11_play at hf
  refine MC.ofI pn_X11 (Nat.le_of_ble_eq_true rfl) ?_
  intro p e s m args below meth c A Q ls cx hR hw hl
  have hx := cx.1
  have hb := cx.2.1
  have hl : lv_has ls 2 [(0, .ref (a 0)), (1, .int v1)] := hl
  refine lv_iload_n hx hb dX11_play_0 rfl (lv_at hl 1 rfl) ?_
  refine lv_iconst (v := 1) hx hb dX11_play_1 (by decide) ?_
  refine lv_iconst (v := 4) hx hb dX11_play_2 (by decide) ?_
  refine calSi cx hw hl.1 (c_X11_isIn rfl) q_350 k_X11_isIn rfl dX11_play_3 rfl (Nat.le_of_ble_eq_true rfl) ⟨Nat.le_of_ble_eq_true rfl, Nat.le_of_ble_eq_true rfl⟩ ⟨Nat.le_refl _, Nat.le_refl _⟩ (fun H locs hw => ?_)
  refine lv_if_ne (tgt := 11) hx hb dX11_play_6 (by decide) (fun hc => ?_) (fun hc => ?_)
  · have hf := ifF hf hc
    refine lv_aload_n hx hb dX11_play_11 rfl (lv_at hl 0 rfl) ?_
    refine cg_X11_55_ds cx hw dX11_play_12 ?_
    refine calVi cx hw hl.1 (c_X9_isOver_q0 rfl) q_500 k_X9_isOver rfl rv_q0 rfl dX11_play_15 rfl (Nat.le_of_ble_eq_true rfl) ⟨Nat.le_of_ble_eq_true rfl, Nat.le_of_ble_eq_true rfl⟩ ⟨Nat.le_refl _, Nat.le_refl _⟩ (fun H locs hw => ?_)
    refine lv_if_eq (tgt := 24) hx hb dX11_play_18 (by decide) (fun hc => ?_) (fun hc => ?_)
    · have hf := ifT hf hc
      refine lv_aload_n hx hb dX11_play_24 rfl (lv_at hl 0 rfl) ?_
      refine cg_X11_70_ds cx hw dX11_play_25 ?_
      refine lv_aload_n hx hb dX11_play_28 rfl (lv_at hl 0 rfl) ?_
      refine cg_X11_55_ds cx hw dX11_play_29 ?_
      refine lv_iload_n hx hb dX11_play_32 rfl (lv_at hl 1 rfl) ?_
      obtain ⟨r1, h2, hf⟩ := bnS hf
      refine calVi cx hw hl.1 (c_X5_valueOf_oq0 h2) q_819 k_X5_valueOf rfl rv_plans rfl dX11_play_33 rfl (Nat.le_of_ble_eq_true rfl) ⟨Nat.le_of_ble_eq_true rfl, Nat.le_of_ble_eq_true rfl⟩ ⟨Nat.le_refl _, Nat.le_refl _⟩ (fun H locs hw => ?_)
      refine lv_pop hx hb dX11_play_36 rfl ?_
      refine lv_aload_n hx hb dX11_play_37 rfl (lv_at hl 0 rfl) ?_
      refine cg_X11_70_ds cx hw dX11_play_38 ?_
      refine cg_X11_237_plans cx hw dX11_play_41 ?_
      have hf := Option.some.inj hf
      subst hf
      exact hR _ _ _ _ _ _ hw rfl ⟨rfl, rfl⟩ dX11_play_44
    · have hf := ifF hf hc
      refine lv_bipush (v := (-3)) hx hb dX11_play_21 (by decide) ?_
      have hf := Option.some.inj hf
      subst hf
      exact hR _ _ _ _ _ _ hw rfl ⟨rfl, rfl⟩ dX11_play_23
  · have hf := ifT hf hc
    refine lv_iconst (v := (-1)) hx hb dX11_play_9 (by decide) ?_
    have hf := Option.some.inj hf
    subst hf
    exact hR _ _ _ _ _ _ hw rfl ⟨rfl, rfl⟩ dX11_play_10
theorem dX9_putReport_0 : decode cX9_putReport 0 = .ok (.aload_n 0, 1) := by decide +kernel
theorem dX9_putReport_1 : decode cX9_putReport 1 = .ok (.getfield 23, 3) := by decide +kernel
theorem dX9_putReport_4 : decode cX9_putReport 4 = .ok (.aload_n 0, 1) := by decide +kernel
theorem dX9_putReport_5 : decode cX9_putReport 5 = .ok (.getfield 68, 3) := by decide +kernel
theorem dX9_putReport_8 : decode cX9_putReport 8 = .ok (.aaload, 1) := by decide +kernel
theorem dX9_putReport_9 : decode cX9_putReport 9 = .ok (.astore 5, 2) := by decide +kernel
theorem dX9_putReport_11 : decode cX9_putReport 11 = .ok (.aload 5, 2) := by decide +kernel
theorem dX9_putReport_13 : decode cX9_putReport 13 = .ok (.iconst 0, 1) := by decide +kernel
theorem dX9_putReport_14 : decode cX9_putReport 14 = .ok (.iload_n 1, 1) := by decide +kernel
theorem dX9_putReport_15 : decode cX9_putReport 15 = .ok (.iastore, 1) := by decide +kernel
theorem dX9_putReport_16 : decode cX9_putReport 16 = .ok (.aload 5, 2) := by decide +kernel
theorem dX9_putReport_18 : decode cX9_putReport 18 = .ok (.iconst 1, 1) := by decide +kernel
theorem dX9_putReport_19 : decode cX9_putReport 19 = .ok (.iload_n 2, 1) := by decide +kernel
theorem dX9_putReport_20 : decode cX9_putReport 20 = .ok (.iastore, 1) := by decide +kernel
theorem dX9_putReport_21 : decode cX9_putReport 21 = .ok (.aload 5, 2) := by decide +kernel
theorem dX9_putReport_23 : decode cX9_putReport 23 = .ok (.iconst 2, 1) := by decide +kernel
theorem dX9_putReport_24 : decode cX9_putReport 24 = .ok (.iload_n 3, 1) := by decide +kernel
theorem dX9_putReport_25 : decode cX9_putReport 25 = .ok (.iastore, 1) := by decide +kernel
theorem dX9_putReport_26 : decode cX9_putReport 26 = .ok (.aload 5, 2) := by decide +kernel
theorem dX9_putReport_28 : decode cX9_putReport 28 = .ok (.iconst 3, 1) := by decide +kernel
theorem dX9_putReport_29 : decode cX9_putReport 29 = .ok (.iload 4, 2) := by decide +kernel
theorem dX9_putReport_31 : decode cX9_putReport 31 = .ok (.iastore, 1) := by decide +kernel
theorem dX9_putReport_32 : decode cX9_putReport 32 = .ok (.aload_n 0, 1) := by decide +kernel
theorem dX9_putReport_33 : decode cX9_putReport 33 = .ok (.dup, 1) := by decide +kernel
theorem dX9_putReport_34 : decode cX9_putReport 34 = .ok (.getfield 68, 3) := by decide +kernel
theorem dX9_putReport_37 : decode cX9_putReport 37 = .ok (.dup_x1, 1) := by decide +kernel
theorem dX9_putReport_38 : decode cX9_putReport 38 = .ok (.iconst 1, 1) := by decide +kernel
theorem dX9_putReport_39 : decode cX9_putReport 39 = .ok (.iadd, 1) := by decide +kernel
theorem dX9_putReport_40 : decode cX9_putReport 40 = .ok (.putfield 68, 3) := by decide +kernel
theorem dX9_putReport_43 : decode cX9_putReport 43 = .ok (.ireturn, 1) := by decide +kernel
theorem k_X9_putReport : MV yX9_putReport cX9_putReport 6 (some .int) 4 := ⟨q_836, q_837, q_11, q_838, ⟨by decide, by decide, by decide +kernel⟩⟩
theorem c_X9_putReport_q0 {v1 : Int32} {v2 : Int32} {v3 : Int32} {v4 : Int32} {res : Int32 × (Nat → Nat → Int32) × Int32} (hf : X9_putReport_q0 x_q0_reports x_q0_reportCount v1 v2 v3 v4 = some res) : MC l E0 D t yX9_putReport cX9_putReport 6 (some .int) 1 0 0 [.ref (a 1), .int v1, .int v2, .int v3, .int v4] (cW a ar t x_q0_dials x_q0_spots x_q0_skies x_q0_reports x_q0_count x_q0_chime x_q0_end x_q0_score x_q0_reportCount x_q0_z x_q0_rules x_q0_shades x_q0_facts x_q1_dials x_q1_spots x_q1_skies x_q1_reports x_q1_count x_q1_chime x_q1_end x_q1_score x_q1_reportCount x_q1_z x_q1_rules x_q1_shades x_q1_facts x_q2_dials x_q2_spots x_q2_skies x_q2_reports x_q2_count x_q2_chime x_q2_end x_q2_score x_q2_reportCount x_q2_z x_q2_rules x_q2_shades x_q2_facts x_isKept x_marks x_p_first x_p_steps x_p_most x_p_many x_p_fewest x_p_everRight x_p_opening x_p_rows x_p_rowCount x_p_acts x_p_marks x_p_deepest x_p_wanted x_t_length x_t_tape x_t_words x_t_places x_t_at x_t_kinds x_t_wills x_t_starts x_t_code x_t_count x_t_size x_h_sorts x_h_lengths x_h_items x_h_held x_h_things x_h_sizes x_h_bodies x_h_traced x_h_number x_h_spot x_h_parted x_g_count x_g_kinds x_g_wills x_g_starts x_g_code x_g_stack x_g_kl x_g_wl x_g_sl x_g_cl x_nr) (Qi res.1 (cW a ar t x_q0_dials x_q0_spots x_q0_skies res.2.1 x_q0_count x_q0_chime x_q0_end x_q0_score res.2.2 x_q0_z x_q0_rules x_q0_shades x_q0_facts x_q1_dials x_q1_spots x_q1_skies x_q1_reports x_q1_count x_q1_chime x_q1_end x_q1_score x_q1_reportCount x_q1_z x_q1_rules x_q1_shades x_q1_facts x_q2_dials x_q2_spots x_q2_skies x_q2_reports x_q2_count x_q2_chime x_q2_end x_q2_score x_q2_reportCount x_q2_z x_q2_rules x_q2_shades x_q2_facts x_isKept x_marks x_p_first x_p_steps x_p_most x_p_many x_p_fewest x_p_everRight x_p_opening x_p_rows x_p_rowCount x_p_acts x_p_marks x_p_deepest x_p_wanted x_t_length x_t_tape x_t_words x_t_places x_t_at x_t_kinds x_t_wills x_t_starts x_t_code x_t_count x_t_size x_h_sorts x_h_lengths x_h_items x_h_held x_h_things x_h_sizes x_h_bodies x_h_traced x_h_number x_h_spot x_h_parted x_g_count x_g_kinds x_g_wills x_g_starts x_g_code x_g_stack x_g_kl x_g_wl x_g_sl x_g_cl x_nr)) := by
  unfold X9_putReport_q0 at hf
  refine MC.ofI pn_X9 (Nat.le_of_ble_eq_true rfl) ?_
  intro p e s m args below meth c A Q ls cx hR hw hl
  have hx := cx.1
  have hb := cx.2.1
  have hl : lv_has ls 6 [(0, .ref (a 1)), (1, .int v1), (2, .int v2), (3, .int v3), (4, .int v4)] := hl
  refine lv_aload_n hx hb dX9_putReport_0 rfl (lv_at hl 0 rfl) ?_
  refine cg_X9_23_q0 cx hw dX9_putReport_1 ?_
  refine lv_aload_n hx hb dX9_putReport_4 rfl (lv_at hl 0 rfl) ?_
  refine cg_X9_68_q0 cx hw dX9_putReport_5 ?_
  obtain ⟨h1, hf⟩ := ckS hf
  refine co_q0_reports (j := x_q0_reportCount.toNatClampNeg) cx hw (ib_in h1) rfl dX9_putReport_8 ?_
  refine lv_astore (lv' := [(5, .ref (a (18 + x_q0_reportCount.toNatClampNeg))), (0, .ref (a 1)), (1, .int v1), (2, .int v2), (3, .int v3), (4, .int v4)]) hx hb dX9_putReport_9 hl (by decide) rfl (fun ls hl => ?_)
  refine lv_aload hx hb dX9_putReport_11 (lv_at hl 0 rfl) ?_
  refine lv_iconst (v := 0) hx hb dX9_putReport_13 (by decide) ?_
  refine lv_iload_n hx hb dX9_putReport_14 rfl (lv_at hl 2 rfl) ?_
  refine ct_q0_reports (j := 0) cx hw (ib_lt h1) (ib_in (by decide)) (by decide) dX9_putReport_15 (fun H locs hw => ?_)
  refine lv_aload hx hb dX9_putReport_16 (lv_at hl 0 rfl) ?_
  refine lv_iconst (v := 1) hx hb dX9_putReport_18 (by decide) ?_
  refine lv_iload_n hx hb dX9_putReport_19 rfl (lv_at hl 3 rfl) ?_
  refine ct_q0_reports (j := 1) cx hw (ib_lt h1) (ib_in (by decide)) (by decide) dX9_putReport_20 (fun H locs hw => ?_)
  refine lv_aload hx hb dX9_putReport_21 (lv_at hl 0 rfl) ?_
  refine lv_iconst (v := 2) hx hb dX9_putReport_23 (by decide) ?_
  refine lv_iload_n hx hb dX9_putReport_24 rfl (lv_at hl 4 rfl) ?_
  refine ct_q0_reports (j := 2) cx hw (ib_lt h1) (ib_in (by decide)) (by decide) dX9_putReport_25 (fun H locs hw => ?_)
  refine lv_aload hx hb dX9_putReport_26 (lv_at hl 0 rfl) ?_
  refine lv_iconst (v := 3) hx hb dX9_putReport_28 (by decide) ?_
  refine lv_iload hx hb dX9_putReport_29 (lv_at hl 5 rfl) ?_
  refine ct_q0_reports (j := 3) cx hw (ib_lt h1) (ib_in (by decide)) (by decide) dX9_putReport_31 (fun H locs hw => ?_)
  refine lv_aload_n hx hb dX9_putReport_32 rfl (lv_at hl 1 rfl) ?_
  refine lv_dup hx hb dX9_putReport_33 rfl ?_
  refine cg_X9_68_q0 cx hw dX9_putReport_34 ?_
  refine lv_dup_x1 hx hb dX9_putReport_37 rfl rfl ?_
  refine lv_iconst (v := 1) hx hb dX9_putReport_38 (by decide) ?_
  refine lv_iadd hx hb dX9_putReport_39 ?_
  refine cp_X9_68_q0 cx hw dX9_putReport_40 (fun H locs hw => ?_)
  have hf := Option.some.inj hf
  subst hf
  exact hR _ _ _ _ _ _ hw rfl ⟨rfl, rfl⟩ dX9_putReport_43
theorem dX11_report_0 : decode cX11_report 0 = .ok (.iload_n 1, 1) := by decide +kernel
theorem dX11_report_1 : decode cX11_report 1 = .ok (.iconst 0, 1) := by decide +kernel
theorem dX11_report_2 : decode cX11_report 2 = .ok (.bipush 15, 2) := by decide +kernel
theorem dX11_report_4 : decode cX11_report 4 = .ok (.invokestatic 74, 3) := by decide +kernel
theorem dX11_report_7 : decode cX11_report 7 = .ok (.ifCond .eq 12, 3) := by decide +kernel
theorem dX11_report_10 : decode cX11_report 10 = .ok (.iload_n 2, 1) := by decide +kernel
theorem dX11_report_11 : decode cX11_report 11 = .ok (.iconst 0, 1) := by decide +kernel
theorem dX11_report_12 : decode cX11_report 12 = .ok (.iconst 1, 1) := by decide +kernel
theorem dX11_report_13 : decode cX11_report 13 = .ok (.invokestatic 74, 3) := by decide +kernel
theorem dX11_report_16 : decode cX11_report 16 = .ok (.ifCond .ne 5, 3) := by decide +kernel
theorem dX11_report_19 : decode cX11_report 19 = .ok (.iconst (-1), 1) := by decide +kernel
theorem dX11_report_20 : decode cX11_report 20 = .ok (.ireturn, 1) := by decide +kernel
theorem dX11_report_21 : decode cX11_report 21 = .ok (.iload_n 3, 1) := by decide +kernel
theorem dX11_report_22 : decode cX11_report 22 = .ok (.iconst 0, 1) := by decide +kernel
theorem dX11_report_23 : decode cX11_report 23 = .ok (.bipush 99, 2) := by decide +kernel
theorem dX11_report_25 : decode cX11_report 25 = .ok (.invokestatic 74, 3) := by decide +kernel
theorem dX11_report_28 : decode cX11_report 28 = .ok (.ifCond .eq 14, 3) := by decide +kernel
theorem dX11_report_31 : decode cX11_report 31 = .ok (.iload 4, 2) := by decide +kernel
theorem dX11_report_33 : decode cX11_report 33 = .ok (.iload_n 3, 1) := by decide +kernel
theorem dX11_report_34 : decode cX11_report 34 = .ok (.bipush 99, 2) := by decide +kernel
theorem dX11_report_36 : decode cX11_report 36 = .ok (.invokestatic 74, 3) := by decide +kernel
theorem dX11_report_39 : decode cX11_report 39 = .ok (.ifCond .ne 5, 3) := by decide +kernel
theorem dX11_report_42 : decode cX11_report 42 = .ok (.iconst (-1), 1) := by decide +kernel
theorem dX11_report_43 : decode cX11_report 43 = .ok (.ireturn, 1) := by decide +kernel
theorem dX11_report_44 : decode cX11_report 44 = .ok (.aload_n 0, 1) := by decide +kernel
theorem dX11_report_45 : decode cX11_report 45 = .ok (.getfield 55, 3) := by decide +kernel
theorem dX11_report_48 : decode cX11_report 48 = .ok (.getfield 240, 3) := by decide +kernel
theorem dX11_report_51 : decode cX11_report 51 = .ok (.bipush 6, 2) := by decide +kernel
theorem dX11_report_53 : decode cX11_report 53 = .ok (.if_icmp .lt 6, 3) := by decide +kernel
theorem dX11_report_56 : decode cX11_report 56 = .ok (.bipush (-2), 2) := by decide +kernel
theorem dX11_report_58 : decode cX11_report 58 = .ok (.ireturn, 1) := by decide +kernel
theorem dX11_report_59 : decode cX11_report 59 = .ok (.aload_n 0, 1) := by decide +kernel
theorem dX11_report_60 : decode cX11_report 60 = .ok (.getfield 55, 3) := by decide +kernel
theorem dX11_report_63 : decode cX11_report 63 = .ok (.iload_n 1, 1) := by decide +kernel
theorem dX11_report_64 : decode cX11_report 64 = .ok (.iload_n 2, 1) := by decide +kernel
theorem dX11_report_65 : decode cX11_report 65 = .ok (.iload_n 3, 1) := by decide +kernel
theorem dX11_report_66 : decode cX11_report 66 = .ok (.iload 4, 2) := by decide +kernel
theorem dX11_report_68 : decode cX11_report 68 = .ok (.invokevirtual 243, 3) := by decide +kernel
theorem dX11_report_71 : decode cX11_report 71 = .ok (.ireturn, 1) := by decide +kernel
theorem k_X11_report : MV yX11_report cX11_report 5 (some .int) 4 := ⟨q_832, q_833, q_1, q_834, ⟨by decide, by decide, by decide +kernel⟩⟩
theorem c_X11_report {v1 : Int32} {v2 : Int32} {v3 : Int32} {v4 : Int32} {res : Int32 × (Nat → Nat → Int32) × Int32} (hf : X11_report x_q0_reports x_q0_reportCount v1 v2 v3 v4 = some res) : MC l E0 D t yX11_report cX11_report 5 (some .int) 2 0 0 [.ref (a 0), .int v1, .int v2, .int v3, .int v4] (cW a ar t x_q0_dials x_q0_spots x_q0_skies x_q0_reports x_q0_count x_q0_chime x_q0_end x_q0_score x_q0_reportCount x_q0_z x_q0_rules x_q0_shades x_q0_facts x_q1_dials x_q1_spots x_q1_skies x_q1_reports x_q1_count x_q1_chime x_q1_end x_q1_score x_q1_reportCount x_q1_z x_q1_rules x_q1_shades x_q1_facts x_q2_dials x_q2_spots x_q2_skies x_q2_reports x_q2_count x_q2_chime x_q2_end x_q2_score x_q2_reportCount x_q2_z x_q2_rules x_q2_shades x_q2_facts x_isKept x_marks x_p_first x_p_steps x_p_most x_p_many x_p_fewest x_p_everRight x_p_opening x_p_rows x_p_rowCount x_p_acts x_p_marks x_p_deepest x_p_wanted x_t_length x_t_tape x_t_words x_t_places x_t_at x_t_kinds x_t_wills x_t_starts x_t_code x_t_count x_t_size x_h_sorts x_h_lengths x_h_items x_h_held x_h_things x_h_sizes x_h_bodies x_h_traced x_h_number x_h_spot x_h_parted x_g_count x_g_kinds x_g_wills x_g_starts x_g_code x_g_stack x_g_kl x_g_wl x_g_sl x_g_cl x_nr) (Qi res.1 (cW a ar t x_q0_dials x_q0_spots x_q0_skies res.2.1 x_q0_count x_q0_chime x_q0_end x_q0_score res.2.2 x_q0_z x_q0_rules x_q0_shades x_q0_facts x_q1_dials x_q1_spots x_q1_skies x_q1_reports x_q1_count x_q1_chime x_q1_end x_q1_score x_q1_reportCount x_q1_z x_q1_rules x_q1_shades x_q1_facts x_q2_dials x_q2_spots x_q2_skies x_q2_reports x_q2_count x_q2_chime x_q2_end x_q2_score x_q2_reportCount x_q2_z x_q2_rules x_q2_shades x_q2_facts x_isKept x_marks x_p_first x_p_steps x_p_most x_p_many x_p_fewest x_p_everRight x_p_opening x_p_rows x_p_rowCount x_p_acts x_p_marks x_p_deepest x_p_wanted x_t_length x_t_tape x_t_words x_t_places x_t_at x_t_kinds x_t_wills x_t_starts x_t_code x_t_count x_t_size x_h_sorts x_h_lengths x_h_items x_h_held x_h_things x_h_sizes x_h_bodies x_h_traced x_h_number x_h_spot x_h_parted x_g_count x_g_kinds x_g_wills x_g_starts x_g_code x_g_stack x_g_kl x_g_wl x_g_sl x_g_cl x_nr)) := by
  unfold X11_report at hf
  refine MC.ofI pn_X11 (Nat.le_of_ble_eq_true rfl) ?_
  intro p e s m args below meth c A Q ls cx hR hw hl
  have hx := cx.1
  have hb := cx.2.1
  have hl : lv_has ls 5 [(0, .ref (a 0)), (1, .int v1), (2, .int v2), (3, .int v3), (4, .int v4)] := hl
  refine lv_iload_n hx hb dX11_report_0 rfl (lv_at hl 1 rfl) ?_
  refine lv_iconst (v := 0) hx hb dX11_report_1 (by decide) ?_
  refine lv_bipush (v := 15) hx hb dX11_report_2 (by decide) ?_
  refine calSi cx hw hl.1 (c_X11_isIn rfl) q_350 k_X11_isIn rfl dX11_report_4 rfl (Nat.le_of_ble_eq_true rfl) ⟨Nat.le_of_ble_eq_true rfl, Nat.le_of_ble_eq_true rfl⟩ ⟨Nat.le_refl _, Nat.le_refl _⟩ (fun H locs hw => ?_)
  refine lv_if_eq (tgt := 19) hx hb dX11_report_7 (by decide) (fun hc => ?_) (fun hc => ?_)
  · have hf := ifT hf hc
    refine lv_iconst (v := (-1)) hx hb dX11_report_19 (by decide) ?_
    have hf := Option.some.inj hf
    subst hf
    exact hR _ _ _ _ _ _ hw rfl ⟨rfl, rfl⟩ dX11_report_20
  · have hf := ifF hf hc
    refine lv_iload_n hx hb dX11_report_10 rfl (lv_at hl 2 rfl) ?_
    refine lv_iconst (v := 0) hx hb dX11_report_11 (by decide) ?_
    refine lv_iconst (v := 1) hx hb dX11_report_12 (by decide) ?_
    refine calSi cx hw hl.1 (c_X11_isIn rfl) q_350 k_X11_isIn rfl dX11_report_13 rfl (Nat.le_of_ble_eq_true rfl) ⟨Nat.le_of_ble_eq_true rfl, Nat.le_of_ble_eq_true rfl⟩ ⟨Nat.le_refl _, Nat.le_refl _⟩ (fun H locs hw => ?_)
    refine lv_if_ne (tgt := 21) hx hb dX11_report_16 (by decide) (fun hc => ?_) (fun hc => ?_)
    · have hf := ifF hf hc
      refine lv_iload_n hx hb dX11_report_21 rfl (lv_at hl 3 rfl) ?_
      refine lv_iconst (v := 0) hx hb dX11_report_22 (by decide) ?_
      refine lv_bipush (v := 99) hx hb dX11_report_23 (by decide) ?_
      refine calSi cx hw hl.1 (c_X11_isIn rfl) q_350 k_X11_isIn rfl dX11_report_25 rfl (Nat.le_of_ble_eq_true rfl) ⟨Nat.le_of_ble_eq_true rfl, Nat.le_of_ble_eq_true rfl⟩ ⟨Nat.le_refl _, Nat.le_refl _⟩ (fun H locs hw => ?_)
      refine lv_if_eq (tgt := 42) hx hb dX11_report_28 (by decide) (fun hc => ?_) (fun hc => ?_)
      · have hf := ifT hf hc
        refine lv_iconst (v := (-1)) hx hb dX11_report_42 (by decide) ?_
        have hf := Option.some.inj hf
        subst hf
        exact hR _ _ _ _ _ _ hw rfl ⟨rfl, rfl⟩ dX11_report_43
      · have hf := ifF hf hc
        refine lv_iload hx hb dX11_report_31 (lv_at hl 4 rfl) ?_
        refine lv_iload_n hx hb dX11_report_33 rfl (lv_at hl 3 rfl) ?_
        refine lv_bipush (v := 99) hx hb dX11_report_34 (by decide) ?_
        refine calSi cx hw hl.1 (c_X11_isIn rfl) q_350 k_X11_isIn rfl dX11_report_36 rfl (Nat.le_of_ble_eq_true rfl) ⟨Nat.le_of_ble_eq_true rfl, Nat.le_of_ble_eq_true rfl⟩ ⟨Nat.le_refl _, Nat.le_refl _⟩ (fun H locs hw => ?_)
        refine lv_if_ne (tgt := 44) hx hb dX11_report_39 (by decide) (fun hc => ?_) (fun hc => ?_)
        · have hf := ifF hf hc
          refine lv_aload_n hx hb dX11_report_44 rfl (lv_at hl 0 rfl) ?_
          refine cg_X11_55_ds cx hw dX11_report_45 ?_
          refine cg_X11_240_q0 cx hw dX11_report_48 ?_
          refine lv_bipush (v := 6) hx hb dX11_report_51 (by decide) ?_
          refine lv_icmp_lt (tgt := 59) hx hb dX11_report_53 (by decide) (fun hc => ?_) (fun hc => ?_)
          · have hf := ifT hf hc
            refine lv_aload_n hx hb dX11_report_59 rfl (lv_at hl 0 rfl) ?_
            refine cg_X11_55_ds cx hw dX11_report_60 ?_
            refine lv_iload_n hx hb dX11_report_63 rfl (lv_at hl 1 rfl) ?_
            refine lv_iload_n hx hb dX11_report_64 rfl (lv_at hl 2 rfl) ?_
            refine lv_iload_n hx hb dX11_report_65 rfl (lv_at hl 3 rfl) ?_
            refine lv_iload hx hb dX11_report_66 (lv_at hl 4 rfl) ?_
            obtain ⟨r1, h2, hf⟩ := bnS hf
            refine calVi cx hw hl.1 (c_X9_putReport_q0 h2) q_835 k_X9_putReport rfl rv_q0 rfl dX11_report_68 rfl (Nat.le_of_ble_eq_true rfl) ⟨Nat.le_of_ble_eq_true rfl, Nat.le_of_ble_eq_true rfl⟩ ⟨Nat.le_refl _, Nat.le_refl _⟩ (fun H locs hw => ?_)
            have hf := Option.some.inj hf
            subst hf
            exact hR _ _ _ _ _ _ hw rfl ⟨rfl, rfl⟩ dX11_report_71
          · have hf := ifF hf hc
            refine lv_bipush (v := (-2)) hx hb dX11_report_56 (by decide) ?_
            have hf := Option.some.inj hf
            subst hf
            exact hR _ _ _ _ _ _ hw rfl ⟨rfl, rfl⟩ dX11_report_58
        · have hf := ifT hf hc
          refine lv_iconst (v := (-1)) hx hb dX11_report_42 (by decide) ?_
          have hf := Option.some.inj hf
          subst hf
          exact hR _ _ _ _ _ _ hw rfl ⟨rfl, rfl⟩ dX11_report_43
    · have hf := ifT hf hc
      refine lv_iconst (v := (-1)) hx hb dX11_report_19 (by decide) ?_
      have hf := Option.some.inj hf
      subst hf
      exact hR _ _ _ _ _ _ hw rfl ⟨rfl, rfl⟩ dX11_report_20
theorem dX11_forget_0 : decode cX11_forget 0 = .ok (.aload_n 0, 1) := by decide +kernel
theorem dX11_forget_1 : decode cX11_forget 1 = .ok (.getfield 55, 3) := by decide +kernel
theorem dX11_forget_4 : decode cX11_forget 4 = .ok (.getfield 240, 3) := by decide +kernel
theorem dX11_forget_7 : decode cX11_forget 7 = .ok (.istore_n 1, 1) := by decide +kernel
theorem dX11_forget_8 : decode cX11_forget 8 = .ok (.aload_n 0, 1) := by decide +kernel
theorem dX11_forget_9 : decode cX11_forget 9 = .ok (.getfield 55, 3) := by decide +kernel
theorem dX11_forget_12 : decode cX11_forget 12 = .ok (.iconst 0, 1) := by decide +kernel
theorem dX11_forget_13 : decode cX11_forget 13 = .ok (.putfield 240, 3) := by decide +kernel
theorem dX11_forget_16 : decode cX11_forget 16 = .ok (.iload_n 1, 1) := by decide +kernel
theorem dX11_forget_17 : decode cX11_forget 17 = .ok (.ireturn, 1) := by decide +kernel
theorem k_X11_forget : MV yX11_forget cX11_forget 2 (some .int) 0 := ⟨q_840, q_841, q_1, q_842, ⟨by decide, by decide, by decide +kernel⟩⟩
theorem c_X11_forget {res : Int32 × Int32} (hf : X11_forget x_q0_reportCount = res) : MC l E0 D t yX11_forget cX11_forget 2 (some .int) 1 0 0 [.ref (a 0)] (cW a ar t x_q0_dials x_q0_spots x_q0_skies x_q0_reports x_q0_count x_q0_chime x_q0_end x_q0_score x_q0_reportCount x_q0_z x_q0_rules x_q0_shades x_q0_facts x_q1_dials x_q1_spots x_q1_skies x_q1_reports x_q1_count x_q1_chime x_q1_end x_q1_score x_q1_reportCount x_q1_z x_q1_rules x_q1_shades x_q1_facts x_q2_dials x_q2_spots x_q2_skies x_q2_reports x_q2_count x_q2_chime x_q2_end x_q2_score x_q2_reportCount x_q2_z x_q2_rules x_q2_shades x_q2_facts x_isKept x_marks x_p_first x_p_steps x_p_most x_p_many x_p_fewest x_p_everRight x_p_opening x_p_rows x_p_rowCount x_p_acts x_p_marks x_p_deepest x_p_wanted x_t_length x_t_tape x_t_words x_t_places x_t_at x_t_kinds x_t_wills x_t_starts x_t_code x_t_count x_t_size x_h_sorts x_h_lengths x_h_items x_h_held x_h_things x_h_sizes x_h_bodies x_h_traced x_h_number x_h_spot x_h_parted x_g_count x_g_kinds x_g_wills x_g_starts x_g_code x_g_stack x_g_kl x_g_wl x_g_sl x_g_cl x_nr) (Qi res.1 (cW a ar t x_q0_dials x_q0_spots x_q0_skies x_q0_reports x_q0_count x_q0_chime x_q0_end x_q0_score res.2 x_q0_z x_q0_rules x_q0_shades x_q0_facts x_q1_dials x_q1_spots x_q1_skies x_q1_reports x_q1_count x_q1_chime x_q1_end x_q1_score x_q1_reportCount x_q1_z x_q1_rules x_q1_shades x_q1_facts x_q2_dials x_q2_spots x_q2_skies x_q2_reports x_q2_count x_q2_chime x_q2_end x_q2_score x_q2_reportCount x_q2_z x_q2_rules x_q2_shades x_q2_facts x_isKept x_marks x_p_first x_p_steps x_p_most x_p_many x_p_fewest x_p_everRight x_p_opening x_p_rows x_p_rowCount x_p_acts x_p_marks x_p_deepest x_p_wanted x_t_length x_t_tape x_t_words x_t_places x_t_at x_t_kinds x_t_wills x_t_starts x_t_code x_t_count x_t_size x_h_sorts x_h_lengths x_h_items x_h_held x_h_things x_h_sizes x_h_bodies x_h_traced x_h_number x_h_spot x_h_parted x_g_count x_g_kinds x_g_wills x_g_starts x_g_code x_g_stack x_g_kl x_g_wl x_g_sl x_g_cl x_nr)) := by
  unfold X11_forget at hf
  refine MC.ofI pn_X11 (Nat.le_of_ble_eq_true rfl) ?_
  intro p e s m args below meth c A Q ls cx hR hw hl
  have hx := cx.1
  have hb := cx.2.1
  have hl : lv_has ls 2 [(0, .ref (a 0))] := hl
  refine lv_aload_n hx hb dX11_forget_0 rfl (lv_at hl 0 rfl) ?_
  refine cg_X11_55_ds cx hw dX11_forget_1 ?_
  refine cg_X11_240_q0 cx hw dX11_forget_4 ?_
  refine lv_istore_n (lv' := [(1, .int x_q0_reportCount), (0, .ref (a 0))]) hx hb dX11_forget_7 rfl hl (by decide) rfl (fun ls hl => ?_)
  refine lv_aload_n hx hb dX11_forget_8 rfl (lv_at hl 1 rfl) ?_
  refine cg_X11_55_ds cx hw dX11_forget_9 ?_
  refine lv_iconst (v := 0) hx hb dX11_forget_12 (by decide) ?_
  refine cp_X11_240_q0 cx hw dX11_forget_13 (fun H locs hw => ?_)
  refine lv_iload_n hx hb dX11_forget_16 rfl (lv_at hl 0 rfl) ?_
  subst hf
  exact hR _ _ _ _ _ _ hw rfl ⟨rfl, rfl⟩ dX11_forget_17
theorem dX11_partOfStranger_0 : decode cX11_partOfStranger 0 = .ok (.iload_n 1, 1) := by decide +kernel
theorem dX11_partOfStranger_1 : decode cX11_partOfStranger 1 = .ok (.lookupswitch 42 #[(1, 27), (2, 34)], 27) := by decide +kernel
theorem dX11_partOfStranger_28 : decode cX11_partOfStranger 28 = .ok (.iload_n 0, 1) := by decide +kernel
theorem dX11_partOfStranger_29 : decode cX11_partOfStranger 29 = .ok (.bipush 100, 2) := by decide +kernel
theorem dX11_partOfStranger_31 : decode cX11_partOfStranger 31 = .ok (.idiv, 1) := by decide +kernel
theorem dX11_partOfStranger_32 : decode cX11_partOfStranger 32 = .ok (.iconst 1, 1) := by decide +kernel
theorem dX11_partOfStranger_33 : decode cX11_partOfStranger 33 = .ok (.iadd, 1) := by decide +kernel
theorem dX11_partOfStranger_34 : decode cX11_partOfStranger 34 = .ok (.ireturn, 1) := by decide +kernel
theorem dX11_partOfStranger_35 : decode cX11_partOfStranger 35 = .ok (.iload_n 0, 1) := by decide +kernel
theorem dX11_partOfStranger_36 : decode cX11_partOfStranger 36 = .ok (.bipush 10, 2) := by decide +kernel
theorem dX11_partOfStranger_38 : decode cX11_partOfStranger 38 = .ok (.idiv, 1) := by decide +kernel
theorem dX11_partOfStranger_39 : decode cX11_partOfStranger 39 = .ok (.bipush 10, 2) := by decide +kernel
theorem dX11_partOfStranger_41 : decode cX11_partOfStranger 41 = .ok (.irem, 1) := by decide +kernel
theorem dX11_partOfStranger_42 : decode cX11_partOfStranger 42 = .ok (.ireturn, 1) := by decide +kernel
theorem dX11_partOfStranger_43 : decode cX11_partOfStranger 43 = .ok (.iload_n 0, 1) := by decide +kernel
theorem dX11_partOfStranger_44 : decode cX11_partOfStranger 44 = .ok (.bipush 10, 2) := by decide +kernel
theorem dX11_partOfStranger_46 : decode cX11_partOfStranger 46 = .ok (.irem, 1) := by decide +kernel
theorem dX11_partOfStranger_47 : decode cX11_partOfStranger 47 = .ok (.bipush 10, 2) := by decide +kernel
theorem dX11_partOfStranger_49 : decode cX11_partOfStranger 49 = .ok (.imul, 1) := by decide +kernel
theorem dX11_partOfStranger_50 : decode cX11_partOfStranger 50 = .ok (.ireturn, 1) := by decide +kernel
theorem k_X11_partOfStranger : MS yX11_partOfStranger cX11_partOfStranger 2 (some .int) 2 := ⟨q_852, q_1, q_853, ⟨by decide, by decide, by decide +kernel⟩⟩
theorem c_X11_partOfStranger {v0 : Int32} {v1 : Int32} {res : Int32} (hf : X11_partOfStranger v0 v1 = res) : MC l E0 D t yX11_partOfStranger cX11_partOfStranger 2 (some .int) 1 0 0 [.int v0, .int v1] (cW a ar t x_q0_dials x_q0_spots x_q0_skies x_q0_reports x_q0_count x_q0_chime x_q0_end x_q0_score x_q0_reportCount x_q0_z x_q0_rules x_q0_shades x_q0_facts x_q1_dials x_q1_spots x_q1_skies x_q1_reports x_q1_count x_q1_chime x_q1_end x_q1_score x_q1_reportCount x_q1_z x_q1_rules x_q1_shades x_q1_facts x_q2_dials x_q2_spots x_q2_skies x_q2_reports x_q2_count x_q2_chime x_q2_end x_q2_score x_q2_reportCount x_q2_z x_q2_rules x_q2_shades x_q2_facts x_isKept x_marks x_p_first x_p_steps x_p_most x_p_many x_p_fewest x_p_everRight x_p_opening x_p_rows x_p_rowCount x_p_acts x_p_marks x_p_deepest x_p_wanted x_t_length x_t_tape x_t_words x_t_places x_t_at x_t_kinds x_t_wills x_t_starts x_t_code x_t_count x_t_size x_h_sorts x_h_lengths x_h_items x_h_held x_h_things x_h_sizes x_h_bodies x_h_traced x_h_number x_h_spot x_h_parted x_g_count x_g_kinds x_g_wills x_g_starts x_g_code x_g_stack x_g_kl x_g_wl x_g_sl x_g_cl x_nr) (Qi res (cW a ar t x_q0_dials x_q0_spots x_q0_skies x_q0_reports x_q0_count x_q0_chime x_q0_end x_q0_score x_q0_reportCount x_q0_z x_q0_rules x_q0_shades x_q0_facts x_q1_dials x_q1_spots x_q1_skies x_q1_reports x_q1_count x_q1_chime x_q1_end x_q1_score x_q1_reportCount x_q1_z x_q1_rules x_q1_shades x_q1_facts x_q2_dials x_q2_spots x_q2_skies x_q2_reports x_q2_count x_q2_chime x_q2_end x_q2_score x_q2_reportCount x_q2_z x_q2_rules x_q2_shades x_q2_facts x_isKept x_marks x_p_first x_p_steps x_p_most x_p_many x_p_fewest x_p_everRight x_p_opening x_p_rows x_p_rowCount x_p_acts x_p_marks x_p_deepest x_p_wanted x_t_length x_t_tape x_t_words x_t_places x_t_at x_t_kinds x_t_wills x_t_starts x_t_code x_t_count x_t_size x_h_sorts x_h_lengths x_h_items x_h_held x_h_things x_h_sizes x_h_bodies x_h_traced x_h_number x_h_spot x_h_parted x_g_count x_g_kinds x_g_wills x_g_starts x_g_code x_g_stack x_g_kl x_g_wl x_g_sl x_g_cl x_nr)) := by
  unfold X11_partOfStranger at hf
  refine MC.ofI pn_X11 (Nat.le_of_ble_eq_true rfl) ?_
  intro p e s m args below meth c A Q ls cx hR hw hl
  have hx := cx.1
  have hb := cx.2.1
  have hl : lv_has ls 2 [(0, .int v0), (1, .int v1)] := hl
  refine lv_iload_n hx hb dX11_partOfStranger_0 rfl (lv_at hl 1 rfl) ?_
  by_cases hc1 : v1 = (1 : Int32)
  · have hf := ifT hf hc1
    refine lv_lookup (tgt := 28) hx hb dX11_partOfStranger_1 rfl (by rw [hc1] <;> rfl) (by decide) ?_
    refine lv_iload_n hx hb dX11_partOfStranger_28 rfl (lv_at hl 0 rfl) ?_
    refine lv_bipush (v := 100) hx hb dX11_partOfStranger_29 (by decide) ?_
    refine lv_idiv hx hb dX11_partOfStranger_31 (by decide) ?_
    refine lv_iconst (v := 1) hx hb dX11_partOfStranger_32 (by decide) ?_
    refine lv_iadd hx hb dX11_partOfStranger_33 ?_
    subst hf
    exact hR _ _ _ _ _ _ hw rfl ⟨rfl, rfl⟩ dX11_partOfStranger_34
  · have hf := ifF hf hc1
    by_cases hc2 : v1 = (2 : Int32)
    · have hf := ifT hf hc2
      refine lv_lookup (tgt := 35) hx hb dX11_partOfStranger_1 rfl (by rw [hc2] <;> rfl) (by decide) ?_
      refine lv_iload_n hx hb dX11_partOfStranger_35 rfl (lv_at hl 0 rfl) ?_
      refine lv_bipush (v := 10) hx hb dX11_partOfStranger_36 (by decide) ?_
      refine lv_idiv hx hb dX11_partOfStranger_38 (by decide) ?_
      refine lv_bipush (v := 10) hx hb dX11_partOfStranger_39 (by decide) ?_
      refine lv_irem hx hb dX11_partOfStranger_41 (by decide) ?_
      subst hf
      exact hR _ _ _ _ _ _ hw rfl ⟨rfl, rfl⟩ dX11_partOfStranger_42
    · have hf := ifF hf hc2
      refine lv_lookup (off := 42) (tgt := 43) hx hb dX11_partOfStranger_1 rfl (by show Op.lookupswitch.offset [(1, 27), (2, 34)] _ _ = _; rw [lv_osw (a := 1) hc1 (by decide), lv_osw (a := 2) hc2 (by decide)] <;> rfl) (by decide) ?_
      refine lv_iload_n hx hb dX11_partOfStranger_43 rfl (lv_at hl 0 rfl) ?_
      refine lv_bipush (v := 10) hx hb dX11_partOfStranger_44 (by decide) ?_
      refine lv_irem hx hb dX11_partOfStranger_46 (by decide) ?_
      refine lv_bipush (v := 10) hx hb dX11_partOfStranger_47 (by decide) ?_
      refine lv_imul hx hb dX11_partOfStranger_49 ?_
      subst hf
      exact hR _ _ _ _ _ _ hw rfl ⟨rfl, rfl⟩ dX11_partOfStranger_50
theorem dX9_missedBehind_0 : decode cX9_missedBehind 0 = .ok (.iconst 0, 1) := by decide +kernel
theorem dX9_missedBehind_1 : decode cX9_missedBehind 1 = .ok (.istore 4, 2) := by decide +kernel
theorem dX9_missedBehind_3 : decode cX9_missedBehind 3 = .ok (.iconst 0, 1) := by decide +kernel
theorem dX9_missedBehind_4 : decode cX9_missedBehind 4 = .ok (.istore 5, 2) := by decide +kernel
theorem dX9_missedBehind_6 : decode cX9_missedBehind 6 = .ok (.iload 5, 2) := by decide +kernel
theorem dX9_missedBehind_8 : decode cX9_missedBehind 8 = .ok (.aload_n 0, 1) := by decide +kernel
theorem dX9_missedBehind_9 : decode cX9_missedBehind 9 = .ok (.getfield 68, 3) := by decide +kernel
theorem dX9_missedBehind_12 : decode cX9_missedBehind 12 = .ok (.if_icmp .ge 81, 3) := by decide +kernel
theorem dX9_missedBehind_15 : decode cX9_missedBehind 15 = .ok (.aload_n 0, 1) := by decide +kernel
theorem dX9_missedBehind_16 : decode cX9_missedBehind 16 = .ok (.getfield 23, 3) := by decide +kernel
theorem dX9_missedBehind_19 : decode cX9_missedBehind 19 = .ok (.iload 5, 2) := by decide +kernel
theorem dX9_missedBehind_21 : decode cX9_missedBehind 21 = .ok (.aaload, 1) := by decide +kernel
theorem dX9_missedBehind_22 : decode cX9_missedBehind 22 = .ok (.iconst 0, 1) := by decide +kernel
theorem dX9_missedBehind_23 : decode cX9_missedBehind 23 = .ok (.iaload, 1) := by decide +kernel
theorem dX9_missedBehind_24 : decode cX9_missedBehind 24 = .ok (.iload_n 1, 1) := by decide +kernel
theorem dX9_missedBehind_25 : decode cX9_missedBehind 25 = .ok (.if_icmp .eq 6, 3) := by decide +kernel
theorem dX9_missedBehind_28 : decode cX9_missedBehind 28 = .ok (.goto 59, 3) := by decide +kernel
theorem dX9_missedBehind_31 : decode cX9_missedBehind 31 = .ok (.aload_n 0, 1) := by decide +kernel
theorem dX9_missedBehind_32 : decode cX9_missedBehind 32 = .ok (.getfield 23, 3) := by decide +kernel
theorem dX9_missedBehind_35 : decode cX9_missedBehind 35 = .ok (.iload 5, 2) := by decide +kernel
theorem dX9_missedBehind_37 : decode cX9_missedBehind 37 = .ok (.aaload, 1) := by decide +kernel
theorem dX9_missedBehind_38 : decode cX9_missedBehind 38 = .ok (.iconst 1, 1) := by decide +kernel
theorem dX9_missedBehind_39 : decode cX9_missedBehind 39 = .ok (.iaload, 1) := by decide +kernel
theorem dX9_missedBehind_40 : decode cX9_missedBehind 40 = .ok (.ifCond .ne 7, 3) := by decide +kernel
theorem dX9_missedBehind_43 : decode cX9_missedBehind 43 = .ok (.iload_n 2, 1) := by decide +kernel
theorem dX9_missedBehind_44 : decode cX9_missedBehind 44 = .ok (.goto 4, 3) := by decide +kernel
theorem dX9_missedBehind_47 : decode cX9_missedBehind 47 = .ok (.iload_n 3, 1) := by decide +kernel
theorem dX9_missedBehind_48 : decode cX9_missedBehind 48 = .ok (.istore 6, 2) := by decide +kernel
theorem dX9_missedBehind_50 : decode cX9_missedBehind 50 = .ok (.iload 6, 2) := by decide +kernel
theorem dX9_missedBehind_52 : decode cX9_missedBehind 52 = .ok (.aload_n 0, 1) := by decide +kernel
theorem dX9_missedBehind_53 : decode cX9_missedBehind 53 = .ok (.getfield 23, 3) := by decide +kernel
theorem dX9_missedBehind_56 : decode cX9_missedBehind 56 = .ok (.iload 5, 2) := by decide +kernel
theorem dX9_missedBehind_58 : decode cX9_missedBehind 58 = .ok (.aaload, 1) := by decide +kernel
theorem dX9_missedBehind_59 : decode cX9_missedBehind 59 = .ok (.iconst 2, 1) := by decide +kernel
theorem dX9_missedBehind_60 : decode cX9_missedBehind 60 = .ok (.iaload, 1) := by decide +kernel
theorem dX9_missedBehind_61 : decode cX9_missedBehind 61 = .ok (.if_icmp .lt 17, 3) := by decide +kernel
theorem dX9_missedBehind_64 : decode cX9_missedBehind 64 = .ok (.iload 6, 2) := by decide +kernel
theorem dX9_missedBehind_66 : decode cX9_missedBehind 66 = .ok (.aload_n 0, 1) := by decide +kernel
theorem dX9_missedBehind_67 : decode cX9_missedBehind 67 = .ok (.getfield 23, 3) := by decide +kernel
theorem dX9_missedBehind_70 : decode cX9_missedBehind 70 = .ok (.iload 5, 2) := by decide +kernel
theorem dX9_missedBehind_72 : decode cX9_missedBehind 72 = .ok (.aaload, 1) := by decide +kernel
theorem dX9_missedBehind_73 : decode cX9_missedBehind 73 = .ok (.iconst 3, 1) := by decide +kernel
theorem dX9_missedBehind_74 : decode cX9_missedBehind 74 = .ok (.iaload, 1) := by decide +kernel
theorem dX9_missedBehind_75 : decode cX9_missedBehind 75 = .ok (.if_icmp .le 12, 3) := by decide +kernel
theorem dX9_missedBehind_78 : decode cX9_missedBehind 78 = .ok (.iload 4, 2) := by decide +kernel
theorem dX9_missedBehind_80 : decode cX9_missedBehind 80 = .ok (.iconst 1, 1) := by decide +kernel
theorem dX9_missedBehind_81 : decode cX9_missedBehind 81 = .ok (.iload 5, 2) := by decide +kernel
theorem dX9_missedBehind_83 : decode cX9_missedBehind 83 = .ok (.ishl, 1) := by decide +kernel
theorem dX9_missedBehind_84 : decode cX9_missedBehind 84 = .ok (.ior, 1) := by decide +kernel
theorem dX9_missedBehind_85 : decode cX9_missedBehind 85 = .ok (.istore 4, 2) := by decide +kernel
theorem dX9_missedBehind_87 : decode cX9_missedBehind 87 = .ok (.iinc 5 1, 3) := by decide +kernel
theorem dX9_missedBehind_90 : decode cX9_missedBehind 90 = .ok (.goto (-84), 3) := by decide +kernel
theorem dX9_missedBehind_93 : decode cX9_missedBehind 93 = .ok (.iload 4, 2) := by decide +kernel
theorem dX9_missedBehind_95 : decode cX9_missedBehind 95 = .ok (.ireturn, 1) := by decide +kernel
theorem k_X9_missedBehind : MV yX9_missedBehind cX9_missedBehind 7 (some .int) 3 := ⟨q_860, qs_28, q_11, q_861, ⟨by decide, by decide, by decide +kernel⟩⟩
theorem c_X9_missedBehind_q0 {v1 : Int32} {v2 : Int32} {v3 : Int32} {res : Int32} (hf : X9_missedBehind_q0 n x_q0_reports x_q0_reportCount v1 v2 v3 = some res) : MC l E0 D t yX9_missedBehind cX9_missedBehind 7 (some .int) 1 0 0 [.ref (a 1), .int v1, .int v2, .int v3] (cW a ar t x_q0_dials x_q0_spots x_q0_skies x_q0_reports x_q0_count x_q0_chime x_q0_end x_q0_score x_q0_reportCount x_q0_z x_q0_rules x_q0_shades x_q0_facts x_q1_dials x_q1_spots x_q1_skies x_q1_reports x_q1_count x_q1_chime x_q1_end x_q1_score x_q1_reportCount x_q1_z x_q1_rules x_q1_shades x_q1_facts x_q2_dials x_q2_spots x_q2_skies x_q2_reports x_q2_count x_q2_chime x_q2_end x_q2_score x_q2_reportCount x_q2_z x_q2_rules x_q2_shades x_q2_facts x_isKept x_marks x_p_first x_p_steps x_p_most x_p_many x_p_fewest x_p_everRight x_p_opening x_p_rows x_p_rowCount x_p_acts x_p_marks x_p_deepest x_p_wanted x_t_length x_t_tape x_t_words x_t_places x_t_at x_t_kinds x_t_wills x_t_starts x_t_code x_t_count x_t_size x_h_sorts x_h_lengths x_h_items x_h_held x_h_things x_h_sizes x_h_bodies x_h_traced x_h_number x_h_spot x_h_parted x_g_count x_g_kinds x_g_wills x_g_starts x_g_code x_g_stack x_g_kl x_g_wl x_g_sl x_g_cl x_nr) (Qi res (cW a ar t x_q0_dials x_q0_spots x_q0_skies x_q0_reports x_q0_count x_q0_chime x_q0_end x_q0_score x_q0_reportCount x_q0_z x_q0_rules x_q0_shades x_q0_facts x_q1_dials x_q1_spots x_q1_skies x_q1_reports x_q1_count x_q1_chime x_q1_end x_q1_score x_q1_reportCount x_q1_z x_q1_rules x_q1_shades x_q1_facts x_q2_dials x_q2_spots x_q2_skies x_q2_reports x_q2_count x_q2_chime x_q2_end x_q2_score x_q2_reportCount x_q2_z x_q2_rules x_q2_shades x_q2_facts x_isKept x_marks x_p_first x_p_steps x_p_most x_p_many x_p_fewest x_p_everRight x_p_opening x_p_rows x_p_rowCount x_p_acts x_p_marks x_p_deepest x_p_wanted x_t_length x_t_tape x_t_words x_t_places x_t_at x_t_kinds x_t_wills x_t_starts x_t_code x_t_count x_t_size x_h_sorts x_h_lengths x_h_items x_h_held x_h_things x_h_sizes x_h_bodies x_h_traced x_h_number x_h_spot x_h_parted x_g_count x_g_kinds x_g_wills x_g_starts x_g_code x_g_stack x_g_kl x_g_wl x_g_sl x_g_cl x_nr)) := by
  unfold X9_missedBehind_q0 at hf
  refine MC.ofI pn_X9 (Nat.le_of_ble_eq_true rfl) ?_
  intro p e s m args below meth c A Q ls cx hR hw hl
  have hx := cx.1
  have hb := cx.2.1
  have hl : lv_has ls 7 [(0, .ref (a 1)), (1, .int v1), (2, .int v2), (3, .int v3)] := hl
  refine lv_iconst (v := 0) hx hb dX9_missedBehind_0 (by decide) ?_
  refine lv_istore (lv' := [(4, .int (0 : Int32)), (0, .ref (a 1)), (1, .int v1), (2, .int v2), (3, .int v3)]) hx hb dX9_missedBehind_1 hl (by decide) rfl (fun ls hl => ?_)
  refine lv_iconst (v := 0) hx hb dX9_missedBehind_3 (by decide) ?_
  refine lv_istore (lv' := [(5, .int (0 : Int32)), (4, .int (0 : Int32)), (0, .ref (a 1)), (1, .int v1), (2, .int v2), (3, .int v3)]) hx hb dX9_missedBehind_4 hl (by decide) rfl (fun ls hl => ?_)
  obtain ⟨o8, ho8, hf⟩ := bnS hf
  have wL1 : ∀ (k : Nat) {v1 : Int32} {v2 : Int32} {v3 : Int32} {v4 : Int32} {v5 : Int32} {H : Heap} {locs : List Loc} {ls : Array Slot} {o : Int32 × Int32}, X9_missedBehind_q0_L1 n x_q0_reports x_q0_reportCount v1 v2 v3 k v4 v5 = some o → Wd D A s (cW a ar t x_q0_dials x_q0_spots x_q0_skies x_q0_reports x_q0_count x_q0_chime x_q0_end x_q0_score x_q0_reportCount x_q0_z x_q0_rules x_q0_shades x_q0_facts x_q1_dials x_q1_spots x_q1_skies x_q1_reports x_q1_count x_q1_chime x_q1_end x_q1_score x_q1_reportCount x_q1_z x_q1_rules x_q1_shades x_q1_facts x_q2_dials x_q2_spots x_q2_skies x_q2_reports x_q2_count x_q2_chime x_q2_end x_q2_score x_q2_reportCount x_q2_z x_q2_rules x_q2_shades x_q2_facts x_isKept x_marks x_p_first x_p_steps x_p_most x_p_many x_p_fewest x_p_everRight x_p_opening x_p_rows x_p_rowCount x_p_acts x_p_marks x_p_deepest x_p_wanted x_t_length x_t_tape x_t_words x_t_places x_t_at x_t_kinds x_t_wills x_t_starts x_t_code x_t_count x_t_size x_h_sorts x_h_lengths x_h_items x_h_held x_h_things x_h_sizes x_h_bodies x_h_traced x_h_number x_h_spot x_h_parted x_g_count x_g_kinds x_g_wills x_g_starts x_g_code x_g_stack x_g_kl x_g_wl x_g_sl x_g_cl x_nr) H locs → lv_has ls 7 [(0, .ref (a 1)), (1, .int v1), (2, .int v2), (3, .int v3), (4, .int v4), (5, .int v5)] → (∀ (H : Heap) (locs : List Loc) (ls : Array Slot), Wd D A s (cW a ar t x_q0_dials x_q0_spots x_q0_skies x_q0_reports x_q0_count x_q0_chime x_q0_end x_q0_score x_q0_reportCount x_q0_z x_q0_rules x_q0_shades x_q0_facts x_q1_dials x_q1_spots x_q1_skies x_q1_reports x_q1_count x_q1_chime x_q1_end x_q1_score x_q1_reportCount x_q1_z x_q1_rules x_q1_shades x_q1_facts x_q2_dials x_q2_spots x_q2_skies x_q2_reports x_q2_count x_q2_chime x_q2_end x_q2_score x_q2_reportCount x_q2_z x_q2_rules x_q2_shades x_q2_facts x_isKept x_marks x_p_first x_p_steps x_p_most x_p_many x_p_fewest x_p_everRight x_p_opening x_p_rows x_p_rowCount x_p_acts x_p_marks x_p_deepest x_p_wanted x_t_length x_t_tape x_t_words x_t_places x_t_at x_t_kinds x_t_wills x_t_starts x_t_code x_t_count x_t_size x_h_sorts x_h_lengths x_h_items x_h_held x_h_things x_h_sizes x_h_bodies x_h_traced x_h_number x_h_spot x_h_parted x_g_count x_g_kinds x_g_wills x_g_starts x_g_code x_g_stack x_g_kl x_g_wl x_g_sl x_g_cl x_nr) H locs → lv_has ls 7 [(0, .ref (a 1)), (1, .int v1), (2, .int v2), (3, .int v3), (4, .int o.1), (5, .int o.2)] → W p l e (rmz 1 0 0) s m args below meth c H locs 0 0 Q (F0 m 93 ls [])) → W p l e (rmz 1 0 0) s m args below meth c H locs 0 0 Q (F0 m 6 ls []) := by
    clear hf ho8 hw hl
    intro k
    induction k with
    | zero => intro v1 v2 v3 v4 v5 H locs ls o hf hw hl kx; simp [X9_missedBehind_q0_L1] at hf
    | succ k ih =>
      intro v1 v2 v3 v4 v5 H locs ls o hf hw hl kx
      rw [X9_missedBehind_q0_L1] at hf
      refine lv_iload hx hb dX9_missedBehind_6 (lv_at hl 5 rfl) ?_
      refine lv_aload_n hx hb dX9_missedBehind_8 rfl (lv_at hl 0 rfl) ?_
      refine cg_X9_68_q0 cx hw dX9_missedBehind_9 ?_
      refine lv_icmp_ge (tgt := 93) hx hb dX9_missedBehind_12 (by decide) (fun hc => ?_) (fun hc => ?_)
      · have hf := ifT hf hc
        have hf := Option.some.inj hf
        subst hf
        exact kx _ _ _ hw (lv_sub hl [0, 1, 2, 3, 4, 5] rfl)
      · have hf := ifF hf hc
        refine lv_aload_n hx hb dX9_missedBehind_15 rfl (lv_at hl 0 rfl) ?_
        refine cg_X9_23_q0 cx hw dX9_missedBehind_16 ?_
        refine lv_iload hx hb dX9_missedBehind_19 (lv_at hl 5 rfl) ?_
        obtain ⟨h1, hf⟩ := ckS hf
        refine co_q0_reports (j := v5.toNatClampNeg) cx hw (ib_in h1) rfl dX9_missedBehind_21 ?_
        refine lv_iconst (v := 0) hx hb dX9_missedBehind_22 (by decide) ?_
        refine cm_q0_reports (j := 0) cx hw (ib_lt h1) (ib_in (by decide)) (by decide) dX9_missedBehind_23 ?_
        refine lv_iload_n hx hb dX9_missedBehind_24 rfl (lv_at hl 1 rfl) ?_
        obtain ⟨j7, hj7, hf⟩ := bnS hf
        have wj7 : ∀ (H : Heap) (locs : List Loc) (ls : Array Slot), Wd D A s (cW a ar t x_q0_dials x_q0_spots x_q0_skies x_q0_reports x_q0_count x_q0_chime x_q0_end x_q0_score x_q0_reportCount x_q0_z x_q0_rules x_q0_shades x_q0_facts x_q1_dials x_q1_spots x_q1_skies x_q1_reports x_q1_count x_q1_chime x_q1_end x_q1_score x_q1_reportCount x_q1_z x_q1_rules x_q1_shades x_q1_facts x_q2_dials x_q2_spots x_q2_skies x_q2_reports x_q2_count x_q2_chime x_q2_end x_q2_score x_q2_reportCount x_q2_z x_q2_rules x_q2_shades x_q2_facts x_isKept x_marks x_p_first x_p_steps x_p_most x_p_many x_p_fewest x_p_everRight x_p_opening x_p_rows x_p_rowCount x_p_acts x_p_marks x_p_deepest x_p_wanted x_t_length x_t_tape x_t_words x_t_places x_t_at x_t_kinds x_t_wills x_t_starts x_t_code x_t_count x_t_size x_h_sorts x_h_lengths x_h_items x_h_held x_h_things x_h_sizes x_h_bodies x_h_traced x_h_number x_h_spot x_h_parted x_g_count x_g_kinds x_g_wills x_g_starts x_g_code x_g_stack x_g_kl x_g_wl x_g_sl x_g_cl x_nr) H locs → lv_has ls 7 [(0, .ref (a 1)), (1, .int v1), (2, .int v2), (3, .int v3), (4, .int j7), (5, .int v5)] → W p l e (rmz 1 0 0) s m args below meth c H locs 0 0 Q (F0 m 87 ls []) := by
          intro H locs ls hw hl
          refine lv_iinc (v := (v5 + (1 : Int32))) (lv' := [(5, .int (v5 + (1 : Int32))), (0, .ref (a 1)), (1, .int v1), (2, .int v2), (3, .int v3), (4, .int j7)]) hx hb dX9_missedBehind_87 hl (k := 5) rfl rfl (by decide) rfl (fun ls hl => ?_)
          refine lv_goto (tgt := 6) hx hb dX9_missedBehind_90 (by decide) ?_
          exact ih hf hw (lv_sub hl [1, 2, 3, 4, 5, 0] rfl) kx
        clear hf
        have hf := hj7
        clear hj7
        refine lv_icmp_eq (tgt := 31) hx hb dX9_missedBehind_25 (by decide) (fun hc => ?_) (fun hc => ?_)
        · have hf := ifT hf hc
          refine lv_aload_n hx hb dX9_missedBehind_31 rfl (lv_at hl 0 rfl) ?_
          refine cg_X9_23_q0 cx hw dX9_missedBehind_32 ?_
          refine lv_iload hx hb dX9_missedBehind_35 (lv_at hl 5 rfl) ?_
          obtain ⟨h2, hf⟩ := ckS hf
          refine co_q0_reports (j := v5.toNatClampNeg) cx hw (ib_in h2) rfl dX9_missedBehind_37 ?_
          refine lv_iconst (v := 1) hx hb dX9_missedBehind_38 (by decide) ?_
          refine cm_q0_reports (j := 1) cx hw (ib_lt h2) (ib_in (by decide)) (by decide) dX9_missedBehind_39 ?_
          obtain ⟨j3, hj3, hf⟩ := pbS hf
          have wj3 : ∀ (H : Heap) (locs : List Loc) (ls : Array Slot), Wd D A s (cW a ar t x_q0_dials x_q0_spots x_q0_skies x_q0_reports x_q0_count x_q0_chime x_q0_end x_q0_score x_q0_reportCount x_q0_z x_q0_rules x_q0_shades x_q0_facts x_q1_dials x_q1_spots x_q1_skies x_q1_reports x_q1_count x_q1_chime x_q1_end x_q1_score x_q1_reportCount x_q1_z x_q1_rules x_q1_shades x_q1_facts x_q2_dials x_q2_spots x_q2_skies x_q2_reports x_q2_count x_q2_chime x_q2_end x_q2_score x_q2_reportCount x_q2_z x_q2_rules x_q2_shades x_q2_facts x_isKept x_marks x_p_first x_p_steps x_p_most x_p_many x_p_fewest x_p_everRight x_p_opening x_p_rows x_p_rowCount x_p_acts x_p_marks x_p_deepest x_p_wanted x_t_length x_t_tape x_t_words x_t_places x_t_at x_t_kinds x_t_wills x_t_starts x_t_code x_t_count x_t_size x_h_sorts x_h_lengths x_h_items x_h_held x_h_things x_h_sizes x_h_bodies x_h_traced x_h_number x_h_spot x_h_parted x_g_count x_g_kinds x_g_wills x_g_starts x_g_code x_g_stack x_g_kl x_g_wl x_g_sl x_g_cl x_nr) H locs → lv_has ls 7 [(0, .ref (a 1)), (1, .int v1), (2, .int v2), (3, .int v3), (4, .int v4), (5, .int v5)] → W p l e (rmz 1 0 0) s m args below meth c H locs 0 0 Q (F0 m 48 ls [.int j3]) := by
            intro H locs ls hw hl
            refine lv_istore (lv' := [(6, .int j3), (0, .ref (a 1)), (1, .int v1), (2, .int v2), (3, .int v3), (4, .int v4), (5, .int v5)]) hx hb dX9_missedBehind_48 hl (by decide) rfl (fun ls hl => ?_)
            refine lv_iload hx hb dX9_missedBehind_50 (lv_at hl 0 rfl) ?_
            refine lv_aload_n hx hb dX9_missedBehind_52 rfl (lv_at hl 1 rfl) ?_
            refine cg_X9_23_q0 cx hw dX9_missedBehind_53 ?_
            refine lv_iload hx hb dX9_missedBehind_56 (lv_at hl 6 rfl) ?_
            obtain ⟨h4, hf⟩ := ckS hf
            refine co_q0_reports (j := v5.toNatClampNeg) cx hw (ib_in h4) rfl dX9_missedBehind_58 ?_
            refine lv_iconst (v := 2) hx hb dX9_missedBehind_59 (by decide) ?_
            refine cm_q0_reports (j := 2) cx hw (ib_lt h4) (ib_in (by decide)) (by decide) dX9_missedBehind_60 ?_
            obtain ⟨J6, hJ6, hf⟩ := jnS hf
            have wj6 : ∀ (j6 : Unit) (H : Heap) (locs : List Loc) (ls : Array Slot), J6 j6 = some j7 → Wd D A s (cW a ar t x_q0_dials x_q0_spots x_q0_skies x_q0_reports x_q0_count x_q0_chime x_q0_end x_q0_score x_q0_reportCount x_q0_z x_q0_rules x_q0_shades x_q0_facts x_q1_dials x_q1_spots x_q1_skies x_q1_reports x_q1_count x_q1_chime x_q1_end x_q1_score x_q1_reportCount x_q1_z x_q1_rules x_q1_shades x_q1_facts x_q2_dials x_q2_spots x_q2_skies x_q2_reports x_q2_count x_q2_chime x_q2_end x_q2_score x_q2_reportCount x_q2_z x_q2_rules x_q2_shades x_q2_facts x_isKept x_marks x_p_first x_p_steps x_p_most x_p_many x_p_fewest x_p_everRight x_p_opening x_p_rows x_p_rowCount x_p_acts x_p_marks x_p_deepest x_p_wanted x_t_length x_t_tape x_t_words x_t_places x_t_at x_t_kinds x_t_wills x_t_starts x_t_code x_t_count x_t_size x_h_sorts x_h_lengths x_h_items x_h_held x_h_things x_h_sizes x_h_bodies x_h_traced x_h_number x_h_spot x_h_parted x_g_count x_g_kinds x_g_wills x_g_starts x_g_code x_g_stack x_g_kl x_g_wl x_g_sl x_g_cl x_nr) H locs → lv_has ls 7 [(0, .ref (a 1)), (1, .int v1), (2, .int v2), (3, .int v3), (4, .int v4), (5, .int v5), (6, .int j3)] → W p l e (rmz 1 0 0) s m args below meth c H locs 0 0 Q (F0 m 78 ls []) := by
              intro j6 H locs ls hf hw hl
              have hf := hJ6 _ hf
              refine lv_iload hx hb dX9_missedBehind_78 (lv_at hl 4 rfl) ?_
              refine lv_iconst (v := 1) hx hb dX9_missedBehind_80 (by decide) ?_
              refine lv_iload hx hb dX9_missedBehind_81 (lv_at hl 5 rfl) ?_
              refine lv_ishl hx hb dX9_missedBehind_83 ?_
              refine lv_ior hx hb dX9_missedBehind_84 ?_
              refine lv_istore (lv' := [(4, .int (v4 ||| ((1 : Int32) <<< (v5 &&& 31)))), (0, .ref (a 1)), (1, .int v1), (2, .int v2), (3, .int v3), (5, .int v5), (6, .int j3)]) hx hb dX9_missedBehind_85 hl (by decide) rfl (fun ls hl => ?_)
              have hf := Option.some.inj hf
              subst hf
              exact wj7 _ _ _ hw (lv_sub hl [1, 2, 3, 4, 0, 5] rfl)
            clear hJ6
            refine lv_icmp_lt (tgt := 78) hx hb dX9_missedBehind_61 (by decide) (fun hc => ?_) (fun hc => ?_)
            · have hf := ifT hf hc
              exact wj6 _ _ _ _ hf hw (lv_sub hl [1, 2, 3, 4, 5, 6, 0] rfl)
            · have hf := ifF hf hc
              refine lv_iload hx hb dX9_missedBehind_64 (lv_at hl 0 rfl) ?_
              refine lv_aload_n hx hb dX9_missedBehind_66 rfl (lv_at hl 1 rfl) ?_
              refine cg_X9_23_q0 cx hw dX9_missedBehind_67 ?_
              refine lv_iload hx hb dX9_missedBehind_70 (lv_at hl 6 rfl) ?_
              obtain ⟨h5, hf⟩ := ckS hf
              refine co_q0_reports (j := v5.toNatClampNeg) cx hw (ib_in h5) rfl dX9_missedBehind_72 ?_
              refine lv_iconst (v := 3) hx hb dX9_missedBehind_73 (by decide) ?_
              refine cm_q0_reports (j := 3) cx hw (ib_lt h5) (ib_in (by decide)) (by decide) dX9_missedBehind_74 ?_
              refine lv_icmp_le (tgt := 87) hx hb dX9_missedBehind_75 (by decide) (fun hc => ?_) (fun hc => ?_)
              · have hf := ifT hf hc
                have hf := Option.some.inj hf
                subst hf
                exact wj7 _ _ _ hw (lv_sub hl [1, 2, 3, 4, 5, 6] rfl)
              · have hf := ifF hf hc
                exact wj6 _ _ _ _ hf hw (lv_sub hl [1, 2, 3, 4, 5, 6, 0] rfl)
          clear hf
          have hf := hj3
          clear hj3
          refine lv_if_ne (tgt := 47) hx hb dX9_missedBehind_40 (by decide) (fun hc => ?_) (fun hc => ?_)
          · have hf := ifF hf hc
            refine lv_iload_n hx hb dX9_missedBehind_47 rfl (lv_at hl 3 rfl) ?_
            subst hf
            exact wj3 _ _ _ hw (lv_sub hl [0, 1, 2, 3, 4, 5] rfl)
          · have hf := ifT hf hc
            refine lv_iload_n hx hb dX9_missedBehind_43 rfl (lv_at hl 2 rfl) ?_
            refine lv_goto (tgt := 48) hx hb dX9_missedBehind_44 (by decide) ?_
            subst hf
            exact wj3 _ _ _ hw (lv_sub hl [0, 1, 2, 3, 4, 5] rfl)
        · have hf := ifF hf hc
          refine lv_goto (tgt := 87) hx hb dX9_missedBehind_28 (by decide) ?_
          have hf := Option.some.inj hf
          subst hf
          exact wj7 _ _ _ hw (lv_sub hl [0, 1, 2, 3, 4, 5] rfl)
  refine wL1 n ho8 hw (lv_sub hl [2, 3, 4, 5, 1, 0] rfl) (fun H locs ls hw hl => ?_)
  clear wL1 ho8
  refine lv_iload hx hb dX9_missedBehind_93 (lv_at hl 4 rfl) ?_
  have hf := Option.some.inj hf
  subst hf
  exact hR _ _ _ _ _ _ hw rfl ⟨rfl, rfl⟩ dX9_missedBehind_95
theorem dX9_missedBy_0 : decode cX9_missedBy 0 = .ok (.iconst 0, 1) := by decide +kernel
theorem dX9_missedBy_1 : decode cX9_missedBy 1 = .ok (.istore 4, 2) := by decide +kernel
theorem dX9_missedBy_3 : decode cX9_missedBy 3 = .ok (.iload_n 3, 1) := by decide +kernel
theorem dX9_missedBy_4 : decode cX9_missedBy 4 = .ok (.istore 5, 2) := by decide +kernel
theorem dX9_missedBy_6 : decode cX9_missedBy 6 = .ok (.iconst 0, 1) := by decide +kernel
theorem dX9_missedBy_7 : decode cX9_missedBy 7 = .ok (.istore 6, 2) := by decide +kernel
theorem dX9_missedBy_9 : decode cX9_missedBy 9 = .ok (.iconst 0, 1) := by decide +kernel
theorem dX9_missedBy_10 : decode cX9_missedBy 10 = .ok (.istore 7, 2) := by decide +kernel
theorem dX9_missedBy_12 : decode cX9_missedBy 12 = .ok (.iload 7, 2) := by decide +kernel
theorem dX9_missedBy_14 : decode cX9_missedBy 14 = .ok (.bipush 16, 2) := by decide +kernel
theorem dX9_missedBy_16 : decode cX9_missedBy 16 = .ok (.if_icmp .ge 83, 3) := by decide +kernel
theorem dX9_missedBy_19 : decode cX9_missedBy 19 = .ok (.iload 4, 2) := by decide +kernel
theorem dX9_missedBy_21 : decode cX9_missedBy 21 = .ok (.aload_n 0, 1) := by decide +kernel
theorem dX9_missedBy_22 : decode cX9_missedBy 22 = .ok (.iload 7, 2) := by decide +kernel
theorem dX9_missedBy_24 : decode cX9_missedBy 24 = .ok (.iload 5, 2) := by decide +kernel
theorem dX9_missedBy_26 : decode cX9_missedBy 26 = .ok (.iload 6, 2) := by decide +kernel
theorem dX9_missedBy_28 : decode cX9_missedBy 28 = .ok (.invokevirtual 145, 3) := by decide +kernel
theorem dX9_missedBy_31 : decode cX9_missedBy 31 = .ok (.ior, 1) := by decide +kernel
theorem dX9_missedBy_32 : decode cX9_missedBy 32 = .ok (.istore 4, 2) := by decide +kernel
theorem dX9_missedBy_34 : decode cX9_missedBy 34 = .ok (.bipush 99, 2) := by decide +kernel
theorem dX9_missedBy_36 : decode cX9_missedBy 36 = .ok (.iload 5, 2) := by decide +kernel
theorem dX9_missedBy_38 : decode cX9_missedBy 38 = .ok (.aload_n 0, 1) := by decide +kernel
theorem dX9_missedBy_39 : decode cX9_missedBy 39 = .ok (.getfield 39, 3) := by decide +kernel
theorem dX9_missedBy_42 : decode cX9_missedBy 42 = .ok (.iload_n 1, 1) := by decide +kernel
theorem dX9_missedBy_43 : decode cX9_missedBy 43 = .ok (.aaload, 1) := by decide +kernel
theorem dX9_missedBy_44 : decode cX9_missedBy 44 = .ok (.iload_n 2, 1) := by decide +kernel
theorem dX9_missedBy_45 : decode cX9_missedBy 45 = .ok (.aload_n 0, 1) := by decide +kernel
theorem dX9_missedBy_46 : decode cX9_missedBy 46 = .ok (.getfield 19, 3) := by decide +kernel
theorem dX9_missedBy_49 : decode cX9_missedBy 49 = .ok (.iload 7, 2) := by decide +kernel
theorem dX9_missedBy_51 : decode cX9_missedBy 51 = .ok (.iaload, 1) := by decide +kernel
theorem dX9_missedBy_52 : decode cX9_missedBy 52 = .ok (.iconst 4, 1) := by decide +kernel
theorem dX9_missedBy_53 : decode cX9_missedBy 53 = .ok (.irem, 1) := by decide +kernel
theorem dX9_missedBy_54 : decode cX9_missedBy 54 = .ok (.invokevirtual 91, 3) := by decide +kernel
theorem dX9_missedBy_57 : decode cX9_missedBy 57 = .ok (.iadd, 1) := by decide +kernel
theorem dX9_missedBy_58 : decode cX9_missedBy 58 = .ok (.invokestatic 149, 3) := by decide +kernel
theorem dX9_missedBy_61 : decode cX9_missedBy 61 = .ok (.istore 5, 2) := by decide +kernel
theorem dX9_missedBy_63 : decode cX9_missedBy 63 = .ok (.bipush 99, 2) := by decide +kernel
theorem dX9_missedBy_65 : decode cX9_missedBy 65 = .ok (.iload 6, 2) := by decide +kernel
theorem dX9_missedBy_67 : decode cX9_missedBy 67 = .ok (.aload_n 0, 1) := by decide +kernel
theorem dX9_missedBy_68 : decode cX9_missedBy 68 = .ok (.getfield 39, 3) := by decide +kernel
theorem dX9_missedBy_71 : decode cX9_missedBy 71 = .ok (.iload_n 1, 1) := by decide +kernel
theorem dX9_missedBy_72 : decode cX9_missedBy 72 = .ok (.aaload, 1) := by decide +kernel
theorem dX9_missedBy_73 : decode cX9_missedBy 73 = .ok (.aload_n 0, 1) := by decide +kernel
theorem dX9_missedBy_74 : decode cX9_missedBy 74 = .ok (.getfield 19, 3) := by decide +kernel
theorem dX9_missedBy_77 : decode cX9_missedBy 77 = .ok (.iload 7, 2) := by decide +kernel
theorem dX9_missedBy_79 : decode cX9_missedBy 79 = .ok (.iaload, 1) := by decide +kernel
theorem dX9_missedBy_80 : decode cX9_missedBy 80 = .ok (.iconst 4, 1) := by decide +kernel
theorem dX9_missedBy_81 : decode cX9_missedBy 81 = .ok (.idiv, 1) := by decide +kernel
theorem dX9_missedBy_82 : decode cX9_missedBy 82 = .ok (.iload 7, 2) := by decide +kernel
theorem dX9_missedBy_84 : decode cX9_missedBy 84 = .ok (.invokevirtual 83, 3) := by decide +kernel
theorem dX9_missedBy_87 : decode cX9_missedBy 87 = .ok (.iadd, 1) := by decide +kernel
theorem dX9_missedBy_88 : decode cX9_missedBy 88 = .ok (.invokestatic 149, 3) := by decide +kernel
theorem dX9_missedBy_91 : decode cX9_missedBy 91 = .ok (.istore 6, 2) := by decide +kernel
theorem dX9_missedBy_93 : decode cX9_missedBy 93 = .ok (.iinc 7 1, 3) := by decide +kernel
theorem dX9_missedBy_96 : decode cX9_missedBy 96 = .ok (.goto (-84), 3) := by decide +kernel
theorem dX9_missedBy_99 : decode cX9_missedBy 99 = .ok (.iload 4, 2) := by decide +kernel
theorem dX9_missedBy_101 : decode cX9_missedBy 101 = .ok (.ireturn, 1) := by decide +kernel
theorem k_X9_missedBy : MV yX9_missedBy cX9_missedBy 8 (some .int) 3 := ⟨q_855, q_856, q_11, q_857, ⟨by decide, by decide, by decide +kernel⟩⟩
theorem c_X9_missedBy_q0 {v1 : Int32} {v2 : Int32} {v3 : Int32} {res : Int32} (hf : X9_missedBy_q0 n x_q0_skies x_q0_reports x_q0_reportCount v1 v2 v3 = some res) : MC l E0 D t yX9_missedBy cX9_missedBy 8 (some .int) 4 0 0 [.ref (a 1), .int v1, .int v2, .int v3] (cW a ar t x_q0_dials x_q0_spots x_q0_skies x_q0_reports x_q0_count x_q0_chime x_q0_end x_q0_score x_q0_reportCount x_q0_z x_q0_rules x_q0_shades x_q0_facts x_q1_dials x_q1_spots x_q1_skies x_q1_reports x_q1_count x_q1_chime x_q1_end x_q1_score x_q1_reportCount x_q1_z x_q1_rules x_q1_shades x_q1_facts x_q2_dials x_q2_spots x_q2_skies x_q2_reports x_q2_count x_q2_chime x_q2_end x_q2_score x_q2_reportCount x_q2_z x_q2_rules x_q2_shades x_q2_facts x_isKept x_marks x_p_first x_p_steps x_p_most x_p_many x_p_fewest x_p_everRight x_p_opening x_p_rows x_p_rowCount x_p_acts x_p_marks x_p_deepest x_p_wanted x_t_length x_t_tape x_t_words x_t_places x_t_at x_t_kinds x_t_wills x_t_starts x_t_code x_t_count x_t_size x_h_sorts x_h_lengths x_h_items x_h_held x_h_things x_h_sizes x_h_bodies x_h_traced x_h_number x_h_spot x_h_parted x_g_count x_g_kinds x_g_wills x_g_starts x_g_code x_g_stack x_g_kl x_g_wl x_g_sl x_g_cl x_nr) (Qi res (cW a ar t x_q0_dials x_q0_spots x_q0_skies x_q0_reports x_q0_count x_q0_chime x_q0_end x_q0_score x_q0_reportCount x_q0_z x_q0_rules x_q0_shades x_q0_facts x_q1_dials x_q1_spots x_q1_skies x_q1_reports x_q1_count x_q1_chime x_q1_end x_q1_score x_q1_reportCount x_q1_z x_q1_rules x_q1_shades x_q1_facts x_q2_dials x_q2_spots x_q2_skies x_q2_reports x_q2_count x_q2_chime x_q2_end x_q2_score x_q2_reportCount x_q2_z x_q2_rules x_q2_shades x_q2_facts x_isKept x_marks x_p_first x_p_steps x_p_most x_p_many x_p_fewest x_p_everRight x_p_opening x_p_rows x_p_rowCount x_p_acts x_p_marks x_p_deepest x_p_wanted x_t_length x_t_tape x_t_words x_t_places x_t_at x_t_kinds x_t_wills x_t_starts x_t_code x_t_count x_t_size x_h_sorts x_h_lengths x_h_items x_h_held x_h_things x_h_sizes x_h_bodies x_h_traced x_h_number x_h_spot x_h_parted x_g_count x_g_kinds x_g_wills x_g_starts x_g_code x_g_stack x_g_kl x_g_wl x_g_sl x_g_cl x_nr)) := by
  unfold X9_missedBy_q0 at hf
  refine MC.ofI pn_X9 (Nat.le_of_ble_eq_true rfl) ?_
  intro p e s m args below meth c A Q ls cx hR hw hl
  have hx := cx.1
  have hb := cx.2.1
  have hl : lv_has ls 8 [(0, .ref (a 1)), (1, .int v1), (2, .int v2), (3, .int v3)] := hl
  refine lv_iconst (v := 0) hx hb dX9_missedBy_0 (by decide) ?_
  refine lv_istore (lv' := [(4, .int (0 : Int32)), (0, .ref (a 1)), (1, .int v1), (2, .int v2), (3, .int v3)]) hx hb dX9_missedBy_1 hl (by decide) rfl (fun ls hl => ?_)
  refine lv_iload_n hx hb dX9_missedBy_3 rfl (lv_at hl 4 rfl) ?_
  refine lv_istore (lv' := [(5, .int v3), (4, .int (0 : Int32)), (0, .ref (a 1)), (1, .int v1), (2, .int v2), (3, .int v3)]) hx hb dX9_missedBy_4 hl (by decide) rfl (fun ls hl => ?_)
  refine lv_iconst (v := 0) hx hb dX9_missedBy_6 (by decide) ?_
  refine lv_istore (lv' := [(6, .int (0 : Int32)), (5, .int v3), (4, .int (0 : Int32)), (0, .ref (a 1)), (1, .int v1), (2, .int v2), (3, .int v3)]) hx hb dX9_missedBy_7 hl (by decide) rfl (fun ls hl => ?_)
  refine lv_iconst (v := 0) hx hb dX9_missedBy_9 (by decide) ?_
  refine lv_istore (lv' := [(7, .int (0 : Int32)), (6, .int (0 : Int32)), (5, .int v3), (4, .int (0 : Int32)), (0, .ref (a 1)), (1, .int v1), (2, .int v2), (3, .int v3)]) hx hb dX9_missedBy_10 hl (by decide) rfl (fun ls hl => ?_)
  obtain ⟨o9, ho9, hf⟩ := bnS hf
  have wL1 : ∀ (k : Nat) {v1 : Int32} {v2 : Int32} {v3 : Int32} {v4 : Int32} {v5 : Int32} {v6 : Int32} {v7 : Int32} {H : Heap} {locs : List Loc} {ls : Array Slot} {o : Int32 × Int32 × Int32 × Int32}, X9_missedBy_q0_L1 n x_q0_skies x_q0_reports x_q0_reportCount v1 v2 k v4 v5 v6 v7 = some o → Wd D A s (cW a ar t x_q0_dials x_q0_spots x_q0_skies x_q0_reports x_q0_count x_q0_chime x_q0_end x_q0_score x_q0_reportCount x_q0_z x_q0_rules x_q0_shades x_q0_facts x_q1_dials x_q1_spots x_q1_skies x_q1_reports x_q1_count x_q1_chime x_q1_end x_q1_score x_q1_reportCount x_q1_z x_q1_rules x_q1_shades x_q1_facts x_q2_dials x_q2_spots x_q2_skies x_q2_reports x_q2_count x_q2_chime x_q2_end x_q2_score x_q2_reportCount x_q2_z x_q2_rules x_q2_shades x_q2_facts x_isKept x_marks x_p_first x_p_steps x_p_most x_p_many x_p_fewest x_p_everRight x_p_opening x_p_rows x_p_rowCount x_p_acts x_p_marks x_p_deepest x_p_wanted x_t_length x_t_tape x_t_words x_t_places x_t_at x_t_kinds x_t_wills x_t_starts x_t_code x_t_count x_t_size x_h_sorts x_h_lengths x_h_items x_h_held x_h_things x_h_sizes x_h_bodies x_h_traced x_h_number x_h_spot x_h_parted x_g_count x_g_kinds x_g_wills x_g_starts x_g_code x_g_stack x_g_kl x_g_wl x_g_sl x_g_cl x_nr) H locs → lv_has ls 8 [(0, .ref (a 1)), (1, .int v1), (2, .int v2), (3, .int v3), (4, .int v4), (5, .int v5), (6, .int v6), (7, .int v7)] → (∀ (H : Heap) (locs : List Loc) (ls : Array Slot), Wd D A s (cW a ar t x_q0_dials x_q0_spots x_q0_skies x_q0_reports x_q0_count x_q0_chime x_q0_end x_q0_score x_q0_reportCount x_q0_z x_q0_rules x_q0_shades x_q0_facts x_q1_dials x_q1_spots x_q1_skies x_q1_reports x_q1_count x_q1_chime x_q1_end x_q1_score x_q1_reportCount x_q1_z x_q1_rules x_q1_shades x_q1_facts x_q2_dials x_q2_spots x_q2_skies x_q2_reports x_q2_count x_q2_chime x_q2_end x_q2_score x_q2_reportCount x_q2_z x_q2_rules x_q2_shades x_q2_facts x_isKept x_marks x_p_first x_p_steps x_p_most x_p_many x_p_fewest x_p_everRight x_p_opening x_p_rows x_p_rowCount x_p_acts x_p_marks x_p_deepest x_p_wanted x_t_length x_t_tape x_t_words x_t_places x_t_at x_t_kinds x_t_wills x_t_starts x_t_code x_t_count x_t_size x_h_sorts x_h_lengths x_h_items x_h_held x_h_things x_h_sizes x_h_bodies x_h_traced x_h_number x_h_spot x_h_parted x_g_count x_g_kinds x_g_wills x_g_starts x_g_code x_g_stack x_g_kl x_g_wl x_g_sl x_g_cl x_nr) H locs → lv_has ls 8 [(0, .ref (a 1)), (1, .int v1), (2, .int v2), (3, .int v3), (4, .int o.1), (5, .int o.2.1), (6, .int o.2.2.1), (7, .int o.2.2.2)] → W p l e (rmz 4 0 0) s m args below meth c H locs 0 0 Q (F0 m 99 ls [])) → W p l e (rmz 4 0 0) s m args below meth c H locs 0 0 Q (F0 m 12 ls []) := by
    clear hf ho9 hw hl
    intro k
    induction k with
    | zero => intro v1 v2 v3 v4 v5 v6 v7 H locs ls o hf hw hl kx; simp [X9_missedBy_q0_L1] at hf
    | succ k ih =>
      intro v1 v2 v3 v4 v5 v6 v7 H locs ls o hf hw hl kx
      rw [X9_missedBy_q0_L1] at hf
      refine lv_iload hx hb dX9_missedBy_12 (lv_at hl 7 rfl) ?_
      refine lv_bipush (v := 16) hx hb dX9_missedBy_14 (by decide) ?_
      refine lv_icmp_ge (tgt := 99) hx hb dX9_missedBy_16 (by decide) (fun hc => ?_) (fun hc => ?_)
      · have hf := ifT hf hc
        have hf := Option.some.inj hf
        subst hf
        exact kx _ _ _ hw (lv_sub hl [0, 1, 2, 3, 4, 5, 6, 7] rfl)
      · have hf := ifF hf hc
        refine lv_iload hx hb dX9_missedBy_19 (lv_at hl 4 rfl) ?_
        refine lv_aload_n hx hb dX9_missedBy_21 rfl (lv_at hl 0 rfl) ?_
        refine lv_iload hx hb dX9_missedBy_22 (lv_at hl 7 rfl) ?_
        refine lv_iload hx hb dX9_missedBy_24 (lv_at hl 5 rfl) ?_
        refine lv_iload hx hb dX9_missedBy_26 (lv_at hl 6 rfl) ?_
        obtain ⟨r1, h2, hf⟩ := bnS hf
        refine calVi cx hw hl.1 (c_X9_missedBehind_q0 h2) q_858 k_X9_missedBehind rfl rv_q0 rfl dX9_missedBy_28 rfl (Nat.le_of_ble_eq_true rfl) ⟨Nat.le_of_ble_eq_true rfl, Nat.le_of_ble_eq_true rfl⟩ ⟨Nat.le_refl _, Nat.le_refl _⟩ (fun H locs hw => ?_)
        refine lv_ior hx hb dX9_missedBy_31 ?_
        refine lv_istore (lv' := [(4, .int (v4 ||| r1)), (0, .ref (a 1)), (1, .int v1), (2, .int v2), (3, .int v3), (5, .int v5), (6, .int v6), (7, .int v7)]) hx hb dX9_missedBy_32 hl (by decide) rfl (fun ls hl => ?_)
        refine lv_bipush (v := 99) hx hb dX9_missedBy_34 (by decide) ?_
        refine lv_iload hx hb dX9_missedBy_36 (lv_at hl 5 rfl) ?_
        refine lv_aload_n hx hb dX9_missedBy_38 rfl (lv_at hl 1 rfl) ?_
        refine cg_X9_39_q0 cx hw dX9_missedBy_39 ?_
        refine lv_iload_n hx hb dX9_missedBy_42 rfl (lv_at hl 2 rfl) ?_
        obtain ⟨h3, hf⟩ := ckS hf
        refine co_kinds (j := v1.toNatClampNeg) cx hw (ib_in h3) rfl dX9_missedBy_43 ?_
        refine lv_iload_n hx hb dX9_missedBy_44 rfl (lv_at hl 3 rfl) ?_
        refine lv_aload_n hx hb dX9_missedBy_45 rfl (lv_at hl 1 rfl) ?_
        refine cg_X9_19_q0 cx hw dX9_missedBy_46 ?_
        refine lv_iload hx hb dX9_missedBy_49 (lv_at hl 7 rfl) ?_
        obtain ⟨h4, hf⟩ := ckS hf
        refine cl_q0_skies (j := v7.toNatClampNeg) cx hw (ib_in h4) rfl dX9_missedBy_51 ?_
        refine lv_iconst (v := 4) hx hb dX9_missedBy_52 (by decide) ?_
        refine lv_irem hx hb dX9_missedBy_53 (by decide) ?_
        refine vr_slips_X9_91 cx hw hl.1 (ib_lt h3) dX9_missedBy_54 (Nat.le_of_ble_eq_true rfl) (Nat.le_of_ble_eq_true rfl) (Nat.le_of_ble_eq_true rfl) ⟨Nat.le_refl _, Nat.le_refl _⟩ (fun H locs hw => ?_)
        refine lv_iadd hx hb dX9_missedBy_57 ?_
        refine va_mmin hx hb (cx.2.2.1.trans hl.1.symm) cx.2.2.2.1 (cx.2.2.2.2.1 _ q_862) (cx.2.2.2.2.1 _ q_661) (cx.2.2.2.2.1 _ q_15) (cx.2.2.2.2.1 _ q_662) (by show 1 ≤ _; exact Nat.le_of_ble_eq_true rfl) (by show _ ≤ 64 * _; exact Nat.le_of_ble_eq_true rfl) (Nat.le_refl _) (Nat.le_refl _) dX9_missedBy_58 ?_
        obtain ⟨z5, hz, hf⟩ := pbS hf
        refine lv_topi (fun y ey => ?_)
        have ez : z5 = y := hz.symm.trans ey.symm
        subst ez
        refine lv_istore (lv' := [(5, .int z5), (4, .int (v4 ||| r1)), (0, .ref (a 1)), (1, .int v1), (2, .int v2), (3, .int v3), (6, .int v6), (7, .int v7)]) hx hb dX9_missedBy_61 hl (by decide) rfl (fun ls hl => ?_)
        refine lv_bipush (v := 99) hx hb dX9_missedBy_63 (by decide) ?_
        refine lv_iload hx hb dX9_missedBy_65 (lv_at hl 6 rfl) ?_
        refine lv_aload_n hx hb dX9_missedBy_67 rfl (lv_at hl 2 rfl) ?_
        refine cg_X9_39_q0 cx hw dX9_missedBy_68 ?_
        refine lv_iload_n hx hb dX9_missedBy_71 rfl (lv_at hl 3 rfl) ?_
        obtain ⟨h6, hf⟩ := ckS hf
        refine co_kinds (j := v1.toNatClampNeg) cx hw (ib_in h6) rfl dX9_missedBy_72 ?_
        refine lv_aload_n hx hb dX9_missedBy_73 rfl (lv_at hl 2 rfl) ?_
        refine cg_X9_19_q0 cx hw dX9_missedBy_74 ?_
        refine lv_iload hx hb dX9_missedBy_77 (lv_at hl 7 rfl) ?_
        obtain ⟨h7, hf⟩ := ckS hf
        refine cl_q0_skies (j := v7.toNatClampNeg) cx hw (ib_in h7) rfl dX9_missedBy_79 ?_
        refine lv_iconst (v := 4) hx hb dX9_missedBy_80 (by decide) ?_
        refine lv_idiv hx hb dX9_missedBy_81 (by decide) ?_
        refine lv_iload hx hb dX9_missedBy_82 (lv_at hl 7 rfl) ?_
        refine vr_shades_X9_83 cx hw hl.1 (ib_lt h6) dX9_missedBy_84 (Nat.le_of_ble_eq_true rfl) (Nat.le_of_ble_eq_true rfl) (Nat.le_of_ble_eq_true rfl) ⟨Nat.le_refl _, Nat.le_refl _⟩ (fun H locs hw => ?_)
        refine lv_iadd hx hb dX9_missedBy_87 ?_
        refine va_mmin hx hb (cx.2.2.1.trans hl.1.symm) cx.2.2.2.1 (cx.2.2.2.2.1 _ q_862) (cx.2.2.2.2.1 _ q_661) (cx.2.2.2.2.1 _ q_15) (cx.2.2.2.2.1 _ q_662) (by show 1 ≤ _; exact Nat.le_of_ble_eq_true rfl) (by show _ ≤ 64 * _; exact Nat.le_of_ble_eq_true rfl) (Nat.le_refl _) (Nat.le_refl _) dX9_missedBy_88 ?_
        obtain ⟨z8, hz, hf⟩ := pbS hf
        refine lv_topi (fun y ey => ?_)
        have ez : z8 = y := hz.symm.trans ey.symm
        subst ez
        refine lv_istore (lv' := [(6, .int z8), (5, .int z5), (4, .int (v4 ||| r1)), (0, .ref (a 1)), (1, .int v1), (2, .int v2), (3, .int v3), (7, .int v7)]) hx hb dX9_missedBy_91 hl (by decide) rfl (fun ls hl => ?_)
        refine lv_iinc (v := (v7 + (1 : Int32))) (lv' := [(7, .int (v7 + (1 : Int32))), (6, .int z8), (5, .int z5), (4, .int (v4 ||| r1)), (0, .ref (a 1)), (1, .int v1), (2, .int v2), (3, .int v3)]) hx hb dX9_missedBy_93 hl (k := 7) rfl rfl (by decide) rfl (fun ls hl => ?_)
        refine lv_goto (tgt := 12) hx hb dX9_missedBy_96 (by decide) ?_
        exact ih hf hw (lv_sub hl [4, 5, 6, 7, 3, 2, 1, 0] rfl) kx
  refine wL1 n ho9 hw (lv_sub hl [4, 5, 6, 7, 3, 2, 1, 0] rfl) (fun H locs ls hw hl => ?_)
  clear wL1 ho9
  refine lv_iload hx hb dX9_missedBy_99 (lv_at hl 4 rfl) ?_
  have hf := Option.some.inj hf
  subst hf
  exact hR _ _ _ _ _ _ hw rfl ⟨rfl, rfl⟩ dX9_missedBy_101
theorem dX11_missedBy_0 : decode cX11_missedBy 0 = .ok (.aload_n 0, 1) := by decide +kernel
theorem dX11_missedBy_1 : decode cX11_missedBy 1 = .ok (.getfield 55, 3) := by decide +kernel
theorem dX11_missedBy_4 : decode cX11_missedBy 4 = .ok (.iload_n 1, 1) := by decide +kernel
theorem dX11_missedBy_5 : decode cX11_missedBy 5 = .ok (.iconst 1, 1) := by decide +kernel
theorem dX11_missedBy_6 : decode cX11_missedBy 6 = .ok (.invokestatic 249, 3) := by decide +kernel
theorem dX11_missedBy_9 : decode cX11_missedBy 9 = .ok (.iload_n 1, 1) := by decide +kernel
theorem dX11_missedBy_10 : decode cX11_missedBy 10 = .ok (.iconst 2, 1) := by decide +kernel
theorem dX11_missedBy_11 : decode cX11_missedBy 11 = .ok (.invokestatic 249, 3) := by decide +kernel
theorem dX11_missedBy_14 : decode cX11_missedBy 14 = .ok (.iload_n 1, 1) := by decide +kernel
theorem dX11_missedBy_15 : decode cX11_missedBy 15 = .ok (.iconst 3, 1) := by decide +kernel
theorem dX11_missedBy_16 : decode cX11_missedBy 16 = .ok (.invokestatic 249, 3) := by decide +kernel
theorem dX11_missedBy_19 : decode cX11_missedBy 19 = .ok (.invokevirtual 257, 3) := by decide +kernel
theorem dX11_missedBy_22 : decode cX11_missedBy 22 = .ok (.ireturn, 1) := by decide +kernel
theorem k_X11_missedBy : MV yX11_missedBy cX11_missedBy 2 (some .int) 1 := ⟨q_849, qs_27, q_1, q_850, ⟨by decide, by decide, by decide +kernel⟩⟩
theorem c_X11_missedBy {v1 : Int32} {res : Int32} (hf : X11_missedBy n x_q0_skies x_q0_reports x_q0_reportCount v1 = some res) : MC l E0 D t yX11_missedBy cX11_missedBy 2 (some .int) 5 0 0 [.ref (a 0), .int v1] (cW a ar t x_q0_dials x_q0_spots x_q0_skies x_q0_reports x_q0_count x_q0_chime x_q0_end x_q0_score x_q0_reportCount x_q0_z x_q0_rules x_q0_shades x_q0_facts x_q1_dials x_q1_spots x_q1_skies x_q1_reports x_q1_count x_q1_chime x_q1_end x_q1_score x_q1_reportCount x_q1_z x_q1_rules x_q1_shades x_q1_facts x_q2_dials x_q2_spots x_q2_skies x_q2_reports x_q2_count x_q2_chime x_q2_end x_q2_score x_q2_reportCount x_q2_z x_q2_rules x_q2_shades x_q2_facts x_isKept x_marks x_p_first x_p_steps x_p_most x_p_many x_p_fewest x_p_everRight x_p_opening x_p_rows x_p_rowCount x_p_acts x_p_marks x_p_deepest x_p_wanted x_t_length x_t_tape x_t_words x_t_places x_t_at x_t_kinds x_t_wills x_t_starts x_t_code x_t_count x_t_size x_h_sorts x_h_lengths x_h_items x_h_held x_h_things x_h_sizes x_h_bodies x_h_traced x_h_number x_h_spot x_h_parted x_g_count x_g_kinds x_g_wills x_g_starts x_g_code x_g_stack x_g_kl x_g_wl x_g_sl x_g_cl x_nr) (Qi res (cW a ar t x_q0_dials x_q0_spots x_q0_skies x_q0_reports x_q0_count x_q0_chime x_q0_end x_q0_score x_q0_reportCount x_q0_z x_q0_rules x_q0_shades x_q0_facts x_q1_dials x_q1_spots x_q1_skies x_q1_reports x_q1_count x_q1_chime x_q1_end x_q1_score x_q1_reportCount x_q1_z x_q1_rules x_q1_shades x_q1_facts x_q2_dials x_q2_spots x_q2_skies x_q2_reports x_q2_count x_q2_chime x_q2_end x_q2_score x_q2_reportCount x_q2_z x_q2_rules x_q2_shades x_q2_facts x_isKept x_marks x_p_first x_p_steps x_p_most x_p_many x_p_fewest x_p_everRight x_p_opening x_p_rows x_p_rowCount x_p_acts x_p_marks x_p_deepest x_p_wanted x_t_length x_t_tape x_t_words x_t_places x_t_at x_t_kinds x_t_wills x_t_starts x_t_code x_t_count x_t_size x_h_sorts x_h_lengths x_h_items x_h_held x_h_things x_h_sizes x_h_bodies x_h_traced x_h_number x_h_spot x_h_parted x_g_count x_g_kinds x_g_wills x_g_starts x_g_code x_g_stack x_g_kl x_g_wl x_g_sl x_g_cl x_nr)) := by
  unfold X11_missedBy at hf
  refine MC.ofI pn_X11 (Nat.le_of_ble_eq_true rfl) ?_
  intro p e s m args below meth c A Q ls cx hR hw hl
  have hx := cx.1
  have hb := cx.2.1
  have hl : lv_has ls 2 [(0, .ref (a 0)), (1, .int v1)] := hl
  refine lv_aload_n hx hb dX11_missedBy_0 rfl (lv_at hl 0 rfl) ?_
  refine cg_X11_55_ds cx hw dX11_missedBy_1 ?_
  refine lv_iload_n hx hb dX11_missedBy_4 rfl (lv_at hl 1 rfl) ?_
  refine lv_iconst (v := 1) hx hb dX11_missedBy_5 (by decide) ?_
  refine calSi cx hw hl.1 (c_X11_partOfStranger rfl) q_851 k_X11_partOfStranger rfl dX11_missedBy_6 rfl (Nat.le_of_ble_eq_true rfl) ⟨Nat.le_of_ble_eq_true rfl, Nat.le_of_ble_eq_true rfl⟩ ⟨Nat.le_refl _, Nat.le_refl _⟩ (fun H locs hw => ?_)
  refine lv_iload_n hx hb dX11_missedBy_9 rfl (lv_at hl 1 rfl) ?_
  refine lv_iconst (v := 2) hx hb dX11_missedBy_10 (by decide) ?_
  refine calSi cx hw hl.1 (c_X11_partOfStranger rfl) q_851 k_X11_partOfStranger rfl dX11_missedBy_11 rfl (Nat.le_of_ble_eq_true rfl) ⟨Nat.le_of_ble_eq_true rfl, Nat.le_of_ble_eq_true rfl⟩ ⟨Nat.le_refl _, Nat.le_refl _⟩ (fun H locs hw => ?_)
  refine lv_iload_n hx hb dX11_missedBy_14 rfl (lv_at hl 1 rfl) ?_
  refine lv_iconst (v := 3) hx hb dX11_missedBy_15 (by decide) ?_
  refine calSi cx hw hl.1 (c_X11_partOfStranger rfl) q_851 k_X11_partOfStranger rfl dX11_missedBy_16 rfl (Nat.le_of_ble_eq_true rfl) ⟨Nat.le_of_ble_eq_true rfl, Nat.le_of_ble_eq_true rfl⟩ ⟨Nat.le_refl _, Nat.le_refl _⟩ (fun H locs hw => ?_)
  obtain ⟨r1, h2, hf⟩ := bnS hf
  refine calVi cx hw hl.1 (c_X9_missedBy_q0 h2) q_854 k_X9_missedBy rfl rv_q0 rfl dX11_missedBy_19 rfl (Nat.le_of_ble_eq_true rfl) ⟨Nat.le_of_ble_eq_true rfl, Nat.le_of_ble_eq_true rfl⟩ ⟨Nat.le_refl _, Nat.le_refl _⟩ (fun H locs hw => ?_)
  have hf := Option.some.inj hf
  subst hf
  exact hR _ _ _ _ _ _ hw rfl ⟨rfl, rfl⟩ dX11_missedBy_22
theorem dX11_lone_0 : decode cX11_lone 0 = .ok (.iload_n 1, 1) := by decide +kernel
theorem dX11_lone_1 : decode cX11_lone 1 = .ok (.iconst 0, 1) := by decide +kernel
theorem dX11_lone_2 : decode cX11_lone 2 = .ok (.iconst 3, 1) := by decide +kernel
theorem dX11_lone_3 : decode cX11_lone 3 = .ok (.invokestatic 74, 3) := by decide +kernel
theorem dX11_lone_6 : decode cX11_lone 6 = .ok (.ifCond .ne 5, 3) := by decide +kernel
theorem dX11_lone_9 : decode cX11_lone 9 = .ok (.iconst (-1), 1) := by decide +kernel
theorem dX11_lone_10 : decode cX11_lone 10 = .ok (.ireturn, 1) := by decide +kernel
theorem dX11_lone_11 : decode cX11_lone 11 = .ok (.iconst 0, 1) := by decide +kernel
theorem dX11_lone_12 : decode cX11_lone 12 = .ok (.istore_n 2, 1) := by decide +kernel
theorem dX11_lone_13 : decode cX11_lone 13 = .ok (.bipush (-3), 2) := by decide +kernel
theorem dX11_lone_15 : decode cX11_lone 15 = .ok (.istore_n 3, 1) := by decide +kernel
theorem dX11_lone_16 : decode cX11_lone 16 = .ok (.iconst 0, 1) := by decide +kernel
theorem dX11_lone_17 : decode cX11_lone 17 = .ok (.istore 4, 2) := by decide +kernel
theorem dX11_lone_19 : decode cX11_lone 19 = .ok (.iload 4, 2) := by decide +kernel
theorem dX11_lone_21 : decode cX11_lone 21 = .ok (.sipush 500, 3) := by decide +kernel
theorem dX11_lone_24 : decode cX11_lone 24 = .ok (.if_icmp .ge 28, 3) := by decide +kernel
theorem dX11_lone_27 : decode cX11_lone 27 = .ok (.aload_n 0, 1) := by decide +kernel
theorem dX11_lone_28 : decode cX11_lone 28 = .ok (.iload 4, 2) := by decide +kernel
theorem dX11_lone_30 : decode cX11_lone 30 = .ok (.invokevirtual 246, 3) := by decide +kernel
theorem dX11_lone_33 : decode cX11_lone 33 = .ok (.ifCond .ne 13, 3) := by decide +kernel
theorem dX11_lone_36 : decode cX11_lone 36 = .ok (.iload_n 2, 1) := by decide +kernel
theorem dX11_lone_37 : decode cX11_lone 37 = .ok (.ifCond .ne 6, 3) := by decide +kernel
theorem dX11_lone_40 : decode cX11_lone 40 = .ok (.iload 4, 2) := by decide +kernel
theorem dX11_lone_42 : decode cX11_lone 42 = .ok (.istore_n 3, 1) := by decide +kernel
theorem dX11_lone_43 : decode cX11_lone 43 = .ok (.iinc 2 1, 3) := by decide +kernel
theorem dX11_lone_46 : decode cX11_lone 46 = .ok (.iinc 4 1, 3) := by decide +kernel
theorem dX11_lone_49 : decode cX11_lone 49 = .ok (.goto (-30), 3) := by decide +kernel
theorem dX11_lone_52 : decode cX11_lone 52 = .ok (.iload_n 1, 1) := by decide +kernel
theorem dX11_lone_53 : decode cX11_lone 53 = .ok (.ifCond .ne 5, 3) := by decide +kernel
theorem dX11_lone_56 : decode cX11_lone 56 = .ok (.iload_n 2, 1) := by decide +kernel
theorem dX11_lone_57 : decode cX11_lone 57 = .ok (.ireturn, 1) := by decide +kernel
theorem dX11_lone_58 : decode cX11_lone 58 = .ok (.iload_n 2, 1) := by decide +kernel
theorem dX11_lone_59 : decode cX11_lone 59 = .ok (.ifCond .ne 6, 3) := by decide +kernel
theorem dX11_lone_62 : decode cX11_lone 62 = .ok (.bipush (-3), 2) := by decide +kernel
theorem dX11_lone_64 : decode cX11_lone 64 = .ok (.ireturn, 1) := by decide +kernel
theorem dX11_lone_65 : decode cX11_lone 65 = .ok (.iload_n 3, 1) := by decide +kernel
theorem dX11_lone_66 : decode cX11_lone 66 = .ok (.iload_n 1, 1) := by decide +kernel
theorem dX11_lone_67 : decode cX11_lone 67 = .ok (.invokestatic 249, 3) := by decide +kernel
theorem dX11_lone_70 : decode cX11_lone 70 = .ok (.ireturn, 1) := by decide +kernel
theorem k_X11_lone : MV yX11_lone cX11_lone 5 (some .int) 1 := ⟨q_844, q_845, q_1, q_846, ⟨by decide, by decide, by decide +kernel⟩⟩
theorem c_X11_lone {v1 : Int32} {res : Int32} (hf : X11_lone n x_q0_skies x_q0_reports x_q0_reportCount v1 = some res) : MC l E0 D t yX11_lone cX11_lone 5 (some .int) 6 0 0 [.ref (a 0), .int v1] (cW a ar t x_q0_dials x_q0_spots x_q0_skies x_q0_reports x_q0_count x_q0_chime x_q0_end x_q0_score x_q0_reportCount x_q0_z x_q0_rules x_q0_shades x_q0_facts x_q1_dials x_q1_spots x_q1_skies x_q1_reports x_q1_count x_q1_chime x_q1_end x_q1_score x_q1_reportCount x_q1_z x_q1_rules x_q1_shades x_q1_facts x_q2_dials x_q2_spots x_q2_skies x_q2_reports x_q2_count x_q2_chime x_q2_end x_q2_score x_q2_reportCount x_q2_z x_q2_rules x_q2_shades x_q2_facts x_isKept x_marks x_p_first x_p_steps x_p_most x_p_many x_p_fewest x_p_everRight x_p_opening x_p_rows x_p_rowCount x_p_acts x_p_marks x_p_deepest x_p_wanted x_t_length x_t_tape x_t_words x_t_places x_t_at x_t_kinds x_t_wills x_t_starts x_t_code x_t_count x_t_size x_h_sorts x_h_lengths x_h_items x_h_held x_h_things x_h_sizes x_h_bodies x_h_traced x_h_number x_h_spot x_h_parted x_g_count x_g_kinds x_g_wills x_g_starts x_g_code x_g_stack x_g_kl x_g_wl x_g_sl x_g_cl x_nr) (Qi res (cW a ar t x_q0_dials x_q0_spots x_q0_skies x_q0_reports x_q0_count x_q0_chime x_q0_end x_q0_score x_q0_reportCount x_q0_z x_q0_rules x_q0_shades x_q0_facts x_q1_dials x_q1_spots x_q1_skies x_q1_reports x_q1_count x_q1_chime x_q1_end x_q1_score x_q1_reportCount x_q1_z x_q1_rules x_q1_shades x_q1_facts x_q2_dials x_q2_spots x_q2_skies x_q2_reports x_q2_count x_q2_chime x_q2_end x_q2_score x_q2_reportCount x_q2_z x_q2_rules x_q2_shades x_q2_facts x_isKept x_marks x_p_first x_p_steps x_p_most x_p_many x_p_fewest x_p_everRight x_p_opening x_p_rows x_p_rowCount x_p_acts x_p_marks x_p_deepest x_p_wanted x_t_length x_t_tape x_t_words x_t_places x_t_at x_t_kinds x_t_wills x_t_starts x_t_code x_t_count x_t_size x_h_sorts x_h_lengths x_h_items x_h_held x_h_things x_h_sizes x_h_bodies x_h_traced x_h_number x_h_spot x_h_parted x_g_count x_g_kinds x_g_wills x_g_starts x_g_code x_g_stack x_g_kl x_g_wl x_g_sl x_g_cl x_nr)) := by
  unfold X11_lone at hf
  refine MC.ofI pn_X11 (Nat.le_of_ble_eq_true rfl) ?_
  intro p e s m args below meth c A Q ls cx hR hw hl
  have hx := cx.1
  have hb := cx.2.1
  have hl : lv_has ls 5 [(0, .ref (a 0)), (1, .int v1)] := hl
  refine lv_iload_n hx hb dX11_lone_0 rfl (lv_at hl 1 rfl) ?_
  refine lv_iconst (v := 0) hx hb dX11_lone_1 (by decide) ?_
  refine lv_iconst (v := 3) hx hb dX11_lone_2 (by decide) ?_
  refine calSi cx hw hl.1 (c_X11_isIn rfl) q_350 k_X11_isIn rfl dX11_lone_3 rfl (Nat.le_of_ble_eq_true rfl) ⟨Nat.le_of_ble_eq_true rfl, Nat.le_of_ble_eq_true rfl⟩ ⟨Nat.le_refl _, Nat.le_refl _⟩ (fun H locs hw => ?_)
  refine lv_if_ne (tgt := 11) hx hb dX11_lone_6 (by decide) (fun hc => ?_) (fun hc => ?_)
  · have hf := ifF hf hc
    refine lv_iconst (v := 0) hx hb dX11_lone_11 (by decide) ?_
    refine lv_istore_n (lv' := [(2, .int (0 : Int32)), (0, .ref (a 0)), (1, .int v1)]) hx hb dX11_lone_12 rfl hl (by decide) rfl (fun ls hl => ?_)
    refine lv_bipush (v := (-3)) hx hb dX11_lone_13 (by decide) ?_
    refine lv_istore_n (lv' := [(3, .int (-3 : Int32)), (2, .int (0 : Int32)), (0, .ref (a 0)), (1, .int v1)]) hx hb dX11_lone_15 rfl hl (by decide) rfl (fun ls hl => ?_)
    refine lv_iconst (v := 0) hx hb dX11_lone_16 (by decide) ?_
    refine lv_istore (lv' := [(4, .int (0 : Int32)), (3, .int (-3 : Int32)), (2, .int (0 : Int32)), (0, .ref (a 0)), (1, .int v1)]) hx hb dX11_lone_17 hl (by decide) rfl (fun ls hl => ?_)
    obtain ⟨o5, ho5, hf⟩ := bnS hf
    have wL1 : ∀ (k : Nat) {v1 : Int32} {v2 : Int32} {v3 : Int32} {v4 : Int32} {H : Heap} {locs : List Loc} {ls : Array Slot} {o : Int32 × Int32 × Int32}, X11_lone_L1 n x_q0_skies x_q0_reports x_q0_reportCount k v2 v3 v4 = some o → Wd D A s (cW a ar t x_q0_dials x_q0_spots x_q0_skies x_q0_reports x_q0_count x_q0_chime x_q0_end x_q0_score x_q0_reportCount x_q0_z x_q0_rules x_q0_shades x_q0_facts x_q1_dials x_q1_spots x_q1_skies x_q1_reports x_q1_count x_q1_chime x_q1_end x_q1_score x_q1_reportCount x_q1_z x_q1_rules x_q1_shades x_q1_facts x_q2_dials x_q2_spots x_q2_skies x_q2_reports x_q2_count x_q2_chime x_q2_end x_q2_score x_q2_reportCount x_q2_z x_q2_rules x_q2_shades x_q2_facts x_isKept x_marks x_p_first x_p_steps x_p_most x_p_many x_p_fewest x_p_everRight x_p_opening x_p_rows x_p_rowCount x_p_acts x_p_marks x_p_deepest x_p_wanted x_t_length x_t_tape x_t_words x_t_places x_t_at x_t_kinds x_t_wills x_t_starts x_t_code x_t_count x_t_size x_h_sorts x_h_lengths x_h_items x_h_held x_h_things x_h_sizes x_h_bodies x_h_traced x_h_number x_h_spot x_h_parted x_g_count x_g_kinds x_g_wills x_g_starts x_g_code x_g_stack x_g_kl x_g_wl x_g_sl x_g_cl x_nr) H locs → lv_has ls 5 [(0, .ref (a 0)), (1, .int v1), (2, .int v2), (3, .int v3), (4, .int v4)] → (∀ (H : Heap) (locs : List Loc) (ls : Array Slot), Wd D A s (cW a ar t x_q0_dials x_q0_spots x_q0_skies x_q0_reports x_q0_count x_q0_chime x_q0_end x_q0_score x_q0_reportCount x_q0_z x_q0_rules x_q0_shades x_q0_facts x_q1_dials x_q1_spots x_q1_skies x_q1_reports x_q1_count x_q1_chime x_q1_end x_q1_score x_q1_reportCount x_q1_z x_q1_rules x_q1_shades x_q1_facts x_q2_dials x_q2_spots x_q2_skies x_q2_reports x_q2_count x_q2_chime x_q2_end x_q2_score x_q2_reportCount x_q2_z x_q2_rules x_q2_shades x_q2_facts x_isKept x_marks x_p_first x_p_steps x_p_most x_p_many x_p_fewest x_p_everRight x_p_opening x_p_rows x_p_rowCount x_p_acts x_p_marks x_p_deepest x_p_wanted x_t_length x_t_tape x_t_words x_t_places x_t_at x_t_kinds x_t_wills x_t_starts x_t_code x_t_count x_t_size x_h_sorts x_h_lengths x_h_items x_h_held x_h_things x_h_sizes x_h_bodies x_h_traced x_h_number x_h_spot x_h_parted x_g_count x_g_kinds x_g_wills x_g_starts x_g_code x_g_stack x_g_kl x_g_wl x_g_sl x_g_cl x_nr) H locs → lv_has ls 5 [(0, .ref (a 0)), (1, .int v1), (2, .int o.1), (3, .int o.2.1), (4, .int o.2.2)] → W p l e (rmz 6 0 0) s m args below meth c H locs 0 0 Q (F0 m 52 ls [])) → W p l e (rmz 6 0 0) s m args below meth c H locs 0 0 Q (F0 m 19 ls []) := by
      clear hf ho5 hw hl
      intro k
      induction k with
      | zero => intro v1 v2 v3 v4 H locs ls o hf hw hl kx; simp [X11_lone_L1] at hf
      | succ k ih =>
        intro v1 v2 v3 v4 H locs ls o hf hw hl kx
        rw [X11_lone_L1] at hf
        refine lv_iload hx hb dX11_lone_19 (lv_at hl 4 rfl) ?_
        refine lv_sipush (v := 500) hx hb dX11_lone_21 (by decide) ?_
        refine lv_icmp_ge (tgt := 52) hx hb dX11_lone_24 (by decide) (fun hc => ?_) (fun hc => ?_)
        · have hf := ifT hf hc
          have hf := Option.some.inj hf
          subst hf
          exact kx _ _ _ hw (lv_sub hl [0, 1, 2, 3, 4] rfl)
        · have hf := ifF hf hc
          refine lv_aload_n hx hb dX11_lone_27 rfl (lv_at hl 0 rfl) ?_
          refine lv_iload hx hb dX11_lone_28 (lv_at hl 4 rfl) ?_
          obtain ⟨r1, h2, hf⟩ := bnS hf
          refine calVi cx hw hl.1 (c_X11_missedBy h2) q_847 k_X11_missedBy rfl rv_ds rfl dX11_lone_30 rfl (Nat.le_of_ble_eq_true rfl) ⟨Nat.le_of_ble_eq_true rfl, Nat.le_of_ble_eq_true rfl⟩ ⟨Nat.le_refl _, Nat.le_refl _⟩ (fun H locs hw => ?_)
          obtain ⟨j4, hj4, hf⟩ := pbS hf
          have wj4 : ∀ (H : Heap) (locs : List Loc) (ls : Array Slot), Wd D A s (cW a ar t x_q0_dials x_q0_spots x_q0_skies x_q0_reports x_q0_count x_q0_chime x_q0_end x_q0_score x_q0_reportCount x_q0_z x_q0_rules x_q0_shades x_q0_facts x_q1_dials x_q1_spots x_q1_skies x_q1_reports x_q1_count x_q1_chime x_q1_end x_q1_score x_q1_reportCount x_q1_z x_q1_rules x_q1_shades x_q1_facts x_q2_dials x_q2_spots x_q2_skies x_q2_reports x_q2_count x_q2_chime x_q2_end x_q2_score x_q2_reportCount x_q2_z x_q2_rules x_q2_shades x_q2_facts x_isKept x_marks x_p_first x_p_steps x_p_most x_p_many x_p_fewest x_p_everRight x_p_opening x_p_rows x_p_rowCount x_p_acts x_p_marks x_p_deepest x_p_wanted x_t_length x_t_tape x_t_words x_t_places x_t_at x_t_kinds x_t_wills x_t_starts x_t_code x_t_count x_t_size x_h_sorts x_h_lengths x_h_items x_h_held x_h_things x_h_sizes x_h_bodies x_h_traced x_h_number x_h_spot x_h_parted x_g_count x_g_kinds x_g_wills x_g_starts x_g_code x_g_stack x_g_kl x_g_wl x_g_sl x_g_cl x_nr) H locs → lv_has ls 5 [(0, .ref (a 0)), (1, .int v1), (2, .int j4.1), (3, .int j4.2), (4, .int v4)] → W p l e (rmz 6 0 0) s m args below meth c H locs 0 0 Q (F0 m 46 ls []) := by
            intro H locs ls hw hl
            refine lv_iinc (v := (v4 + (1 : Int32))) (lv' := [(4, .int (v4 + (1 : Int32))), (0, .ref (a 0)), (1, .int v1), (2, .int j4.1), (3, .int j4.2)]) hx hb dX11_lone_46 hl (k := 4) rfl rfl (by decide) rfl (fun ls hl => ?_)
            refine lv_goto (tgt := 19) hx hb dX11_lone_49 (by decide) ?_
            exact ih hf hw (lv_sub hl [1, 2, 3, 4, 0] rfl) kx
          clear hf
          have hf := hj4
          clear hj4
          refine lv_if_ne (tgt := 46) hx hb dX11_lone_33 (by decide) (fun hc => ?_) (fun hc => ?_)
          · have hf := ifF hf hc
            subst hf
            exact wj4 _ _ _ hw (lv_sub hl [0, 1, 2, 3, 4] rfl)
          · have hf := ifT hf hc
            refine lv_iload_n hx hb dX11_lone_36 rfl (lv_at hl 2 rfl) ?_
            obtain ⟨j3, hj3, hf⟩ := pbS hf
            have wj3 : ∀ (H : Heap) (locs : List Loc) (ls : Array Slot), Wd D A s (cW a ar t x_q0_dials x_q0_spots x_q0_skies x_q0_reports x_q0_count x_q0_chime x_q0_end x_q0_score x_q0_reportCount x_q0_z x_q0_rules x_q0_shades x_q0_facts x_q1_dials x_q1_spots x_q1_skies x_q1_reports x_q1_count x_q1_chime x_q1_end x_q1_score x_q1_reportCount x_q1_z x_q1_rules x_q1_shades x_q1_facts x_q2_dials x_q2_spots x_q2_skies x_q2_reports x_q2_count x_q2_chime x_q2_end x_q2_score x_q2_reportCount x_q2_z x_q2_rules x_q2_shades x_q2_facts x_isKept x_marks x_p_first x_p_steps x_p_most x_p_many x_p_fewest x_p_everRight x_p_opening x_p_rows x_p_rowCount x_p_acts x_p_marks x_p_deepest x_p_wanted x_t_length x_t_tape x_t_words x_t_places x_t_at x_t_kinds x_t_wills x_t_starts x_t_code x_t_count x_t_size x_h_sorts x_h_lengths x_h_items x_h_held x_h_things x_h_sizes x_h_bodies x_h_traced x_h_number x_h_spot x_h_parted x_g_count x_g_kinds x_g_wills x_g_starts x_g_code x_g_stack x_g_kl x_g_wl x_g_sl x_g_cl x_nr) H locs → lv_has ls 5 [(0, .ref (a 0)), (1, .int v1), (2, .int v2), (3, .int j3), (4, .int v4)] → W p l e (rmz 6 0 0) s m args below meth c H locs 0 0 Q (F0 m 43 ls []) := by
              intro H locs ls hw hl
              refine lv_iinc (v := (v2 + (1 : Int32))) (lv' := [(2, .int (v2 + (1 : Int32))), (0, .ref (a 0)), (1, .int v1), (3, .int j3), (4, .int v4)]) hx hb dX11_lone_43 hl (k := 2) rfl rfl (by decide) rfl (fun ls hl => ?_)
              subst hf
              exact wj4 _ _ _ hw (lv_sub hl [1, 2, 0, 3, 4] rfl)
            clear hf
            have hf := hj3
            clear hj3
            refine lv_if_ne (tgt := 43) hx hb dX11_lone_37 (by decide) (fun hc => ?_) (fun hc => ?_)
            · have hf := ifF hf hc
              subst hf
              exact wj3 _ _ _ hw (lv_sub hl [0, 1, 2, 3, 4] rfl)
            · have hf := ifT hf hc
              refine lv_iload hx hb dX11_lone_40 (lv_at hl 4 rfl) ?_
              refine lv_istore_n (lv' := [(3, .int v4), (0, .ref (a 0)), (1, .int v1), (2, .int v2), (4, .int v4)]) hx hb dX11_lone_42 rfl hl (by decide) rfl (fun ls hl => ?_)
              subst hf
              exact wj3 _ _ _ hw (lv_sub hl [1, 2, 3, 0, 4] rfl)
    refine wL1 n ho5 hw (lv_sub hl [3, 4, 2, 1, 0] rfl) (fun H locs ls hw hl => ?_)
    clear wL1 ho5
    refine lv_iload_n hx hb dX11_lone_52 rfl (lv_at hl 1 rfl) ?_
    refine lv_if_ne (tgt := 58) hx hb dX11_lone_53 (by decide) (fun hc => ?_) (fun hc => ?_)
    · have hf := ifF hf hc
      refine lv_iload_n hx hb dX11_lone_58 rfl (lv_at hl 2 rfl) ?_
      refine lv_if_ne (tgt := 65) hx hb dX11_lone_59 (by decide) (fun hc => ?_) (fun hc => ?_)
      · have hf := ifF hf hc
        refine lv_iload_n hx hb dX11_lone_65 rfl (lv_at hl 3 rfl) ?_
        refine lv_iload_n hx hb dX11_lone_66 rfl (lv_at hl 1 rfl) ?_
        refine calSi cx hw hl.1 (c_X11_partOfStranger rfl) q_851 k_X11_partOfStranger rfl dX11_lone_67 rfl (Nat.le_of_ble_eq_true rfl) ⟨Nat.le_of_ble_eq_true rfl, Nat.le_of_ble_eq_true rfl⟩ ⟨Nat.le_refl _, Nat.le_refl _⟩ (fun H locs hw => ?_)
        have hf := Option.some.inj hf
        subst hf
        exact hR _ _ _ _ _ _ hw rfl ⟨rfl, rfl⟩ dX11_lone_70
      · have hf := ifT hf hc
        refine lv_bipush (v := (-3)) hx hb dX11_lone_62 (by decide) ?_
        have hf := Option.some.inj hf
        subst hf
        exact hR _ _ _ _ _ _ hw rfl ⟨rfl, rfl⟩ dX11_lone_64
    · have hf := ifT hf hc
      refine lv_iload_n hx hb dX11_lone_56 rfl (lv_at hl 2 rfl) ?_
      have hf := Option.some.inj hf
      subst hf
      exact hR _ _ _ _ _ _ hw rfl ⟨rfl, rfl⟩ dX11_lone_57
  · have hf := ifT hf hc
    refine lv_iconst (v := (-1)) hx hb dX11_lone_9 (by decide) ?_
    have hf := Option.some.inj hf
    subst hf
    exact hR _ _ _ _ _ _ hw rfl ⟨rfl, rfl⟩ dX11_lone_10
theorem dJ6_bitCount_0f7a4_0 : decode cJ6_bitCount_0f7a4 0 = .ok (.iload_n 0, 1) := by decide +kernel
theorem dJ6_bitCount_0f7a4_1 : decode cJ6_bitCount_0f7a4 1 = .ok (.iload_n 0, 1) := by decide +kernel
theorem dJ6_bitCount_0f7a4_2 : decode cJ6_bitCount_0f7a4 2 = .ok (.iconst 1, 1) := by decide +kernel
theorem dJ6_bitCount_0f7a4_3 : decode cJ6_bitCount_0f7a4 3 = .ok (.iushr, 1) := by decide +kernel
theorem dJ6_bitCount_0f7a4_4 : decode cJ6_bitCount_0f7a4 4 = .ok (.ldc_w 265, 3) := by decide +kernel
theorem dJ6_bitCount_0f7a4_7 : decode cJ6_bitCount_0f7a4 7 = .ok (.iand, 1) := by decide +kernel
theorem dJ6_bitCount_0f7a4_8 : decode cJ6_bitCount_0f7a4 8 = .ok (.isub, 1) := by decide +kernel
theorem dJ6_bitCount_0f7a4_9 : decode cJ6_bitCount_0f7a4 9 = .ok (.istore_n 0, 1) := by decide +kernel
theorem dJ6_bitCount_0f7a4_10 : decode cJ6_bitCount_0f7a4 10 = .ok (.iload_n 0, 1) := by decide +kernel
theorem dJ6_bitCount_0f7a4_11 : decode cJ6_bitCount_0f7a4 11 = .ok (.ldc_w 266, 3) := by decide +kernel
theorem dJ6_bitCount_0f7a4_14 : decode cJ6_bitCount_0f7a4 14 = .ok (.iand, 1) := by decide +kernel
theorem dJ6_bitCount_0f7a4_15 : decode cJ6_bitCount_0f7a4 15 = .ok (.iload_n 0, 1) := by decide +kernel
theorem dJ6_bitCount_0f7a4_16 : decode cJ6_bitCount_0f7a4 16 = .ok (.iconst 2, 1) := by decide +kernel
theorem dJ6_bitCount_0f7a4_17 : decode cJ6_bitCount_0f7a4 17 = .ok (.iushr, 1) := by decide +kernel
theorem dJ6_bitCount_0f7a4_18 : decode cJ6_bitCount_0f7a4 18 = .ok (.ldc_w 266, 3) := by decide +kernel
theorem dJ6_bitCount_0f7a4_21 : decode cJ6_bitCount_0f7a4 21 = .ok (.iand, 1) := by decide +kernel
theorem dJ6_bitCount_0f7a4_22 : decode cJ6_bitCount_0f7a4 22 = .ok (.iadd, 1) := by decide +kernel
theorem dJ6_bitCount_0f7a4_23 : decode cJ6_bitCount_0f7a4 23 = .ok (.istore_n 0, 1) := by decide +kernel
theorem dJ6_bitCount_0f7a4_24 : decode cJ6_bitCount_0f7a4 24 = .ok (.iload_n 0, 1) := by decide +kernel
theorem dJ6_bitCount_0f7a4_25 : decode cJ6_bitCount_0f7a4 25 = .ok (.iload_n 0, 1) := by decide +kernel
theorem dJ6_bitCount_0f7a4_26 : decode cJ6_bitCount_0f7a4 26 = .ok (.iconst 4, 1) := by decide +kernel
theorem dJ6_bitCount_0f7a4_27 : decode cJ6_bitCount_0f7a4 27 = .ok (.iushr, 1) := by decide +kernel
theorem dJ6_bitCount_0f7a4_28 : decode cJ6_bitCount_0f7a4 28 = .ok (.iadd, 1) := by decide +kernel
theorem dJ6_bitCount_0f7a4_29 : decode cJ6_bitCount_0f7a4 29 = .ok (.ldc_w 267, 3) := by decide +kernel
theorem dJ6_bitCount_0f7a4_32 : decode cJ6_bitCount_0f7a4 32 = .ok (.iand, 1) := by decide +kernel
theorem dJ6_bitCount_0f7a4_33 : decode cJ6_bitCount_0f7a4 33 = .ok (.istore_n 0, 1) := by decide +kernel
theorem dJ6_bitCount_0f7a4_34 : decode cJ6_bitCount_0f7a4 34 = .ok (.iload_n 0, 1) := by decide +kernel
theorem dJ6_bitCount_0f7a4_35 : decode cJ6_bitCount_0f7a4 35 = .ok (.iload_n 0, 1) := by decide +kernel
theorem dJ6_bitCount_0f7a4_36 : decode cJ6_bitCount_0f7a4 36 = .ok (.bipush 8, 2) := by decide +kernel
theorem dJ6_bitCount_0f7a4_38 : decode cJ6_bitCount_0f7a4 38 = .ok (.iushr, 1) := by decide +kernel
theorem dJ6_bitCount_0f7a4_39 : decode cJ6_bitCount_0f7a4 39 = .ok (.iadd, 1) := by decide +kernel
theorem dJ6_bitCount_0f7a4_40 : decode cJ6_bitCount_0f7a4 40 = .ok (.istore_n 0, 1) := by decide +kernel
theorem dJ6_bitCount_0f7a4_41 : decode cJ6_bitCount_0f7a4 41 = .ok (.iload_n 0, 1) := by decide +kernel
theorem dJ6_bitCount_0f7a4_42 : decode cJ6_bitCount_0f7a4 42 = .ok (.iload_n 0, 1) := by decide +kernel
theorem dJ6_bitCount_0f7a4_43 : decode cJ6_bitCount_0f7a4 43 = .ok (.bipush 16, 2) := by decide +kernel
theorem dJ6_bitCount_0f7a4_45 : decode cJ6_bitCount_0f7a4 45 = .ok (.iushr, 1) := by decide +kernel
theorem dJ6_bitCount_0f7a4_46 : decode cJ6_bitCount_0f7a4 46 = .ok (.iadd, 1) := by decide +kernel
theorem dJ6_bitCount_0f7a4_47 : decode cJ6_bitCount_0f7a4 47 = .ok (.istore_n 0, 1) := by decide +kernel
theorem dJ6_bitCount_0f7a4_48 : decode cJ6_bitCount_0f7a4 48 = .ok (.iload_n 0, 1) := by decide +kernel
theorem dJ6_bitCount_0f7a4_49 : decode cJ6_bitCount_0f7a4 49 = .ok (.bipush 63, 2) := by decide +kernel
theorem dJ6_bitCount_0f7a4_51 : decode cJ6_bitCount_0f7a4 51 = .ok (.iand, 1) := by decide +kernel
theorem dJ6_bitCount_0f7a4_52 : decode cJ6_bitCount_0f7a4 52 = .ok (.ireturn, 1) := by decide +kernel
theorem k_J6_bitCount_0f7a4 : MS yJ6_bitCount_0f7a4 cJ6_bitCount_0f7a4 1 (some .int) 1 := ⟨q_868, q_21, q_869, ⟨by decide, by decide, by decide +kernel⟩⟩
theorem c_J6_bitCount_0f7a4 {v0 : Int32} {res : Int32} (hf : J6_bitCount_0f7a4 v0 = res) : MC l E0 D t yJ6_bitCount_0f7a4 cJ6_bitCount_0f7a4 1 (some .int) 1 0 0 [.int v0] (cW a ar t x_q0_dials x_q0_spots x_q0_skies x_q0_reports x_q0_count x_q0_chime x_q0_end x_q0_score x_q0_reportCount x_q0_z x_q0_rules x_q0_shades x_q0_facts x_q1_dials x_q1_spots x_q1_skies x_q1_reports x_q1_count x_q1_chime x_q1_end x_q1_score x_q1_reportCount x_q1_z x_q1_rules x_q1_shades x_q1_facts x_q2_dials x_q2_spots x_q2_skies x_q2_reports x_q2_count x_q2_chime x_q2_end x_q2_score x_q2_reportCount x_q2_z x_q2_rules x_q2_shades x_q2_facts x_isKept x_marks x_p_first x_p_steps x_p_most x_p_many x_p_fewest x_p_everRight x_p_opening x_p_rows x_p_rowCount x_p_acts x_p_marks x_p_deepest x_p_wanted x_t_length x_t_tape x_t_words x_t_places x_t_at x_t_kinds x_t_wills x_t_starts x_t_code x_t_count x_t_size x_h_sorts x_h_lengths x_h_items x_h_held x_h_things x_h_sizes x_h_bodies x_h_traced x_h_number x_h_spot x_h_parted x_g_count x_g_kinds x_g_wills x_g_starts x_g_code x_g_stack x_g_kl x_g_wl x_g_sl x_g_cl x_nr) (Qi res (cW a ar t x_q0_dials x_q0_spots x_q0_skies x_q0_reports x_q0_count x_q0_chime x_q0_end x_q0_score x_q0_reportCount x_q0_z x_q0_rules x_q0_shades x_q0_facts x_q1_dials x_q1_spots x_q1_skies x_q1_reports x_q1_count x_q1_chime x_q1_end x_q1_score x_q1_reportCount x_q1_z x_q1_rules x_q1_shades x_q1_facts x_q2_dials x_q2_spots x_q2_skies x_q2_reports x_q2_count x_q2_chime x_q2_end x_q2_score x_q2_reportCount x_q2_z x_q2_rules x_q2_shades x_q2_facts x_isKept x_marks x_p_first x_p_steps x_p_most x_p_many x_p_fewest x_p_everRight x_p_opening x_p_rows x_p_rowCount x_p_acts x_p_marks x_p_deepest x_p_wanted x_t_length x_t_tape x_t_words x_t_places x_t_at x_t_kinds x_t_wills x_t_starts x_t_code x_t_count x_t_size x_h_sorts x_h_lengths x_h_items x_h_held x_h_things x_h_sizes x_h_bodies x_h_traced x_h_number x_h_spot x_h_parted x_g_count x_g_kinds x_g_wills x_g_starts x_g_code x_g_stack x_g_kl x_g_wl x_g_sl x_g_cl x_nr)) := by
  unfold J6_bitCount_0f7a4 at hf
  refine MC.ofI pn_J6 (Nat.le_of_ble_eq_true rfl) ?_
  intro p e s m args below meth c A Q ls cx hR hw hl
  have hx := cx.1
  have hb := cx.2.1
  have hl : lv_has ls 1 [(0, .int v0)] := hl
  refine lv_iload_n hx hb dJ6_bitCount_0f7a4_0 rfl (lv_at hl 0 rfl) ?_
  refine lv_iload_n hx hb dJ6_bitCount_0f7a4_1 rfl (lv_at hl 0 rfl) ?_
  refine lv_iconst (v := 1) hx hb dJ6_bitCount_0f7a4_2 (by decide) ?_
  refine lv_iushr hx hb dJ6_bitCount_0f7a4_3 rfl ?_
  refine lv_ldcw (v := 1431655765) hx hb cx.2.2.2.1 (cx.2.2.2.2.1 _ q_870) dJ6_bitCount_0f7a4_4 ?_
  refine lv_iand hx hb dJ6_bitCount_0f7a4_7 ?_
  refine lv_isub hx hb dJ6_bitCount_0f7a4_8 ?_
  obtain ⟨z1, hz, hf⟩ := pbS hf
  refine lv_topi (fun y ey => ?_)
  have ez : z1 = y := hz.symm.trans ey.symm
  subst ez
  refine lv_istore_n (lv' := [(0, .int z1)]) hx hb dJ6_bitCount_0f7a4_9 rfl hl (by decide) rfl (fun ls hl => ?_)
  refine lv_iload_n hx hb dJ6_bitCount_0f7a4_10 rfl (lv_at hl 0 rfl) ?_
  refine lv_ldcw (v := 858993459) hx hb cx.2.2.2.1 (cx.2.2.2.2.1 _ q_871) dJ6_bitCount_0f7a4_11 ?_
  refine lv_iand hx hb dJ6_bitCount_0f7a4_14 ?_
  refine lv_iload_n hx hb dJ6_bitCount_0f7a4_15 rfl (lv_at hl 0 rfl) ?_
  refine lv_iconst (v := 2) hx hb dJ6_bitCount_0f7a4_16 (by decide) ?_
  refine lv_iushr hx hb dJ6_bitCount_0f7a4_17 rfl ?_
  refine lv_ldcw (v := 858993459) hx hb cx.2.2.2.1 (cx.2.2.2.2.1 _ q_871) dJ6_bitCount_0f7a4_18 ?_
  refine lv_iand hx hb dJ6_bitCount_0f7a4_21 ?_
  refine lv_iadd hx hb dJ6_bitCount_0f7a4_22 ?_
  obtain ⟨z2, hz, hf⟩ := pbS hf
  refine lv_topi (fun y ey => ?_)
  have ez : z2 = y := hz.symm.trans ey.symm
  subst ez
  refine lv_istore_n (lv' := [(0, .int z2)]) hx hb dJ6_bitCount_0f7a4_23 rfl hl (by decide) rfl (fun ls hl => ?_)
  refine lv_iload_n hx hb dJ6_bitCount_0f7a4_24 rfl (lv_at hl 0 rfl) ?_
  refine lv_iload_n hx hb dJ6_bitCount_0f7a4_25 rfl (lv_at hl 0 rfl) ?_
  refine lv_iconst (v := 4) hx hb dJ6_bitCount_0f7a4_26 (by decide) ?_
  refine lv_iushr hx hb dJ6_bitCount_0f7a4_27 rfl ?_
  refine lv_iadd hx hb dJ6_bitCount_0f7a4_28 ?_
  refine lv_ldcw (v := 252645135) hx hb cx.2.2.2.1 (cx.2.2.2.2.1 _ q_872) dJ6_bitCount_0f7a4_29 ?_
  refine lv_iand hx hb dJ6_bitCount_0f7a4_32 ?_
  obtain ⟨z3, hz, hf⟩ := pbS hf
  refine lv_topi (fun y ey => ?_)
  have ez : z3 = y := hz.symm.trans ey.symm
  subst ez
  refine lv_istore_n (lv' := [(0, .int z3)]) hx hb dJ6_bitCount_0f7a4_33 rfl hl (by decide) rfl (fun ls hl => ?_)
  refine lv_iload_n hx hb dJ6_bitCount_0f7a4_34 rfl (lv_at hl 0 rfl) ?_
  refine lv_iload_n hx hb dJ6_bitCount_0f7a4_35 rfl (lv_at hl 0 rfl) ?_
  refine lv_bipush (v := 8) hx hb dJ6_bitCount_0f7a4_36 (by decide) ?_
  refine lv_iushr hx hb dJ6_bitCount_0f7a4_38 rfl ?_
  refine lv_iadd hx hb dJ6_bitCount_0f7a4_39 ?_
  refine lv_istore_n (lv' := [(0, .int (z3 + ((z3.toUInt32 >>> ((8 : Int32).toUInt32 &&& Int32.toUInt32 31)).toInt32)))]) hx hb dJ6_bitCount_0f7a4_40 rfl hl (by decide) rfl (fun ls hl => ?_)
  refine lv_iload_n hx hb dJ6_bitCount_0f7a4_41 rfl (lv_at hl 0 rfl) ?_
  refine lv_iload_n hx hb dJ6_bitCount_0f7a4_42 rfl (lv_at hl 0 rfl) ?_
  refine lv_bipush (v := 16) hx hb dJ6_bitCount_0f7a4_43 (by decide) ?_
  refine lv_iushr hx hb dJ6_bitCount_0f7a4_45 rfl ?_
  refine lv_iadd hx hb dJ6_bitCount_0f7a4_46 ?_
  obtain ⟨z4, hz, hf⟩ := pbS hf
  refine lv_topi (fun y ey => ?_)
  have ez : z4 = y := hz.symm.trans ey.symm
  subst ez
  refine lv_istore_n (lv' := [(0, .int z4)]) hx hb dJ6_bitCount_0f7a4_47 rfl hl (by decide) rfl (fun ls hl => ?_)
  refine lv_iload_n hx hb dJ6_bitCount_0f7a4_48 rfl (lv_at hl 0 rfl) ?_
  refine lv_bipush (v := 63) hx hb dJ6_bitCount_0f7a4_49 (by decide) ?_
  refine lv_iand hx hb dJ6_bitCount_0f7a4_51 ?_
  subst hf
  exact hR _ _ _ _ _ _ hw rfl ⟨rfl, rfl⟩ dJ6_bitCount_0f7a4_52
theorem dX11_liar_0 : decode cX11_liar 0 = .ok (.iconst 0, 1) := by decide +kernel
theorem dX11_liar_1 : decode cX11_liar 1 = .ok (.istore_n 1, 1) := by decide +kernel
theorem dX11_liar_2 : decode cX11_liar 2 = .ok (.iconst 0, 1) := by decide +kernel
theorem dX11_liar_3 : decode cX11_liar 3 = .ok (.istore_n 2, 1) := by decide +kernel
theorem dX11_liar_4 : decode cX11_liar 4 = .ok (.iload_n 2, 1) := by decide +kernel
theorem dX11_liar_5 : decode cX11_liar 5 = .ok (.sipush 500, 3) := by decide +kernel
theorem dX11_liar_8 : decode cX11_liar 8 = .ok (.if_icmp .ge 34, 3) := by decide +kernel
theorem dX11_liar_11 : decode cX11_liar 11 = .ok (.aload_n 0, 1) := by decide +kernel
theorem dX11_liar_12 : decode cX11_liar 12 = .ok (.iload_n 2, 1) := by decide +kernel
theorem dX11_liar_13 : decode cX11_liar 13 = .ok (.invokevirtual 246, 3) := by decide +kernel
theorem dX11_liar_16 : decode cX11_liar 16 = .ok (.istore_n 3, 1) := by decide +kernel
theorem dX11_liar_17 : decode cX11_liar 17 = .ok (.iload_n 3, 1) := by decide +kernel
theorem dX11_liar_18 : decode cX11_liar 18 = .ok (.ifCond .ne 6, 3) := by decide +kernel
theorem dX11_liar_21 : decode cX11_liar 21 = .ok (.bipush (-3), 2) := by decide +kernel
theorem dX11_liar_23 : decode cX11_liar 23 = .ok (.ireturn, 1) := by decide +kernel
theorem dX11_liar_24 : decode cX11_liar 24 = .ok (.iload_n 3, 1) := by decide +kernel
theorem dX11_liar_25 : decode cX11_liar 25 = .ok (.invokestatic 252, 3) := by decide +kernel
theorem dX11_liar_28 : decode cX11_liar 28 = .ok (.iconst 1, 1) := by decide +kernel
theorem dX11_liar_29 : decode cX11_liar 29 = .ok (.if_icmp .ne 7, 3) := by decide +kernel
theorem dX11_liar_32 : decode cX11_liar 32 = .ok (.iload_n 1, 1) := by decide +kernel
theorem dX11_liar_33 : decode cX11_liar 33 = .ok (.iload_n 3, 1) := by decide +kernel
theorem dX11_liar_34 : decode cX11_liar 34 = .ok (.ior, 1) := by decide +kernel
theorem dX11_liar_35 : decode cX11_liar 35 = .ok (.istore_n 1, 1) := by decide +kernel
theorem dX11_liar_36 : decode cX11_liar 36 = .ok (.iinc 2 1, 3) := by decide +kernel
theorem dX11_liar_39 : decode cX11_liar 39 = .ok (.goto (-35), 3) := by decide +kernel
theorem dX11_liar_42 : decode cX11_liar 42 = .ok (.iconst 0, 1) := by decide +kernel
theorem dX11_liar_43 : decode cX11_liar 43 = .ok (.istore_n 2, 1) := by decide +kernel
theorem dX11_liar_44 : decode cX11_liar 44 = .ok (.iload_n 2, 1) := by decide +kernel
theorem dX11_liar_45 : decode cX11_liar 45 = .ok (.aload_n 0, 1) := by decide +kernel
theorem dX11_liar_46 : decode cX11_liar 46 = .ok (.getfield 55, 3) := by decide +kernel
theorem dX11_liar_49 : decode cX11_liar 49 = .ok (.getfield 240, 3) := by decide +kernel
theorem dX11_liar_52 : decode cX11_liar 52 = .ok (.if_icmp .ge 19, 3) := by decide +kernel
theorem dX11_liar_55 : decode cX11_liar 55 = .ok (.iload_n 1, 1) := by decide +kernel
theorem dX11_liar_56 : decode cX11_liar 56 = .ok (.iload_n 2, 1) := by decide +kernel
theorem dX11_liar_57 : decode cX11_liar 57 = .ok (.ishr, 1) := by decide +kernel
theorem dX11_liar_58 : decode cX11_liar 58 = .ok (.iconst 1, 1) := by decide +kernel
theorem dX11_liar_59 : decode cX11_liar 59 = .ok (.iand, 1) := by decide +kernel
theorem dX11_liar_60 : decode cX11_liar 60 = .ok (.ifCond .eq 5, 3) := by decide +kernel
theorem dX11_liar_63 : decode cX11_liar 63 = .ok (.iload_n 2, 1) := by decide +kernel
theorem dX11_liar_64 : decode cX11_liar 64 = .ok (.ireturn, 1) := by decide +kernel
theorem dX11_liar_65 : decode cX11_liar 65 = .ok (.iinc 2 1, 3) := by decide +kernel
theorem dX11_liar_68 : decode cX11_liar 68 = .ok (.goto (-24), 3) := by decide +kernel
theorem dX11_liar_71 : decode cX11_liar 71 = .ok (.bipush (-3), 2) := by decide +kernel
theorem dX11_liar_73 : decode cX11_liar 73 = .ok (.ireturn, 1) := by decide +kernel
theorem k_X11_liar : MV yX11_liar cX11_liar 4 (some .int) 0 := ⟨q_864, q_865, q_1, q_866, ⟨by decide, by decide, by decide +kernel⟩⟩
theorem c_X11_liar {res : Int32} (hf : X11_liar n x_q0_skies x_q0_reports x_q0_reportCount = some res) : MC l E0 D t yX11_liar cX11_liar 4 (some .int) 6 0 0 [.ref (a 0)] (cW a ar t x_q0_dials x_q0_spots x_q0_skies x_q0_reports x_q0_count x_q0_chime x_q0_end x_q0_score x_q0_reportCount x_q0_z x_q0_rules x_q0_shades x_q0_facts x_q1_dials x_q1_spots x_q1_skies x_q1_reports x_q1_count x_q1_chime x_q1_end x_q1_score x_q1_reportCount x_q1_z x_q1_rules x_q1_shades x_q1_facts x_q2_dials x_q2_spots x_q2_skies x_q2_reports x_q2_count x_q2_chime x_q2_end x_q2_score x_q2_reportCount x_q2_z x_q2_rules x_q2_shades x_q2_facts x_isKept x_marks x_p_first x_p_steps x_p_most x_p_many x_p_fewest x_p_everRight x_p_opening x_p_rows x_p_rowCount x_p_acts x_p_marks x_p_deepest x_p_wanted x_t_length x_t_tape x_t_words x_t_places x_t_at x_t_kinds x_t_wills x_t_starts x_t_code x_t_count x_t_size x_h_sorts x_h_lengths x_h_items x_h_held x_h_things x_h_sizes x_h_bodies x_h_traced x_h_number x_h_spot x_h_parted x_g_count x_g_kinds x_g_wills x_g_starts x_g_code x_g_stack x_g_kl x_g_wl x_g_sl x_g_cl x_nr) (Qi res (cW a ar t x_q0_dials x_q0_spots x_q0_skies x_q0_reports x_q0_count x_q0_chime x_q0_end x_q0_score x_q0_reportCount x_q0_z x_q0_rules x_q0_shades x_q0_facts x_q1_dials x_q1_spots x_q1_skies x_q1_reports x_q1_count x_q1_chime x_q1_end x_q1_score x_q1_reportCount x_q1_z x_q1_rules x_q1_shades x_q1_facts x_q2_dials x_q2_spots x_q2_skies x_q2_reports x_q2_count x_q2_chime x_q2_end x_q2_score x_q2_reportCount x_q2_z x_q2_rules x_q2_shades x_q2_facts x_isKept x_marks x_p_first x_p_steps x_p_most x_p_many x_p_fewest x_p_everRight x_p_opening x_p_rows x_p_rowCount x_p_acts x_p_marks x_p_deepest x_p_wanted x_t_length x_t_tape x_t_words x_t_places x_t_at x_t_kinds x_t_wills x_t_starts x_t_code x_t_count x_t_size x_h_sorts x_h_lengths x_h_items x_h_held x_h_things x_h_sizes x_h_bodies x_h_traced x_h_number x_h_spot x_h_parted x_g_count x_g_kinds x_g_wills x_g_starts x_g_code x_g_stack x_g_kl x_g_wl x_g_sl x_g_cl x_nr)) := by
  unfold X11_liar at hf
  refine MC.ofI pn_X11 (Nat.le_of_ble_eq_true rfl) ?_
  intro p e s m args below meth c A Q ls cx hR hw hl
  have hx := cx.1
  have hb := cx.2.1
  have hl : lv_has ls 4 [(0, .ref (a 0))] := hl
  refine lv_iconst (v := 0) hx hb dX11_liar_0 (by decide) ?_
  refine lv_istore_n (lv' := [(1, .int (0 : Int32)), (0, .ref (a 0))]) hx hb dX11_liar_1 rfl hl (by decide) rfl (fun ls hl => ?_)
  refine lv_iconst (v := 0) hx hb dX11_liar_2 (by decide) ?_
  refine lv_istore_n (lv' := [(2, .int (0 : Int32)), (1, .int (0 : Int32)), (0, .ref (a 0))]) hx hb dX11_liar_3 rfl hl (by decide) rfl (fun ls hl => ?_)
  obtain ⟨K1, hK1, hf⟩ := jnS hf
  have kx1 : ∀ (o4 : Int32 × Int32) (H : Heap) (locs : List Loc) (ls : Array Slot), K1 o4 = some res → Wd D A s (cW a ar t x_q0_dials x_q0_spots x_q0_skies x_q0_reports x_q0_count x_q0_chime x_q0_end x_q0_score x_q0_reportCount x_q0_z x_q0_rules x_q0_shades x_q0_facts x_q1_dials x_q1_spots x_q1_skies x_q1_reports x_q1_count x_q1_chime x_q1_end x_q1_score x_q1_reportCount x_q1_z x_q1_rules x_q1_shades x_q1_facts x_q2_dials x_q2_spots x_q2_skies x_q2_reports x_q2_count x_q2_chime x_q2_end x_q2_score x_q2_reportCount x_q2_z x_q2_rules x_q2_shades x_q2_facts x_isKept x_marks x_p_first x_p_steps x_p_most x_p_many x_p_fewest x_p_everRight x_p_opening x_p_rows x_p_rowCount x_p_acts x_p_marks x_p_deepest x_p_wanted x_t_length x_t_tape x_t_words x_t_places x_t_at x_t_kinds x_t_wills x_t_starts x_t_code x_t_count x_t_size x_h_sorts x_h_lengths x_h_items x_h_held x_h_things x_h_sizes x_h_bodies x_h_traced x_h_number x_h_spot x_h_parted x_g_count x_g_kinds x_g_wills x_g_starts x_g_code x_g_stack x_g_kl x_g_wl x_g_sl x_g_cl x_nr) H locs → lv_has ls 4 [(0, .ref (a 0)), (1, .int o4.1), (2, .int o4.2)] → W p l e (rmz 6 0 0) s m args below meth c H locs 0 0 Q (F0 m 42 ls []) := by
    intro o4 H locs ls hf hw hl
    have hf := hK1 _ hf
    refine lv_iconst (v := 0) hx hb dX11_liar_42 (by decide) ?_
    refine lv_istore_n (lv' := [(2, .int (0 : Int32)), (0, .ref (a 0)), (1, .int o4.1)]) hx hb dX11_liar_43 rfl hl (by decide) rfl (fun ls hl => ?_)
    obtain ⟨K2, hK2, hf⟩ := jnS hf
    have kx2 : ∀ (o5 : Int32) (H : Heap) (locs : List Loc) (ls : Array Slot), K2 o5 = some res → Wd D A s (cW a ar t x_q0_dials x_q0_spots x_q0_skies x_q0_reports x_q0_count x_q0_chime x_q0_end x_q0_score x_q0_reportCount x_q0_z x_q0_rules x_q0_shades x_q0_facts x_q1_dials x_q1_spots x_q1_skies x_q1_reports x_q1_count x_q1_chime x_q1_end x_q1_score x_q1_reportCount x_q1_z x_q1_rules x_q1_shades x_q1_facts x_q2_dials x_q2_spots x_q2_skies x_q2_reports x_q2_count x_q2_chime x_q2_end x_q2_score x_q2_reportCount x_q2_z x_q2_rules x_q2_shades x_q2_facts x_isKept x_marks x_p_first x_p_steps x_p_most x_p_many x_p_fewest x_p_everRight x_p_opening x_p_rows x_p_rowCount x_p_acts x_p_marks x_p_deepest x_p_wanted x_t_length x_t_tape x_t_words x_t_places x_t_at x_t_kinds x_t_wills x_t_starts x_t_code x_t_count x_t_size x_h_sorts x_h_lengths x_h_items x_h_held x_h_things x_h_sizes x_h_bodies x_h_traced x_h_number x_h_spot x_h_parted x_g_count x_g_kinds x_g_wills x_g_starts x_g_code x_g_stack x_g_kl x_g_wl x_g_sl x_g_cl x_nr) H locs → lv_has ls 4 [(0, .ref (a 0)), (1, .int o4.1), (2, .int o5)] → W p l e (rmz 6 0 0) s m args below meth c H locs 0 0 Q (F0 m 71 ls []) := by
      intro o5 H locs ls hf hw hl
      have hf := hK2 _ hf
      refine lv_bipush (v := (-3)) hx hb dX11_liar_71 (by decide) ?_
      have hf := Option.some.inj hf
      subst hf
      exact hR _ _ _ _ _ _ hw rfl ⟨rfl, rfl⟩ dX11_liar_73
    have wL2 : ∀ (k : Nat) {v1 : Int32} {v2 : Int32} {H : Heap} {locs : List Loc} {ls : Array Slot}, X11_liar_L2 n x_q0_reportCount v1 K2 k v2 = some res → Wd D A s (cW a ar t x_q0_dials x_q0_spots x_q0_skies x_q0_reports x_q0_count x_q0_chime x_q0_end x_q0_score x_q0_reportCount x_q0_z x_q0_rules x_q0_shades x_q0_facts x_q1_dials x_q1_spots x_q1_skies x_q1_reports x_q1_count x_q1_chime x_q1_end x_q1_score x_q1_reportCount x_q1_z x_q1_rules x_q1_shades x_q1_facts x_q2_dials x_q2_spots x_q2_skies x_q2_reports x_q2_count x_q2_chime x_q2_end x_q2_score x_q2_reportCount x_q2_z x_q2_rules x_q2_shades x_q2_facts x_isKept x_marks x_p_first x_p_steps x_p_most x_p_many x_p_fewest x_p_everRight x_p_opening x_p_rows x_p_rowCount x_p_acts x_p_marks x_p_deepest x_p_wanted x_t_length x_t_tape x_t_words x_t_places x_t_at x_t_kinds x_t_wills x_t_starts x_t_code x_t_count x_t_size x_h_sorts x_h_lengths x_h_items x_h_held x_h_things x_h_sizes x_h_bodies x_h_traced x_h_number x_h_spot x_h_parted x_g_count x_g_kinds x_g_wills x_g_starts x_g_code x_g_stack x_g_kl x_g_wl x_g_sl x_g_cl x_nr) H locs → lv_has ls 4 [(0, .ref (a 0)), (1, .int v1), (2, .int v2)] → (∀ (o : Int32) (H : Heap) (locs : List Loc) (ls : Array Slot), K2 o = some res → Wd D A s (cW a ar t x_q0_dials x_q0_spots x_q0_skies x_q0_reports x_q0_count x_q0_chime x_q0_end x_q0_score x_q0_reportCount x_q0_z x_q0_rules x_q0_shades x_q0_facts x_q1_dials x_q1_spots x_q1_skies x_q1_reports x_q1_count x_q1_chime x_q1_end x_q1_score x_q1_reportCount x_q1_z x_q1_rules x_q1_shades x_q1_facts x_q2_dials x_q2_spots x_q2_skies x_q2_reports x_q2_count x_q2_chime x_q2_end x_q2_score x_q2_reportCount x_q2_z x_q2_rules x_q2_shades x_q2_facts x_isKept x_marks x_p_first x_p_steps x_p_most x_p_many x_p_fewest x_p_everRight x_p_opening x_p_rows x_p_rowCount x_p_acts x_p_marks x_p_deepest x_p_wanted x_t_length x_t_tape x_t_words x_t_places x_t_at x_t_kinds x_t_wills x_t_starts x_t_code x_t_count x_t_size x_h_sorts x_h_lengths x_h_items x_h_held x_h_things x_h_sizes x_h_bodies x_h_traced x_h_number x_h_spot x_h_parted x_g_count x_g_kinds x_g_wills x_g_starts x_g_code x_g_stack x_g_kl x_g_wl x_g_sl x_g_cl x_nr) H locs → lv_has ls 4 [(0, .ref (a 0)), (1, .int v1), (2, .int o)] → W p l e (rmz 6 0 0) s m args below meth c H locs 0 0 Q (F0 m 71 ls [])) → W p l e (rmz 6 0 0) s m args below meth c H locs 0 0 Q (F0 m 44 ls []) := by
      clear hf hw hl hK2 kx2
      intro k
      induction k with
      | zero => intro v1 v2 H locs ls hf hw hl kx; simp [X11_liar_L2] at hf
      | succ k ih =>
        intro v1 v2 H locs ls hf hw hl kx
        rw [X11_liar_L2] at hf
        refine lv_iload_n hx hb dX11_liar_44 rfl (lv_at hl 2 rfl) ?_
        refine lv_aload_n hx hb dX11_liar_45 rfl (lv_at hl 0 rfl) ?_
        refine cg_X11_55_ds cx hw dX11_liar_46 ?_
        refine cg_X11_240_q0 cx hw dX11_liar_49 ?_
        refine lv_icmp_ge (tgt := 71) hx hb dX11_liar_52 (by decide) (fun hc => ?_) (fun hc => ?_)
        · have hf := ifT hf hc
          exact kx _ _ _ _ hf hw (lv_sub hl [0, 1, 2] rfl)
        · have hf := ifF hf hc
          refine lv_iload_n hx hb dX11_liar_55 rfl (lv_at hl 1 rfl) ?_
          refine lv_iload_n hx hb dX11_liar_56 rfl (lv_at hl 2 rfl) ?_
          refine lv_ishr hx hb dX11_liar_57 ?_
          refine lv_iconst (v := 1) hx hb dX11_liar_58 (by decide) ?_
          refine lv_iand hx hb dX11_liar_59 ?_
          refine lv_if_eq (tgt := 65) hx hb dX11_liar_60 (by decide) (fun hc => ?_) (fun hc => ?_)
          · have hf := ifT hf hc
            refine lv_iinc (v := (v2 + (1 : Int32))) (lv' := [(2, .int (v2 + (1 : Int32))), (0, .ref (a 0)), (1, .int v1)]) hx hb dX11_liar_65 hl (k := 2) rfl rfl (by decide) rfl (fun ls hl => ?_)
            refine lv_goto (tgt := 44) hx hb dX11_liar_68 (by decide) ?_
            exact ih hf hw (lv_sub hl [1, 2, 0] rfl) kx
          · have hf := ifF hf hc
            refine lv_iload_n hx hb dX11_liar_63 rfl (lv_at hl 2 rfl) ?_
            have hf := Option.some.inj hf
            subst hf
            exact hR _ _ _ _ _ _ hw rfl ⟨rfl, rfl⟩ dX11_liar_64
    exact wL2 n hf hw (lv_sub hl [1, 2, 0] rfl) kx2
  have wL1 : ∀ (k : Nat) {v1 : Int32} {v2 : Int32} {H : Heap} {locs : List Loc} {ls : Array Slot}, X11_liar_L1 n x_q0_skies x_q0_reports x_q0_reportCount K1 k v1 v2 = some res → Wd D A s (cW a ar t x_q0_dials x_q0_spots x_q0_skies x_q0_reports x_q0_count x_q0_chime x_q0_end x_q0_score x_q0_reportCount x_q0_z x_q0_rules x_q0_shades x_q0_facts x_q1_dials x_q1_spots x_q1_skies x_q1_reports x_q1_count x_q1_chime x_q1_end x_q1_score x_q1_reportCount x_q1_z x_q1_rules x_q1_shades x_q1_facts x_q2_dials x_q2_spots x_q2_skies x_q2_reports x_q2_count x_q2_chime x_q2_end x_q2_score x_q2_reportCount x_q2_z x_q2_rules x_q2_shades x_q2_facts x_isKept x_marks x_p_first x_p_steps x_p_most x_p_many x_p_fewest x_p_everRight x_p_opening x_p_rows x_p_rowCount x_p_acts x_p_marks x_p_deepest x_p_wanted x_t_length x_t_tape x_t_words x_t_places x_t_at x_t_kinds x_t_wills x_t_starts x_t_code x_t_count x_t_size x_h_sorts x_h_lengths x_h_items x_h_held x_h_things x_h_sizes x_h_bodies x_h_traced x_h_number x_h_spot x_h_parted x_g_count x_g_kinds x_g_wills x_g_starts x_g_code x_g_stack x_g_kl x_g_wl x_g_sl x_g_cl x_nr) H locs → lv_has ls 4 [(0, .ref (a 0)), (1, .int v1), (2, .int v2)] → (∀ (o : Int32 × Int32) (H : Heap) (locs : List Loc) (ls : Array Slot), K1 o = some res → Wd D A s (cW a ar t x_q0_dials x_q0_spots x_q0_skies x_q0_reports x_q0_count x_q0_chime x_q0_end x_q0_score x_q0_reportCount x_q0_z x_q0_rules x_q0_shades x_q0_facts x_q1_dials x_q1_spots x_q1_skies x_q1_reports x_q1_count x_q1_chime x_q1_end x_q1_score x_q1_reportCount x_q1_z x_q1_rules x_q1_shades x_q1_facts x_q2_dials x_q2_spots x_q2_skies x_q2_reports x_q2_count x_q2_chime x_q2_end x_q2_score x_q2_reportCount x_q2_z x_q2_rules x_q2_shades x_q2_facts x_isKept x_marks x_p_first x_p_steps x_p_most x_p_many x_p_fewest x_p_everRight x_p_opening x_p_rows x_p_rowCount x_p_acts x_p_marks x_p_deepest x_p_wanted x_t_length x_t_tape x_t_words x_t_places x_t_at x_t_kinds x_t_wills x_t_starts x_t_code x_t_count x_t_size x_h_sorts x_h_lengths x_h_items x_h_held x_h_things x_h_sizes x_h_bodies x_h_traced x_h_number x_h_spot x_h_parted x_g_count x_g_kinds x_g_wills x_g_starts x_g_code x_g_stack x_g_kl x_g_wl x_g_sl x_g_cl x_nr) H locs → lv_has ls 4 [(0, .ref (a 0)), (1, .int o.1), (2, .int o.2)] → W p l e (rmz 6 0 0) s m args below meth c H locs 0 0 Q (F0 m 42 ls [])) → W p l e (rmz 6 0 0) s m args below meth c H locs 0 0 Q (F0 m 4 ls []) := by
    clear hf hw hl hK1 kx1
    intro k
    induction k with
    | zero => intro v1 v2 H locs ls hf hw hl kx; simp [X11_liar_L1] at hf
    | succ k ih =>
      intro v1 v2 H locs ls hf hw hl kx
      rw [X11_liar_L1] at hf
      refine lv_iload_n hx hb dX11_liar_4 rfl (lv_at hl 2 rfl) ?_
      refine lv_sipush (v := 500) hx hb dX11_liar_5 (by decide) ?_
      refine lv_icmp_ge (tgt := 42) hx hb dX11_liar_8 (by decide) (fun hc => ?_) (fun hc => ?_)
      · have hf := ifT hf hc
        exact kx _ _ _ _ hf hw (lv_sub hl [0, 1, 2] rfl)
      · have hf := ifF hf hc
        refine lv_aload_n hx hb dX11_liar_11 rfl (lv_at hl 0 rfl) ?_
        refine lv_iload_n hx hb dX11_liar_12 rfl (lv_at hl 2 rfl) ?_
        obtain ⟨r1, h2, hf⟩ := bnS hf
        refine calVi cx hw hl.1 (c_X11_missedBy h2) q_847 k_X11_missedBy rfl rv_ds rfl dX11_liar_13 rfl (Nat.le_of_ble_eq_true rfl) ⟨Nat.le_of_ble_eq_true rfl, Nat.le_of_ble_eq_true rfl⟩ ⟨Nat.le_refl _, Nat.le_refl _⟩ (fun H locs hw => ?_)
        refine lv_istore_n (lv' := [(3, .int r1), (0, .ref (a 0)), (1, .int v1), (2, .int v2)]) hx hb dX11_liar_16 rfl hl (by decide) rfl (fun ls hl => ?_)
        refine lv_iload_n hx hb dX11_liar_17 rfl (lv_at hl 0 rfl) ?_
        refine lv_if_ne (tgt := 24) hx hb dX11_liar_18 (by decide) (fun hc => ?_) (fun hc => ?_)
        · have hf := ifF hf hc
          refine lv_iload_n hx hb dX11_liar_24 rfl (lv_at hl 0 rfl) ?_
          refine calSi cx hw hl.1 (c_J6_bitCount_0f7a4 rfl) q_867 k_J6_bitCount_0f7a4 rfl dX11_liar_25 rfl (Nat.le_of_ble_eq_true rfl) ⟨Nat.le_of_ble_eq_true rfl, Nat.le_of_ble_eq_true rfl⟩ ⟨Nat.le_refl _, Nat.le_refl _⟩ (fun H locs hw => ?_)
          refine lv_iconst (v := 1) hx hb dX11_liar_28 (by decide) ?_
          obtain ⟨j3, hj3, hf⟩ := pbS hf
          have wj3 : ∀ (H : Heap) (locs : List Loc) (ls : Array Slot), Wd D A s (cW a ar t x_q0_dials x_q0_spots x_q0_skies x_q0_reports x_q0_count x_q0_chime x_q0_end x_q0_score x_q0_reportCount x_q0_z x_q0_rules x_q0_shades x_q0_facts x_q1_dials x_q1_spots x_q1_skies x_q1_reports x_q1_count x_q1_chime x_q1_end x_q1_score x_q1_reportCount x_q1_z x_q1_rules x_q1_shades x_q1_facts x_q2_dials x_q2_spots x_q2_skies x_q2_reports x_q2_count x_q2_chime x_q2_end x_q2_score x_q2_reportCount x_q2_z x_q2_rules x_q2_shades x_q2_facts x_isKept x_marks x_p_first x_p_steps x_p_most x_p_many x_p_fewest x_p_everRight x_p_opening x_p_rows x_p_rowCount x_p_acts x_p_marks x_p_deepest x_p_wanted x_t_length x_t_tape x_t_words x_t_places x_t_at x_t_kinds x_t_wills x_t_starts x_t_code x_t_count x_t_size x_h_sorts x_h_lengths x_h_items x_h_held x_h_things x_h_sizes x_h_bodies x_h_traced x_h_number x_h_spot x_h_parted x_g_count x_g_kinds x_g_wills x_g_starts x_g_code x_g_stack x_g_kl x_g_wl x_g_sl x_g_cl x_nr) H locs → lv_has ls 4 [(0, .ref (a 0)), (1, .int j3), (2, .int v2), (3, .int r1)] → W p l e (rmz 6 0 0) s m args below meth c H locs 0 0 Q (F0 m 36 ls []) := by
            intro H locs ls hw hl
            refine lv_iinc (v := (v2 + (1 : Int32))) (lv' := [(2, .int (v2 + (1 : Int32))), (0, .ref (a 0)), (1, .int j3), (3, .int r1)]) hx hb dX11_liar_36 hl (k := 2) rfl rfl (by decide) rfl (fun ls hl => ?_)
            refine lv_goto (tgt := 4) hx hb dX11_liar_39 (by decide) ?_
            exact ih hf hw (lv_sub hl [1, 2, 0] rfl) kx
          clear hf
          have hf := hj3
          clear hj3
          refine lv_icmp_ne (tgt := 36) hx hb dX11_liar_29 (by decide) (fun hc => ?_) (fun hc => ?_)
          · have hf := ifF hf hc
            subst hf
            exact wj3 _ _ _ hw (lv_sub hl [1, 2, 3, 0] rfl)
          · have hf := ifT hf hc
            refine lv_iload_n hx hb dX11_liar_32 rfl (lv_at hl 2 rfl) ?_
            refine lv_iload_n hx hb dX11_liar_33 rfl (lv_at hl 0 rfl) ?_
            refine lv_ior hx hb dX11_liar_34 ?_
            refine lv_istore_n (lv' := [(1, .int (v1 ||| r1)), (3, .int r1), (0, .ref (a 0)), (2, .int v2)]) hx hb dX11_liar_35 rfl hl (by decide) rfl (fun ls hl => ?_)
            subst hf
            exact wj3 _ _ _ hw (lv_sub hl [2, 0, 3, 1] rfl)
        · have hf := ifT hf hc
          refine lv_bipush (v := (-3)) hx hb dX11_liar_21 (by decide) ?_
          have hf := Option.some.inj hf
          subst hf
          exact hR _ _ _ _ _ _ hw rfl ⟨rfl, rfl⟩ dX11_liar_23
  exact wL1 n hf hw (lv_sub hl [2, 1, 0] rfl) kx1
theorem dX11_seed_0 : decode cX11_seed 0 = .ok (.aload_n 0, 1) := by decide +kernel
theorem dX11_seed_1 : decode cX11_seed 1 = .ok (.getfield 55, 3) := by decide +kernel
theorem dX11_seed_4 : decode cX11_seed 4 = .ok (.getfield 260, 3) := by decide +kernel
theorem dX11_seed_7 : decode cX11_seed 7 = .ok (.istore_n 2, 1) := by decide +kernel
theorem dX11_seed_8 : decode cX11_seed 8 = .ok (.aload_n 0, 1) := by decide +kernel
theorem dX11_seed_9 : decode cX11_seed 9 = .ok (.getfield 55, 3) := by decide +kernel
theorem dX11_seed_12 : decode cX11_seed 12 = .ok (.iload_n 1, 1) := by decide +kernel
theorem dX11_seed_13 : decode cX11_seed 13 = .ok (.putfield 260, 3) := by decide +kernel
theorem dX11_seed_16 : decode cX11_seed 16 = .ok (.iload_n 2, 1) := by decide +kernel
theorem dX11_seed_17 : decode cX11_seed 17 = .ok (.ireturn, 1) := by decide +kernel
theorem k_X11_seed : MV yX11_seed cX11_seed 3 (some .int) 1 := ⟨q_874, q_875, q_1, q_876, ⟨by decide, by decide, by decide +kernel⟩⟩
theorem c_X11_seed {v1 : Int32} {res : Int32 × Int32} (hf : X11_seed x_q0_z v1 = res) : MC l E0 D t yX11_seed cX11_seed 3 (some .int) 1 0 0 [.ref (a 0), .int v1] (cW a ar t x_q0_dials x_q0_spots x_q0_skies x_q0_reports x_q0_count x_q0_chime x_q0_end x_q0_score x_q0_reportCount x_q0_z x_q0_rules x_q0_shades x_q0_facts x_q1_dials x_q1_spots x_q1_skies x_q1_reports x_q1_count x_q1_chime x_q1_end x_q1_score x_q1_reportCount x_q1_z x_q1_rules x_q1_shades x_q1_facts x_q2_dials x_q2_spots x_q2_skies x_q2_reports x_q2_count x_q2_chime x_q2_end x_q2_score x_q2_reportCount x_q2_z x_q2_rules x_q2_shades x_q2_facts x_isKept x_marks x_p_first x_p_steps x_p_most x_p_many x_p_fewest x_p_everRight x_p_opening x_p_rows x_p_rowCount x_p_acts x_p_marks x_p_deepest x_p_wanted x_t_length x_t_tape x_t_words x_t_places x_t_at x_t_kinds x_t_wills x_t_starts x_t_code x_t_count x_t_size x_h_sorts x_h_lengths x_h_items x_h_held x_h_things x_h_sizes x_h_bodies x_h_traced x_h_number x_h_spot x_h_parted x_g_count x_g_kinds x_g_wills x_g_starts x_g_code x_g_stack x_g_kl x_g_wl x_g_sl x_g_cl x_nr) (Qi res.1 (cW a ar t x_q0_dials x_q0_spots x_q0_skies x_q0_reports x_q0_count x_q0_chime x_q0_end x_q0_score x_q0_reportCount res.2 x_q0_rules x_q0_shades x_q0_facts x_q1_dials x_q1_spots x_q1_skies x_q1_reports x_q1_count x_q1_chime x_q1_end x_q1_score x_q1_reportCount x_q1_z x_q1_rules x_q1_shades x_q1_facts x_q2_dials x_q2_spots x_q2_skies x_q2_reports x_q2_count x_q2_chime x_q2_end x_q2_score x_q2_reportCount x_q2_z x_q2_rules x_q2_shades x_q2_facts x_isKept x_marks x_p_first x_p_steps x_p_most x_p_many x_p_fewest x_p_everRight x_p_opening x_p_rows x_p_rowCount x_p_acts x_p_marks x_p_deepest x_p_wanted x_t_length x_t_tape x_t_words x_t_places x_t_at x_t_kinds x_t_wills x_t_starts x_t_code x_t_count x_t_size x_h_sorts x_h_lengths x_h_items x_h_held x_h_things x_h_sizes x_h_bodies x_h_traced x_h_number x_h_spot x_h_parted x_g_count x_g_kinds x_g_wills x_g_starts x_g_code x_g_stack x_g_kl x_g_wl x_g_sl x_g_cl x_nr)) := by
  unfold X11_seed at hf
  refine MC.ofI pn_X11 (Nat.le_of_ble_eq_true rfl) ?_
  intro p e s m args below meth c A Q ls cx hR hw hl
  have hx := cx.1
  have hb := cx.2.1
  have hl : lv_has ls 3 [(0, .ref (a 0)), (1, .int v1)] := hl
  refine lv_aload_n hx hb dX11_seed_0 rfl (lv_at hl 0 rfl) ?_
  refine cg_X11_55_ds cx hw dX11_seed_1 ?_
  refine cg_X11_260_q0 cx hw dX11_seed_4 ?_
  refine lv_istore_n (lv' := [(2, .int x_q0_z), (0, .ref (a 0)), (1, .int v1)]) hx hb dX11_seed_7 rfl hl (by decide) rfl (fun ls hl => ?_)
  refine lv_aload_n hx hb dX11_seed_8 rfl (lv_at hl 1 rfl) ?_
  refine cg_X11_55_ds cx hw dX11_seed_9 ?_
  refine lv_iload_n hx hb dX11_seed_12 rfl (lv_at hl 2 rfl) ?_
  refine cp_X11_260_q0 cx hw dX11_seed_13 (fun H locs hw => ?_)
  refine lv_iload_n hx hb dX11_seed_16 rfl (lv_at hl 0 rfl) ?_
  subst hf
  exact hR _ _ _ _ _ _ hw rfl ⟨rfl, rfl⟩ dX11_seed_17
theorem dX9_byLot_0 : decode cX9_byLot 0 = .ok (.iconst 0, 1) := by decide +kernel
theorem dX9_byLot_1 : decode cX9_byLot 1 = .ok (.istore_n 2, 1) := by decide +kernel
theorem dX9_byLot_2 : decode cX9_byLot 2 = .ok (.iconst 0, 1) := by decide +kernel
theorem dX9_byLot_3 : decode cX9_byLot 3 = .ok (.istore_n 3, 1) := by decide +kernel
theorem dX9_byLot_4 : decode cX9_byLot 4 = .ok (.iload_n 3, 1) := by decide +kernel
theorem dX9_byLot_5 : decode cX9_byLot 5 = .ok (.iload_n 1, 1) := by decide +kernel
theorem dX9_byLot_6 : decode cX9_byLot 6 = .ok (.if_icmp .ge 52, 3) := by decide +kernel
theorem dX9_byLot_9 : decode cX9_byLot 9 = .ok (.aload_n 0, 1) := by decide +kernel
theorem dX9_byLot_10 : decode cX9_byLot 10 = .ok (.invokevirtual 134, 3) := by decide +kernel
theorem dX9_byLot_13 : decode cX9_byLot 13 = .ok (.ifCond .ne 45, 3) := by decide +kernel
theorem dX9_byLot_16 : decode cX9_byLot 16 = .ok (.aload_n 0, 1) := by decide +kernel
theorem dX9_byLot_17 : decode cX9_byLot 17 = .ok (.aload_n 0, 1) := by decide +kernel
theorem dX9_byLot_18 : decode cX9_byLot 18 = .ok (.getfield 30, 3) := by decide +kernel
theorem dX9_byLot_21 : decode cX9_byLot 21 = .ok (.ldc 144, 2) := by decide +kernel
theorem dX9_byLot_23 : decode cX9_byLot 23 = .ok (.imul, 1) := by decide +kernel
theorem dX9_byLot_24 : decode cX9_byLot 24 = .ok (.sipush 12345, 3) := by decide +kernel
theorem dX9_byLot_27 : decode cX9_byLot 27 = .ok (.iadd, 1) := by decide +kernel
theorem dX9_byLot_28 : decode cX9_byLot 28 = .ok (.putfield 30, 3) := by decide +kernel
theorem dX9_byLot_31 : decode cX9_byLot 31 = .ok (.iload_n 2, 1) := by decide +kernel
theorem dX9_byLot_32 : decode cX9_byLot 32 = .ok (.aload_n 0, 1) := by decide +kernel
theorem dX9_byLot_33 : decode cX9_byLot 33 = .ok (.aload_n 0, 1) := by decide +kernel
theorem dX9_byLot_34 : decode cX9_byLot 34 = .ok (.getfield 30, 3) := by decide +kernel
theorem dX9_byLot_37 : decode cX9_byLot 37 = .ok (.bipush 16, 2) := by decide +kernel
theorem dX9_byLot_39 : decode cX9_byLot 39 = .ok (.iushr, 1) := by decide +kernel
theorem dX9_byLot_40 : decode cX9_byLot 40 = .ok (.aload_n 0, 1) := by decide +kernel
theorem dX9_byLot_41 : decode cX9_byLot 41 = .ok (.getfield 59, 3) := by decide +kernel
theorem dX9_byLot_44 : decode cX9_byLot 44 = .ok (.iconst 1, 1) := by decide +kernel
theorem dX9_byLot_45 : decode cX9_byLot 45 = .ok (.iadd, 1) := by decide +kernel
theorem dX9_byLot_46 : decode cX9_byLot 46 = .ok (.irem, 1) := by decide +kernel
theorem dX9_byLot_47 : decode cX9_byLot 47 = .ok (.invokevirtual 141, 3) := by decide +kernel
theorem dX9_byLot_50 : decode cX9_byLot 50 = .ok (.iadd, 1) := by decide +kernel
theorem dX9_byLot_51 : decode cX9_byLot 51 = .ok (.istore_n 2, 1) := by decide +kernel
theorem dX9_byLot_52 : decode cX9_byLot 52 = .ok (.iinc 3 1, 3) := by decide +kernel
theorem dX9_byLot_55 : decode cX9_byLot 55 = .ok (.goto (-51), 3) := by decide +kernel
theorem dX9_byLot_58 : decode cX9_byLot 58 = .ok (.iload_n 2, 1) := by decide +kernel
theorem dX9_byLot_59 : decode cX9_byLot 59 = .ok (.ireturn, 1) := by decide +kernel
theorem k_X9_byLot : MV yX9_byLot cX9_byLot 4 (some .int) 1 := ⟨q_882, q_883, q_11, q_884, ⟨by decide, by decide, by decide +kernel⟩⟩
theorem c_X9_byLot_q0 {v1 : Int32} {res : Int32 × (Nat → Nat → Int32) × Int32 × Int32 × Int32 × (Nat → Int32) × (Nat → Int32) × (Nat → Nat → Int32)} (hf : X9_byLot_q0 n x_q0_dials x_q0_spots x_q0_skies x_q0_count x_q0_chime x_q0_end x_q0_score x_q0_z x_q0_rules x_q0_shades x_q0_facts x_g_count x_g_kinds x_g_wills x_g_starts x_g_code x_g_stack x_g_kl x_g_wl x_g_sl x_g_cl x_nr v1 = some res) : MC l E0 D t yX9_byLot cX9_byLot 4 (some .int) 6 0 0 [.ref (a 1), .int v1] (cW a ar t x_q0_dials x_q0_spots x_q0_skies x_q0_reports x_q0_count x_q0_chime x_q0_end x_q0_score x_q0_reportCount x_q0_z x_q0_rules x_q0_shades x_q0_facts x_q1_dials x_q1_spots x_q1_skies x_q1_reports x_q1_count x_q1_chime x_q1_end x_q1_score x_q1_reportCount x_q1_z x_q1_rules x_q1_shades x_q1_facts x_q2_dials x_q2_spots x_q2_skies x_q2_reports x_q2_count x_q2_chime x_q2_end x_q2_score x_q2_reportCount x_q2_z x_q2_rules x_q2_shades x_q2_facts x_isKept x_marks x_p_first x_p_steps x_p_most x_p_many x_p_fewest x_p_everRight x_p_opening x_p_rows x_p_rowCount x_p_acts x_p_marks x_p_deepest x_p_wanted x_t_length x_t_tape x_t_words x_t_places x_t_at x_t_kinds x_t_wills x_t_starts x_t_code x_t_count x_t_size x_h_sorts x_h_lengths x_h_items x_h_held x_h_things x_h_sizes x_h_bodies x_h_traced x_h_number x_h_spot x_h_parted x_g_count x_g_kinds x_g_wills x_g_starts x_g_code x_g_stack x_g_kl x_g_wl x_g_sl x_g_cl x_nr) (Qi res.1 (cW a ar t res.2.1 x_q0_spots x_q0_skies x_q0_reports x_q0_count res.2.2.1 x_q0_end res.2.2.2.1 x_q0_reportCount res.2.2.2.2.1 x_q0_rules res.2.2.2.2.2.1 res.2.2.2.2.2.2.1 x_q1_dials x_q1_spots x_q1_skies x_q1_reports x_q1_count x_q1_chime x_q1_end x_q1_score x_q1_reportCount x_q1_z x_q1_rules x_q1_shades x_q1_facts x_q2_dials x_q2_spots x_q2_skies x_q2_reports x_q2_count x_q2_chime x_q2_end x_q2_score x_q2_reportCount x_q2_z x_q2_rules x_q2_shades x_q2_facts x_isKept x_marks x_p_first x_p_steps x_p_most x_p_many x_p_fewest x_p_everRight x_p_opening x_p_rows x_p_rowCount x_p_acts x_p_marks x_p_deepest x_p_wanted x_t_length x_t_tape x_t_words x_t_places x_t_at x_t_kinds x_t_wills x_t_starts x_t_code x_t_count x_t_size x_h_sorts x_h_lengths x_h_items x_h_held x_h_things x_h_sizes x_h_bodies x_h_traced x_h_number x_h_spot x_h_parted x_g_count x_g_kinds x_g_wills x_g_starts x_g_code res.2.2.2.2.2.2.2 x_g_kl x_g_wl x_g_sl x_g_cl x_nr)) := by
  unfold X9_byLot_q0 at hf
  refine MC.ofI pn_X9 (Nat.le_of_ble_eq_true rfl) ?_
  intro p e s m args below meth c A Q ls cx hR hw hl
  have hx := cx.1
  have hb := cx.2.1
  have hl : lv_has ls 4 [(0, .ref (a 1)), (1, .int v1)] := hl
  refine lv_iconst (v := 0) hx hb dX9_byLot_0 (by decide) ?_
  refine lv_istore_n (lv' := [(2, .int (0 : Int32)), (0, .ref (a 1)), (1, .int v1)]) hx hb dX9_byLot_1 rfl hl (by decide) rfl (fun ls hl => ?_)
  refine lv_iconst (v := 0) hx hb dX9_byLot_2 (by decide) ?_
  refine lv_istore_n (lv' := [(3, .int (0 : Int32)), (2, .int (0 : Int32)), (0, .ref (a 1)), (1, .int v1)]) hx hb dX9_byLot_3 rfl hl (by decide) rfl (fun ls hl => ?_)
  obtain ⟨o4, ho4, hf⟩ := bnS hf
  have wL1 : ∀ (k : Nat) {v1 : Int32} {v2 : Int32} {v3 : Int32} {x_q0_dials : Nat → Nat → Int32} {x_q0_chime : Int32} {x_q0_score : Int32} {x_q0_z : Int32} {x_q0_shades : Nat → Int32} {x_q0_facts : Nat → Int32} {x_g_stack : Nat → Nat → Int32} {H : Heap} {locs : List Loc} {ls : Array Slot} {o : Int32 × Int32 × (Nat → Nat → Int32) × Int32 × Int32 × Int32 × (Nat → Int32) × (Nat → Int32) × (Nat → Nat → Int32)}, X9_byLot_q0_L1 n x_q0_spots x_q0_skies x_q0_count x_q0_end x_q0_rules x_g_count x_g_kinds x_g_wills x_g_starts x_g_code x_g_kl x_g_wl x_g_sl x_g_cl x_nr v1 k v2 v3 x_q0_dials x_q0_chime x_q0_score x_q0_z x_q0_shades x_q0_facts x_g_stack = some o → Wd D A s (cW a ar t x_q0_dials x_q0_spots x_q0_skies x_q0_reports x_q0_count x_q0_chime x_q0_end x_q0_score x_q0_reportCount x_q0_z x_q0_rules x_q0_shades x_q0_facts x_q1_dials x_q1_spots x_q1_skies x_q1_reports x_q1_count x_q1_chime x_q1_end x_q1_score x_q1_reportCount x_q1_z x_q1_rules x_q1_shades x_q1_facts x_q2_dials x_q2_spots x_q2_skies x_q2_reports x_q2_count x_q2_chime x_q2_end x_q2_score x_q2_reportCount x_q2_z x_q2_rules x_q2_shades x_q2_facts x_isKept x_marks x_p_first x_p_steps x_p_most x_p_many x_p_fewest x_p_everRight x_p_opening x_p_rows x_p_rowCount x_p_acts x_p_marks x_p_deepest x_p_wanted x_t_length x_t_tape x_t_words x_t_places x_t_at x_t_kinds x_t_wills x_t_starts x_t_code x_t_count x_t_size x_h_sorts x_h_lengths x_h_items x_h_held x_h_things x_h_sizes x_h_bodies x_h_traced x_h_number x_h_spot x_h_parted x_g_count x_g_kinds x_g_wills x_g_starts x_g_code x_g_stack x_g_kl x_g_wl x_g_sl x_g_cl x_nr) H locs → lv_has ls 4 [(0, .ref (a 1)), (1, .int v1), (2, .int v2), (3, .int v3)] → (∀ (H : Heap) (locs : List Loc) (ls : Array Slot), Wd D A s (cW a ar t o.2.2.1 x_q0_spots x_q0_skies x_q0_reports x_q0_count o.2.2.2.1 x_q0_end o.2.2.2.2.1 x_q0_reportCount o.2.2.2.2.2.1 x_q0_rules o.2.2.2.2.2.2.1 o.2.2.2.2.2.2.2.1 x_q1_dials x_q1_spots x_q1_skies x_q1_reports x_q1_count x_q1_chime x_q1_end x_q1_score x_q1_reportCount x_q1_z x_q1_rules x_q1_shades x_q1_facts x_q2_dials x_q2_spots x_q2_skies x_q2_reports x_q2_count x_q2_chime x_q2_end x_q2_score x_q2_reportCount x_q2_z x_q2_rules x_q2_shades x_q2_facts x_isKept x_marks x_p_first x_p_steps x_p_most x_p_many x_p_fewest x_p_everRight x_p_opening x_p_rows x_p_rowCount x_p_acts x_p_marks x_p_deepest x_p_wanted x_t_length x_t_tape x_t_words x_t_places x_t_at x_t_kinds x_t_wills x_t_starts x_t_code x_t_count x_t_size x_h_sorts x_h_lengths x_h_items x_h_held x_h_things x_h_sizes x_h_bodies x_h_traced x_h_number x_h_spot x_h_parted x_g_count x_g_kinds x_g_wills x_g_starts x_g_code o.2.2.2.2.2.2.2.2 x_g_kl x_g_wl x_g_sl x_g_cl x_nr) H locs → lv_has ls 4 [(0, .ref (a 1)), (1, .int v1), (2, .int o.1), (3, .int o.2.1)] → W p l e (rmz 6 0 0) s m args below meth c H locs 0 0 Q (F0 m 58 ls [])) → W p l e (rmz 6 0 0) s m args below meth c H locs 0 0 Q (F0 m 4 ls []) := by
    clear hf ho4 hw hl
    intro k
    induction k with
    | zero => intro v1 v2 v3 x_q0_dials x_q0_chime x_q0_score x_q0_z x_q0_shades x_q0_facts x_g_stack H locs ls o hf hw hl kx; simp [X9_byLot_q0_L1] at hf
    | succ k ih =>
      intro v1 v2 v3 x_q0_dials x_q0_chime x_q0_score x_q0_z x_q0_shades x_q0_facts x_g_stack H locs ls o hf hw hl kx
      rw [X9_byLot_q0_L1] at hf
      refine lv_iload_n hx hb dX9_byLot_4 rfl (lv_at hl 3 rfl) ?_
      refine lv_iload_n hx hb dX9_byLot_5 rfl (lv_at hl 1 rfl) ?_
      refine lv_icmp_ge (tgt := 58) hx hb dX9_byLot_6 (by decide) (fun hc => ?_) (fun hc => ?_)
      · have hf := ifT hf hc
        have hf := Option.some.inj hf
        subst hf
        exact kx _ _ _ hw (lv_sub hl [0, 1, 2, 3] rfl)
      · have hf := ifF hf hc
        refine lv_aload_n hx hb dX9_byLot_9 rfl (lv_at hl 0 rfl) ?_
        refine calVi cx hw hl.1 (c_X9_isOver_q0 rfl) q_675 k_X9_isOver rfl rv_q0 rfl dX9_byLot_10 rfl (Nat.le_of_ble_eq_true rfl) ⟨Nat.le_of_ble_eq_true rfl, Nat.le_of_ble_eq_true rfl⟩ ⟨Nat.le_refl _, Nat.le_refl _⟩ (fun H locs hw => ?_)
        refine lv_if_ne (tgt := 58) hx hb dX9_byLot_13 (by decide) (fun hc => ?_) (fun hc => ?_)
        · have hf := ifF hf hc
          have hf := Option.some.inj hf
          subst hf
          exact kx _ _ _ hw (lv_sub hl [0, 1, 2, 3] rfl)
        · have hf := ifT hf hc
          refine lv_aload_n hx hb dX9_byLot_16 rfl (lv_at hl 0 rfl) ?_
          refine lv_aload_n hx hb dX9_byLot_17 rfl (lv_at hl 0 rfl) ?_
          refine cg_X9_30_q0 cx hw dX9_byLot_18 ?_
          refine lv_ldc (v := 1103515245) hx hb cx.2.2.2.1 (cx.2.2.2.2.1 _ q_885) dX9_byLot_21 ?_
          refine lv_imul hx hb dX9_byLot_23 ?_
          refine lv_sipush (v := 12345) hx hb dX9_byLot_24 (by decide) ?_
          refine lv_iadd hx hb dX9_byLot_27 ?_
          refine cp_X9_30_q0 cx hw dX9_byLot_28 (fun H locs hw => ?_)
          refine lv_iload_n hx hb dX9_byLot_31 rfl (lv_at hl 2 rfl) ?_
          refine lv_aload_n hx hb dX9_byLot_32 rfl (lv_at hl 0 rfl) ?_
          refine lv_aload_n hx hb dX9_byLot_33 rfl (lv_at hl 0 rfl) ?_
          refine cg_X9_30_q0 cx hw dX9_byLot_34 ?_
          refine lv_bipush (v := 16) hx hb dX9_byLot_37 (by decide) ?_
          refine lv_iushr hx hb dX9_byLot_39 rfl ?_
          refine lv_aload_n hx hb dX9_byLot_40 rfl (lv_at hl 0 rfl) ?_
          refine cg_X9_59_q0 cx hw dX9_byLot_41 ?_
          refine lv_iconst (v := 1) hx hb dX9_byLot_44 (by decide) ?_
          refine lv_iadd hx hb dX9_byLot_45 ?_
          obtain ⟨h1, hf⟩ := ckS hf
          refine lv_irem hx hb dX9_byLot_46 (by simpa using h1) ?_
          obtain ⟨r2, h3, hf⟩ := bnS hf
          refine calVi cx hw hl.1 (c_X9_goBy_q0 h3) q_681 k_X9_goBy rfl rv_q0 rfl dX9_byLot_47 rfl (Nat.le_of_ble_eq_true rfl) ⟨Nat.le_of_ble_eq_true rfl, Nat.le_of_ble_eq_true rfl⟩ ⟨Nat.le_refl _, Nat.le_refl _⟩ (fun H locs hw => ?_)
          refine lv_iadd hx hb dX9_byLot_50 ?_
          refine lv_istore_n (lv' := [(2, .int (v2 + r2.1)), (0, .ref (a 1)), (1, .int v1), (3, .int v3)]) hx hb dX9_byLot_51 rfl hl (by decide) rfl (fun ls hl => ?_)
          refine lv_iinc (v := (v3 + (1 : Int32))) (lv' := [(3, .int (v3 + (1 : Int32))), (2, .int (v2 + r2.1)), (0, .ref (a 1)), (1, .int v1)]) hx hb dX9_byLot_52 hl (k := 3) rfl rfl (by decide) rfl (fun ls hl => ?_)
          refine lv_goto (tgt := 4) hx hb dX9_byLot_55 (by decide) ?_
          exact ih hf hw (lv_sub hl [2, 3, 1, 0] rfl) kx
  refine wL1 n ho4 hw (lv_sub hl [2, 3, 1, 0] rfl) (fun H locs ls hw hl => ?_)
  clear wL1 ho4
  refine lv_iload_n hx hb dX9_byLot_58 rfl (lv_at hl 2 rfl) ?_
  have hf := Option.some.inj hf
  subst hf
  exact hR _ _ _ _ _ _ hw rfl ⟨rfl, rfl⟩ dX9_byLot_59
theorem dX11_lot_0 : decode cX11_lot 0 = .ok (.aload_n 0, 1) := by decide +kernel
theorem dX11_lot_1 : decode cX11_lot 1 = .ok (.getfield 55, 3) := by decide +kernel
theorem dX11_lot_4 : decode cX11_lot 4 = .ok (.invokevirtual 137, 3) := by decide +kernel
theorem dX11_lot_7 : decode cX11_lot 7 = .ok (.ifCond .eq 8, 3) := by decide +kernel
theorem dX11_lot_10 : decode cX11_lot 10 = .ok (.bipush (-4), 2) := by decide +kernel
theorem dX11_lot_12 : decode cX11_lot 12 = .ok (.goto 11, 3) := by decide +kernel
theorem dX11_lot_15 : decode cX11_lot 15 = .ok (.aload_n 0, 1) := by decide +kernel
theorem dX11_lot_16 : decode cX11_lot 16 = .ok (.getfield 55, 3) := by decide +kernel
theorem dX11_lot_19 : decode cX11_lot 19 = .ok (.iconst 1, 1) := by decide +kernel
theorem dX11_lot_20 : decode cX11_lot 20 = .ok (.invokevirtual 263, 3) := by decide +kernel
theorem dX11_lot_23 : decode cX11_lot 23 = .ok (.ireturn, 1) := by decide +kernel
theorem k_X11_lot : MV yX11_lot cX11_lot 1 (some .int) 0 := ⟨q_878, q_879, q_1, q_880, ⟨by decide, by decide, by decide +kernel⟩⟩
theorem c_X11_lot {res : Int32 × (Nat → Nat → Int32) × Int32 × Int32 × Int32 × (Nat → Int32) × (Nat → Int32) × (Nat → Nat → Int32)} (hf : X11_lot n x_q0_dials x_q0_spots x_q0_skies x_q0_count x_q0_chime x_q0_end x_q0_score x_q0_z x_q0_rules x_q0_shades x_q0_facts x_g_count x_g_kinds x_g_wills x_g_starts x_g_code x_g_stack x_g_kl x_g_wl x_g_sl x_g_cl x_nr = some res) : MC l E0 D t yX11_lot cX11_lot 1 (some .int) 7 0 0 [.ref (a 0)] (cW a ar t x_q0_dials x_q0_spots x_q0_skies x_q0_reports x_q0_count x_q0_chime x_q0_end x_q0_score x_q0_reportCount x_q0_z x_q0_rules x_q0_shades x_q0_facts x_q1_dials x_q1_spots x_q1_skies x_q1_reports x_q1_count x_q1_chime x_q1_end x_q1_score x_q1_reportCount x_q1_z x_q1_rules x_q1_shades x_q1_facts x_q2_dials x_q2_spots x_q2_skies x_q2_reports x_q2_count x_q2_chime x_q2_end x_q2_score x_q2_reportCount x_q2_z x_q2_rules x_q2_shades x_q2_facts x_isKept x_marks x_p_first x_p_steps x_p_most x_p_many x_p_fewest x_p_everRight x_p_opening x_p_rows x_p_rowCount x_p_acts x_p_marks x_p_deepest x_p_wanted x_t_length x_t_tape x_t_words x_t_places x_t_at x_t_kinds x_t_wills x_t_starts x_t_code x_t_count x_t_size x_h_sorts x_h_lengths x_h_items x_h_held x_h_things x_h_sizes x_h_bodies x_h_traced x_h_number x_h_spot x_h_parted x_g_count x_g_kinds x_g_wills x_g_starts x_g_code x_g_stack x_g_kl x_g_wl x_g_sl x_g_cl x_nr) (Qi res.1 (cW a ar t res.2.1 x_q0_spots x_q0_skies x_q0_reports x_q0_count res.2.2.1 x_q0_end res.2.2.2.1 x_q0_reportCount res.2.2.2.2.1 x_q0_rules res.2.2.2.2.2.1 res.2.2.2.2.2.2.1 x_q1_dials x_q1_spots x_q1_skies x_q1_reports x_q1_count x_q1_chime x_q1_end x_q1_score x_q1_reportCount x_q1_z x_q1_rules x_q1_shades x_q1_facts x_q2_dials x_q2_spots x_q2_skies x_q2_reports x_q2_count x_q2_chime x_q2_end x_q2_score x_q2_reportCount x_q2_z x_q2_rules x_q2_shades x_q2_facts x_isKept x_marks x_p_first x_p_steps x_p_most x_p_many x_p_fewest x_p_everRight x_p_opening x_p_rows x_p_rowCount x_p_acts x_p_marks x_p_deepest x_p_wanted x_t_length x_t_tape x_t_words x_t_places x_t_at x_t_kinds x_t_wills x_t_starts x_t_code x_t_count x_t_size x_h_sorts x_h_lengths x_h_items x_h_held x_h_things x_h_sizes x_h_bodies x_h_traced x_h_number x_h_spot x_h_parted x_g_count x_g_kinds x_g_wills x_g_starts x_g_code res.2.2.2.2.2.2.2 x_g_kl x_g_wl x_g_sl x_g_cl x_nr)) := by
  unfold X11_lot at hf
  refine MC.ofI pn_X11 (Nat.le_of_ble_eq_true rfl) ?_
  intro p e s m args below meth c A Q ls cx hR hw hl
  have hx := cx.1
  have hb := cx.2.1
  have hl : lv_has ls 1 [(0, .ref (a 0))] := hl
  refine lv_aload_n hx hb dX11_lot_0 rfl (lv_at hl 0 rfl) ?_
  refine cg_X11_55_ds cx hw dX11_lot_1 ?_
  refine calVi cx hw hl.1 (c_X9_isOver_q0 rfl) q_500 k_X9_isOver rfl rv_q0 rfl dX11_lot_4 rfl (Nat.le_of_ble_eq_true rfl) ⟨Nat.le_of_ble_eq_true rfl, Nat.le_of_ble_eq_true rfl⟩ ⟨Nat.le_refl _, Nat.le_refl _⟩ (fun H locs hw => ?_)
  refine lv_if_eq (tgt := 15) hx hb dX11_lot_7 (by decide) (fun hc => ?_) (fun hc => ?_)
  · have hf := ifT hf hc
    refine lv_aload_n hx hb dX11_lot_15 rfl (lv_at hl 0 rfl) ?_
    refine cg_X11_55_ds cx hw dX11_lot_16 ?_
    refine lv_iconst (v := 1) hx hb dX11_lot_19 (by decide) ?_
    obtain ⟨r1, h2, hf⟩ := bnS hf
    refine calVi cx hw hl.1 (c_X9_byLot_q0 h2) q_881 k_X9_byLot rfl rv_q0 rfl dX11_lot_20 rfl (Nat.le_of_ble_eq_true rfl) ⟨Nat.le_of_ble_eq_true rfl, Nat.le_of_ble_eq_true rfl⟩ ⟨Nat.le_refl _, Nat.le_refl _⟩ (fun H locs hw => ?_)
    have hf := Option.some.inj hf
    subst hf
    exact hR _ _ _ _ _ _ hw rfl ⟨rfl, rfl⟩ dX11_lot_23
  · have hf := ifF hf hc
    refine lv_bipush (v := (-4)) hx hb dX11_lot_10 (by decide) ?_
    refine lv_goto (tgt := 23) hx hb dX11_lot_12 (by decide) ?_
    have hf := Option.some.inj hf
    subst hf
    exact hR _ _ _ _ _ _ hw rfl ⟨rfl, rfl⟩ dX11_lot_23
theorem c_X9_byLot_q2 {v1 : Int32} {res : Int32 × (Nat → Nat → Int32) × Int32 × Int32 × Int32 × (Nat → Int32) × (Nat → Int32) × (Nat → Nat → Int32)} (hf : X9_byLot_q2 n x_q2_dials x_q2_spots x_q2_skies x_q2_count x_q2_chime x_q2_end x_q2_score x_q2_z x_q2_rules x_q2_shades x_q2_facts x_g_count x_g_kinds x_g_wills x_g_starts x_g_code x_g_stack x_g_kl x_g_wl x_g_sl x_g_cl x_nr v1 = some res) : MC l E0 D t yX9_byLot cX9_byLot 4 (some .int) 6 0 0 [.ref (a 51), .int v1] (cW a ar t x_q0_dials x_q0_spots x_q0_skies x_q0_reports x_q0_count x_q0_chime x_q0_end x_q0_score x_q0_reportCount x_q0_z x_q0_rules x_q0_shades x_q0_facts x_q1_dials x_q1_spots x_q1_skies x_q1_reports x_q1_count x_q1_chime x_q1_end x_q1_score x_q1_reportCount x_q1_z x_q1_rules x_q1_shades x_q1_facts x_q2_dials x_q2_spots x_q2_skies x_q2_reports x_q2_count x_q2_chime x_q2_end x_q2_score x_q2_reportCount x_q2_z x_q2_rules x_q2_shades x_q2_facts x_isKept x_marks x_p_first x_p_steps x_p_most x_p_many x_p_fewest x_p_everRight x_p_opening x_p_rows x_p_rowCount x_p_acts x_p_marks x_p_deepest x_p_wanted x_t_length x_t_tape x_t_words x_t_places x_t_at x_t_kinds x_t_wills x_t_starts x_t_code x_t_count x_t_size x_h_sorts x_h_lengths x_h_items x_h_held x_h_things x_h_sizes x_h_bodies x_h_traced x_h_number x_h_spot x_h_parted x_g_count x_g_kinds x_g_wills x_g_starts x_g_code x_g_stack x_g_kl x_g_wl x_g_sl x_g_cl x_nr) (Qi res.1 (cW a ar t x_q0_dials x_q0_spots x_q0_skies x_q0_reports x_q0_count x_q0_chime x_q0_end x_q0_score x_q0_reportCount x_q0_z x_q0_rules x_q0_shades x_q0_facts x_q1_dials x_q1_spots x_q1_skies x_q1_reports x_q1_count x_q1_chime x_q1_end x_q1_score x_q1_reportCount x_q1_z x_q1_rules x_q1_shades x_q1_facts res.2.1 x_q2_spots x_q2_skies x_q2_reports x_q2_count res.2.2.1 x_q2_end res.2.2.2.1 x_q2_reportCount res.2.2.2.2.1 x_q2_rules res.2.2.2.2.2.1 res.2.2.2.2.2.2.1 x_isKept x_marks x_p_first x_p_steps x_p_most x_p_many x_p_fewest x_p_everRight x_p_opening x_p_rows x_p_rowCount x_p_acts x_p_marks x_p_deepest x_p_wanted x_t_length x_t_tape x_t_words x_t_places x_t_at x_t_kinds x_t_wills x_t_starts x_t_code x_t_count x_t_size x_h_sorts x_h_lengths x_h_items x_h_held x_h_things x_h_sizes x_h_bodies x_h_traced x_h_number x_h_spot x_h_parted x_g_count x_g_kinds x_g_wills x_g_starts x_g_code res.2.2.2.2.2.2.2 x_g_kl x_g_wl x_g_sl x_g_cl x_nr)) := by
  unfold X9_byLot_q2 at hf
  refine MC.ofI pn_X9 (Nat.le_of_ble_eq_true rfl) ?_
  intro p e s m args below meth c A Q ls cx hR hw hl
  have hx := cx.1
  have hb := cx.2.1
  have hl : lv_has ls 4 [(0, .ref (a 51)), (1, .int v1)] := hl
  refine lv_iconst (v := 0) hx hb dX9_byLot_0 (by decide) ?_
  refine lv_istore_n (lv' := [(2, .int (0 : Int32)), (0, .ref (a 51)), (1, .int v1)]) hx hb dX9_byLot_1 rfl hl (by decide) rfl (fun ls hl => ?_)
  refine lv_iconst (v := 0) hx hb dX9_byLot_2 (by decide) ?_
  refine lv_istore_n (lv' := [(3, .int (0 : Int32)), (2, .int (0 : Int32)), (0, .ref (a 51)), (1, .int v1)]) hx hb dX9_byLot_3 rfl hl (by decide) rfl (fun ls hl => ?_)
  obtain ⟨o4, ho4, hf⟩ := bnS hf
  have wL1 : ∀ (k : Nat) {v1 : Int32} {v2 : Int32} {v3 : Int32} {x_q2_dials : Nat → Nat → Int32} {x_q2_chime : Int32} {x_q2_score : Int32} {x_q2_z : Int32} {x_q2_shades : Nat → Int32} {x_q2_facts : Nat → Int32} {x_g_stack : Nat → Nat → Int32} {H : Heap} {locs : List Loc} {ls : Array Slot} {o : Int32 × Int32 × (Nat → Nat → Int32) × Int32 × Int32 × Int32 × (Nat → Int32) × (Nat → Int32) × (Nat → Nat → Int32)}, X9_byLot_q2_L1 n x_q2_spots x_q2_skies x_q2_count x_q2_end x_q2_rules x_g_count x_g_kinds x_g_wills x_g_starts x_g_code x_g_kl x_g_wl x_g_sl x_g_cl x_nr v1 k v2 v3 x_q2_dials x_q2_chime x_q2_score x_q2_z x_q2_shades x_q2_facts x_g_stack = some o → Wd D A s (cW a ar t x_q0_dials x_q0_spots x_q0_skies x_q0_reports x_q0_count x_q0_chime x_q0_end x_q0_score x_q0_reportCount x_q0_z x_q0_rules x_q0_shades x_q0_facts x_q1_dials x_q1_spots x_q1_skies x_q1_reports x_q1_count x_q1_chime x_q1_end x_q1_score x_q1_reportCount x_q1_z x_q1_rules x_q1_shades x_q1_facts x_q2_dials x_q2_spots x_q2_skies x_q2_reports x_q2_count x_q2_chime x_q2_end x_q2_score x_q2_reportCount x_q2_z x_q2_rules x_q2_shades x_q2_facts x_isKept x_marks x_p_first x_p_steps x_p_most x_p_many x_p_fewest x_p_everRight x_p_opening x_p_rows x_p_rowCount x_p_acts x_p_marks x_p_deepest x_p_wanted x_t_length x_t_tape x_t_words x_t_places x_t_at x_t_kinds x_t_wills x_t_starts x_t_code x_t_count x_t_size x_h_sorts x_h_lengths x_h_items x_h_held x_h_things x_h_sizes x_h_bodies x_h_traced x_h_number x_h_spot x_h_parted x_g_count x_g_kinds x_g_wills x_g_starts x_g_code x_g_stack x_g_kl x_g_wl x_g_sl x_g_cl x_nr) H locs → lv_has ls 4 [(0, .ref (a 51)), (1, .int v1), (2, .int v2), (3, .int v3)] → (∀ (H : Heap) (locs : List Loc) (ls : Array Slot), Wd D A s (cW a ar t x_q0_dials x_q0_spots x_q0_skies x_q0_reports x_q0_count x_q0_chime x_q0_end x_q0_score x_q0_reportCount x_q0_z x_q0_rules x_q0_shades x_q0_facts x_q1_dials x_q1_spots x_q1_skies x_q1_reports x_q1_count x_q1_chime x_q1_end x_q1_score x_q1_reportCount x_q1_z x_q1_rules x_q1_shades x_q1_facts o.2.2.1 x_q2_spots x_q2_skies x_q2_reports x_q2_count o.2.2.2.1 x_q2_end o.2.2.2.2.1 x_q2_reportCount o.2.2.2.2.2.1 x_q2_rules o.2.2.2.2.2.2.1 o.2.2.2.2.2.2.2.1 x_isKept x_marks x_p_first x_p_steps x_p_most x_p_many x_p_fewest x_p_everRight x_p_opening x_p_rows x_p_rowCount x_p_acts x_p_marks x_p_deepest x_p_wanted x_t_length x_t_tape x_t_words x_t_places x_t_at x_t_kinds x_t_wills x_t_starts x_t_code x_t_count x_t_size x_h_sorts x_h_lengths x_h_items x_h_held x_h_things x_h_sizes x_h_bodies x_h_traced x_h_number x_h_spot x_h_parted x_g_count x_g_kinds x_g_wills x_g_starts x_g_code o.2.2.2.2.2.2.2.2 x_g_kl x_g_wl x_g_sl x_g_cl x_nr) H locs → lv_has ls 4 [(0, .ref (a 51)), (1, .int v1), (2, .int o.1), (3, .int o.2.1)] → W p l e (rmz 6 0 0) s m args below meth c H locs 0 0 Q (F0 m 58 ls [])) → W p l e (rmz 6 0 0) s m args below meth c H locs 0 0 Q (F0 m 4 ls []) := by
    clear hf ho4 hw hl
    intro k
    induction k with
    | zero => intro v1 v2 v3 x_q2_dials x_q2_chime x_q2_score x_q2_z x_q2_shades x_q2_facts x_g_stack H locs ls o hf hw hl kx; simp [X9_byLot_q2_L1] at hf
    | succ k ih =>
      intro v1 v2 v3 x_q2_dials x_q2_chime x_q2_score x_q2_z x_q2_shades x_q2_facts x_g_stack H locs ls o hf hw hl kx
      rw [X9_byLot_q2_L1] at hf
      refine lv_iload_n hx hb dX9_byLot_4 rfl (lv_at hl 3 rfl) ?_
      refine lv_iload_n hx hb dX9_byLot_5 rfl (lv_at hl 1 rfl) ?_
      refine lv_icmp_ge (tgt := 58) hx hb dX9_byLot_6 (by decide) (fun hc => ?_) (fun hc => ?_)
      · have hf := ifT hf hc
        have hf := Option.some.inj hf
        subst hf
        exact kx _ _ _ hw (lv_sub hl [0, 1, 2, 3] rfl)
      · have hf := ifF hf hc
        refine lv_aload_n hx hb dX9_byLot_9 rfl (lv_at hl 0 rfl) ?_
        refine calVi cx hw hl.1 (c_X9_isOver_q2 rfl) q_675 k_X9_isOver rfl rv_q2 rfl dX9_byLot_10 rfl (Nat.le_of_ble_eq_true rfl) ⟨Nat.le_of_ble_eq_true rfl, Nat.le_of_ble_eq_true rfl⟩ ⟨Nat.le_refl _, Nat.le_refl _⟩ (fun H locs hw => ?_)
        refine lv_if_ne (tgt := 58) hx hb dX9_byLot_13 (by decide) (fun hc => ?_) (fun hc => ?_)
        · have hf := ifF hf hc
          have hf := Option.some.inj hf
          subst hf
          exact kx _ _ _ hw (lv_sub hl [0, 1, 2, 3] rfl)
        · have hf := ifT hf hc
          refine lv_aload_n hx hb dX9_byLot_16 rfl (lv_at hl 0 rfl) ?_
          refine lv_aload_n hx hb dX9_byLot_17 rfl (lv_at hl 0 rfl) ?_
          refine cg_X9_30_q2 cx hw dX9_byLot_18 ?_
          refine lv_ldc (v := 1103515245) hx hb cx.2.2.2.1 (cx.2.2.2.2.1 _ q_885) dX9_byLot_21 ?_
          refine lv_imul hx hb dX9_byLot_23 ?_
          refine lv_sipush (v := 12345) hx hb dX9_byLot_24 (by decide) ?_
          refine lv_iadd hx hb dX9_byLot_27 ?_
          refine cp_X9_30_q2 cx hw dX9_byLot_28 (fun H locs hw => ?_)
          refine lv_iload_n hx hb dX9_byLot_31 rfl (lv_at hl 2 rfl) ?_
          refine lv_aload_n hx hb dX9_byLot_32 rfl (lv_at hl 0 rfl) ?_
          refine lv_aload_n hx hb dX9_byLot_33 rfl (lv_at hl 0 rfl) ?_
          refine cg_X9_30_q2 cx hw dX9_byLot_34 ?_
          refine lv_bipush (v := 16) hx hb dX9_byLot_37 (by decide) ?_
          refine lv_iushr hx hb dX9_byLot_39 rfl ?_
          refine lv_aload_n hx hb dX9_byLot_40 rfl (lv_at hl 0 rfl) ?_
          refine cg_X9_59_q2 cx hw dX9_byLot_41 ?_
          refine lv_iconst (v := 1) hx hb dX9_byLot_44 (by decide) ?_
          refine lv_iadd hx hb dX9_byLot_45 ?_
          obtain ⟨h1, hf⟩ := ckS hf
          refine lv_irem hx hb dX9_byLot_46 (by simpa using h1) ?_
          obtain ⟨r2, h3, hf⟩ := bnS hf
          refine calVi cx hw hl.1 (c_X9_goBy_q2 h3) q_681 k_X9_goBy rfl rv_q2 rfl dX9_byLot_47 rfl (Nat.le_of_ble_eq_true rfl) ⟨Nat.le_of_ble_eq_true rfl, Nat.le_of_ble_eq_true rfl⟩ ⟨Nat.le_refl _, Nat.le_refl _⟩ (fun H locs hw => ?_)
          refine lv_iadd hx hb dX9_byLot_50 ?_
          refine lv_istore_n (lv' := [(2, .int (v2 + r2.1)), (0, .ref (a 51)), (1, .int v1), (3, .int v3)]) hx hb dX9_byLot_51 rfl hl (by decide) rfl (fun ls hl => ?_)
          refine lv_iinc (v := (v3 + (1 : Int32))) (lv' := [(3, .int (v3 + (1 : Int32))), (2, .int (v2 + r2.1)), (0, .ref (a 51)), (1, .int v1)]) hx hb dX9_byLot_52 hl (k := 3) rfl rfl (by decide) rfl (fun ls hl => ?_)
          refine lv_goto (tgt := 4) hx hb dX9_byLot_55 (by decide) ?_
          exact ih hf hw (lv_sub hl [2, 3, 1, 0] rfl) kx
  refine wL1 n ho4 hw (lv_sub hl [2, 3, 1, 0] rfl) (fun H locs ls hw hl => ?_)
  clear wL1 ho4
  refine lv_iload_n hx hb dX9_byLot_58 rfl (lv_at hl 2 rfl) ?_
  have hf := Option.some.inj hf
  subst hf
  exact hR _ _ _ _ _ _ hw rfl ⟨rfl, rfl⟩ dX9_byLot_59
theorem dX11_times_0 : decode cX11_times 0 = .ok (.iload_n 1, 1) := by decide +kernel
theorem dX11_times_1 : decode cX11_times 1 = .ok (.iconst 1, 1) := by decide +kernel
theorem dX11_times_2 : decode cX11_times 2 = .ok (.bipush 40, 2) := by decide +kernel
theorem dX11_times_4 : decode cX11_times 4 = .ok (.invokestatic 74, 3) := by decide +kernel
theorem dX11_times_7 : decode cX11_times 7 = .ok (.ifCond .eq 14, 3) := by decide +kernel
theorem dX11_times_10 : decode cX11_times 10 = .ok (.iload_n 2, 1) := by decide +kernel
theorem dX11_times_11 : decode cX11_times 11 = .ok (.iconst 0, 1) := by decide +kernel
theorem dX11_times_12 : decode cX11_times 12 = .ok (.sipush 999, 3) := by decide +kernel
theorem dX11_times_15 : decode cX11_times 15 = .ok (.invokestatic 74, 3) := by decide +kernel
theorem dX11_times_18 : decode cX11_times 18 = .ok (.ifCond .ne 5, 3) := by decide +kernel
theorem dX11_times_21 : decode cX11_times 21 = .ok (.iconst (-1), 1) := by decide +kernel
theorem dX11_times_22 : decode cX11_times 22 = .ok (.ireturn, 1) := by decide +kernel
theorem dX11_times_23 : decode cX11_times 23 = .ok (.aload_n 0, 1) := by decide +kernel
theorem dX11_times_24 : decode cX11_times 24 = .ok (.getfield 62, 3) := by decide +kernel
theorem dX11_times_27 : decode cX11_times 27 = .ok (.aload_n 0, 1) := by decide +kernel
theorem dX11_times_28 : decode cX11_times 28 = .ok (.getfield 55, 3) := by decide +kernel
theorem dX11_times_31 : decode cX11_times 31 = .ok (.invokevirtual 176, 3) := by decide +kernel
theorem dX11_times_34 : decode cX11_times 34 = .ok (.aload_n 0, 1) := by decide +kernel
theorem dX11_times_35 : decode cX11_times 35 = .ok (.getfield 62, 3) := by decide +kernel
theorem dX11_times_38 : decode cX11_times 38 = .ok (.aload_n 0, 1) := by decide +kernel
theorem dX11_times_39 : decode cX11_times 39 = .ok (.getfield 9, 3) := by decide +kernel
theorem dX11_times_42 : decode cX11_times 42 = .ok (.invokevirtual 186, 3) := by decide +kernel
theorem dX11_times_45 : decode cX11_times 45 = .ok (.iconst 0, 1) := by decide +kernel
theorem dX11_times_46 : decode cX11_times 46 = .ok (.istore_n 3, 1) := by decide +kernel
theorem dX11_times_47 : decode cX11_times 47 = .ok (.iconst 0, 1) := by decide +kernel
theorem dX11_times_48 : decode cX11_times 48 = .ok (.istore 4, 2) := by decide +kernel
theorem dX11_times_50 : decode cX11_times 50 = .ok (.iload 4, 2) := by decide +kernel
theorem dX11_times_52 : decode cX11_times 52 = .ok (.iload_n 1, 1) := by decide +kernel
theorem dX11_times_53 : decode cX11_times 53 = .ok (.if_icmp .ge 36, 3) := by decide +kernel
theorem dX11_times_56 : decode cX11_times 56 = .ok (.aload_n 0, 1) := by decide +kernel
theorem dX11_times_57 : decode cX11_times 57 = .ok (.getfield 62, 3) := by decide +kernel
theorem dX11_times_60 : decode cX11_times 60 = .ok (.aload_n 0, 1) := by decide +kernel
theorem dX11_times_61 : decode cX11_times 61 = .ok (.getfield 9, 3) := by decide +kernel
theorem dX11_times_64 : decode cX11_times 64 = .ok (.invokevirtual 190, 3) := by decide +kernel
theorem dX11_times_67 : decode cX11_times 67 = .ok (.aload_n 0, 1) := by decide +kernel
theorem dX11_times_68 : decode cX11_times 68 = .ok (.getfield 62, 3) := by decide +kernel
theorem dX11_times_71 : decode cX11_times 71 = .ok (.bipush 16, 2) := by decide +kernel
theorem dX11_times_73 : decode cX11_times 73 = .ok (.invokevirtual 263, 3) := by decide +kernel
theorem dX11_times_76 : decode cX11_times 76 = .ok (.iload_n 2, 1) := by decide +kernel
theorem dX11_times_77 : decode cX11_times 77 = .ok (.if_icmp .lt 6, 3) := by decide +kernel
theorem dX11_times_80 : decode cX11_times 80 = .ok (.iinc 3 1, 3) := by decide +kernel
theorem dX11_times_83 : decode cX11_times 83 = .ok (.iinc 4 1, 3) := by decide +kernel
theorem dX11_times_86 : decode cX11_times 86 = .ok (.goto (-36), 3) := by decide +kernel
theorem dX11_times_89 : decode cX11_times 89 = .ok (.iload_n 3, 1) := by decide +kernel
theorem dX11_times_90 : decode cX11_times 90 = .ok (.ireturn, 1) := by decide +kernel
theorem k_X11_times : MV yX11_times cX11_times 5 (some .int) 2 := ⟨q_887, q_888, q_1, q_889, ⟨by decide, by decide, by decide +kernel⟩⟩
theorem c_X11_times {v1 : Int32} {v2 : Int32} {res : Int32 × (Nat → Nat → Int32) × (Nat → Nat → Int32) × (Nat → Int32) × (Nat → Nat → Int32) × Int32 × Int32 × Int32 × Int32 × Int32 × Int32 × Nat × (Nat → Int32) × (Nat → Int32) × (Nat → Int32) × (Nat → Nat → Int32)} (hf : X11_times n x_q0_dials x_q0_spots x_q0_skies x_q0_reports x_q0_count x_q0_chime x_q0_end x_q0_score x_q0_reportCount x_q0_z x_q0_rules x_q2_dials x_q2_spots x_q2_skies x_q2_reports x_q2_count x_q2_chime x_q2_end x_q2_score x_q2_reportCount x_q2_z x_q2_rules x_q2_shades x_q2_facts x_marks x_g_count x_g_kinds x_g_wills x_g_starts x_g_code x_g_stack x_g_kl x_g_wl x_g_sl x_g_cl x_nr v1 v2 = some res) : MC l E0 D t yX11_times cX11_times 5 (some .int) 7 0 0 [.ref (a 0), .int v1, .int v2] (cW a ar t x_q0_dials x_q0_spots x_q0_skies x_q0_reports x_q0_count x_q0_chime x_q0_end x_q0_score x_q0_reportCount x_q0_z x_q0_rules x_q0_shades x_q0_facts x_q1_dials x_q1_spots x_q1_skies x_q1_reports x_q1_count x_q1_chime x_q1_end x_q1_score x_q1_reportCount x_q1_z x_q1_rules x_q1_shades x_q1_facts x_q2_dials x_q2_spots x_q2_skies x_q2_reports x_q2_count x_q2_chime x_q2_end x_q2_score x_q2_reportCount x_q2_z x_q2_rules x_q2_shades x_q2_facts x_isKept x_marks x_p_first x_p_steps x_p_most x_p_many x_p_fewest x_p_everRight x_p_opening x_p_rows x_p_rowCount x_p_acts x_p_marks x_p_deepest x_p_wanted x_t_length x_t_tape x_t_words x_t_places x_t_at x_t_kinds x_t_wills x_t_starts x_t_code x_t_count x_t_size x_h_sorts x_h_lengths x_h_items x_h_held x_h_things x_h_sizes x_h_bodies x_h_traced x_h_number x_h_spot x_h_parted x_g_count x_g_kinds x_g_wills x_g_starts x_g_code x_g_stack x_g_kl x_g_wl x_g_sl x_g_cl x_nr) (Qi res.1 (cW a ar t x_q0_dials x_q0_spots x_q0_skies x_q0_reports x_q0_count x_q0_chime x_q0_end x_q0_score x_q0_reportCount x_q0_z x_q0_rules x_q0_shades x_q0_facts x_q1_dials x_q1_spots x_q1_skies x_q1_reports x_q1_count x_q1_chime x_q1_end x_q1_score x_q1_reportCount x_q1_z x_q1_rules x_q1_shades x_q1_facts res.2.1 res.2.2.1 res.2.2.2.1 res.2.2.2.2.1 res.2.2.2.2.2.1 res.2.2.2.2.2.2.1 res.2.2.2.2.2.2.2.1 res.2.2.2.2.2.2.2.2.1 res.2.2.2.2.2.2.2.2.2.1 res.2.2.2.2.2.2.2.2.2.2.1 res.2.2.2.2.2.2.2.2.2.2.2.1 res.2.2.2.2.2.2.2.2.2.2.2.2.1 res.2.2.2.2.2.2.2.2.2.2.2.2.2.1 x_isKept res.2.2.2.2.2.2.2.2.2.2.2.2.2.2.1 x_p_first x_p_steps x_p_most x_p_many x_p_fewest x_p_everRight x_p_opening x_p_rows x_p_rowCount x_p_acts x_p_marks x_p_deepest x_p_wanted x_t_length x_t_tape x_t_words x_t_places x_t_at x_t_kinds x_t_wills x_t_starts x_t_code x_t_count x_t_size x_h_sorts x_h_lengths x_h_items x_h_held x_h_things x_h_sizes x_h_bodies x_h_traced x_h_number x_h_spot x_h_parted x_g_count x_g_kinds x_g_wills x_g_starts x_g_code res.2.2.2.2.2.2.2.2.2.2.2.2.2.2.2 x_g_kl x_g_wl x_g_sl x_g_cl x_nr)) := by
  unfold X11_times at hf
  refine MC.ofI pn_X11 (Nat.le_of_ble_eq_true rfl) ?_
  intro p e s m args below meth c A Q ls cx hR hw hl
  have hx := cx.1
  have hb := cx.2.1
  have hl : lv_has ls 5 [(0, .ref (a 0)), (1, .int v1), (2, .int v2)] := hl
  refine lv_iload_n hx hb dX11_times_0 rfl (lv_at hl 1 rfl) ?_
  refine lv_iconst (v := 1) hx hb dX11_times_1 (by decide) ?_
  refine lv_bipush (v := 40) hx hb dX11_times_2 (by decide) ?_
  refine calSi cx hw hl.1 (c_X11_isIn rfl) q_350 k_X11_isIn rfl dX11_times_4 rfl (Nat.le_of_ble_eq_true rfl) ⟨Nat.le_of_ble_eq_true rfl, Nat.le_of_ble_eq_true rfl⟩ ⟨Nat.le_refl _, Nat.le_refl _⟩ (fun H locs hw => ?_)
  refine lv_if_eq (tgt := 21) hx hb dX11_times_7 (by decide) (fun hc => ?_) (fun hc => ?_)
  · have hf := ifT hf hc
    refine lv_iconst (v := (-1)) hx hb dX11_times_21 (by decide) ?_
    have hf := Option.some.inj hf
    subst hf
    exact hR _ _ _ _ _ _ hw rfl ⟨rfl, rfl⟩ dX11_times_22
  · have hf := ifF hf hc
    refine lv_iload_n hx hb dX11_times_10 rfl (lv_at hl 2 rfl) ?_
    refine lv_iconst (v := 0) hx hb dX11_times_11 (by decide) ?_
    refine lv_sipush (v := 999) hx hb dX11_times_12 (by decide) ?_
    refine calSi cx hw hl.1 (c_X11_isIn rfl) q_350 k_X11_isIn rfl dX11_times_15 rfl (Nat.le_of_ble_eq_true rfl) ⟨Nat.le_of_ble_eq_true rfl, Nat.le_of_ble_eq_true rfl⟩ ⟨Nat.le_refl _, Nat.le_refl _⟩ (fun H locs hw => ?_)
    refine lv_if_ne (tgt := 23) hx hb dX11_times_18 (by decide) (fun hc => ?_) (fun hc => ?_)
    · have hf := ifF hf hc
      refine lv_aload_n hx hb dX11_times_23 rfl (lv_at hl 0 rfl) ?_
      refine cg_X11_62_ds cx hw dX11_times_24 ?_
      refine lv_aload_n hx hb dX11_times_27 rfl (lv_at hl 0 rfl) ?_
      refine cg_X11_55_ds cx hw dX11_times_28 ?_
      obtain ⟨r1, h2, hf⟩ := bnS hf
      refine calVv cx hw hl.1 (c_X9_copyFrom_q2_oq0 h2) q_702 k_X9_copyFrom rfl rv_q2 rfl dX11_times_31 rfl (Nat.le_of_ble_eq_true rfl) ⟨Nat.le_of_ble_eq_true rfl, Nat.le_of_ble_eq_true rfl⟩ ⟨Nat.le_refl _, Nat.le_refl _⟩ (fun H locs hw => ?_)
      refine lv_aload_n hx hb dX11_times_34 rfl (lv_at hl 0 rfl) ?_
      refine cg_X11_62_ds cx hw dX11_times_35 ?_
      refine lv_aload_n hx hb dX11_times_38 rfl (lv_at hl 0 rfl) ?_
      refine cg_X11_9_ds cx hw dX11_times_39 ?_
      obtain ⟨r3, h4, hf⟩ := bnS hf
      refine calVv cx hw hl.1 (c_X9_mark_q2_mk h4) q_720 k_X9_mark rfl rv_q2 rfl dX11_times_42 rfl (Nat.le_of_ble_eq_true rfl) ⟨Nat.le_of_ble_eq_true rfl, Nat.le_of_ble_eq_true rfl⟩ ⟨Nat.le_refl _, Nat.le_refl _⟩ (fun H locs hw => ?_)
      refine lv_iconst (v := 0) hx hb dX11_times_45 (by decide) ?_
      refine lv_istore_n (lv' := [(3, .int (0 : Int32)), (0, .ref (a 0)), (1, .int v1), (2, .int v2)]) hx hb dX11_times_46 rfl hl (by decide) rfl (fun ls hl => ?_)
      refine lv_iconst (v := 0) hx hb dX11_times_47 (by decide) ?_
      refine lv_istore (lv' := [(4, .int (0 : Int32)), (3, .int (0 : Int32)), (0, .ref (a 0)), (1, .int v1), (2, .int v2)]) hx hb dX11_times_48 hl (by decide) rfl (fun ls hl => ?_)
      obtain ⟨o10, ho10, hf⟩ := bnS hf
      have wL1 : ∀ (k : Nat) {v1 : Int32} {v2 : Int32} {v3 : Int32} {v4 : Int32} {x_q2_dials : Nat → Nat → Int32} {x_q2_spots : Nat → Nat → Int32} {x_q2_skies : Nat → Int32} {x_q2_reports : Nat → Nat → Int32} {x_q2_count : Int32} {x_q2_chime : Int32} {x_q2_end : Int32} {x_q2_score : Int32} {x_q2_reportCount : Int32} {x_q2_z : Int32} {x_q2_rules : Nat} {x_q2_shades : Nat → Int32} {x_q2_facts : Nat → Int32} {x_marks : Nat → Int32} {x_g_stack : Nat → Nat → Int32} {H : Heap} {locs : List Loc} {ls : Array Slot} {o : Int32 × Int32 × (Nat → Nat → Int32) × Int32 × Int32 × Int32 × (Nat → Int32) × (Nat → Int32) × (Nat → Nat → Int32)}, X11_times_L1 n x_q2_spots x_q2_skies x_q2_count x_q2_end x_q2_rules x_marks x_g_count x_g_kinds x_g_wills x_g_starts x_g_code x_g_kl x_g_wl x_g_sl x_g_cl x_nr v1 v2 k v3 v4 x_q2_dials x_q2_chime x_q2_score x_q2_z x_q2_shades x_q2_facts x_g_stack = some o → Wd D A s (cW a ar t x_q0_dials x_q0_spots x_q0_skies x_q0_reports x_q0_count x_q0_chime x_q0_end x_q0_score x_q0_reportCount x_q0_z x_q0_rules x_q0_shades x_q0_facts x_q1_dials x_q1_spots x_q1_skies x_q1_reports x_q1_count x_q1_chime x_q1_end x_q1_score x_q1_reportCount x_q1_z x_q1_rules x_q1_shades x_q1_facts x_q2_dials x_q2_spots x_q2_skies x_q2_reports x_q2_count x_q2_chime x_q2_end x_q2_score x_q2_reportCount x_q2_z x_q2_rules x_q2_shades x_q2_facts x_isKept x_marks x_p_first x_p_steps x_p_most x_p_many x_p_fewest x_p_everRight x_p_opening x_p_rows x_p_rowCount x_p_acts x_p_marks x_p_deepest x_p_wanted x_t_length x_t_tape x_t_words x_t_places x_t_at x_t_kinds x_t_wills x_t_starts x_t_code x_t_count x_t_size x_h_sorts x_h_lengths x_h_items x_h_held x_h_things x_h_sizes x_h_bodies x_h_traced x_h_number x_h_spot x_h_parted x_g_count x_g_kinds x_g_wills x_g_starts x_g_code x_g_stack x_g_kl x_g_wl x_g_sl x_g_cl x_nr) H locs → lv_has ls 5 [(0, .ref (a 0)), (1, .int v1), (2, .int v2), (3, .int v3), (4, .int v4)] → (∀ (H : Heap) (locs : List Loc) (ls : Array Slot), Wd D A s (cW a ar t x_q0_dials x_q0_spots x_q0_skies x_q0_reports x_q0_count x_q0_chime x_q0_end x_q0_score x_q0_reportCount x_q0_z x_q0_rules x_q0_shades x_q0_facts x_q1_dials x_q1_spots x_q1_skies x_q1_reports x_q1_count x_q1_chime x_q1_end x_q1_score x_q1_reportCount x_q1_z x_q1_rules x_q1_shades x_q1_facts o.2.2.1 x_q2_spots x_q2_skies x_q2_reports x_q2_count o.2.2.2.1 x_q2_end o.2.2.2.2.1 x_q2_reportCount o.2.2.2.2.2.1 x_q2_rules o.2.2.2.2.2.2.1 o.2.2.2.2.2.2.2.1 x_isKept x_marks x_p_first x_p_steps x_p_most x_p_many x_p_fewest x_p_everRight x_p_opening x_p_rows x_p_rowCount x_p_acts x_p_marks x_p_deepest x_p_wanted x_t_length x_t_tape x_t_words x_t_places x_t_at x_t_kinds x_t_wills x_t_starts x_t_code x_t_count x_t_size x_h_sorts x_h_lengths x_h_items x_h_held x_h_things x_h_sizes x_h_bodies x_h_traced x_h_number x_h_spot x_h_parted x_g_count x_g_kinds x_g_wills x_g_starts x_g_code o.2.2.2.2.2.2.2.2 x_g_kl x_g_wl x_g_sl x_g_cl x_nr) H locs → lv_has ls 5 [(0, .ref (a 0)), (1, .int v1), (2, .int v2), (3, .int o.1), (4, .int o.2.1)] → W p l e (rmz 7 0 0) s m args below meth c H locs 0 0 Q (F0 m 89 ls [])) → W p l e (rmz 7 0 0) s m args below meth c H locs 0 0 Q (F0 m 50 ls []) := by
        clear hf ho10 hw hl
        intro k
        induction k with
        | zero => intro v1 v2 v3 v4 x_q2_dials x_q2_spots x_q2_skies x_q2_reports x_q2_count x_q2_chime x_q2_end x_q2_score x_q2_reportCount x_q2_z x_q2_rules x_q2_shades x_q2_facts x_marks x_g_stack H locs ls o hf hw hl kx; simp [X11_times_L1] at hf
        | succ k ih =>
          intro v1 v2 v3 v4 x_q2_dials x_q2_spots x_q2_skies x_q2_reports x_q2_count x_q2_chime x_q2_end x_q2_score x_q2_reportCount x_q2_z x_q2_rules x_q2_shades x_q2_facts x_marks x_g_stack H locs ls o hf hw hl kx
          rw [X11_times_L1] at hf
          refine lv_iload hx hb dX11_times_50 (lv_at hl 4 rfl) ?_
          refine lv_iload_n hx hb dX11_times_52 rfl (lv_at hl 1 rfl) ?_
          refine lv_icmp_ge (tgt := 89) hx hb dX11_times_53 (by decide) (fun hc => ?_) (fun hc => ?_)
          · have hf := ifT hf hc
            have hf := Option.some.inj hf
            subst hf
            exact kx _ _ _ hw (lv_sub hl [0, 1, 2, 3, 4] rfl)
          · have hf := ifF hf hc
            refine lv_aload_n hx hb dX11_times_56 rfl (lv_at hl 0 rfl) ?_
            refine cg_X11_62_ds cx hw dX11_times_57 ?_
            refine lv_aload_n hx hb dX11_times_60 rfl (lv_at hl 0 rfl) ?_
            refine cg_X11_9_ds cx hw dX11_times_61 ?_
            obtain ⟨r5, h6, hf⟩ := bnS hf
            refine calVv cx hw hl.1 (c_X9_back_q2_mk h6) q_724 k_X9_back rfl rv_q2 rfl dX11_times_64 rfl (Nat.le_of_ble_eq_true rfl) ⟨Nat.le_of_ble_eq_true rfl, Nat.le_of_ble_eq_true rfl⟩ ⟨Nat.le_refl _, Nat.le_refl _⟩ (fun H locs hw => ?_)
            refine lv_aload_n hx hb dX11_times_67 rfl (lv_at hl 0 rfl) ?_
            refine cg_X11_62_ds cx hw dX11_times_68 ?_
            refine lv_bipush (v := 16) hx hb dX11_times_71 (by decide) ?_
            obtain ⟨r7, h8, hf⟩ := bnS hf
            refine calVi cx hw hl.1 (c_X9_byLot_q2 h8) q_881 k_X9_byLot rfl rv_q2 rfl dX11_times_73 rfl (Nat.le_of_ble_eq_true rfl) ⟨Nat.le_of_ble_eq_true rfl, Nat.le_of_ble_eq_true rfl⟩ ⟨Nat.le_refl _, Nat.le_refl _⟩ (fun H locs hw => ?_)
            refine lv_iload_n hx hb dX11_times_76 rfl (lv_at hl 2 rfl) ?_
            obtain ⟨j9, hj9, hf⟩ := pbS hf
            have wj9 : ∀ (H : Heap) (locs : List Loc) (ls : Array Slot), Wd D A s (cW a ar t x_q0_dials x_q0_spots x_q0_skies x_q0_reports x_q0_count x_q0_chime x_q0_end x_q0_score x_q0_reportCount x_q0_z x_q0_rules x_q0_shades x_q0_facts x_q1_dials x_q1_spots x_q1_skies x_q1_reports x_q1_count x_q1_chime x_q1_end x_q1_score x_q1_reportCount x_q1_z x_q1_rules x_q1_shades x_q1_facts r7.2.1 x_q2_spots x_q2_skies x_q2_reports x_q2_count r7.2.2.1 x_q2_end r7.2.2.2.1 x_q2_reportCount r7.2.2.2.2.1 x_q2_rules r7.2.2.2.2.2.1 r7.2.2.2.2.2.2.1 x_isKept x_marks x_p_first x_p_steps x_p_most x_p_many x_p_fewest x_p_everRight x_p_opening x_p_rows x_p_rowCount x_p_acts x_p_marks x_p_deepest x_p_wanted x_t_length x_t_tape x_t_words x_t_places x_t_at x_t_kinds x_t_wills x_t_starts x_t_code x_t_count x_t_size x_h_sorts x_h_lengths x_h_items x_h_held x_h_things x_h_sizes x_h_bodies x_h_traced x_h_number x_h_spot x_h_parted x_g_count x_g_kinds x_g_wills x_g_starts x_g_code r7.2.2.2.2.2.2.2 x_g_kl x_g_wl x_g_sl x_g_cl x_nr) H locs → lv_has ls 5 [(0, .ref (a 0)), (1, .int v1), (2, .int v2), (3, .int j9), (4, .int v4)] → W p l e (rmz 7 0 0) s m args below meth c H locs 0 0 Q (F0 m 83 ls []) := by
              intro H locs ls hw hl
              refine lv_iinc (v := (v4 + (1 : Int32))) (lv' := [(4, .int (v4 + (1 : Int32))), (0, .ref (a 0)), (1, .int v1), (2, .int v2), (3, .int j9)]) hx hb dX11_times_83 hl (k := 4) rfl rfl (by decide) rfl (fun ls hl => ?_)
              refine lv_goto (tgt := 50) hx hb dX11_times_86 (by decide) ?_
              exact ih hf hw (lv_sub hl [1, 2, 3, 4, 0] rfl) kx
            clear hf
            have hf := hj9
            clear hj9
            refine lv_icmp_lt (tgt := 83) hx hb dX11_times_77 (by decide) (fun hc => ?_) (fun hc => ?_)
            · have hf := ifT hf hc
              subst hf
              exact wj9 _ _ _ hw (lv_sub hl [0, 1, 2, 3, 4] rfl)
            · have hf := ifF hf hc
              refine lv_iinc (v := (v3 + (1 : Int32))) (lv' := [(3, .int (v3 + (1 : Int32))), (0, .ref (a 0)), (1, .int v1), (2, .int v2), (4, .int v4)]) hx hb dX11_times_80 hl (k := 3) rfl rfl (by decide) rfl (fun ls hl => ?_)
              subst hf
              exact wj9 _ _ _ hw (lv_sub hl [1, 2, 3, 0, 4] rfl)
      refine wL1 n ho10 hw (lv_sub hl [2, 3, 4, 1, 0] rfl) (fun H locs ls hw hl => ?_)
      clear wL1 ho10
      refine lv_iload_n hx hb dX11_times_89 rfl (lv_at hl 3 rfl) ?_
      have hf := Option.some.inj hf
      subst hf
      exact hR _ _ _ _ _ _ hw rfl ⟨rfl, rfl⟩ dX11_times_90
    · have hf := ifT hf hc
      refine lv_iconst (v := (-1)) hx hb dX11_times_21 (by decide) ?_
      have hf := Option.some.inj hf
      subst hf
      exact hR _ _ _ _ _ _ hw rfl ⟨rfl, rfl⟩ dX11_times_22
end CW8
