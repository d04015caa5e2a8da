section CW3
variable {l : Launch} {D : va_G} {t : Nat → ClassId} {a : Nat → Nat} {ar : Nat → Nat → Nat} {n : Nat} {x_q0_dials : Nat → Nat → Int32} {x_q0_spots : Nat → Nat → Int32} {x_q0_skies : Nat → Int32} {x_q0_reports : Nat → Nat → Int32} {x_q0_count : Int32} {x_q0_chime : Int32} {x_q0_end : Int32} {x_q0_score : Int32} {x_q0_reportCount : Int32} {x_q0_z : Int32} {x_q0_rules : Nat} {x_q0_shades : Nat → Int32} {x_q0_facts : Nat → Int32} {x_q1_dials : Nat → Nat → Int32} {x_q1_spots : Nat → Nat → Int32} {x_q1_skies : Nat → Int32} {x_q1_reports : Nat → Nat → Int32} {x_q1_count : Int32} {x_q1_chime : Int32} {x_q1_end : Int32} {x_q1_score : Int32} {x_q1_reportCount : Int32} {x_q1_z : Int32} {x_q1_rules : Nat} {x_q1_shades : Nat → Int32} {x_q1_facts : Nat → Int32} {x_q2_dials : Nat → Nat → Int32} {x_q2_spots : Nat → Nat → Int32} {x_q2_skies : Nat → Int32} {x_q2_reports : Nat → Nat → Int32} {x_q2_count : Int32} {x_q2_chime : Int32} {x_q2_end : Int32} {x_q2_score : Int32} {x_q2_reportCount : Int32} {x_q2_z : Int32} {x_q2_rules : Nat} {x_q2_shades : Nat → Int32} {x_q2_facts : Nat → Int32} {x_isKept : Int32} {x_marks : Nat → Int32} {x_p_first : Nat → Int32} {x_p_steps : Int32} {x_p_most : Int32} {x_p_many : Int32} {x_p_fewest : Int32} {x_p_everRight : Int32} {x_p_opening : Int32} {x_p_rows : Nat → Nat → Int32} {x_p_rowCount : Int32} {x_p_acts : Nat → Int32} {x_p_marks : Nat → Nat → Int32} {x_p_deepest : Int32} {x_p_wanted : Int32} {x_t_length : Int32} {x_t_tape : Nat → Int32} {x_t_words : Nat → Int32} {x_t_places : Nat → Int32} {x_t_at : Int32} {x_t_kinds : Nat → Int32} {x_t_wills : Nat → Int32} {x_t_starts : Nat → Int32} {x_t_code : Nat → Int32} {x_t_count : Int32} {x_t_size : Int32} {x_h_sorts : Nat → Int32} {x_h_lengths : Nat → Int32} {x_h_items : Nat → Nat → Int32} {x_h_held : Nat → Int32} {x_h_things : Nat → Int32} {x_h_sizes : Nat → Int32} {x_h_bodies : Nat → Int32} {x_h_traced : Int32} {x_h_number : Int32} {x_h_spot : Int32} {x_h_parted : Int32} {x_g_count : Nat → Int32} {x_g_kinds : Nat → Nat → Int32} {x_g_wills : Nat → Nat → Int32} {x_g_starts : Nat → Nat → Int32} {x_g_code : Nat → Nat → Int32} {x_g_stack : Nat → Nat → Int32} {x_g_kl : Nat → Nat} {x_g_wl : Nat → Nat} {x_g_sl : Nat → Nat} {x_g_cl : Nat → Nat} {x_nr : Nat}
theorem dX11_spotOf_0 : decode cX11_spotOf 0 = .ok (.iload_n 1, 1) := by decide +kernel
theorem dX11_spotOf_1 : decode cX11_spotOf 1 = .ok (.invokestatic 78, 3) := by decide +kernel
theorem dX11_spotOf_4 : decode cX11_spotOf 4 = .ok (.ifCond .eq 12, 3) := by decide +kernel
theorem dX11_spotOf_7 : decode cX11_spotOf 7 = .ok (.iload_n 2, 1) := by decide +kernel
theorem dX11_spotOf_8 : decode cX11_spotOf 8 = .ok (.iconst 0, 1) := by decide +kernel
theorem dX11_spotOf_9 : decode cX11_spotOf 9 = .ok (.iconst 2, 1) := by decide +kernel
theorem dX11_spotOf_10 : decode cX11_spotOf 10 = .ok (.invokestatic 74, 3) := by decide +kernel
theorem dX11_spotOf_13 : decode cX11_spotOf 13 = .ok (.ifCond .ne 5, 3) := by decide +kernel
theorem dX11_spotOf_16 : decode cX11_spotOf 16 = .ok (.iconst (-1), 1) := by decide +kernel
theorem dX11_spotOf_17 : decode cX11_spotOf 17 = .ok (.ireturn, 1) := by decide +kernel
theorem dX11_spotOf_18 : decode cX11_spotOf 18 = .ok (.iload_n 2, 1) := by decide +kernel
theorem dX11_spotOf_19 : decode cX11_spotOf 19 = .ok (.iconst 1, 1) := by decide +kernel
theorem dX11_spotOf_20 : decode cX11_spotOf 20 = .ok (.if_icmp .gt 15, 3) := by decide +kernel
theorem dX11_spotOf_23 : decode cX11_spotOf 23 = .ok (.aload_n 0, 1) := by decide +kernel
theorem dX11_spotOf_24 : decode cX11_spotOf 24 = .ok (.getfield 55, 3) := by decide +kernel
theorem dX11_spotOf_27 : decode cX11_spotOf 27 = .ok (.getfield 119, 3) := by decide +kernel
theorem dX11_spotOf_30 : decode cX11_spotOf 30 = .ok (.iload_n 1, 1) := by decide +kernel
theorem dX11_spotOf_31 : decode cX11_spotOf 31 = .ok (.aaload, 1) := by decide +kernel
theorem dX11_spotOf_32 : decode cX11_spotOf 32 = .ok (.iload_n 2, 1) := by decide +kernel
theorem dX11_spotOf_33 : decode cX11_spotOf 33 = .ok (.iaload, 1) := by decide +kernel
theorem dX11_spotOf_34 : decode cX11_spotOf 34 = .ok (.ireturn, 1) := by decide +kernel
theorem dX11_spotOf_35 : decode cX11_spotOf 35 = .ok (.aload_n 0, 1) := by decide +kernel
theorem dX11_spotOf_36 : decode cX11_spotOf 36 = .ok (.getfield 55, 3) := by decide +kernel
theorem dX11_spotOf_39 : decode cX11_spotOf 39 = .ok (.invokevirtual 122, 3) := by decide +kernel
theorem dX11_spotOf_42 : decode cX11_spotOf 42 = .ok (.aload_n 0, 1) := by decide +kernel
theorem dX11_spotOf_43 : decode cX11_spotOf 43 = .ok (.getfield 55, 3) := by decide +kernel
theorem dX11_spotOf_46 : decode cX11_spotOf 46 = .ok (.getfield 125, 3) := by decide +kernel
theorem dX11_spotOf_49 : decode cX11_spotOf 49 = .ok (.iload_n 1, 1) := by decide +kernel
theorem dX11_spotOf_50 : decode cX11_spotOf 50 = .ok (.iaload, 1) := by decide +kernel
theorem dX11_spotOf_51 : decode cX11_spotOf 51 = .ok (.ireturn, 1) := by decide +kernel
theorem k_X11_spotOf : MV yX11_spotOf cX11_spotOf 3 (some .int) 2 := ⟨q_484, q_485, q_1, q_486, ⟨by decide, by decide, by decide +kernel⟩⟩
theorem c_X11_spotOf {v1 : Int32} {v2 : Int32} {res : Int32 × (Nat → Int32)} (hf : X11_spotOf n x_q0_dials x_q0_spots x_q0_skies x_q0_count x_q0_chime x_q0_shades v1 v2 = some res) : MC l E0 D t yX11_spotOf cX11_spotOf 3 (some .int) 5 0 0 [.ref (a 0), .int v1, .int v2] (cW a ar t x_q0_dials x_q0_spots x_q0_skies x_q0_reports x_q0_count x_q0_chime x_q0_end x_q0_score x_q0_reportCount x_q0_z x_q0_rules x_q0_shades x_q0_facts x_q1_dials x_q1_spots x_q1_skies x_q1_reports x_q1_count x_q1_chime x_q1_end x_q1_score x_q1_reportCount x_q1_z x_q1_rules x_q1_shades x_q1_facts x_q2_dials x_q2_spots x_q2_skies x_q2_reports x_q2_count x_q2_chime x_q2_end x_q2_score x_q2_reportCount x_q2_z x_q2_rules x_q2_shades x_q2_facts x_isKept x_marks x_p_first x_p_steps x_p_most x_p_many x_p_fewest x_p_everRight x_p_opening x_p_rows x_p_rowCount x_p_acts x_p_marks x_p_deepest x_p_wanted x_t_length x_t_tape x_t_words x_t_places x_t_at x_t_kinds x_t_wills x_t_starts x_t_code x_t_count x_t_size x_h_sorts x_h_lengths x_h_items x_h_held x_h_things x_h_sizes x_h_bodies x_h_traced x_h_number x_h_spot x_h_parted x_g_count x_g_kinds x_g_wills x_g_starts x_g_code x_g_stack x_g_kl x_g_wl x_g_sl x_g_cl x_nr) (Qi res.1 (cW a ar t x_q0_dials x_q0_spots x_q0_skies x_q0_reports x_q0_count x_q0_chime x_q0_end x_q0_score x_q0_reportCount x_q0_z x_q0_rules res.2 x_q0_facts x_q1_dials x_q1_spots x_q1_skies x_q1_reports x_q1_count x_q1_chime x_q1_end x_q1_score x_q1_reportCount x_q1_z x_q1_rules x_q1_shades x_q1_facts x_q2_dials x_q2_spots x_q2_skies x_q2_reports x_q2_count x_q2_chime x_q2_end x_q2_score x_q2_reportCount x_q2_z x_q2_rules x_q2_shades x_q2_facts x_isKept x_marks x_p_first x_p_steps x_p_most x_p_many x_p_fewest x_p_everRight x_p_opening x_p_rows x_p_rowCount x_p_acts x_p_marks x_p_deepest x_p_wanted x_t_length x_t_tape x_t_words x_t_places x_t_at x_t_kinds x_t_wills x_t_starts x_t_code x_t_count x_t_size x_h_sorts x_h_lengths x_h_items x_h_held x_h_things x_h_sizes x_h_bodies x_h_traced x_h_number x_h_spot x_h_parted x_g_count x_g_kinds x_g_wills x_g_starts x_g_code x_g_stack x_g_kl x_g_wl x_g_sl x_g_cl x_nr)) := by
  unfold X11_spotOf at hf
  refine MC.ofI pn_X11 (Nat.le_of_ble_eq_true rfl) ?_
  intro p e s m args below meth c A Q ls cx hR hw hl
  have hx := cx.1
  have hb := cx.2.1
  have hl : lv_has ls 3 [(0, .ref (a 0)), (1, .int v1), (2, .int v2)] := hl
  refine lv_iload_n hx hb dX11_spotOf_0 rfl (lv_at hl 1 rfl) ?_
  refine calSi cx hw hl.1 (c_X11_isSpot rfl) q_353 k_X11_isSpot rfl dX11_spotOf_1 rfl (Nat.le_of_ble_eq_true rfl) ⟨Nat.le_of_ble_eq_true rfl, Nat.le_of_ble_eq_true rfl⟩ ⟨Nat.le_refl _, Nat.le_refl _⟩ (fun H locs hw => ?_)
  refine lv_if_eq (tgt := 16) hx hb dX11_spotOf_4 (by decide) (fun hc => ?_) (fun hc => ?_)
  · have hf := ifT hf hc
    refine lv_iconst (v := (-1)) hx hb dX11_spotOf_16 (by decide) ?_
    have hf := Option.some.inj hf
    subst hf
    exact hR _ _ _ _ _ _ hw rfl ⟨rfl, rfl⟩ dX11_spotOf_17
  · have hf := ifF hf hc
    refine lv_iload_n hx hb dX11_spotOf_7 rfl (lv_at hl 2 rfl) ?_
    refine lv_iconst (v := 0) hx hb dX11_spotOf_8 (by decide) ?_
    refine lv_iconst (v := 2) hx hb dX11_spotOf_9 (by decide) ?_
    refine calSi cx hw hl.1 (c_X11_isIn rfl) q_350 k_X11_isIn rfl dX11_spotOf_10 rfl (Nat.le_of_ble_eq_true rfl) ⟨Nat.le_of_ble_eq_true rfl, Nat.le_of_ble_eq_true rfl⟩ ⟨Nat.le_refl _, Nat.le_refl _⟩ (fun H locs hw => ?_)
    refine lv_if_ne (tgt := 18) hx hb dX11_spotOf_13 (by decide) (fun hc => ?_) (fun hc => ?_)
    · have hf := ifF hf hc
      refine lv_iload_n hx hb dX11_spotOf_18 rfl (lv_at hl 2 rfl) ?_
      refine lv_iconst (v := 1) hx hb dX11_spotOf_19 (by decide) ?_
      refine lv_icmp_gt (tgt := 35) hx hb dX11_spotOf_20 (by decide) (fun hc => ?_) (fun hc => ?_)
      · have hf := ifT hf hc
        refine lv_aload_n hx hb dX11_spotOf_35 rfl (lv_at hl 0 rfl) ?_
        refine cg_X11_55_ds cx hw dX11_spotOf_36 ?_
        obtain ⟨r1, h2, hf⟩ := bnS hf
        refine calVv cx hw hl.1 (c_X9_measureShades_q0 h2) q_487 k_X9_measureShades rfl rv_q0 rfl dX11_spotOf_39 rfl (Nat.le_of_ble_eq_true rfl) ⟨Nat.le_of_ble_eq_true rfl, Nat.le_of_ble_eq_true rfl⟩ ⟨Nat.le_refl _, Nat.le_refl _⟩ (fun H locs hw => ?_)
        refine lv_aload_n hx hb dX11_spotOf_42 rfl (lv_at hl 0 rfl) ?_
        refine cg_X11_55_ds cx hw dX11_spotOf_43 ?_
        refine cg_X11_125_q0 cx hw dX11_spotOf_46 ?_
        refine lv_iload_n hx hb dX11_spotOf_49 rfl (lv_at hl 1 rfl) ?_
        obtain ⟨h3, hf⟩ := ckS hf
        refine cl_q0_shades (j := v1.toNatClampNeg) cx hw (ib_in h3) rfl dX11_spotOf_50 ?_
        have hf := Option.some.inj hf
        subst hf
        exact hR _ _ _ _ _ _ hw rfl ⟨rfl, rfl⟩ dX11_spotOf_51
      · have hf := ifF hf hc
        refine lv_aload_n hx hb dX11_spotOf_23 rfl (lv_at hl 0 rfl) ?_
        refine cg_X11_55_ds cx hw dX11_spotOf_24 ?_
        refine cg_X11_119_q0 cx hw dX11_spotOf_27 ?_
        refine lv_iload_n hx hb dX11_spotOf_30 rfl (lv_at hl 1 rfl) ?_
        obtain ⟨h4, hf⟩ := ckS hf
        refine co_q0_spots (j := v1.toNatClampNeg) cx hw (ib_in h4) rfl dX11_spotOf_31 ?_
        refine lv_iload_n hx hb dX11_spotOf_32 rfl (lv_at hl 2 rfl) ?_
        obtain ⟨h5, hf⟩ := ckS hf
        refine cm_q0_spots (j := v2.toNatClampNeg) cx hw (ib_lt h4) (ib_in h5) rfl dX11_spotOf_33 ?_
        have hf := Option.some.inj hf
        subst hf
        exact hR _ _ _ _ _ _ hw rfl ⟨rfl, rfl⟩ dX11_spotOf_34
    · have hf := ifT hf hc
      refine lv_iconst (v := (-1)) hx hb dX11_spotOf_16 (by decide) ?_
      have hf := Option.some.inj hf
      subst hf
      exact hR _ _ _ _ _ _ hw rfl ⟨rfl, rfl⟩ dX11_spotOf_17
theorem dX11_ends_0 : decode cX11_ends 0 = .ok (.iload_n 1, 1) := by decide +kernel
theorem dX11_ends_1 : decode cX11_ends 1 = .ok (.iconst 1, 1) := by decide +kernel
theorem dX11_ends_2 : decode cX11_ends 2 = .ok (.bipush 16, 2) := by decide +kernel
theorem dX11_ends_4 : decode cX11_ends 4 = .ok (.invokestatic 74, 3) := by decide +kernel
theorem dX11_ends_7 : decode cX11_ends 7 = .ok (.ifCond .ne 5, 3) := by decide +kernel
theorem dX11_ends_10 : decode cX11_ends 10 = .ok (.iconst (-1), 1) := by decide +kernel
theorem dX11_ends_11 : decode cX11_ends 11 = .ok (.ireturn, 1) := by decide +kernel
theorem dX11_ends_12 : decode cX11_ends 12 = .ok (.iload_n 1, 1) := by decide +kernel
theorem dX11_ends_13 : decode cX11_ends 13 = .ok (.aload_n 0, 1) := by decide +kernel
theorem dX11_ends_14 : decode cX11_ends 14 = .ok (.getfield 55, 3) := by decide +kernel
theorem dX11_ends_17 : decode cX11_ends 17 = .ok (.getfield 128, 3) := by decide +kernel
theorem dX11_ends_20 : decode cX11_ends 20 = .ok (.if_icmp .ge 6, 3) := by decide +kernel
theorem dX11_ends_23 : decode cX11_ends 23 = .ok (.bipush (-4), 2) := by decide +kernel
theorem dX11_ends_25 : decode cX11_ends 25 = .ok (.ireturn, 1) := by decide +kernel
theorem dX11_ends_26 : decode cX11_ends 26 = .ok (.aload_n 0, 1) := by decide +kernel
theorem dX11_ends_27 : decode cX11_ends 27 = .ok (.getfield 55, 3) := by decide +kernel
theorem dX11_ends_30 : decode cX11_ends 30 = .ok (.getfield 131, 3) := by decide +kernel
theorem dX11_ends_33 : decode cX11_ends 33 = .ok (.istore_n 2, 1) := by decide +kernel
theorem dX11_ends_34 : decode cX11_ends 34 = .ok (.aload_n 0, 1) := by decide +kernel
theorem dX11_ends_35 : decode cX11_ends 35 = .ok (.getfield 55, 3) := by decide +kernel
theorem dX11_ends_38 : decode cX11_ends 38 = .ok (.iload_n 1, 1) := by decide +kernel
theorem dX11_ends_39 : decode cX11_ends 39 = .ok (.putfield 131, 3) := by decide +kernel
theorem dX11_ends_42 : decode cX11_ends 42 = .ok (.iload_n 2, 1) := by decide +kernel
theorem dX11_ends_43 : decode cX11_ends 43 = .ok (.ireturn, 1) := by decide +kernel
theorem k_X11_ends : MV yX11_ends cX11_ends 3 (some .int) 1 := ⟨q_489, q_490, q_1, q_491, ⟨by decide, by decide, by decide +kernel⟩⟩
theorem c_X11_ends {v1 : Int32} {res : Int32 × Int32} (hf : X11_ends x_q0_chime x_q0_end v1 = res) : MC l E0 D t yX11_ends cX11_ends 3 (some .int) 2 0 0 [.ref (a 0), .int v1] (cW a ar t x_q0_dials x_q0_spots x_q0_skies x_q0_reports x_q0_count x_q0_chime x_q0_end x_q0_score x_q0_reportCount x_q0_z x_q0_rules x_q0_shades x_q0_facts x_q1_dials x_q1_spots x_q1_skies x_q1_reports x_q1_count x_q1_chime x_q1_end x_q1_score x_q1_reportCount x_q1_z x_q1_rules x_q1_shades x_q1_facts x_q2_dials x_q2_spots x_q2_skies x_q2_reports x_q2_count x_q2_chime x_q2_end x_q2_score x_q2_reportCount x_q2_z x_q2_rules x_q2_shades x_q2_facts x_isKept x_marks x_p_first x_p_steps x_p_most x_p_many x_p_fewest x_p_everRight x_p_opening x_p_rows x_p_rowCount x_p_acts x_p_marks x_p_deepest x_p_wanted x_t_length x_t_tape x_t_words x_t_places x_t_at x_t_kinds x_t_wills x_t_starts x_t_code x_t_count x_t_size x_h_sorts x_h_lengths x_h_items x_h_held x_h_things x_h_sizes x_h_bodies x_h_traced x_h_number x_h_spot x_h_parted x_g_count x_g_kinds x_g_wills x_g_starts x_g_code x_g_stack x_g_kl x_g_wl x_g_sl x_g_cl x_nr) (Qi res.1 (cW a ar t x_q0_dials x_q0_spots x_q0_skies x_q0_reports x_q0_count x_q0_chime res.2 x_q0_score x_q0_reportCount x_q0_z x_q0_rules x_q0_shades x_q0_facts x_q1_dials x_q1_spots x_q1_skies x_q1_reports x_q1_count x_q1_chime x_q1_end x_q1_score x_q1_reportCount x_q1_z x_q1_rules x_q1_shades x_q1_facts x_q2_dials x_q2_spots x_q2_skies x_q2_reports x_q2_count x_q2_chime x_q2_end x_q2_score x_q2_reportCount x_q2_z x_q2_rules x_q2_shades x_q2_facts x_isKept x_marks x_p_first x_p_steps x_p_most x_p_many x_p_fewest x_p_everRight x_p_opening x_p_rows x_p_rowCount x_p_acts x_p_marks x_p_deepest x_p_wanted x_t_length x_t_tape x_t_words x_t_places x_t_at x_t_kinds x_t_wills x_t_starts x_t_code x_t_count x_t_size x_h_sorts x_h_lengths x_h_items x_h_held x_h_things x_h_sizes x_h_bodies x_h_traced x_h_number x_h_spot x_h_parted x_g_count x_g_kinds x_g_wills x_g_starts x_g_code x_g_stack x_g_kl x_g_wl x_g_sl x_g_cl x_nr)) := by
  unfold X11_ends at hf
  refine MC.ofI pn_X11 (Nat.le_of_ble_eq_true rfl) ?_
  intro p e s m args below meth c A Q ls cx hR hw hl
  have hx := cx.1
  have hb := cx.2.1
  have hl : lv_has ls 3 [(0, .ref (a 0)), (1, .int v1)] := hl
  refine lv_iload_n hx hb dX11_ends_0 rfl (lv_at hl 1 rfl) ?_
  refine lv_iconst (v := 1) hx hb dX11_ends_1 (by decide) ?_
  refine lv_bipush (v := 16) hx hb dX11_ends_2 (by decide) ?_
  refine calSi cx hw hl.1 (c_X11_isIn rfl) q_350 k_X11_isIn rfl dX11_ends_4 rfl (Nat.le_of_ble_eq_true rfl) ⟨Nat.le_of_ble_eq_true rfl, Nat.le_of_ble_eq_true rfl⟩ ⟨Nat.le_refl _, Nat.le_refl _⟩ (fun H locs hw => ?_)
  refine lv_if_ne (tgt := 12) hx hb dX11_ends_7 (by decide) (fun hc => ?_) (fun hc => ?_)
  · have hf := ifF hf hc
    refine lv_iload_n hx hb dX11_ends_12 rfl (lv_at hl 1 rfl) ?_
    refine lv_aload_n hx hb dX11_ends_13 rfl (lv_at hl 0 rfl) ?_
    refine cg_X11_55_ds cx hw dX11_ends_14 ?_
    refine cg_X11_128_q0 cx hw dX11_ends_17 ?_
    refine lv_icmp_ge (tgt := 26) hx hb dX11_ends_20 (by decide) (fun hc => ?_) (fun hc => ?_)
    · have hf := ifT hf hc
      refine lv_aload_n hx hb dX11_ends_26 rfl (lv_at hl 0 rfl) ?_
      refine cg_X11_55_ds cx hw dX11_ends_27 ?_
      refine cg_X11_131_q0 cx hw dX11_ends_30 ?_
      refine lv_istore_n (lv' := [(2, .int x_q0_end), (0, .ref (a 0)), (1, .int v1)]) hx hb dX11_ends_33 rfl hl (by decide) rfl (fun ls hl => ?_)
      refine lv_aload_n hx hb dX11_ends_34 rfl (lv_at hl 1 rfl) ?_
      refine cg_X11_55_ds cx hw dX11_ends_35 ?_
      refine lv_iload_n hx hb dX11_ends_38 rfl (lv_at hl 2 rfl) ?_
      refine cp_X11_131_q0 cx hw dX11_ends_39 (fun H locs hw => ?_)
      refine lv_iload_n hx hb dX11_ends_42 rfl (lv_at hl 0 rfl) ?_
      subst hf
      exact hR _ _ _ _ _ _ hw rfl ⟨rfl, rfl⟩ dX11_ends_43
    · have hf := ifF hf hc
      refine lv_bipush (v := (-4)) hx hb dX11_ends_23 (by decide) ?_
      subst hf
      exact hR _ _ _ _ _ _ hw rfl ⟨rfl, rfl⟩ dX11_ends_25
  · have hf := ifT hf hc
    refine lv_iconst (v := (-1)) hx hb dX11_ends_10 (by decide) ?_
    subst hf
    exact hR _ _ _ _ _ _ hw rfl ⟨rfl, rfl⟩ dX11_ends_11
theorem dX11_anew_0 : decode cX11_anew 0 = .ok (.aload_n 0, 1) := by decide +kernel
theorem dX11_anew_1 : decode cX11_anew 1 = .ok (.getfield 55, 3) := by decide +kernel
theorem dX11_anew_4 : decode cX11_anew 4 = .ok (.getfield 128, 3) := by decide +kernel
theorem dX11_anew_7 : decode cX11_anew 7 = .ok (.istore_n 1, 1) := by decide +kernel
theorem dX11_anew_8 : decode cX11_anew 8 = .ok (.aload_n 0, 1) := by decide +kernel
theorem dX11_anew_9 : decode cX11_anew 9 = .ok (.getfield 55, 3) := by decide +kernel
theorem dX11_anew_12 : decode cX11_anew 12 = .ok (.iconst 0, 1) := by decide +kernel
theorem dX11_anew_13 : decode cX11_anew 13 = .ok (.putfield 128, 3) := by decide +kernel
theorem dX11_anew_16 : decode cX11_anew 16 = .ok (.aload_n 0, 1) := by decide +kernel
theorem dX11_anew_17 : decode cX11_anew 17 = .ok (.getfield 55, 3) := by decide +kernel
theorem dX11_anew_20 : decode cX11_anew 20 = .ok (.iconst 0, 1) := by decide +kernel
theorem dX11_anew_21 : decode cX11_anew 21 = .ok (.putfield 134, 3) := by decide +kernel
theorem dX11_anew_24 : decode cX11_anew 24 = .ok (.iconst 0, 1) := by decide +kernel
theorem dX11_anew_25 : decode cX11_anew 25 = .ok (.istore_n 2, 1) := by decide +kernel
theorem dX11_anew_26 : decode cX11_anew 26 = .ok (.iload_n 2, 1) := by decide +kernel
theorem dX11_anew_27 : decode cX11_anew 27 = .ok (.aload_n 0, 1) := by decide +kernel
theorem dX11_anew_28 : decode cX11_anew 28 = .ok (.getfield 55, 3) := by decide +kernel
theorem dX11_anew_31 : decode cX11_anew 31 = .ok (.getfield 82, 3) := by decide +kernel
theorem dX11_anew_34 : decode cX11_anew 34 = .ok (.if_icmp .ge 21, 3) := by decide +kernel
theorem dX11_anew_37 : decode cX11_anew 37 = .ok (.aload_n 0, 1) := by decide +kernel
theorem dX11_anew_38 : decode cX11_anew 38 = .ok (.getfield 55, 3) := by decide +kernel
theorem dX11_anew_41 : decode cX11_anew 41 = .ok (.getfield 93, 3) := by decide +kernel
theorem dX11_anew_44 : decode cX11_anew 44 = .ok (.iload_n 2, 1) := by decide +kernel
theorem dX11_anew_45 : decode cX11_anew 45 = .ok (.aaload, 1) := by decide +kernel
theorem dX11_anew_46 : decode cX11_anew 46 = .ok (.iconst 4, 1) := by decide +kernel
theorem dX11_anew_47 : decode cX11_anew 47 = .ok (.iconst 0, 1) := by decide +kernel
theorem dX11_anew_48 : decode cX11_anew 48 = .ok (.iastore, 1) := by decide +kernel
theorem dX11_anew_49 : decode cX11_anew 49 = .ok (.iinc 2 1, 3) := by decide +kernel
theorem dX11_anew_52 : decode cX11_anew 52 = .ok (.goto (-26), 3) := by decide +kernel
theorem dX11_anew_55 : decode cX11_anew 55 = .ok (.iload_n 1, 1) := by decide +kernel
theorem dX11_anew_56 : decode cX11_anew 56 = .ok (.ireturn, 1) := by decide +kernel
theorem k_X11_anew : MV yX11_anew cX11_anew 3 (some .int) 0 := ⟨q_493, q_494, q_1, q_495, ⟨by decide, by decide, by decide +kernel⟩⟩
theorem c_X11_anew {res : Int32 × (Nat → Nat → Int32) × Int32 × Int32} (hf : X11_anew n x_q0_dials x_q0_count x_q0_chime = some res) : MC l E0 D t yX11_anew cX11_anew 3 (some .int) 1 0 0 [.ref (a 0)] (cW a ar t x_q0_dials x_q0_spots x_q0_skies x_q0_reports x_q0_count x_q0_chime x_q0_end x_q0_score x_q0_reportCount x_q0_z x_q0_rules x_q0_shades x_q0_facts x_q1_dials x_q1_spots x_q1_skies x_q1_reports x_q1_count x_q1_chime x_q1_end x_q1_score x_q1_reportCount x_q1_z x_q1_rules x_q1_shades x_q1_facts x_q2_dials x_q2_spots x_q2_skies x_q2_reports x_q2_count x_q2_chime x_q2_end x_q2_score x_q2_reportCount x_q2_z x_q2_rules x_q2_shades x_q2_facts x_isKept x_marks x_p_first x_p_steps x_p_most x_p_many x_p_fewest x_p_everRight x_p_opening x_p_rows x_p_rowCount x_p_acts x_p_marks x_p_deepest x_p_wanted x_t_length x_t_tape x_t_words x_t_places x_t_at x_t_kinds x_t_wills x_t_starts x_t_code x_t_count x_t_size x_h_sorts x_h_lengths x_h_items x_h_held x_h_things x_h_sizes x_h_bodies x_h_traced x_h_number x_h_spot x_h_parted x_g_count x_g_kinds x_g_wills x_g_starts x_g_code x_g_stack x_g_kl x_g_wl x_g_sl x_g_cl x_nr) (Qi res.1 (cW a ar t res.2.1 x_q0_spots x_q0_skies x_q0_reports x_q0_count res.2.2.1 x_q0_end res.2.2.2 x_q0_reportCount x_q0_z x_q0_rules x_q0_shades x_q0_facts x_q1_dials x_q1_spots x_q1_skies x_q1_reports x_q1_count x_q1_chime x_q1_end x_q1_score x_q1_reportCount x_q1_z x_q1_rules x_q1_shades x_q1_facts x_q2_dials x_q2_spots x_q2_skies x_q2_reports x_q2_count x_q2_chime x_q2_end x_q2_score x_q2_reportCount x_q2_z x_q2_rules x_q2_shades x_q2_facts x_isKept x_marks x_p_first x_p_steps x_p_most x_p_many x_p_fewest x_p_everRight x_p_opening x_p_rows x_p_rowCount x_p_acts x_p_marks x_p_deepest x_p_wanted x_t_length x_t_tape x_t_words x_t_places x_t_at x_t_kinds x_t_wills x_t_starts x_t_code x_t_count x_t_size x_h_sorts x_h_lengths x_h_items x_h_held x_h_things x_h_sizes x_h_bodies x_h_traced x_h_number x_h_spot x_h_parted x_g_count x_g_kinds x_g_wills x_g_starts x_g_code x_g_stack x_g_kl x_g_wl x_g_sl x_g_cl x_nr)) := by
  unfold X11_anew at hf
  refine MC.ofI pn_X11 (Nat.le_of_ble_eq_true rfl) ?_
  intro p e s m args below meth c A Q ls cx hR hw hl
  have hx := cx.1
  have hb := cx.2.1
  have hl : lv_has ls 3 [(0, .ref (a 0))] := hl
  refine lv_aload_n hx hb dX11_anew_0 rfl (lv_at hl 0 rfl) ?_
  refine cg_X11_55_ds cx hw dX11_anew_1 ?_
  refine cg_X11_128_q0 cx hw dX11_anew_4 ?_
  refine lv_istore_n (lv' := [(1, .int x_q0_chime), (0, .ref (a 0))]) hx hb dX11_anew_7 rfl hl (by decide) rfl (fun ls hl => ?_)
  refine lv_aload_n hx hb dX11_anew_8 rfl (lv_at hl 1 rfl) ?_
  refine cg_X11_55_ds cx hw dX11_anew_9 ?_
  refine lv_iconst (v := 0) hx hb dX11_anew_12 (by decide) ?_
  refine cp_X11_128_q0 cx hw dX11_anew_13 (fun H locs hw => ?_)
  refine lv_aload_n hx hb dX11_anew_16 rfl (lv_at hl 1 rfl) ?_
  refine cg_X11_55_ds cx hw dX11_anew_17 ?_
  refine lv_iconst (v := 0) hx hb dX11_anew_20 (by decide) ?_
  refine cp_X11_134_q0 cx hw dX11_anew_21 (fun H locs hw => ?_)
  refine lv_iconst (v := 0) hx hb dX11_anew_24 (by decide) ?_
  refine lv_istore_n (lv' := [(2, .int (0 : Int32)), (1, .int x_q0_chime), (0, .ref (a 0))]) hx hb dX11_anew_25 rfl hl (by decide) rfl (fun ls hl => ?_)
  obtain ⟨o2, ho2, hf⟩ := bnS hf
  have wL1 : ∀ (k : Nat) {v1 : Int32} {v2 : Int32} {x_q0_dials : Nat → Nat → Int32} {x_q0_chime : Int32} {x_q0_score : Int32} {H : Heap} {locs : List Loc} {ls : Array Slot} {o : Int32 × (Nat → Nat → Int32)}, X11_anew_L1 n x_q0_count k v2 x_q0_dials = some o → Wd D A s (cW a ar t x_q0_dials x_q0_spots x_q0_skies x_q0_reports x_q0_count x_q0_chime x_q0_end x_q0_score x_q0_reportCount x_q0_z x_q0_rules x_q0_shades x_q0_facts x_q1_dials x_q1_spots x_q1_skies x_q1_reports x_q1_count x_q1_chime x_q1_end x_q1_score x_q1_reportCount x_q1_z x_q1_rules x_q1_shades x_q1_facts x_q2_dials x_q2_spots x_q2_skies x_q2_reports x_q2_count x_q2_chime x_q2_end x_q2_score x_q2_reportCount x_q2_z x_q2_rules x_q2_shades x_q2_facts x_isKept x_marks x_p_first x_p_steps x_p_most x_p_many x_p_fewest x_p_everRight x_p_opening x_p_rows x_p_rowCount x_p_acts x_p_marks x_p_deepest x_p_wanted x_t_length x_t_tape x_t_words x_t_places x_t_at x_t_kinds x_t_wills x_t_starts x_t_code x_t_count x_t_size x_h_sorts x_h_lengths x_h_items x_h_held x_h_things x_h_sizes x_h_bodies x_h_traced x_h_number x_h_spot x_h_parted x_g_count x_g_kinds x_g_wills x_g_starts x_g_code x_g_stack x_g_kl x_g_wl x_g_sl x_g_cl x_nr) H locs → lv_has ls 3 [(0, .ref (a 0)), (1, .int v1), (2, .int v2)] → (∀ (H : Heap) (locs : List Loc) (ls : Array Slot), Wd D A s (cW a ar t o.2 x_q0_spots x_q0_skies x_q0_reports x_q0_count x_q0_chime x_q0_end x_q0_score x_q0_reportCount x_q0_z x_q0_rules x_q0_shades x_q0_facts x_q1_dials x_q1_spots x_q1_skies x_q1_reports x_q1_count x_q1_chime x_q1_end x_q1_score x_q1_reportCount x_q1_z x_q1_rules x_q1_shades x_q1_facts x_q2_dials x_q2_spots x_q2_skies x_q2_reports x_q2_count x_q2_chime x_q2_end x_q2_score x_q2_reportCount x_q2_z x_q2_rules x_q2_shades x_q2_facts x_isKept x_marks x_p_first x_p_steps x_p_most x_p_many x_p_fewest x_p_everRight x_p_opening x_p_rows x_p_rowCount x_p_acts x_p_marks x_p_deepest x_p_wanted x_t_length x_t_tape x_t_words x_t_places x_t_at x_t_kinds x_t_wills x_t_starts x_t_code x_t_count x_t_size x_h_sorts x_h_lengths x_h_items x_h_held x_h_things x_h_sizes x_h_bodies x_h_traced x_h_number x_h_spot x_h_parted x_g_count x_g_kinds x_g_wills x_g_starts x_g_code x_g_stack x_g_kl x_g_wl x_g_sl x_g_cl x_nr) H locs → lv_has ls 3 [(0, .ref (a 0)), (1, .int v1), (2, .int o.1)] → W p l e (rmz 1 0 0) s m args below meth c H locs 0 0 Q (F0 m 55 ls [])) → W p l e (rmz 1 0 0) s m args below meth c H locs 0 0 Q (F0 m 26 ls []) := by
    clear hf ho2 hw hl
    intro k
    induction k with
    | zero => intro v1 v2 x_q0_dials x_q0_chime x_q0_score H locs ls o hf hw hl kx; simp [X11_anew_L1] at hf
    | succ k ih =>
      intro v1 v2 x_q0_dials x_q0_chime x_q0_score H locs ls o hf hw hl kx
      rw [X11_anew_L1] at hf
      refine lv_iload_n hx hb dX11_anew_26 rfl (lv_at hl 2 rfl) ?_
      refine lv_aload_n hx hb dX11_anew_27 rfl (lv_at hl 0 rfl) ?_
      refine cg_X11_55_ds cx hw dX11_anew_28 ?_
      refine cg_X11_82_q0 cx hw dX11_anew_31 ?_
      refine lv_icmp_ge (tgt := 55) hx hb dX11_anew_34 (by decide) (fun hc => ?_) (fun hc => ?_)
      · have hf := ifT hf hc
        have hf := Option.some.inj hf
        subst hf
        exact kx _ _ _ hw (lv_sub hl [0, 1, 2] rfl)
      · have hf := ifF hf hc
        refine lv_aload_n hx hb dX11_anew_37 rfl (lv_at hl 0 rfl) ?_
        refine cg_X11_55_ds cx hw dX11_anew_38 ?_
        refine cg_X11_93_q0 cx hw dX11_anew_41 ?_
        refine lv_iload_n hx hb dX11_anew_44 rfl (lv_at hl 2 rfl) ?_
        obtain ⟨h1, hf⟩ := ckS hf
        refine co_q0_dials (j := v2.toNatClampNeg) cx hw (ib_in h1) rfl dX11_anew_45 ?_
        refine lv_iconst (v := 4) hx hb dX11_anew_46 (by decide) ?_
        refine lv_iconst (v := 0) hx hb dX11_anew_47 (by decide) ?_
        refine ct_q0_dials (j := 4) cx hw (ib_lt h1) (ib_in (by decide)) (by decide) dX11_anew_48 (fun H locs hw => ?_)
        refine lv_iinc (v := (v2 + (1 : Int32))) (lv' := [(2, .int (v2 + (1 : Int32))), (0, .ref (a 0)), (1, .int v1)]) hx hb dX11_anew_49 hl (k := 2) rfl rfl (by decide) rfl (fun ls hl => ?_)
        refine lv_goto (tgt := 26) hx hb dX11_anew_52 (by decide) ?_
        exact ih hf hw (lv_sub hl [1, 2, 0] rfl) kx
  refine wL1 n ho2 hw (lv_sub hl [2, 1, 0] rfl) (fun H locs ls hw hl => ?_)
  clear wL1 ho2
  refine lv_iload_n hx hb dX11_anew_55 rfl (lv_at hl 1 rfl) ?_
  have hf := Option.some.inj hf
  subst hf
  exact hR _ _ _ _ _ _ hw rfl ⟨rfl, rfl⟩ dX11_anew_56
theorem dX9_isOver_0 : decode cX9_isOver 0 = .ok (.aload_n 0, 1) := by decide +kernel
theorem dX9_isOver_1 : decode cX9_isOver 1 = .ok (.getfield 62, 3) := by decide +kernel
theorem dX9_isOver_4 : decode cX9_isOver 4 = .ok (.aload_n 0, 1) := by decide +kernel
theorem dX9_isOver_5 : decode cX9_isOver 5 = .ok (.getfield 26, 3) := by decide +kernel
theorem dX9_isOver_8 : decode cX9_isOver 8 = .ok (.if_icmp .lt 7, 3) := by decide +kernel
theorem dX9_isOver_11 : decode cX9_isOver 11 = .ok (.iconst 1, 1) := by decide +kernel
theorem dX9_isOver_12 : decode cX9_isOver 12 = .ok (.goto 4, 3) := by decide +kernel
theorem dX9_isOver_15 : decode cX9_isOver 15 = .ok (.iconst 0, 1) := by decide +kernel
theorem dX9_isOver_16 : decode cX9_isOver 16 = .ok (.ireturn, 1) := by decide +kernel
theorem k_X9_isOver : MV yX9_isOver cX9_isOver 1 (some .boolean) 0 := ⟨q_501, q_502, q_11, q_503, ⟨by decide, by decide, by decide +kernel⟩⟩
theorem c_X9_isOver_q0 {res : Int32} (hf : X9_isOver_q0 x_q0_chime x_q0_end = res) : MC l E0 D t yX9_isOver cX9_isOver 1 (some .boolean) 1 0 0 [.ref (a 1)] (cW a ar t x_q0_dials x_q0_spots x_q0_skies x_q0_reports x_q0_count x_q0_chime x_q0_end x_q0_score x_q0_reportCount x_q0_z x_q0_rules x_q0_shades x_q0_facts x_q1_dials x_q1_spots x_q1_skies x_q1_reports x_q1_count x_q1_chime x_q1_end x_q1_score x_q1_reportCount x_q1_z x_q1_rules x_q1_shades x_q1_facts x_q2_dials x_q2_spots x_q2_skies x_q2_reports x_q2_count x_q2_chime x_q2_end x_q2_score x_q2_reportCount x_q2_z x_q2_rules x_q2_shades x_q2_facts x_isKept x_marks x_p_first x_p_steps x_p_most x_p_many x_p_fewest x_p_everRight x_p_opening x_p_rows x_p_rowCount x_p_acts x_p_marks x_p_deepest x_p_wanted x_t_length x_t_tape x_t_words x_t_places x_t_at x_t_kinds x_t_wills x_t_starts x_t_code x_t_count x_t_size x_h_sorts x_h_lengths x_h_items x_h_held x_h_things x_h_sizes x_h_bodies x_h_traced x_h_number x_h_spot x_h_parted x_g_count x_g_kinds x_g_wills x_g_starts x_g_code x_g_stack x_g_kl x_g_wl x_g_sl x_g_cl x_nr) (Qi res (cW a ar t x_q0_dials x_q0_spots x_q0_skies x_q0_reports x_q0_count x_q0_chime x_q0_end x_q0_score x_q0_reportCount x_q0_z x_q0_rules x_q0_shades x_q0_facts x_q1_dials x_q1_spots x_q1_skies x_q1_reports x_q1_count x_q1_chime x_q1_end x_q1_score x_q1_reportCount x_q1_z x_q1_rules x_q1_shades x_q1_facts x_q2_dials x_q2_spots x_q2_skies x_q2_reports x_q2_count x_q2_chime x_q2_end x_q2_score x_q2_reportCount x_q2_z x_q2_rules x_q2_shades x_q2_facts x_isKept x_marks x_p_first x_p_steps x_p_most x_p_many x_p_fewest x_p_everRight x_p_opening x_p_rows x_p_rowCount x_p_acts x_p_marks x_p_deepest x_p_wanted x_t_length x_t_tape x_t_words x_t_places x_t_at x_t_kinds x_t_wills x_t_starts x_t_code x_t_count x_t_size x_h_sorts x_h_lengths x_h_items x_h_held x_h_things x_h_sizes x_h_bodies x_h_traced x_h_number x_h_spot x_h_parted x_g_count x_g_kinds x_g_wills x_g_starts x_g_code x_g_stack x_g_kl x_g_wl x_g_sl x_g_cl x_nr)) := by
  unfold X9_isOver_q0 at hf
  refine MC.ofI pn_X9 (Nat.le_of_ble_eq_true rfl) ?_
  intro p e s m args below meth c A Q ls cx hR hw hl
  have hx := cx.1
  have hb := cx.2.1
  have hl : lv_has ls 1 [(0, .ref (a 1))] := hl
  refine lv_aload_n hx hb dX9_isOver_0 rfl (lv_at hl 0 rfl) ?_
  refine cg_X9_62_q0 cx hw dX9_isOver_1 ?_
  refine lv_aload_n hx hb dX9_isOver_4 rfl (lv_at hl 0 rfl) ?_
  refine cg_X9_26_q0 cx hw dX9_isOver_5 ?_
  refine lv_icmp_lt (tgt := 15) hx hb dX9_isOver_8 (by decide) (fun hc => ?_) (fun hc => ?_)
  · have hf := ifT hf hc
    refine lv_iconst (v := 0) hx hb dX9_isOver_15 (by decide) ?_
    subst hf
    exact hR _ _ _ _ _ _ hw rfl ⟨rfl, rfl⟩ dX9_isOver_16
  · have hf := ifF hf hc
    refine lv_iconst (v := 1) hx hb dX9_isOver_11 (by decide) ?_
    refine lv_goto (tgt := 16) hx hb dX9_isOver_12 (by decide) ?_
    subst hf
    exact hR _ _ _ _ _ _ hw rfl ⟨rfl, rfl⟩ dX9_isOver_16
theorem b_X9_isOver_q0 (x_q0_chime : Int32) (x_q0_end : Int32) : X9_isOver_q0 x_q0_chime x_q0_end = 0 ∨ X9_isOver_q0 x_q0_chime x_q0_end = 1 := by unfold X9_isOver_q0; repeat (first | exact Or.inl rfl | exact Or.inr rfl | split)
theorem dX9_rightSet_0 : decode cX9_rightSet 0 = .ok (.iconst 0, 1) := by decide +kernel
theorem dX9_rightSet_1 : decode cX9_rightSet 1 = .ok (.istore_n 1, 1) := by decide +kernel
theorem dX9_rightSet_2 : decode cX9_rightSet 2 = .ok (.iconst 0, 1) := by decide +kernel
theorem dX9_rightSet_3 : decode cX9_rightSet 3 = .ok (.istore_n 2, 1) := by decide +kernel
theorem dX9_rightSet_4 : decode cX9_rightSet 4 = .ok (.iload_n 2, 1) := by decide +kernel
theorem dX9_rightSet_5 : decode cX9_rightSet 5 = .ok (.aload_n 0, 1) := by decide +kernel
theorem dX9_rightSet_6 : decode cX9_rightSet 6 = .ok (.getfield 59, 3) := by decide +kernel
theorem dX9_rightSet_9 : decode cX9_rightSet 9 = .ok (.if_icmp .ge 23, 3) := by decide +kernel
theorem dX9_rightSet_12 : decode cX9_rightSet 12 = .ok (.aload_n 0, 1) := by decide +kernel
theorem dX9_rightSet_13 : decode cX9_rightSet 13 = .ok (.iload_n 2, 1) := by decide +kernel
theorem dX9_rightSet_14 : decode cX9_rightSet 14 = .ok (.invokevirtual 71, 3) := by decide +kernel
theorem dX9_rightSet_17 : decode cX9_rightSet 17 = .ok (.ifCond .eq 9, 3) := by decide +kernel
theorem dX9_rightSet_20 : decode cX9_rightSet 20 = .ok (.iload_n 1, 1) := by decide +kernel
theorem dX9_rightSet_21 : decode cX9_rightSet 21 = .ok (.iconst 1, 1) := by decide +kernel
theorem dX9_rightSet_22 : decode cX9_rightSet 22 = .ok (.iload_n 2, 1) := by decide +kernel
theorem dX9_rightSet_23 : decode cX9_rightSet 23 = .ok (.ishl, 1) := by decide +kernel
theorem dX9_rightSet_24 : decode cX9_rightSet 24 = .ok (.ior, 1) := by decide +kernel
theorem dX9_rightSet_25 : decode cX9_rightSet 25 = .ok (.istore_n 1, 1) := by decide +kernel
theorem dX9_rightSet_26 : decode cX9_rightSet 26 = .ok (.iinc 2 1, 3) := by decide +kernel
theorem dX9_rightSet_29 : decode cX9_rightSet 29 = .ok (.goto (-25), 3) := by decide +kernel
theorem dX9_rightSet_32 : decode cX9_rightSet 32 = .ok (.iload_n 1, 1) := by decide +kernel
theorem dX9_rightSet_33 : decode cX9_rightSet 33 = .ok (.ireturn, 1) := by decide +kernel
theorem k_X9_rightSet : MV yX9_rightSet cX9_rightSet 3 (some .int) 0 := ⟨q_505, q_506, q_11, q_507, ⟨by decide, by decide, by decide +kernel⟩⟩
theorem c_X9_rightSet_q0 {res : Int32} (hf : X9_rightSet_q0 n x_q0_dials x_q0_count = some res) : MC l E0 D t yX9_rightSet cX9_rightSet 3 (some .int) 2 0 0 [.ref (a 1)] (cW a ar t x_q0_dials x_q0_spots x_q0_skies x_q0_reports x_q0_count x_q0_chime x_q0_end x_q0_score x_q0_reportCount x_q0_z x_q0_rules x_q0_shades x_q0_facts x_q1_dials x_q1_spots x_q1_skies x_q1_reports x_q1_count x_q1_chime x_q1_end x_q1_score x_q1_reportCount x_q1_z x_q1_rules x_q1_shades x_q1_facts x_q2_dials x_q2_spots x_q2_skies x_q2_reports x_q2_count x_q2_chime x_q2_end x_q2_score x_q2_reportCount x_q2_z x_q2_rules x_q2_shades x_q2_facts x_isKept x_marks x_p_first x_p_steps x_p_most x_p_many x_p_fewest x_p_everRight x_p_opening x_p_rows x_p_rowCount x_p_acts x_p_marks x_p_deepest x_p_wanted x_t_length x_t_tape x_t_words x_t_places x_t_at x_t_kinds x_t_wills x_t_starts x_t_code x_t_count x_t_size x_h_sorts x_h_lengths x_h_items x_h_held x_h_things x_h_sizes x_h_bodies x_h_traced x_h_number x_h_spot x_h_parted x_g_count x_g_kinds x_g_wills x_g_starts x_g_code x_g_stack x_g_kl x_g_wl x_g_sl x_g_cl x_nr) (Qi res (cW a ar t x_q0_dials x_q0_spots x_q0_skies x_q0_reports x_q0_count x_q0_chime x_q0_end x_q0_score x_q0_reportCount x_q0_z x_q0_rules x_q0_shades x_q0_facts x_q1_dials x_q1_spots x_q1_skies x_q1_reports x_q1_count x_q1_chime x_q1_end x_q1_score x_q1_reportCount x_q1_z x_q1_rules x_q1_shades x_q1_facts x_q2_dials x_q2_spots x_q2_skies x_q2_reports x_q2_count x_q2_chime x_q2_end x_q2_score x_q2_reportCount x_q2_z x_q2_rules x_q2_shades x_q2_facts x_isKept x_marks x_p_first x_p_steps x_p_most x_p_many x_p_fewest x_p_everRight x_p_opening x_p_rows x_p_rowCount x_p_acts x_p_marks x_p_deepest x_p_wanted x_t_length x_t_tape x_t_words x_t_places x_t_at x_t_kinds x_t_wills x_t_starts x_t_code x_t_count x_t_size x_h_sorts x_h_lengths x_h_items x_h_held x_h_things x_h_sizes x_h_bodies x_h_traced x_h_number x_h_spot x_h_parted x_g_count x_g_kinds x_g_wills x_g_starts x_g_code x_g_stack x_g_kl x_g_wl x_g_sl x_g_cl x_nr)) := by
  unfold X9_rightSet_q0 at hf
  refine MC.ofI pn_X9 (Nat.le_of_ble_eq_true rfl) ?_
  intro p e s m args below meth c A Q ls cx hR hw hl
  have hx := cx.1
  have hb := cx.2.1
  have hl : lv_has ls 3 [(0, .ref (a 1))] := hl
  refine lv_iconst (v := 0) hx hb dX9_rightSet_0 (by decide) ?_
  refine lv_istore_n (lv' := [(1, .int (0 : Int32)), (0, .ref (a 1))]) hx hb dX9_rightSet_1 rfl hl (by decide) rfl (fun ls hl => ?_)
  refine lv_iconst (v := 0) hx hb dX9_rightSet_2 (by decide) ?_
  refine lv_istore_n (lv' := [(2, .int (0 : Int32)), (1, .int (0 : Int32)), (0, .ref (a 1))]) hx hb dX9_rightSet_3 rfl hl (by decide) rfl (fun ls hl => ?_)
  obtain ⟨o4, ho4, hf⟩ := bnS hf
  have wL1 : ∀ (k : Nat) {v1 : Int32} {v2 : Int32} {H : Heap} {locs : List Loc} {ls : Array Slot} {o : Int32 × Int32}, X9_rightSet_q0_L1 n x_q0_dials x_q0_count k v1 v2 = some o → Wd D A s (cW a ar t x_q0_dials x_q0_spots x_q0_skies x_q0_reports x_q0_count x_q0_chime x_q0_end x_q0_score x_q0_reportCount x_q0_z x_q0_rules x_q0_shades x_q0_facts x_q1_dials x_q1_spots x_q1_skies x_q1_reports x_q1_count x_q1_chime x_q1_end x_q1_score x_q1_reportCount x_q1_z x_q1_rules x_q1_shades x_q1_facts x_q2_dials x_q2_spots x_q2_skies x_q2_reports x_q2_count x_q2_chime x_q2_end x_q2_score x_q2_reportCount x_q2_z x_q2_rules x_q2_shades x_q2_facts x_isKept x_marks x_p_first x_p_steps x_p_most x_p_many x_p_fewest x_p_everRight x_p_opening x_p_rows x_p_rowCount x_p_acts x_p_marks x_p_deepest x_p_wanted x_t_length x_t_tape x_t_words x_t_places x_t_at x_t_kinds x_t_wills x_t_starts x_t_code x_t_count x_t_size x_h_sorts x_h_lengths x_h_items x_h_held x_h_things x_h_sizes x_h_bodies x_h_traced x_h_number x_h_spot x_h_parted x_g_count x_g_kinds x_g_wills x_g_starts x_g_code x_g_stack x_g_kl x_g_wl x_g_sl x_g_cl x_nr) H locs → lv_has ls 3 [(0, .ref (a 1)), (1, .int v1), (2, .int v2)] → (∀ (H : Heap) (locs : List Loc) (ls : Array Slot), Wd D A s (cW a ar t x_q0_dials x_q0_spots x_q0_skies x_q0_reports x_q0_count x_q0_chime x_q0_end x_q0_score x_q0_reportCount x_q0_z x_q0_rules x_q0_shades x_q0_facts x_q1_dials x_q1_spots x_q1_skies x_q1_reports x_q1_count x_q1_chime x_q1_end x_q1_score x_q1_reportCount x_q1_z x_q1_rules x_q1_shades x_q1_facts x_q2_dials x_q2_spots x_q2_skies x_q2_reports x_q2_count x_q2_chime x_q2_end x_q2_score x_q2_reportCount x_q2_z x_q2_rules x_q2_shades x_q2_facts x_isKept x_marks x_p_first x_p_steps x_p_most x_p_many x_p_fewest x_p_everRight x_p_opening x_p_rows x_p_rowCount x_p_acts x_p_marks x_p_deepest x_p_wanted x_t_length x_t_tape x_t_words x_t_places x_t_at x_t_kinds x_t_wills x_t_starts x_t_code x_t_count x_t_size x_h_sorts x_h_lengths x_h_items x_h_held x_h_things x_h_sizes x_h_bodies x_h_traced x_h_number x_h_spot x_h_parted x_g_count x_g_kinds x_g_wills x_g_starts x_g_code x_g_stack x_g_kl x_g_wl x_g_sl x_g_cl x_nr) H locs → lv_has ls 3 [(0, .ref (a 1)), (1, .int o.1), (2, .int o.2)] → W p l e (rmz 2 0 0) s m args below meth c H locs 0 0 Q (F0 m 32 ls [])) → W p l e (rmz 2 0 0) s m args below meth c H locs 0 0 Q (F0 m 4 ls []) := by
    clear hf ho4 hw hl
    intro k
    induction k with
    | zero => intro v1 v2 H locs ls o hf hw hl kx; simp [X9_rightSet_q0_L1] at hf
    | succ k ih =>
      intro v1 v2 H locs ls o hf hw hl kx
      rw [X9_rightSet_q0_L1] at hf
      refine lv_iload_n hx hb dX9_rightSet_4 rfl (lv_at hl 2 rfl) ?_
      refine lv_aload_n hx hb dX9_rightSet_5 rfl (lv_at hl 0 rfl) ?_
      refine cg_X9_59_q0 cx hw dX9_rightSet_6 ?_
      refine lv_icmp_ge (tgt := 32) hx hb dX9_rightSet_9 (by decide) (fun hc => ?_) (fun hc => ?_)
      · have hf := ifT hf hc
        have hf := Option.some.inj hf
        subst hf
        exact kx _ _ _ hw (lv_sub hl [0, 1, 2] rfl)
      · have hf := ifF hf hc
        refine lv_aload_n hx hb dX9_rightSet_12 rfl (lv_at hl 0 rfl) ?_
        refine lv_iload_n hx hb dX9_rightSet_13 rfl (lv_at hl 2 rfl) ?_
        obtain ⟨r1, h2, hf⟩ := bnS hf
        refine calVi cx hw hl.1 (c_X9_isRight_q0 h2) q_439 k_X9_isRight rfl rv_q0 rfl dX9_rightSet_14 rfl (Nat.le_of_ble_eq_true rfl) ⟨Nat.le_of_ble_eq_true rfl, Nat.le_of_ble_eq_true rfl⟩ ⟨Nat.le_refl _, Nat.le_refl _⟩ (fun H locs hw => ?_)
        obtain ⟨j3, hj3, hf⟩ := pbS hf
        have wj3 : ∀ (H : Heap) (locs : List Loc) (ls : Array Slot), Wd D A s (cW a ar t x_q0_dials x_q0_spots x_q0_skies x_q0_reports x_q0_count x_q0_chime x_q0_end x_q0_score x_q0_reportCount x_q0_z x_q0_rules x_q0_shades x_q0_facts x_q1_dials x_q1_spots x_q1_skies x_q1_reports x_q1_count x_q1_chime x_q1_end x_q1_score x_q1_reportCount x_q1_z x_q1_rules x_q1_shades x_q1_facts x_q2_dials x_q2_spots x_q2_skies x_q2_reports x_q2_count x_q2_chime x_q2_end x_q2_score x_q2_reportCount x_q2_z x_q2_rules x_q2_shades x_q2_facts x_isKept x_marks x_p_first x_p_steps x_p_most x_p_many x_p_fewest x_p_everRight x_p_opening x_p_rows x_p_rowCount x_p_acts x_p_marks x_p_deepest x_p_wanted x_t_length x_t_tape x_t_words x_t_places x_t_at x_t_kinds x_t_wills x_t_starts x_t_code x_t_count x_t_size x_h_sorts x_h_lengths x_h_items x_h_held x_h_things x_h_sizes x_h_bodies x_h_traced x_h_number x_h_spot x_h_parted x_g_count x_g_kinds x_g_wills x_g_starts x_g_code x_g_stack x_g_kl x_g_wl x_g_sl x_g_cl x_nr) H locs → lv_has ls 3 [(0, .ref (a 1)), (1, .int j3), (2, .int v2)] → W p l e (rmz 2 0 0) s m args below meth c H locs 0 0 Q (F0 m 26 ls []) := by
          intro H locs ls hw hl
          refine lv_iinc (v := (v2 + (1 : Int32))) (lv' := [(2, .int (v2 + (1 : Int32))), (0, .ref (a 1)), (1, .int j3)]) hx hb dX9_rightSet_26 hl (k := 2) rfl rfl (by decide) rfl (fun ls hl => ?_)
          refine lv_goto (tgt := 4) hx hb dX9_rightSet_29 (by decide) ?_
          exact ih hf hw (lv_sub hl [1, 2, 0] rfl) kx
        clear hf
        have hf := hj3
        clear hj3
        refine lv_if_eq (tgt := 26) hx hb dX9_rightSet_17 (by decide) (fun hc => ?_) (fun hc => ?_)
        · have hf := ifT hf hc
          subst hf
          exact wj3 _ _ _ hw (lv_sub hl [0, 1, 2] rfl)
        · have hf := ifF hf hc
          refine lv_iload_n hx hb dX9_rightSet_20 rfl (lv_at hl 1 rfl) ?_
          refine lv_iconst (v := 1) hx hb dX9_rightSet_21 (by decide) ?_
          refine lv_iload_n hx hb dX9_rightSet_22 rfl (lv_at hl 2 rfl) ?_
          refine lv_ishl hx hb dX9_rightSet_23 ?_
          refine lv_ior hx hb dX9_rightSet_24 ?_
          refine lv_istore_n (lv' := [(1, .int (v1 ||| ((1 : Int32) <<< (v2 &&& 31)))), (0, .ref (a 1)), (2, .int v2)]) hx hb dX9_rightSet_25 rfl hl (by decide) rfl (fun ls hl => ?_)
          subst hf
          exact wj3 _ _ _ hw (lv_sub hl [1, 0, 2] rfl)
  refine wL1 n ho4 hw (lv_sub hl [2, 1, 0] rfl) (fun H locs ls hw hl => ?_)
  clear wL1 ho4
  refine lv_iload_n hx hb dX9_rightSet_32 rfl (lv_at hl 1 rfl) ?_
  have hf := Option.some.inj hf
  subst hf
  exact hR _ _ _ _ _ _ hw rfl ⟨rfl, rfl⟩ dX9_rightSet_33
theorem dX9_agree_0 : decode cX9_agree 0 = .ok (.aload_n 0, 1) := by decide +kernel
theorem dX9_agree_1 : decode cX9_agree 1 = .ok (.getfield 11, 3) := by decide +kernel
theorem dX9_agree_4 : decode cX9_agree 4 = .ok (.iload_n 1, 1) := by decide +kernel
theorem dX9_agree_5 : decode cX9_agree 5 = .ok (.aaload, 1) := by decide +kernel
theorem dX9_agree_6 : decode cX9_agree 6 = .ok (.iconst 1, 1) := by decide +kernel
theorem dX9_agree_7 : decode cX9_agree 7 = .ok (.iaload, 1) := by decide +kernel
theorem dX9_agree_8 : decode cX9_agree 8 = .ok (.aload_n 0, 1) := by decide +kernel
theorem dX9_agree_9 : decode cX9_agree 9 = .ok (.getfield 11, 3) := by decide +kernel
theorem dX9_agree_12 : decode cX9_agree 12 = .ok (.iload_n 2, 1) := by decide +kernel
theorem dX9_agree_13 : decode cX9_agree 13 = .ok (.aaload, 1) := by decide +kernel
theorem dX9_agree_14 : decode cX9_agree 14 = .ok (.iconst 1, 1) := by decide +kernel
theorem dX9_agree_15 : decode cX9_agree 15 = .ok (.iaload, 1) := by decide +kernel
theorem dX9_agree_16 : decode cX9_agree 16 = .ok (.isub, 1) := by decide +kernel
theorem dX9_agree_17 : decode cX9_agree 17 = .ok (.invokestatic 94, 3) := by decide +kernel
theorem dX9_agree_20 : decode cX9_agree 20 = .ok (.iconst 5, 1) := by decide +kernel
theorem dX9_agree_21 : decode cX9_agree 21 = .ok (.if_icmp .gt 7, 3) := by decide +kernel
theorem dX9_agree_24 : decode cX9_agree 24 = .ok (.iconst 1, 1) := by decide +kernel
theorem dX9_agree_25 : decode cX9_agree 25 = .ok (.goto 4, 3) := by decide +kernel
theorem dX9_agree_28 : decode cX9_agree 28 = .ok (.iconst 0, 1) := by decide +kernel
theorem dX9_agree_29 : decode cX9_agree 29 = .ok (.ireturn, 1) := by decide +kernel
theorem k_X9_agree : MV yX9_agree cX9_agree 3 (some .boolean) 2 := ⟨q_514, q_515, q_11, q_516, ⟨by decide, by decide, by decide +kernel⟩⟩
theorem c_X9_agree_q0 {v1 : Int32} {v2 : Int32} {res : Int32} (hf : X9_agree_q0 x_q0_dials v1 v2 = some res) : MC l E0 D t yX9_agree cX9_agree 3 (some .boolean) 1 0 0 [.ref (a 1), .int v1, .int v2] (cW a ar t x_q0_dials x_q0_spots x_q0_skies x_q0_reports x_q0_count x_q0_chime x_q0_end x_q0_score x_q0_reportCount x_q0_z x_q0_rules x_q0_shades x_q0_facts x_q1_dials x_q1_spots x_q1_skies x_q1_reports x_q1_count x_q1_chime x_q1_end x_q1_score x_q1_reportCount x_q1_z x_q1_rules x_q1_shades x_q1_facts x_q2_dials x_q2_spots x_q2_skies x_q2_reports x_q2_count x_q2_chime x_q2_end x_q2_score x_q2_reportCount x_q2_z x_q2_rules x_q2_shades x_q2_facts x_isKept x_marks x_p_first x_p_steps x_p_most x_p_many x_p_fewest x_p_everRight x_p_opening x_p_rows x_p_rowCount x_p_acts x_p_marks x_p_deepest x_p_wanted x_t_length x_t_tape x_t_words x_t_places x_t_at x_t_kinds x_t_wills x_t_starts x_t_code x_t_count x_t_size x_h_sorts x_h_lengths x_h_items x_h_held x_h_things x_h_sizes x_h_bodies x_h_traced x_h_number x_h_spot x_h_parted x_g_count x_g_kinds x_g_wills x_g_starts x_g_code x_g_stack x_g_kl x_g_wl x_g_sl x_g_cl x_nr) (Qi res (cW a ar t x_q0_dials x_q0_spots x_q0_skies x_q0_reports x_q0_count x_q0_chime x_q0_end x_q0_score x_q0_reportCount x_q0_z x_q0_rules x_q0_shades x_q0_facts x_q1_dials x_q1_spots x_q1_skies x_q1_reports x_q1_count x_q1_chime x_q1_end x_q1_score x_q1_reportCount x_q1_z x_q1_rules x_q1_shades x_q1_facts x_q2_dials x_q2_spots x_q2_skies x_q2_reports x_q2_count x_q2_chime x_q2_end x_q2_score x_q2_reportCount x_q2_z x_q2_rules x_q2_shades x_q2_facts x_isKept x_marks x_p_first x_p_steps x_p_most x_p_many x_p_fewest x_p_everRight x_p_opening x_p_rows x_p_rowCount x_p_acts x_p_marks x_p_deepest x_p_wanted x_t_length x_t_tape x_t_words x_t_places x_t_at x_t_kinds x_t_wills x_t_starts x_t_code x_t_count x_t_size x_h_sorts x_h_lengths x_h_items x_h_held x_h_things x_h_sizes x_h_bodies x_h_traced x_h_number x_h_spot x_h_parted x_g_count x_g_kinds x_g_wills x_g_starts x_g_code x_g_stack x_g_kl x_g_wl x_g_sl x_g_cl x_nr)) := by
  unfold X9_agree_q0 at hf
  refine MC.ofI pn_X9 (Nat.le_of_ble_eq_true rfl) ?_
  intro p e s m args below meth c A Q ls cx hR hw hl
  have hx := cx.1
  have hb := cx.2.1
  have hl : lv_has ls 3 [(0, .ref (a 1)), (1, .int v1), (2, .int v2)] := hl
  refine lv_aload_n hx hb dX9_agree_0 rfl (lv_at hl 0 rfl) ?_
  refine cg_X9_11_q0 cx hw dX9_agree_1 ?_
  refine lv_iload_n hx hb dX9_agree_4 rfl (lv_at hl 1 rfl) ?_
  obtain ⟨h1, hf⟩ := ckS hf
  refine co_q0_dials (j := v1.toNatClampNeg) cx hw (ib_in h1) rfl dX9_agree_5 ?_
  refine lv_iconst (v := 1) hx hb dX9_agree_6 (by decide) ?_
  refine cm_q0_dials (j := 1) cx hw (ib_lt h1) (ib_in (by decide)) (by decide) dX9_agree_7 ?_
  refine lv_aload_n hx hb dX9_agree_8 rfl (lv_at hl 0 rfl) ?_
  refine cg_X9_11_q0 cx hw dX9_agree_9 ?_
  refine lv_iload_n hx hb dX9_agree_12 rfl (lv_at hl 2 rfl) ?_
  obtain ⟨h2, hf⟩ := ckS hf
  refine co_q0_dials (j := v2.toNatClampNeg) cx hw (ib_in h2) rfl dX9_agree_13 ?_
  refine lv_iconst (v := 1) hx hb dX9_agree_14 (by decide) ?_
  refine cm_q0_dials (j := 1) cx hw (ib_lt h2) (ib_in (by decide)) (by decide) dX9_agree_15 ?_
  refine lv_isub hx hb dX9_agree_16 ?_
  refine va_mabs hx hb (cx.2.2.1.trans hl.1.symm) cx.2.2.2.1 (cx.2.2.2.2.1 _ q_517) (cx.2.2.2.2.1 _ q_518) (cx.2.2.2.2.1 _ q_15) (cx.2.2.2.2.1 _ q_519) (by show 1 ≤ _; exact Nat.le_of_ble_eq_true rfl) (by show _ ≤ 64 * _; exact Nat.le_of_ble_eq_true rfl) (Nat.le_refl _) (Nat.le_refl _) dX9_agree_17 ?_
  refine lv_iconst (v := 5) hx hb dX9_agree_20 (by decide) ?_
  refine lv_icmp_gt (tgt := 28) hx hb dX9_agree_21 (by decide) (fun hc => ?_) (fun hc => ?_)
  · have hf := ifT hf hc
    refine lv_iconst (v := 0) hx hb dX9_agree_28 (by decide) ?_
    have hf := Option.some.inj hf
    subst hf
    exact hR _ _ _ _ _ _ hw rfl ⟨rfl, rfl⟩ dX9_agree_29
  · have hf := ifF hf hc
    refine lv_iconst (v := 1) hx hb dX9_agree_24 (by decide) ?_
    refine lv_goto (tgt := 29) hx hb dX9_agree_25 (by decide) ?_
    have hf := Option.some.inj hf
    subst hf
    exact hR _ _ _ _ _ _ hw rfl ⟨rfl, rfl⟩ dX9_agree_29
theorem dX9_pairs_0 : decode cX9_pairs 0 = .ok (.iconst 0, 1) := by decide +kernel
theorem dX9_pairs_1 : decode cX9_pairs 1 = .ok (.istore_n 1, 1) := by decide +kernel
theorem dX9_pairs_2 : decode cX9_pairs 2 = .ok (.iconst 0, 1) := by decide +kernel
theorem dX9_pairs_3 : decode cX9_pairs 3 = .ok (.istore_n 2, 1) := by decide +kernel
theorem dX9_pairs_4 : decode cX9_pairs 4 = .ok (.iload_n 2, 1) := by decide +kernel
theorem dX9_pairs_5 : decode cX9_pairs 5 = .ok (.aload_n 0, 1) := by decide +kernel
theorem dX9_pairs_6 : decode cX9_pairs 6 = .ok (.getfield 59, 3) := by decide +kernel
theorem dX9_pairs_9 : decode cX9_pairs 9 = .ok (.if_icmp .ge 39, 3) := by decide +kernel
theorem dX9_pairs_12 : decode cX9_pairs 12 = .ok (.iload_n 2, 1) := by decide +kernel
theorem dX9_pairs_13 : decode cX9_pairs 13 = .ok (.iconst 1, 1) := by decide +kernel
theorem dX9_pairs_14 : decode cX9_pairs 14 = .ok (.iadd, 1) := by decide +kernel
theorem dX9_pairs_15 : decode cX9_pairs 15 = .ok (.istore_n 3, 1) := by decide +kernel
theorem dX9_pairs_16 : decode cX9_pairs 16 = .ok (.iload_n 3, 1) := by decide +kernel
theorem dX9_pairs_17 : decode cX9_pairs 17 = .ok (.aload_n 0, 1) := by decide +kernel
theorem dX9_pairs_18 : decode cX9_pairs 18 = .ok (.getfield 59, 3) := by decide +kernel
theorem dX9_pairs_21 : decode cX9_pairs 21 = .ok (.if_icmp .ge 21, 3) := by decide +kernel
theorem dX9_pairs_24 : decode cX9_pairs 24 = .ok (.aload_n 0, 1) := by decide +kernel
theorem dX9_pairs_25 : decode cX9_pairs 25 = .ok (.iload_n 2, 1) := by decide +kernel
theorem dX9_pairs_26 : decode cX9_pairs 26 = .ok (.iload_n 3, 1) := by decide +kernel
theorem dX9_pairs_27 : decode cX9_pairs 27 = .ok (.invokevirtual 99, 3) := by decide +kernel
theorem dX9_pairs_30 : decode cX9_pairs 30 = .ok (.ifCond .eq 6, 3) := by decide +kernel
theorem dX9_pairs_33 : decode cX9_pairs 33 = .ok (.iinc 1 1, 3) := by decide +kernel
theorem dX9_pairs_36 : decode cX9_pairs 36 = .ok (.iinc 3 1, 3) := by decide +kernel
theorem dX9_pairs_39 : decode cX9_pairs 39 = .ok (.goto (-23), 3) := by decide +kernel
theorem dX9_pairs_42 : decode cX9_pairs 42 = .ok (.iinc 2 1, 3) := by decide +kernel
theorem dX9_pairs_45 : decode cX9_pairs 45 = .ok (.goto (-41), 3) := by decide +kernel
theorem dX9_pairs_48 : decode cX9_pairs 48 = .ok (.iload_n 1, 1) := by decide +kernel
theorem dX9_pairs_49 : decode cX9_pairs 49 = .ok (.ireturn, 1) := by decide +kernel
theorem k_X9_pairs : MV yX9_pairs cX9_pairs 4 (some .int) 0 := ⟨q_510, q_511, q_11, q_512, ⟨by decide, by decide, by decide +kernel⟩⟩
theorem c_X9_pairs_q0 {res : Int32} (hf : X9_pairs_q0 n x_q0_dials x_q0_count = some res) : MC l E0 D t yX9_pairs cX9_pairs 4 (some .int) 2 0 0 [.ref (a 1)] (cW a ar t x_q0_dials x_q0_spots x_q0_skies x_q0_reports x_q0_count x_q0_chime x_q0_end x_q0_score x_q0_reportCount x_q0_z x_q0_rules x_q0_shades x_q0_facts x_q1_dials x_q1_spots x_q1_skies x_q1_reports x_q1_count x_q1_chime x_q1_end x_q1_score x_q1_reportCount x_q1_z x_q1_rules x_q1_shades x_q1_facts x_q2_dials x_q2_spots x_q2_skies x_q2_reports x_q2_count x_q2_chime x_q2_end x_q2_score x_q2_reportCount x_q2_z x_q2_rules x_q2_shades x_q2_facts x_isKept x_marks x_p_first x_p_steps x_p_most x_p_many x_p_fewest x_p_everRight x_p_opening x_p_rows x_p_rowCount x_p_acts x_p_marks x_p_deepest x_p_wanted x_t_length x_t_tape x_t_words x_t_places x_t_at x_t_kinds x_t_wills x_t_starts x_t_code x_t_count x_t_size x_h_sorts x_h_lengths x_h_items x_h_held x_h_things x_h_sizes x_h_bodies x_h_traced x_h_number x_h_spot x_h_parted x_g_count x_g_kinds x_g_wills x_g_starts x_g_code x_g_stack x_g_kl x_g_wl x_g_sl x_g_cl x_nr) (Qi res (cW a ar t x_q0_dials x_q0_spots x_q0_skies x_q0_reports x_q0_count x_q0_chime x_q0_end x_q0_score x_q0_reportCount x_q0_z x_q0_rules x_q0_shades x_q0_facts x_q1_dials x_q1_spots x_q1_skies x_q1_reports x_q1_count x_q1_chime x_q1_end x_q1_score x_q1_reportCount x_q1_z x_q1_rules x_q1_shades x_q1_facts x_q2_dials x_q2_spots x_q2_skies x_q2_reports x_q2_count x_q2_chime x_q2_end x_q2_score x_q2_reportCount x_q2_z x_q2_rules x_q2_shades x_q2_facts x_isKept x_marks x_p_first x_p_steps x_p_most x_p_many x_p_fewest x_p_everRight x_p_opening x_p_rows x_p_rowCount x_p_acts x_p_marks x_p_deepest x_p_wanted x_t_length x_t_tape x_t_words x_t_places x_t_at x_t_kinds x_t_wills x_t_starts x_t_code x_t_count x_t_size x_h_sorts x_h_lengths x_h_items x_h_held x_h_things x_h_sizes x_h_bodies x_h_traced x_h_number x_h_spot x_h_parted x_g_count x_g_kinds x_g_wills x_g_starts x_g_code x_g_stack x_g_kl x_g_wl x_g_sl x_g_cl x_nr)) := by
  unfold X9_pairs_q0 at hf
  refine MC.ofI pn_X9 (Nat.le_of_ble_eq_true rfl) ?_
  intro p e s m args below meth c A Q ls cx hR hw hl
  have hx := cx.1
  have hb := cx.2.1
  have hl : lv_has ls 4 [(0, .ref (a 1))] := hl
  refine lv_iconst (v := 0) hx hb dX9_pairs_0 (by decide) ?_
  refine lv_istore_n (lv' := [(1, .int (0 : Int32)), (0, .ref (a 1))]) hx hb dX9_pairs_1 rfl hl (by decide) rfl (fun ls hl => ?_)
  refine lv_iconst (v := 0) hx hb dX9_pairs_2 (by decide) ?_
  refine lv_istore_n (lv' := [(2, .int (0 : Int32)), (1, .int (0 : Int32)), (0, .ref (a 1))]) hx hb dX9_pairs_3 rfl hl (by decide) rfl (fun ls hl => ?_)
  obtain ⟨o5, ho5, hf⟩ := bnS hf
  have wL1 : ∀ (k : Nat) {v1 : Int32} {v2 : Int32} {H : Heap} {locs : List Loc} {ls : Array Slot} {o : Int32 × Int32}, X9_pairs_q0_L1 n x_q0_dials x_q0_count k v1 v2 = some o → Wd D A s (cW a ar t x_q0_dials x_q0_spots x_q0_skies x_q0_reports x_q0_count x_q0_chime x_q0_end x_q0_score x_q0_reportCount x_q0_z x_q0_rules x_q0_shades x_q0_facts x_q1_dials x_q1_spots x_q1_skies x_q1_reports x_q1_count x_q1_chime x_q1_end x_q1_score x_q1_reportCount x_q1_z x_q1_rules x_q1_shades x_q1_facts x_q2_dials x_q2_spots x_q2_skies x_q2_reports x_q2_count x_q2_chime x_q2_end x_q2_score x_q2_reportCount x_q2_z x_q2_rules x_q2_shades x_q2_facts x_isKept x_marks x_p_first x_p_steps x_p_most x_p_many x_p_fewest x_p_everRight x_p_opening x_p_rows x_p_rowCount x_p_acts x_p_marks x_p_deepest x_p_wanted x_t_length x_t_tape x_t_words x_t_places x_t_at x_t_kinds x_t_wills x_t_starts x_t_code x_t_count x_t_size x_h_sorts x_h_lengths x_h_items x_h_held x_h_things x_h_sizes x_h_bodies x_h_traced x_h_number x_h_spot x_h_parted x_g_count x_g_kinds x_g_wills x_g_starts x_g_code x_g_stack x_g_kl x_g_wl x_g_sl x_g_cl x_nr) H locs → lv_has ls 4 [(0, .ref (a 1)), (1, .int v1), (2, .int v2)] → (∀ (H : Heap) (locs : List Loc) (ls : Array Slot), Wd D A s (cW a ar t x_q0_dials x_q0_spots x_q0_skies x_q0_reports x_q0_count x_q0_chime x_q0_end x_q0_score x_q0_reportCount x_q0_z x_q0_rules x_q0_shades x_q0_facts x_q1_dials x_q1_spots x_q1_skies x_q1_reports x_q1_count x_q1_chime x_q1_end x_q1_score x_q1_reportCount x_q1_z x_q1_rules x_q1_shades x_q1_facts x_q2_dials x_q2_spots x_q2_skies x_q2_reports x_q2_count x_q2_chime x_q2_end x_q2_score x_q2_reportCount x_q2_z x_q2_rules x_q2_shades x_q2_facts x_isKept x_marks x_p_first x_p_steps x_p_most x_p_many x_p_fewest x_p_everRight x_p_opening x_p_rows x_p_rowCount x_p_acts x_p_marks x_p_deepest x_p_wanted x_t_length x_t_tape x_t_words x_t_places x_t_at x_t_kinds x_t_wills x_t_starts x_t_code x_t_count x_t_size x_h_sorts x_h_lengths x_h_items x_h_held x_h_things x_h_sizes x_h_bodies x_h_traced x_h_number x_h_spot x_h_parted x_g_count x_g_kinds x_g_wills x_g_starts x_g_code x_g_stack x_g_kl x_g_wl x_g_sl x_g_cl x_nr) H locs → lv_has ls 4 [(0, .ref (a 1)), (1, .int o.1), (2, .int o.2)] → W p l e (rmz 2 0 0) s m args below meth c H locs 0 0 Q (F0 m 48 ls [])) → W p l e (rmz 2 0 0) s m args below meth c H locs 0 0 Q (F0 m 4 ls []) := by
    clear hf ho5 hw hl
    intro k
    induction k with
    | zero => intro v1 v2 H locs ls o hf hw hl kx; simp [X9_pairs_q0_L1] at hf
    | succ k ih =>
      intro v1 v2 H locs ls o hf hw hl kx
      rw [X9_pairs_q0_L1] at hf
      refine lv_iload_n hx hb dX9_pairs_4 rfl (lv_at hl 2 rfl) ?_
      refine lv_aload_n hx hb dX9_pairs_5 rfl (lv_at hl 0 rfl) ?_
      refine cg_X9_59_q0 cx hw dX9_pairs_6 ?_
      refine lv_icmp_ge (tgt := 48) hx hb dX9_pairs_9 (by decide) (fun hc => ?_) (fun hc => ?_)
      · have hf := ifT hf hc
        have hf := Option.some.inj hf
        subst hf
        exact kx _ _ _ hw (lv_sub hl [0, 1, 2] rfl)
      · have hf := ifF hf hc
        refine lv_iload_n hx hb dX9_pairs_12 rfl (lv_at hl 2 rfl) ?_
        refine lv_iconst (v := 1) hx hb dX9_pairs_13 (by decide) ?_
        refine lv_iadd hx hb dX9_pairs_14 ?_
        refine lv_istore_n (lv' := [(3, .int (v2 + (1 : Int32))), (0, .ref (a 1)), (1, .int v1), (2, .int v2)]) hx hb dX9_pairs_15 rfl hl (by decide) rfl (fun ls hl => ?_)
        obtain ⟨o4, ho4, hf⟩ := bnS hf
        have wL2 : ∀ (k : Nat) {v1 : Int32} {v2 : Int32} {v3 : Int32} {H : Heap} {locs : List Loc} {ls : Array Slot} {o : Int32 × Int32}, X9_pairs_q0_L2 n x_q0_dials x_q0_count v2 k v1 v3 = some o → Wd D A s (cW a ar t x_q0_dials x_q0_spots x_q0_skies x_q0_reports x_q0_count x_q0_chime x_q0_end x_q0_score x_q0_reportCount x_q0_z x_q0_rules x_q0_shades x_q0_facts x_q1_dials x_q1_spots x_q1_skies x_q1_reports x_q1_count x_q1_chime x_q1_end x_q1_score x_q1_reportCount x_q1_z x_q1_rules x_q1_shades x_q1_facts x_q2_dials x_q2_spots x_q2_skies x_q2_reports x_q2_count x_q2_chime x_q2_end x_q2_score x_q2_reportCount x_q2_z x_q2_rules x_q2_shades x_q2_facts x_isKept x_marks x_p_first x_p_steps x_p_most x_p_many x_p_fewest x_p_everRight x_p_opening x_p_rows x_p_rowCount x_p_acts x_p_marks x_p_deepest x_p_wanted x_t_length x_t_tape x_t_words x_t_places x_t_at x_t_kinds x_t_wills x_t_starts x_t_code x_t_count x_t_size x_h_sorts x_h_lengths x_h_items x_h_held x_h_things x_h_sizes x_h_bodies x_h_traced x_h_number x_h_spot x_h_parted x_g_count x_g_kinds x_g_wills x_g_starts x_g_code x_g_stack x_g_kl x_g_wl x_g_sl x_g_cl x_nr) H locs → lv_has ls 4 [(0, .ref (a 1)), (1, .int v1), (2, .int v2), (3, .int v3)] → (∀ (H : Heap) (locs : List Loc) (ls : Array Slot), Wd D A s (cW a ar t x_q0_dials x_q0_spots x_q0_skies x_q0_reports x_q0_count x_q0_chime x_q0_end x_q0_score x_q0_reportCount x_q0_z x_q0_rules x_q0_shades x_q0_facts x_q1_dials x_q1_spots x_q1_skies x_q1_reports x_q1_count x_q1_chime x_q1_end x_q1_score x_q1_reportCount x_q1_z x_q1_rules x_q1_shades x_q1_facts x_q2_dials x_q2_spots x_q2_skies x_q2_reports x_q2_count x_q2_chime x_q2_end x_q2_score x_q2_reportCount x_q2_z x_q2_rules x_q2_shades x_q2_facts x_isKept x_marks x_p_first x_p_steps x_p_most x_p_many x_p_fewest x_p_everRight x_p_opening x_p_rows x_p_rowCount x_p_acts x_p_marks x_p_deepest x_p_wanted x_t_length x_t_tape x_t_words x_t_places x_t_at x_t_kinds x_t_wills x_t_starts x_t_code x_t_count x_t_size x_h_sorts x_h_lengths x_h_items x_h_held x_h_things x_h_sizes x_h_bodies x_h_traced x_h_number x_h_spot x_h_parted x_g_count x_g_kinds x_g_wills x_g_starts x_g_code x_g_stack x_g_kl x_g_wl x_g_sl x_g_cl x_nr) H locs → lv_has ls 4 [(0, .ref (a 1)), (1, .int o.1), (2, .int v2), (3, .int o.2)] → W p l e (rmz 2 0 0) s m args below meth c H locs 0 0 Q (F0 m 42 ls [])) → W p l e (rmz 2 0 0) s m args below meth c H locs 0 0 Q (F0 m 16 ls []) := by
          clear hf ho4 hw hl
          intro k
          induction k with
          | zero => intro v1 v2 v3 H locs ls o hf hw hl kx; simp [X9_pairs_q0_L2] at hf
          | succ k ih =>
            intro v1 v2 v3 H locs ls o hf hw hl kx
            rw [X9_pairs_q0_L2] at hf
            refine lv_iload_n hx hb dX9_pairs_16 rfl (lv_at hl 3 rfl) ?_
            refine lv_aload_n hx hb dX9_pairs_17 rfl (lv_at hl 0 rfl) ?_
            refine cg_X9_59_q0 cx hw dX9_pairs_18 ?_
            refine lv_icmp_ge (tgt := 42) hx hb dX9_pairs_21 (by decide) (fun hc => ?_) (fun hc => ?_)
            · have hf := ifT hf hc
              have hf := Option.some.inj hf
              subst hf
              exact kx _ _ _ hw (lv_sub hl [0, 1, 2, 3] rfl)
            · have hf := ifF hf hc
              refine lv_aload_n hx hb dX9_pairs_24 rfl (lv_at hl 0 rfl) ?_
              refine lv_iload_n hx hb dX9_pairs_25 rfl (lv_at hl 2 rfl) ?_
              refine lv_iload_n hx hb dX9_pairs_26 rfl (lv_at hl 3 rfl) ?_
              obtain ⟨r1, h2, hf⟩ := bnS hf
              refine calVi cx hw hl.1 (c_X9_agree_q0 h2) q_513 k_X9_agree rfl rv_q0 rfl dX9_pairs_27 rfl (Nat.le_of_ble_eq_true rfl) ⟨Nat.le_of_ble_eq_true rfl, Nat.le_of_ble_eq_true rfl⟩ ⟨Nat.le_refl _, Nat.le_refl _⟩ (fun H locs hw => ?_)
              obtain ⟨j3, hj3, hf⟩ := pbS hf
              have wj3 : ∀ (H : Heap) (locs : List Loc) (ls : Array Slot), Wd D A s (cW a ar t x_q0_dials x_q0_spots x_q0_skies x_q0_reports x_q0_count x_q0_chime x_q0_end x_q0_score x_q0_reportCount x_q0_z x_q0_rules x_q0_shades x_q0_facts x_q1_dials x_q1_spots x_q1_skies x_q1_reports x_q1_count x_q1_chime x_q1_end x_q1_score x_q1_reportCount x_q1_z x_q1_rules x_q1_shades x_q1_facts x_q2_dials x_q2_spots x_q2_skies x_q2_reports x_q2_count x_q2_chime x_q2_end x_q2_score x_q2_reportCount x_q2_z x_q2_rules x_q2_shades x_q2_facts x_isKept x_marks x_p_first x_p_steps x_p_most x_p_many x_p_fewest x_p_everRight x_p_opening x_p_rows x_p_rowCount x_p_acts x_p_marks x_p_deepest x_p_wanted x_t_length x_t_tape x_t_words x_t_places x_t_at x_t_kinds x_t_wills x_t_starts x_t_code x_t_count x_t_size x_h_sorts x_h_lengths x_h_items x_h_held x_h_things x_h_sizes x_h_bodies x_h_traced x_h_number x_h_spot x_h_parted x_g_count x_g_kinds x_g_wills x_g_starts x_g_code x_g_stack x_g_kl x_g_wl x_g_sl x_g_cl x_nr) H locs → lv_has ls 4 [(0, .ref (a 1)), (1, .int j3), (2, .int v2), (3, .int v3)] → W p l e (rmz 2 0 0) s m args below meth c H locs 0 0 Q (F0 m 36 ls []) := by
                intro H locs ls hw hl
                refine lv_iinc (v := (v3 + (1 : Int32))) (lv' := [(3, .int (v3 + (1 : Int32))), (0, .ref (a 1)), (1, .int j3), (2, .int v2)]) hx hb dX9_pairs_36 hl (k := 3) rfl rfl (by decide) rfl (fun ls hl => ?_)
                refine lv_goto (tgt := 16) hx hb dX9_pairs_39 (by decide) ?_
                exact ih hf hw (lv_sub hl [1, 2, 3, 0] rfl) kx
              clear hf
              have hf := hj3
              clear hj3
              refine lv_if_eq (tgt := 36) hx hb dX9_pairs_30 (by decide) (fun hc => ?_) (fun hc => ?_)
              · have hf := ifT hf hc
                subst hf
                exact wj3 _ _ _ hw (lv_sub hl [0, 1, 2, 3] rfl)
              · have hf := ifF hf hc
                refine lv_iinc (v := (v1 + (1 : Int32))) (lv' := [(1, .int (v1 + (1 : Int32))), (0, .ref (a 1)), (2, .int v2), (3, .int v3)]) hx hb dX9_pairs_33 hl (k := 1) rfl rfl (by decide) rfl (fun ls hl => ?_)
                subst hf
                exact wj3 _ _ _ hw (lv_sub hl [1, 0, 2, 3] rfl)
        refine wL2 n ho4 hw (lv_sub hl [1, 2, 3, 0] rfl) (fun H locs ls hw hl => ?_)
        clear wL2 ho4
        refine lv_iinc (v := (v2 + (1 : Int32))) (lv' := [(2, .int (v2 + (1 : Int32))), (0, .ref (a 1)), (1, .int o4.1), (3, .int o4.2)]) hx hb dX9_pairs_42 hl (k := 2) rfl rfl (by decide) rfl (fun ls hl => ?_)
        refine lv_goto (tgt := 4) hx hb dX9_pairs_45 (by decide) ?_
        exact ih hf hw (lv_sub hl [1, 2, 0] rfl) kx
  refine wL1 n ho5 hw (lv_sub hl [2, 1, 0] rfl) (fun H locs ls hw hl => ?_)
  clear wL1 ho5
  refine lv_iload_n hx hb dX9_pairs_48 rfl (lv_at hl 1 rfl) ?_
  have hf := Option.some.inj hf
  subst hf
  exact hR _ _ _ _ _ _ hw rfl ⟨rfl, rfl⟩ dX9_pairs_49
theorem dX11_state_0 : decode cX11_state 0 = .ok (.iload_n 1, 1) := by decide +kernel
theorem dX11_state_1 : decode cX11_state 1 = .ok (.tableswitch 114 0 6 #[43, 51, 59, 67, 83, 91, 106], 43) := by decide +kernel
theorem dX11_state_44 : decode cX11_state 44 = .ok (.aload_n 0, 1) := by decide +kernel
theorem dX11_state_45 : decode cX11_state 45 = .ok (.getfield 55, 3) := by decide +kernel
theorem dX11_state_48 : decode cX11_state 48 = .ok (.getfield 128, 3) := by decide +kernel
theorem dX11_state_51 : decode cX11_state 51 = .ok (.ireturn, 1) := by decide +kernel
theorem dX11_state_52 : decode cX11_state 52 = .ok (.aload_n 0, 1) := by decide +kernel
theorem dX11_state_53 : decode cX11_state 53 = .ok (.getfield 55, 3) := by decide +kernel
theorem dX11_state_56 : decode cX11_state 56 = .ok (.getfield 131, 3) := by decide +kernel
theorem dX11_state_59 : decode cX11_state 59 = .ok (.ireturn, 1) := by decide +kernel
theorem dX11_state_60 : decode cX11_state 60 = .ok (.aload_n 0, 1) := by decide +kernel
theorem dX11_state_61 : decode cX11_state 61 = .ok (.getfield 55, 3) := by decide +kernel
theorem dX11_state_64 : decode cX11_state 64 = .ok (.getfield 134, 3) := by decide +kernel
theorem dX11_state_67 : decode cX11_state 67 = .ok (.ireturn, 1) := by decide +kernel
theorem dX11_state_68 : decode cX11_state 68 = .ok (.aload_n 0, 1) := by decide +kernel
theorem dX11_state_69 : decode cX11_state 69 = .ok (.getfield 55, 3) := by decide +kernel
theorem dX11_state_72 : decode cX11_state 72 = .ok (.invokevirtual 137, 3) := by decide +kernel
theorem dX11_state_75 : decode cX11_state 75 = .ok (.ifCond .eq 7, 3) := by decide +kernel
theorem dX11_state_78 : decode cX11_state 78 = .ok (.iconst 1, 1) := by decide +kernel
theorem dX11_state_79 : decode cX11_state 79 = .ok (.goto 4, 3) := by decide +kernel
theorem dX11_state_82 : decode cX11_state 82 = .ok (.iconst 0, 1) := by decide +kernel
theorem dX11_state_83 : decode cX11_state 83 = .ok (.ireturn, 1) := by decide +kernel
theorem dX11_state_84 : decode cX11_state 84 = .ok (.aload_n 0, 1) := by decide +kernel
theorem dX11_state_85 : decode cX11_state 85 = .ok (.getfield 55, 3) := by decide +kernel
theorem dX11_state_88 : decode cX11_state 88 = .ok (.invokevirtual 141, 3) := by decide +kernel
theorem dX11_state_91 : decode cX11_state 91 = .ok (.ireturn, 1) := by decide +kernel
theorem dX11_state_92 : decode cX11_state 92 = .ok (.aload_n 0, 1) := by decide +kernel
theorem dX11_state_93 : decode cX11_state 93 = .ok (.getfield 55, 3) := by decide +kernel
theorem dX11_state_96 : decode cX11_state 96 = .ok (.aload_n 0, 1) := by decide +kernel
theorem dX11_state_97 : decode cX11_state 97 = .ok (.getfield 55, 3) := by decide +kernel
theorem dX11_state_100 : decode cX11_state 100 = .ok (.getfield 128, 3) := by decide +kernel
theorem dX11_state_103 : decode cX11_state 103 = .ok (.invokevirtual 145, 3) := by decide +kernel
theorem dX11_state_106 : decode cX11_state 106 = .ok (.ireturn, 1) := by decide +kernel
theorem dX11_state_107 : decode cX11_state 107 = .ok (.aload_n 0, 1) := by decide +kernel
theorem dX11_state_108 : decode cX11_state 108 = .ok (.getfield 55, 3) := by decide +kernel
theorem dX11_state_111 : decode cX11_state 111 = .ok (.invokevirtual 148, 3) := by decide +kernel
theorem dX11_state_114 : decode cX11_state 114 = .ok (.ireturn, 1) := by decide +kernel
theorem dX11_state_115 : decode cX11_state 115 = .ok (.iconst (-1), 1) := by decide +kernel
theorem dX11_state_116 : decode cX11_state 116 = .ok (.ireturn, 1) := by decide +kernel
theorem k_X11_state : MV yX11_state cX11_state 2 (some .int) 1 := ⟨q_497, q_498, q_1, q_499, ⟨by decide, by decide, by decide +kernel⟩⟩
theorem c_X11_state {v1 : Int32} {res : Int32} (hf : X11_state n x_q0_dials x_q0_skies x_q0_count x_q0_chime x_q0_end x_q0_score v1 = some res) : MC l E0 D t yX11_state cX11_state 2 (some .int) 3 0 0 [.ref (a 0), .int v1] (cW a ar t x_q0_dials x_q0_spots x_q0_skies x_q0_reports x_q0_count x_q0_chime x_q0_end x_q0_score x_q0_reportCount x_q0_z x_q0_rules x_q0_shades x_q0_facts x_q1_dials x_q1_spots x_q1_skies x_q1_reports x_q1_count x_q1_chime x_q1_end x_q1_score x_q1_reportCount x_q1_z x_q1_rules x_q1_shades x_q1_facts x_q2_dials x_q2_spots x_q2_skies x_q2_reports x_q2_count x_q2_chime x_q2_end x_q2_score x_q2_reportCount x_q2_z x_q2_rules x_q2_shades x_q2_facts x_isKept x_marks x_p_first x_p_steps x_p_most x_p_many x_p_fewest x_p_everRight x_p_opening x_p_rows x_p_rowCount x_p_acts x_p_marks x_p_deepest x_p_wanted x_t_length x_t_tape x_t_words x_t_places x_t_at x_t_kinds x_t_wills x_t_starts x_t_code x_t_count x_t_size x_h_sorts x_h_lengths x_h_items x_h_held x_h_things x_h_sizes x_h_bodies x_h_traced x_h_number x_h_spot x_h_parted x_g_count x_g_kinds x_g_wills x_g_starts x_g_code x_g_stack x_g_kl x_g_wl x_g_sl x_g_cl x_nr) (Qi res (cW a ar t x_q0_dials x_q0_spots x_q0_skies x_q0_reports x_q0_count x_q0_chime x_q0_end x_q0_score x_q0_reportCount x_q0_z x_q0_rules x_q0_shades x_q0_facts x_q1_dials x_q1_spots x_q1_skies x_q1_reports x_q1_count x_q1_chime x_q1_end x_q1_score x_q1_reportCount x_q1_z x_q1_rules x_q1_shades x_q1_facts x_q2_dials x_q2_spots x_q2_skies x_q2_reports x_q2_count x_q2_chime x_q2_end x_q2_score x_q2_reportCount x_q2_z x_q2_rules x_q2_shades x_q2_facts x_isKept x_marks x_p_first x_p_steps x_p_most x_p_many x_p_fewest x_p_everRight x_p_opening x_p_rows x_p_rowCount x_p_acts x_p_marks x_p_deepest x_p_wanted x_t_length x_t_tape x_t_words x_t_places x_t_at x_t_kinds x_t_wills x_t_starts x_t_code x_t_count x_t_size x_h_sorts x_h_lengths x_h_items x_h_held x_h_things x_h_sizes x_h_bodies x_h_traced x_h_number x_h_spot x_h_parted x_g_count x_g_kinds x_g_wills x_g_starts x_g_code x_g_stack x_g_kl x_g_wl x_g_sl x_g_cl x_nr)) := by
  unfold X11_state at hf
  refine MC.ofI pn_X11 (Nat.le_of_ble_eq_true rfl) ?_
  intro p e s m args below meth c A Q ls cx hR hw hl
  have hx := cx.1
  have hb := cx.2.1
  have hl : lv_has ls 2 [(0, .ref (a 0)), (1, .int v1)] := hl
  refine lv_iload_n hx hb dX11_state_0 rfl (lv_at hl 1 rfl) ?_
  by_cases hc0 : v1 = (0 : Int32)
  · have hf := ifT hf hc0
    refine lv_tableIn (tgt := 44) hx hb dX11_state_1 (by rw [hc0]; decide) (by rw [hc0]; decide) (by rw [hc0]; rfl) (by decide) ?_
    refine lv_aload_n hx hb dX11_state_44 rfl (lv_at hl 0 rfl) ?_
    refine cg_X11_55_ds cx hw dX11_state_45 ?_
    refine cg_X11_128_q0 cx hw dX11_state_48 ?_
    have hf := Option.some.inj hf
    subst hf
    exact hR _ _ _ _ _ _ hw rfl ⟨rfl, rfl⟩ dX11_state_51
  · have hf := ifF hf hc0
    by_cases hc1 : v1 = (1 : Int32)
    · have hf := ifT hf hc1
      refine lv_tableIn (tgt := 52) hx hb dX11_state_1 (by rw [hc1]; decide) (by rw [hc1]; decide) (by rw [hc1]; rfl) (by decide) ?_
      refine lv_aload_n hx hb dX11_state_52 rfl (lv_at hl 0 rfl) ?_
      refine cg_X11_55_ds cx hw dX11_state_53 ?_
      refine cg_X11_131_q0 cx hw dX11_state_56 ?_
      have hf := Option.some.inj hf
      subst hf
      exact hR _ _ _ _ _ _ hw rfl ⟨rfl, rfl⟩ dX11_state_59
    · have hf := ifF hf hc1
      by_cases hc2 : v1 = (2 : Int32)
      · have hf := ifT hf hc2
        refine lv_tableIn (tgt := 60) hx hb dX11_state_1 (by rw [hc2]; decide) (by rw [hc2]; decide) (by rw [hc2]; rfl) (by decide) ?_
        refine lv_aload_n hx hb dX11_state_60 rfl (lv_at hl 0 rfl) ?_
        refine cg_X11_55_ds cx hw dX11_state_61 ?_
        refine cg_X11_134_q0 cx hw dX11_state_64 ?_
        have hf := Option.some.inj hf
        subst hf
        exact hR _ _ _ _ _ _ hw rfl ⟨rfl, rfl⟩ dX11_state_67
      · have hf := ifF hf hc2
        by_cases hc3 : v1 = (3 : Int32)
        · have hf := ifT hf hc3
          refine lv_tableIn (tgt := 68) hx hb dX11_state_1 (by rw [hc3]; decide) (by rw [hc3]; decide) (by rw [hc3]; rfl) (by decide) ?_
          refine lv_aload_n hx hb dX11_state_68 rfl (lv_at hl 0 rfl) ?_
          refine cg_X11_55_ds cx hw dX11_state_69 ?_
          refine calVi cx hw hl.1 (c_X9_isOver_q0 rfl) q_500 k_X9_isOver rfl rv_q0 rfl dX11_state_72 rfl (Nat.le_of_ble_eq_true rfl) ⟨Nat.le_of_ble_eq_true rfl, Nat.le_of_ble_eq_true rfl⟩ ⟨Nat.le_refl _, Nat.le_refl _⟩ (fun H locs hw => ?_)
          refine lv_if_eq (tgt := 82) hx hb dX11_state_75 (by decide) (fun hc => ?_) (fun hc => ?_)
          · have hf := ifT hf hc
            refine lv_iconst (v := 0) hx hb dX11_state_82 (by decide) ?_
            have hf := Option.some.inj hf
            subst hf
            exact hR _ _ _ _ _ _ hw rfl ⟨rfl, rfl⟩ dX11_state_83
          · have hf := ifF hf hc
            refine lv_iconst (v := 1) hx hb dX11_state_78 (by decide) ?_
            refine lv_goto (tgt := 83) hx hb dX11_state_79 (by decide) ?_
            have hf := Option.some.inj hf
            subst hf
            exact hR _ _ _ _ _ _ hw rfl ⟨rfl, rfl⟩ dX11_state_83
        · have hf := ifF hf hc3
          by_cases hc4 : v1 = (4 : Int32)
          · have hf := ifT hf hc4
            refine lv_tableIn (tgt := 84) hx hb dX11_state_1 (by rw [hc4]; decide) (by rw [hc4]; decide) (by rw [hc4]; rfl) (by decide) ?_
            refine lv_aload_n hx hb dX11_state_84 rfl (lv_at hl 0 rfl) ?_
            refine cg_X11_55_ds cx hw dX11_state_85 ?_
            obtain ⟨r1, h2, hf⟩ := bnS hf
            refine calVi cx hw hl.1 (c_X9_rightSet_q0 h2) q_504 k_X9_rightSet rfl rv_q0 rfl dX11_state_88 rfl (Nat.le_of_ble_eq_true rfl) ⟨Nat.le_of_ble_eq_true rfl, Nat.le_of_ble_eq_true rfl⟩ ⟨Nat.le_refl _, Nat.le_refl _⟩ (fun H locs hw => ?_)
            have hf := Option.some.inj hf
            subst hf
            exact hR _ _ _ _ _ _ hw rfl ⟨rfl, rfl⟩ dX11_state_91
          · have hf := ifF hf hc4
            by_cases hc5 : v1 = (5 : Int32)
            · have hf := ifT hf hc5
              refine lv_tableIn (tgt := 92) hx hb dX11_state_1 (by rw [hc5]; decide) (by rw [hc5]; decide) (by rw [hc5]; rfl) (by decide) ?_
              refine lv_aload_n hx hb dX11_state_92 rfl (lv_at hl 0 rfl) ?_
              refine cg_X11_55_ds cx hw dX11_state_93 ?_
              refine lv_aload_n hx hb dX11_state_96 rfl (lv_at hl 0 rfl) ?_
              refine cg_X11_55_ds cx hw dX11_state_97 ?_
              refine cg_X11_128_q0 cx hw dX11_state_100 ?_
              obtain ⟨r3, h4, hf⟩ := bnS hf
              refine calVi cx hw hl.1 (c_X9_skyAt_q0 h4) q_508 k_X9_skyAt rfl rv_q0 rfl dX11_state_103 rfl (Nat.le_of_ble_eq_true rfl) ⟨Nat.le_of_ble_eq_true rfl, Nat.le_of_ble_eq_true rfl⟩ ⟨Nat.le_refl _, Nat.le_refl _⟩ (fun H locs hw => ?_)
              have hf := Option.some.inj hf
              subst hf
              exact hR _ _ _ _ _ _ hw rfl ⟨rfl, rfl⟩ dX11_state_106
            · have hf := ifF hf hc5
              by_cases hc6 : v1 = (6 : Int32)
              · have hf := ifT hf hc6
                refine lv_tableIn (tgt := 107) hx hb dX11_state_1 (by rw [hc6]; decide) (by rw [hc6]; decide) (by rw [hc6]; rfl) (by decide) ?_
                refine lv_aload_n hx hb dX11_state_107 rfl (lv_at hl 0 rfl) ?_
                refine cg_X11_55_ds cx hw dX11_state_108 ?_
                obtain ⟨r5, h6, hf⟩ := bnS hf
                refine calVi cx hw hl.1 (c_X9_pairs_q0 h6) q_509 k_X9_pairs rfl rv_q0 rfl dX11_state_111 rfl (Nat.le_of_ble_eq_true rfl) ⟨Nat.le_of_ble_eq_true rfl, Nat.le_of_ble_eq_true rfl⟩ ⟨Nat.le_refl _, Nat.le_refl _⟩ (fun H locs hw => ?_)
                have hf := Option.some.inj hf
                subst hf
                exact hR _ _ _ _ _ _ hw rfl ⟨rfl, rfl⟩ dX11_state_114
              · have hf := ifF hf hc6
                refine lv_tableOut (tgt := 115) hx hb dX11_state_1 (by have h0 := lv_neT hc0 (a := 0) (by decide); have h1 := lv_neT hc1 (a := 1) (by decide); have h2 := lv_neT hc2 (a := 2) (by decide); have h3 := lv_neT hc3 (a := 3) (by decide); have h4 := lv_neT hc4 (a := 4) (by decide); have h5 := lv_neT hc5 (a := 5) (by decide); have h6 := lv_neT hc6 (a := 6) (by decide); omega) (by decide) ?_
                refine lv_iconst (v := (-1)) hx hb dX11_state_115 (by decide) ?_
                have hf := Option.some.inj hf
                subst hf
                exact hR _ _ _ _ _ _ hw rfl ⟨rfl, rfl⟩ dX11_state_116
theorem dX6_append_0 : decode cX6_append 0 = .ok (.iconst 0, 1) := by decide +kernel
theorem dX6_append_1 : decode cX6_append 1 = .ok (.istore 4, 2) := by decide +kernel
theorem dX6_append_3 : decode cX6_append 3 = .ok (.iload 4, 2) := by decide +kernel
theorem dX6_append_5 : decode cX6_append 5 = .ok (.iload_n 3, 1) := by decide +kernel
theorem dX6_append_6 : decode cX6_append 6 = .ok (.if_icmp .ge 30, 3) := by decide +kernel
theorem dX6_append_9 : decode cX6_append 9 = .ok (.aload_n 0, 1) := by decide +kernel
theorem dX6_append_10 : decode cX6_append 10 = .ok (.getfield 9, 3) := by decide +kernel
theorem dX6_append_13 : decode cX6_append 13 = .ok (.aload_n 0, 1) := by decide +kernel
theorem dX6_append_14 : decode cX6_append 14 = .ok (.getfield 34, 3) := by decide +kernel
theorem dX6_append_17 : decode cX6_append 17 = .ok (.iload 4, 2) := by decide +kernel
theorem dX6_append_19 : decode cX6_append 19 = .ok (.iadd, 1) := by decide +kernel
theorem dX6_append_20 : decode cX6_append 20 = .ok (.lload_n 1, 1) := by decide +kernel
theorem dX6_append_21 : decode cX6_append 21 = .ok (.bipush 8, 2) := by decide +kernel
theorem dX6_append_23 : decode cX6_append 23 = .ok (.iload 4, 2) := by decide +kernel
theorem dX6_append_25 : decode cX6_append 25 = .ok (.imul, 1) := by decide +kernel
theorem dX6_append_26 : decode cX6_append 26 = .ok (.lushr, 1) := by decide +kernel
theorem dX6_append_27 : decode cX6_append 27 = .ok (.l2i, 1) := by decide +kernel
theorem dX6_append_28 : decode cX6_append 28 = .ok (.i2b, 1) := by decide +kernel
theorem dX6_append_29 : decode cX6_append 29 = .ok (.bastore, 1) := by decide +kernel
theorem dX6_append_30 : decode cX6_append 30 = .ok (.iinc 4 1, 3) := by decide +kernel
theorem dX6_append_33 : decode cX6_append 33 = .ok (.goto (-30), 3) := by decide +kernel
theorem dX6_append_36 : decode cX6_append 36 = .ok (.aload_n 0, 1) := by decide +kernel
theorem dX6_append_37 : decode cX6_append 37 = .ok (.dup, 1) := by decide +kernel
theorem dX6_append_38 : decode cX6_append 38 = .ok (.getfield 34, 3) := by decide +kernel
theorem dX6_append_41 : decode cX6_append 41 = .ok (.iload_n 3, 1) := by decide +kernel
theorem dX6_append_42 : decode cX6_append 42 = .ok (.iadd, 1) := by decide +kernel
theorem dX6_append_43 : decode cX6_append 43 = .ok (.putfield 34, 3) := by decide +kernel
theorem dX6_append_46 : decode cX6_append 46 = .ok (.aload_n 0, 1) := by decide +kernel
theorem dX6_append_47 : decode cX6_append 47 = .ok (.getfield 34, 3) := by decide +kernel
theorem dX6_append_50 : decode cX6_append 50 = .ok (.ireturn, 1) := by decide +kernel
theorem k_X6_append : MV yX6_append cX6_append 5 (some .int) 2 := ⟨q_525, q_526, q_2, q_527, ⟨by decide, by decide, by decide +kernel⟩⟩
theorem c_X6_append {v1 : Int64} {v3 : Int32} {res : Int32 × Int32 × (Nat → Int32)} (hf : X6_append n x_t_length x_t_tape v1 v3 = some res) : MC l E0 D t yX6_append cX6_append 5 (some .int) 1 0 0 [.ref (a 97), .long v1, .int v3] (cW a ar t x_q0_dials x_q0_spots x_q0_skies x_q0_reports x_q0_count x_q0_chime x_q0_end x_q0_score x_q0_reportCount x_q0_z x_q0_rules x_q0_shades x_q0_facts x_q1_dials x_q1_spots x_q1_skies x_q1_reports x_q1_count x_q1_chime x_q1_end x_q1_score x_q1_reportCount x_q1_z x_q1_rules x_q1_shades x_q1_facts x_q2_dials x_q2_spots x_q2_skies x_q2_reports x_q2_count x_q2_chime x_q2_end x_q2_score x_q2_reportCount x_q2_z x_q2_rules x_q2_shades x_q2_facts x_isKept x_marks x_p_first x_p_steps x_p_most x_p_many x_p_fewest x_p_everRight x_p_opening x_p_rows x_p_rowCount x_p_acts x_p_marks x_p_deepest x_p_wanted x_t_length x_t_tape x_t_words x_t_places x_t_at x_t_kinds x_t_wills x_t_starts x_t_code x_t_count x_t_size x_h_sorts x_h_lengths x_h_items x_h_held x_h_things x_h_sizes x_h_bodies x_h_traced x_h_number x_h_spot x_h_parted x_g_count x_g_kinds x_g_wills x_g_starts x_g_code x_g_stack x_g_kl x_g_wl x_g_sl x_g_cl x_nr) (Qi res.1 (cW a ar t x_q0_dials x_q0_spots x_q0_skies x_q0_reports x_q0_count x_q0_chime x_q0_end x_q0_score x_q0_reportCount x_q0_z x_q0_rules x_q0_shades x_q0_facts x_q1_dials x_q1_spots x_q1_skies x_q1_reports x_q1_count x_q1_chime x_q1_end x_q1_score x_q1_reportCount x_q1_z x_q1_rules x_q1_shades x_q1_facts x_q2_dials x_q2_spots x_q2_skies x_q2_reports x_q2_count x_q2_chime x_q2_end x_q2_score x_q2_reportCount x_q2_z x_q2_rules x_q2_shades x_q2_facts x_isKept x_marks x_p_first x_p_steps x_p_most x_p_many x_p_fewest x_p_everRight x_p_opening x_p_rows x_p_rowCount x_p_acts x_p_marks x_p_deepest x_p_wanted res.2.1 res.2.2 x_t_words x_t_places x_t_at x_t_kinds x_t_wills x_t_starts x_t_code x_t_count x_t_size x_h_sorts x_h_lengths x_h_items x_h_held x_h_things x_h_sizes x_h_bodies x_h_traced x_h_number x_h_spot x_h_parted x_g_count x_g_kinds x_g_wills x_g_starts x_g_code x_g_stack x_g_kl x_g_wl x_g_sl x_g_cl x_nr)) := by
  unfold X6_append at hf
  refine MC.ofI pn_X6 (Nat.le_of_ble_eq_true rfl) ?_
  intro p e s m args below meth c A Q ls cx hR hw hl
  have hx := cx.1
  have hb := cx.2.1
  have hl : lv_has ls 5 [(0, .ref (a 97)), (1, .long v1), (3, .int v3)] := hl
  refine lv_iconst (v := 0) hx hb dX6_append_0 (by decide) ?_
  refine lv_istore (lv' := [(4, .int (0 : Int32)), (0, .ref (a 97)), (1, .long v1), (3, .int v3)]) hx hb dX6_append_1 hl (by decide) rfl (fun ls hl => ?_)
  obtain ⟨o2, ho2, hf⟩ := bnS hf
  have wL1 : ∀ (k : Nat) {v1 : Int64} {v3 : Int32} {v4 : Int32} {x_t_tape : Nat → Int32} {H : Heap} {locs : List Loc} {ls : Array Slot} {o : Int32 × (Nat → Int32)}, X6_append_L1 n x_t_length v1 v3 k v4 x_t_tape = some o → Wd D A s (cW a ar t x_q0_dials x_q0_spots x_q0_skies x_q0_reports x_q0_count x_q0_chime x_q0_end x_q0_score x_q0_reportCount x_q0_z x_q0_rules x_q0_shades x_q0_facts x_q1_dials x_q1_spots x_q1_skies x_q1_reports x_q1_count x_q1_chime x_q1_end x_q1_score x_q1_reportCount x_q1_z x_q1_rules x_q1_shades x_q1_facts x_q2_dials x_q2_spots x_q2_skies x_q2_reports x_q2_count x_q2_chime x_q2_end x_q2_score x_q2_reportCount x_q2_z x_q2_rules x_q2_shades x_q2_facts x_isKept x_marks x_p_first x_p_steps x_p_most x_p_many x_p_fewest x_p_everRight x_p_opening x_p_rows x_p_rowCount x_p_acts x_p_marks x_p_deepest x_p_wanted x_t_length x_t_tape x_t_words x_t_places x_t_at x_t_kinds x_t_wills x_t_starts x_t_code x_t_count x_t_size x_h_sorts x_h_lengths x_h_items x_h_held x_h_things x_h_sizes x_h_bodies x_h_traced x_h_number x_h_spot x_h_parted x_g_count x_g_kinds x_g_wills x_g_starts x_g_code x_g_stack x_g_kl x_g_wl x_g_sl x_g_cl x_nr) H locs → lv_has ls 5 [(0, .ref (a 97)), (1, .long v1), (3, .int v3), (4, .int v4)] → (∀ (H : Heap) (locs : List Loc) (ls : Array Slot), Wd D A s (cW a ar t x_q0_dials x_q0_spots x_q0_skies x_q0_reports x_q0_count x_q0_chime x_q0_end x_q0_score x_q0_reportCount x_q0_z x_q0_rules x_q0_shades x_q0_facts x_q1_dials x_q1_spots x_q1_skies x_q1_reports x_q1_count x_q1_chime x_q1_end x_q1_score x_q1_reportCount x_q1_z x_q1_rules x_q1_shades x_q1_facts x_q2_dials x_q2_spots x_q2_skies x_q2_reports x_q2_count x_q2_chime x_q2_end x_q2_score x_q2_reportCount x_q2_z x_q2_rules x_q2_shades x_q2_facts x_isKept x_marks x_p_first x_p_steps x_p_most x_p_many x_p_fewest x_p_everRight x_p_opening x_p_rows x_p_rowCount x_p_acts x_p_marks x_p_deepest x_p_wanted x_t_length o.2 x_t_words x_t_places x_t_at x_t_kinds x_t_wills x_t_starts x_t_code x_t_count x_t_size x_h_sorts x_h_lengths x_h_items x_h_held x_h_things x_h_sizes x_h_bodies x_h_traced x_h_number x_h_spot x_h_parted x_g_count x_g_kinds x_g_wills x_g_starts x_g_code x_g_stack x_g_kl x_g_wl x_g_sl x_g_cl x_nr) H locs → lv_has ls 5 [(0, .ref (a 97)), (1, .long v1), (3, .int v3), (4, .int o.1)] → W p l e (rmz 1 0 0) s m args below meth c H locs 0 0 Q (F0 m 36 ls [])) → W p l e (rmz 1 0 0) s m args below meth c H locs 0 0 Q (F0 m 3 ls []) := by
    clear hf ho2 hw hl
    intro k
    induction k with
    | zero => intro v1 v3 v4 x_t_tape H locs ls o hf hw hl kx; simp [X6_append_L1] at hf
    | succ k ih =>
      intro v1 v3 v4 x_t_tape H locs ls o hf hw hl kx
      rw [X6_append_L1] at hf
      refine lv_iload hx hb dX6_append_3 (lv_at hl 3 rfl) ?_
      refine lv_iload_n hx hb dX6_append_5 rfl (lv_at hl 2 rfl) ?_
      refine lv_icmp_ge (tgt := 36) hx hb dX6_append_6 (by decide) (fun hc => ?_) (fun hc => ?_)
      · have hf := ifT hf hc
        have hf := Option.some.inj hf
        subst hf
        exact kx _ _ _ hw (lv_sub hl [0, 1, 2, 3] rfl)
      · have hf := ifF hf hc
        refine lv_aload_n hx hb dX6_append_9 rfl (lv_at hl 0 rfl) ?_
        refine cg_X6_9_text cx hw dX6_append_10 ?_
        refine lv_aload_n hx hb dX6_append_13 rfl (lv_at hl 0 rfl) ?_
        refine cg_X6_34_text cx hw dX6_append_14 ?_
        refine lv_iload hx hb dX6_append_17 (lv_at hl 3 rfl) ?_
        refine lv_iadd hx hb dX6_append_19 ?_
        refine lv_lload_n hx hb dX6_append_20 rfl (lv_at hl 1 rfl) ?_
        refine lv_bipush (v := 8) hx hb dX6_append_21 (by decide) ?_
        refine lv_iload hx hb dX6_append_23 (lv_at hl 3 rfl) ?_
        refine lv_imul hx hb dX6_append_25 ?_
        refine lv_lushr hx hb dX6_append_26 rfl ?_
        refine lv_l2i hx hb dX6_append_27 rfl ?_
        refine lv_i2b hx hb dX6_append_28 rfl ?_
        obtain ⟨h1, hf⟩ := ckS hf
        refine cs_t_tape (j := (x_t_length + v4).toNatClampNeg) cx hw (ib_in h1) rfl dX6_append_29 (fun H locs hw => ?_)
        refine lv_iinc (v := (v4 + (1 : Int32))) (lv' := [(4, .int (v4 + (1 : Int32))), (0, .ref (a 97)), (1, .long v1), (3, .int v3)]) hx hb dX6_append_30 hl (k := 3) rfl rfl (by decide) rfl (fun ls hl => ?_)
        refine lv_goto (tgt := 3) hx hb dX6_append_33 (by decide) ?_
        exact ih hf hw (lv_sub hl [1, 2, 3, 0] rfl) kx
  refine wL1 n ho2 hw (lv_sub hl [1, 2, 3, 0] rfl) (fun H locs ls hw hl => ?_)
  clear wL1 ho2
  refine lv_aload_n hx hb dX6_append_36 rfl (lv_at hl 0 rfl) ?_
  refine lv_dup hx hb dX6_append_37 rfl ?_
  refine cg_X6_34_text cx hw dX6_append_38 ?_
  refine lv_iload_n hx hb dX6_append_41 rfl (lv_at hl 2 rfl) ?_
  refine lv_iadd hx hb dX6_append_42 ?_
  refine cp_X6_34_text cx hw dX6_append_43 (fun H locs hw => ?_)
  refine lv_aload_n hx hb dX6_append_46 rfl (lv_at hl 0 rfl) ?_
  refine cg_X6_34_text cx hw dX6_append_47 ?_
  have hf := Option.some.inj hf
  subst hf
  exact hR _ _ _ _ _ _ hw rfl ⟨rfl, rfl⟩ dX6_append_50
theorem dX11_feed_0 : decode cX11_feed 0 = .ok (.iload_n 3, 1) := by decide +kernel
theorem dX11_feed_1 : decode cX11_feed 1 = .ok (.iconst 1, 1) := by decide +kernel
theorem dX11_feed_2 : decode cX11_feed 2 = .ok (.bipush 8, 2) := by decide +kernel
theorem dX11_feed_4 : decode cX11_feed 4 = .ok (.invokestatic 74, 3) := by decide +kernel
theorem dX11_feed_7 : decode cX11_feed 7 = .ok (.ifCond .ne 5, 3) := by decide +kernel
theorem dX11_feed_10 : decode cX11_feed 10 = .ok (.iconst (-1), 1) := by decide +kernel
theorem dX11_feed_11 : decode cX11_feed 11 = .ok (.ireturn, 1) := by decide +kernel
theorem dX11_feed_12 : decode cX11_feed 12 = .ok (.aload_n 0, 1) := by decide +kernel
theorem dX11_feed_13 : decode cX11_feed 13 = .ok (.getfield 16, 3) := by decide +kernel
theorem dX11_feed_16 : decode cX11_feed 16 = .ok (.getfield 151, 3) := by decide +kernel
theorem dX11_feed_19 : decode cX11_feed 19 = .ok (.sipush 200, 3) := by decide +kernel
theorem dX11_feed_22 : decode cX11_feed 22 = .ok (.iload_n 3, 1) := by decide +kernel
theorem dX11_feed_23 : decode cX11_feed 23 = .ok (.isub, 1) := by decide +kernel
theorem dX11_feed_24 : decode cX11_feed 24 = .ok (.if_icmp .le 6, 3) := by decide +kernel
theorem dX11_feed_27 : decode cX11_feed 27 = .ok (.bipush (-2), 2) := by decide +kernel
theorem dX11_feed_29 : decode cX11_feed 29 = .ok (.ireturn, 1) := by decide +kernel
theorem dX11_feed_30 : decode cX11_feed 30 = .ok (.aload_n 0, 1) := by decide +kernel
theorem dX11_feed_31 : decode cX11_feed 31 = .ok (.getfield 16, 3) := by decide +kernel
theorem dX11_feed_34 : decode cX11_feed 34 = .ok (.lload_n 1, 1) := by decide +kernel
theorem dX11_feed_35 : decode cX11_feed 35 = .ok (.iload_n 3, 1) := by decide +kernel
theorem dX11_feed_36 : decode cX11_feed 36 = .ok (.invokevirtual 154, 3) := by decide +kernel
theorem dX11_feed_39 : decode cX11_feed 39 = .ok (.ireturn, 1) := by decide +kernel
theorem k_X11_feed : MV yX11_feed cX11_feed 4 (some .int) 2 := ⟨q_521, q_522, q_1, q_523, ⟨by decide, by decide, by decide +kernel⟩⟩
theorem c_X11_feed {v1 : Int64} {v3 : Int32} {res : Int32 × Int32 × (Nat → Int32)} (hf : X11_feed n x_t_length x_t_tape v1 v3 = some res) : MC l E0 D t yX11_feed cX11_feed 4 (some .int) 2 0 0 [.ref (a 0), .long v1, .int v3] (cW a ar t x_q0_dials x_q0_spots x_q0_skies x_q0_reports x_q0_count x_q0_chime x_q0_end x_q0_score x_q0_reportCount x_q0_z x_q0_rules x_q0_shades x_q0_facts x_q1_dials x_q1_spots x_q1_skies x_q1_reports x_q1_count x_q1_chime x_q1_end x_q1_score x_q1_reportCount x_q1_z x_q1_rules x_q1_shades x_q1_facts x_q2_dials x_q2_spots x_q2_skies x_q2_reports x_q2_count x_q2_chime x_q2_end x_q2_score x_q2_reportCount x_q2_z x_q2_rules x_q2_shades x_q2_facts x_isKept x_marks x_p_first x_p_steps x_p_most x_p_many x_p_fewest x_p_everRight x_p_opening x_p_rows x_p_rowCount x_p_acts x_p_marks x_p_deepest x_p_wanted x_t_length x_t_tape x_t_words x_t_places x_t_at x_t_kinds x_t_wills x_t_starts x_t_code x_t_count x_t_size x_h_sorts x_h_lengths x_h_items x_h_held x_h_things x_h_sizes x_h_bodies x_h_traced x_h_number x_h_spot x_h_parted x_g_count x_g_kinds x_g_wills x_g_starts x_g_code x_g_stack x_g_kl x_g_wl x_g_sl x_g_cl x_nr) (Qi res.1 (cW a ar t x_q0_dials x_q0_spots x_q0_skies x_q0_reports x_q0_count x_q0_chime x_q0_end x_q0_score x_q0_reportCount x_q0_z x_q0_rules x_q0_shades x_q0_facts x_q1_dials x_q1_spots x_q1_skies x_q1_reports x_q1_count x_q1_chime x_q1_end x_q1_score x_q1_reportCount x_q1_z x_q1_rules x_q1_shades x_q1_facts x_q2_dials x_q2_spots x_q2_skies x_q2_reports x_q2_count x_q2_chime x_q2_end x_q2_score x_q2_reportCount x_q2_z x_q2_rules x_q2_shades x_q2_facts x_isKept x_marks x_p_first x_p_steps x_p_most x_p_many x_p_fewest x_p_everRight x_p_opening x_p_rows x_p_rowCount x_p_acts x_p_marks x_p_deepest x_p_wanted res.2.1 res.2.2 x_t_words x_t_places x_t_at x_t_kinds x_t_wills x_t_starts x_t_code x_t_count x_t_size x_h_sorts x_h_lengths x_h_items x_h_held x_h_things x_h_sizes x_h_bodies x_h_traced x_h_number x_h_spot x_h_parted x_g_count x_g_kinds x_g_wills x_g_starts x_g_code x_g_stack x_g_kl x_g_wl x_g_sl x_g_cl x_nr)) := by
  unfold X11_feed at hf
  refine MC.ofI pn_X11 (Nat.le_of_ble_eq_true rfl) ?_
  intro p e s m args below meth c A Q ls cx hR hw hl
  have hx := cx.1
  have hb := cx.2.1
  have hl : lv_has ls 4 [(0, .ref (a 0)), (1, .long v1), (3, .int v3)] := hl
  refine lv_iload_n hx hb dX11_feed_0 rfl (lv_at hl 2 rfl) ?_
  refine lv_iconst (v := 1) hx hb dX11_feed_1 (by decide) ?_
  refine lv_bipush (v := 8) hx hb dX11_feed_2 (by decide) ?_
  refine calSi cx hw hl.1 (c_X11_isIn rfl) q_350 k_X11_isIn rfl dX11_feed_4 rfl (Nat.le_of_ble_eq_true rfl) ⟨Nat.le_of_ble_eq_true rfl, Nat.le_of_ble_eq_true rfl⟩ ⟨Nat.le_refl _, Nat.le_refl _⟩ (fun H locs hw => ?_)
  refine lv_if_ne (tgt := 12) hx hb dX11_feed_7 (by decide) (fun hc => ?_) (fun hc => ?_)
  · have hf := ifF hf hc
    refine lv_aload_n hx hb dX11_feed_12 rfl (lv_at hl 0 rfl) ?_
    refine cg_X11_16_ds cx hw dX11_feed_13 ?_
    refine cg_X11_151_text cx hw dX11_feed_16 ?_
    refine lv_sipush (v := 200) hx hb dX11_feed_19 (by decide) ?_
    refine lv_iload_n hx hb dX11_feed_22 rfl (lv_at hl 2 rfl) ?_
    refine lv_isub hx hb dX11_feed_23 ?_
    refine lv_icmp_le (tgt := 30) hx hb dX11_feed_24 (by decide) (fun hc => ?_) (fun hc => ?_)
    · have hf := ifT hf hc
      refine lv_aload_n hx hb dX11_feed_30 rfl (lv_at hl 0 rfl) ?_
      refine cg_X11_16_ds cx hw dX11_feed_31 ?_
      refine lv_lload_n hx hb dX11_feed_34 rfl (lv_at hl 1 rfl) ?_
      refine lv_iload_n hx hb dX11_feed_35 rfl (lv_at hl 2 rfl) ?_
      obtain ⟨r1, h2, hf⟩ := bnS hf
      refine calVi cx hw hl.1 (c_X6_append h2) q_524 k_X6_append rfl rv_text rfl dX11_feed_36 rfl (Nat.le_of_ble_eq_true rfl) ⟨Nat.le_of_ble_eq_true rfl, Nat.le_of_ble_eq_true rfl⟩ ⟨Nat.le_refl _, Nat.le_refl _⟩ (fun H locs hw => ?_)
      have hf := Option.some.inj hf
      subst hf
      exact hR _ _ _ _ _ _ hw rfl ⟨rfl, rfl⟩ dX11_feed_39
    · have hf := ifF hf hc
      refine lv_bipush (v := (-2)) hx hb dX11_feed_27 (by decide) ?_
      have hf := Option.some.inj hf
      subst hf
      exact hR _ _ _ _ _ _ hw rfl ⟨rfl, rfl⟩ dX11_feed_29
  · have hf := ifT hf hc
    refine lv_iconst (v := (-1)) hx hb dX11_feed_10 (by decide) ?_
    have hf := Option.some.inj hf
    subst hf
    exact hR _ _ _ _ _ _ hw rfl ⟨rfl, rfl⟩ dX11_feed_11
theorem dX9_restAct_0 : decode cX9_restAct 0 = .ok (.iconst 0, 1) := by decide +kernel
theorem dX9_restAct_1 : decode cX9_restAct 1 = .ok (.istore_n 1, 1) := by decide +kernel
theorem dX9_restAct_2 : decode cX9_restAct 2 = .ok (.iload_n 1, 1) := by decide +kernel
theorem dX9_restAct_3 : decode cX9_restAct 3 = .ok (.aload_n 0, 1) := by decide +kernel
theorem dX9_restAct_4 : decode cX9_restAct 4 = .ok (.getfield 59, 3) := by decide +kernel
theorem dX9_restAct_7 : decode cX9_restAct 7 = .ok (.if_icmp .ge 21, 3) := by decide +kernel
theorem dX9_restAct_10 : decode cX9_restAct 10 = .ok (.aload_n 0, 1) := by decide +kernel
theorem dX9_restAct_11 : decode cX9_restAct 11 = .ok (.iload_n 1, 1) := by decide +kernel
theorem dX9_restAct_12 : decode cX9_restAct 12 = .ok (.invokevirtual 131, 3) := by decide +kernel
theorem dX9_restAct_15 : decode cX9_restAct 15 = .ok (.ifCond .eq 7, 3) := by decide +kernel
theorem dX9_restAct_18 : decode cX9_restAct 18 = .ok (.iload_n 1, 1) := by decide +kernel
theorem dX9_restAct_19 : decode cX9_restAct 19 = .ok (.iconst 1, 1) := by decide +kernel
theorem dX9_restAct_20 : decode cX9_restAct 20 = .ok (.iadd, 1) := by decide +kernel
theorem dX9_restAct_21 : decode cX9_restAct 21 = .ok (.ireturn, 1) := by decide +kernel
theorem dX9_restAct_22 : decode cX9_restAct 22 = .ok (.iinc 1 1, 3) := by decide +kernel
theorem dX9_restAct_25 : decode cX9_restAct 25 = .ok (.goto (-23), 3) := by decide +kernel
theorem dX9_restAct_28 : decode cX9_restAct 28 = .ok (.iconst 0, 1) := by decide +kernel
theorem dX9_restAct_29 : decode cX9_restAct 29 = .ok (.ireturn, 1) := by decide +kernel
theorem k_X9_restAct : MV yX9_restAct cX9_restAct 2 (some .int) 0 := ⟨q_678, qs_14, q_11, q_679, ⟨by decide, by decide, by decide +kernel⟩⟩
theorem c_X9_restAct_q0 {res : Int32 × (Nat → Int32) × (Nat → Nat → Int32)} (hf : X9_restAct_q0 n x_q0_dials x_q0_skies x_q0_count x_q0_chime x_q0_rules x_q0_facts x_g_count x_g_kinds x_g_wills x_g_starts x_g_code x_g_stack x_g_kl x_g_wl x_g_sl x_g_cl x_nr = some res) : MC l E0 D t yX9_restAct cX9_restAct 2 (some .int) 5 0 0 [.ref (a 1)] (cW a ar t x_q0_dials x_q0_spots x_q0_skies x_q0_reports x_q0_count x_q0_chime x_q0_end x_q0_score x_q0_reportCount x_q0_z x_q0_rules x_q0_shades x_q0_facts x_q1_dials x_q1_spots x_q1_skies x_q1_reports x_q1_count x_q1_chime x_q1_end x_q1_score x_q1_reportCount x_q1_z x_q1_rules x_q1_shades x_q1_facts x_q2_dials x_q2_spots x_q2_skies x_q2_reports x_q2_count x_q2_chime x_q2_end x_q2_score x_q2_reportCount x_q2_z x_q2_rules x_q2_shades x_q2_facts x_isKept x_marks x_p_first x_p_steps x_p_most x_p_many x_p_fewest x_p_everRight x_p_opening x_p_rows x_p_rowCount x_p_acts x_p_marks x_p_deepest x_p_wanted x_t_length x_t_tape x_t_words x_t_places x_t_at x_t_kinds x_t_wills x_t_starts x_t_code x_t_count x_t_size x_h_sorts x_h_lengths x_h_items x_h_held x_h_things x_h_sizes x_h_bodies x_h_traced x_h_number x_h_spot x_h_parted x_g_count x_g_kinds x_g_wills x_g_starts x_g_code x_g_stack x_g_kl x_g_wl x_g_sl x_g_cl x_nr) (Qi res.1 (cW a ar t x_q0_dials x_q0_spots x_q0_skies x_q0_reports x_q0_count x_q0_chime x_q0_end x_q0_score x_q0_reportCount x_q0_z x_q0_rules x_q0_shades res.2.1 x_q1_dials x_q1_spots x_q1_skies x_q1_reports x_q1_count x_q1_chime x_q1_end x_q1_score x_q1_reportCount x_q1_z x_q1_rules x_q1_shades x_q1_facts x_q2_dials x_q2_spots x_q2_skies x_q2_reports x_q2_count x_q2_chime x_q2_end x_q2_score x_q2_reportCount x_q2_z x_q2_rules x_q2_shades x_q2_facts x_isKept x_marks x_p_first x_p_steps x_p_most x_p_many x_p_fewest x_p_everRight x_p_opening x_p_rows x_p_rowCount x_p_acts x_p_marks x_p_deepest x_p_wanted x_t_length x_t_tape x_t_words x_t_places x_t_at x_t_kinds x_t_wills x_t_starts x_t_code x_t_count x_t_size x_h_sorts x_h_lengths x_h_items x_h_held x_h_things x_h_sizes x_h_bodies x_h_traced x_h_number x_h_spot x_h_parted x_g_count x_g_kinds x_g_wills x_g_starts x_g_code res.2.2 x_g_kl x_g_wl x_g_sl x_g_cl x_nr)) := by
  unfold X9_restAct_q0 at hf
  refine MC.ofI pn_X9 (Nat.le_of_ble_eq_true rfl) ?_
  intro p e s m args below meth c A Q ls cx hR hw hl
  have hx := cx.1
  have hb := cx.2.1
  have hl : lv_has ls 2 [(0, .ref (a 1))] := hl
  refine lv_iconst (v := 0) hx hb dX9_restAct_0 (by decide) ?_
  refine lv_istore_n (lv' := [(1, .int (0 : Int32)), (0, .ref (a 1))]) hx hb dX9_restAct_1 rfl hl (by decide) rfl (fun ls hl => ?_)
  obtain ⟨K1, hK1, hf⟩ := jnS hf
  have kx1 : ∀ (o3 : Int32 × (Nat → Int32) × (Nat → Nat → Int32)) (H : Heap) (locs : List Loc) (ls : Array Slot), K1 o3 = some res → Wd D A s (cW a ar t x_q0_dials x_q0_spots x_q0_skies x_q0_reports x_q0_count x_q0_chime x_q0_end x_q0_score x_q0_reportCount x_q0_z x_q0_rules x_q0_shades o3.2.1 x_q1_dials x_q1_spots x_q1_skies x_q1_reports x_q1_count x_q1_chime x_q1_end x_q1_score x_q1_reportCount x_q1_z x_q1_rules x_q1_shades x_q1_facts x_q2_dials x_q2_spots x_q2_skies x_q2_reports x_q2_count x_q2_chime x_q2_end x_q2_score x_q2_reportCount x_q2_z x_q2_rules x_q2_shades x_q2_facts x_isKept x_marks x_p_first x_p_steps x_p_most x_p_many x_p_fewest x_p_everRight x_p_opening x_p_rows x_p_rowCount x_p_acts x_p_marks x_p_deepest x_p_wanted x_t_length x_t_tape x_t_words x_t_places x_t_at x_t_kinds x_t_wills x_t_starts x_t_code x_t_count x_t_size x_h_sorts x_h_lengths x_h_items x_h_held x_h_things x_h_sizes x_h_bodies x_h_traced x_h_number x_h_spot x_h_parted x_g_count x_g_kinds x_g_wills x_g_starts x_g_code o3.2.2 x_g_kl x_g_wl x_g_sl x_g_cl x_nr) H locs → lv_has ls 2 [(0, .ref (a 1)), (1, .int o3.1)] → W p l e (rmz 5 0 0) s m args below meth c H locs 0 0 Q (F0 m 28 ls []) := by
    intro o3 H locs ls hf hw hl
    have hf := hK1 _ hf
    refine lv_iconst (v := 0) hx hb dX9_restAct_28 (by decide) ?_
    have hf := Option.some.inj hf
    subst hf
    exact hR _ _ _ _ _ _ hw rfl ⟨rfl, rfl⟩ dX9_restAct_29
  have wL1 : ∀ (k : Nat) {v1 : Int32} {x_q0_facts : Nat → Int32} {x_g_stack : Nat → Nat → Int32} {H : Heap} {locs : List Loc} {ls : Array Slot}, X9_restAct_q0_L1 n x_q0_dials x_q0_skies x_q0_count x_q0_chime x_q0_rules x_g_count x_g_kinds x_g_wills x_g_starts x_g_code x_g_kl x_g_wl x_g_sl x_g_cl x_nr K1 k v1 x_q0_facts x_g_stack = some res → Wd D A s (cW a ar t x_q0_dials x_q0_spots x_q0_skies x_q0_reports x_q0_count x_q0_chime x_q0_end x_q0_score x_q0_reportCount x_q0_z x_q0_rules x_q0_shades x_q0_facts x_q1_dials x_q1_spots x_q1_skies x_q1_reports x_q1_count x_q1_chime x_q1_end x_q1_score x_q1_reportCount x_q1_z x_q1_rules x_q1_shades x_q1_facts x_q2_dials x_q2_spots x_q2_skies x_q2_reports x_q2_count x_q2_chime x_q2_end x_q2_score x_q2_reportCount x_q2_z x_q2_rules x_q2_shades x_q2_facts x_isKept x_marks x_p_first x_p_steps x_p_most x_p_many x_p_fewest x_p_everRight x_p_opening x_p_rows x_p_rowCount x_p_acts x_p_marks x_p_deepest x_p_wanted x_t_length x_t_tape x_t_words x_t_places x_t_at x_t_kinds x_t_wills x_t_starts x_t_code x_t_count x_t_size x_h_sorts x_h_lengths x_h_items x_h_held x_h_things x_h_sizes x_h_bodies x_h_traced x_h_number x_h_spot x_h_parted x_g_count x_g_kinds x_g_wills x_g_starts x_g_code x_g_stack x_g_kl x_g_wl x_g_sl x_g_cl x_nr) H locs → lv_has ls 2 [(0, .ref (a 1)), (1, .int v1)] → (∀ (o : Int32 × (Nat → Int32) × (Nat → Nat → Int32)) (H : Heap) (locs : List Loc) (ls : Array Slot), K1 o = some res → Wd D A s (cW a ar t x_q0_dials x_q0_spots x_q0_skies x_q0_reports x_q0_count x_q0_chime x_q0_end x_q0_score x_q0_reportCount x_q0_z x_q0_rules x_q0_shades o.2.1 x_q1_dials x_q1_spots x_q1_skies x_q1_reports x_q1_count x_q1_chime x_q1_end x_q1_score x_q1_reportCount x_q1_z x_q1_rules x_q1_shades x_q1_facts x_q2_dials x_q2_spots x_q2_skies x_q2_reports x_q2_count x_q2_chime x_q2_end x_q2_score x_q2_reportCount x_q2_z x_q2_rules x_q2_shades x_q2_facts x_isKept x_marks x_p_first x_p_steps x_p_most x_p_many x_p_fewest x_p_everRight x_p_opening x_p_rows x_p_rowCount x_p_acts x_p_marks x_p_deepest x_p_wanted x_t_length x_t_tape x_t_words x_t_places x_t_at x_t_kinds x_t_wills x_t_starts x_t_code x_t_count x_t_size x_h_sorts x_h_lengths x_h_items x_h_held x_h_things x_h_sizes x_h_bodies x_h_traced x_h_number x_h_spot x_h_parted x_g_count x_g_kinds x_g_wills x_g_starts x_g_code o.2.2 x_g_kl x_g_wl x_g_sl x_g_cl x_nr) H locs → lv_has ls 2 [(0, .ref (a 1)), (1, .int o.1)] → W p l e (rmz 5 0 0) s m args below meth c H locs 0 0 Q (F0 m 28 ls [])) → W p l e (rmz 5 0 0) s m args below meth c H locs 0 0 Q (F0 m 2 ls []) := by
    clear hf hw hl hK1 kx1
    intro k
    induction k with
    | zero => intro v1 x_q0_facts x_g_stack H locs ls hf hw hl kx; simp [X9_restAct_q0_L1] at hf
    | succ k ih =>
      intro v1 x_q0_facts x_g_stack H locs ls hf hw hl kx
      rw [X9_restAct_q0_L1] at hf
      refine lv_iload_n hx hb dX9_restAct_2 rfl (lv_at hl 1 rfl) ?_
      refine lv_aload_n hx hb dX9_restAct_3 rfl (lv_at hl 0 rfl) ?_
      refine cg_X9_59_q0 cx hw dX9_restAct_4 ?_
      refine lv_icmp_ge (tgt := 28) hx hb dX9_restAct_7 (by decide) (fun hc => ?_) (fun hc => ?_)
      · have hf := ifT hf hc
        exact kx _ _ _ _ hf hw (lv_sub hl [0, 1] rfl)
      · have hf := ifF hf hc
        refine lv_aload_n hx hb dX9_restAct_10 rfl (lv_at hl 0 rfl) ?_
        refine lv_iload_n hx hb dX9_restAct_11 rfl (lv_at hl 1 rfl) ?_
        obtain ⟨r1, h2, hf⟩ := bnS hf
        refine calVi cx hw hl.1 (c_X9_mayBeSet_q0 h2) q_680 k_X9_mayBeSet rfl rv_q0 rfl dX9_restAct_12 rfl (Nat.le_of_ble_eq_true rfl) ⟨Nat.le_of_ble_eq_true rfl, Nat.le_of_ble_eq_true rfl⟩ ⟨Nat.le_refl _, Nat.le_refl _⟩ (fun H locs hw => ?_)
        refine lv_if_eq (tgt := 22) hx hb dX9_restAct_15 (by decide) (fun hc => ?_) (fun hc => ?_)
        · have hf := ifT hf hc
          refine lv_iinc (v := (v1 + (1 : Int32))) (lv' := [(1, .int (v1 + (1 : Int32))), (0, .ref (a 1))]) hx hb dX9_restAct_22 hl (k := 1) rfl rfl (by decide) rfl (fun ls hl => ?_)
          refine lv_goto (tgt := 2) hx hb dX9_restAct_25 (by decide) ?_
          exact ih hf hw (lv_sub hl [1, 0] rfl) kx
        · have hf := ifF hf hc
          refine lv_iload_n hx hb dX9_restAct_18 rfl (lv_at hl 1 rfl) ?_
          refine lv_iconst (v := 1) hx hb dX9_restAct_19 (by decide) ?_
          refine lv_iadd hx hb dX9_restAct_20 ?_
          have hf := Option.some.inj hf
          subst hf
          exact hR _ _ _ _ _ _ hw rfl ⟨rfl, rfl⟩ dX9_restAct_21
  exact wL1 n hf hw (lv_sub hl [1, 0] rfl) kx1
theorem dX9_setRight_0 : decode cX9_setRight 0 = .ok (.aload_n 0, 1) := by decide +kernel
theorem dX9_setRight_1 : decode cX9_setRight 1 = .ok (.iload_n 1, 1) := by decide +kernel
theorem dX9_setRight_2 : decode cX9_setRight 2 = .ok (.invokevirtual 112, 3) := by decide +kernel
theorem dX9_setRight_5 : decode cX9_setRight 5 = .ok (.istore_n 2, 1) := by decide +kernel
theorem dX9_setRight_6 : decode cX9_setRight 6 = .ok (.iload_n 2, 1) := by decide +kernel
theorem dX9_setRight_7 : decode cX9_setRight 7 = .ok (.ifCond .le 21, 3) := by decide +kernel
theorem dX9_setRight_10 : decode cX9_setRight 10 = .ok (.aload_n 0, 1) := by decide +kernel
theorem dX9_setRight_11 : decode cX9_setRight 11 = .ok (.getfield 11, 3) := by decide +kernel
theorem dX9_setRight_14 : decode cX9_setRight 14 = .ok (.iload_n 1, 1) := by decide +kernel
theorem dX9_setRight_15 : decode cX9_setRight 15 = .ok (.aaload, 1) := by decide +kernel
theorem dX9_setRight_16 : decode cX9_setRight 16 = .ok (.iconst 4, 1) := by decide +kernel
theorem dX9_setRight_17 : decode cX9_setRight 17 = .ok (.iconst 1, 1) := by decide +kernel
theorem dX9_setRight_18 : decode cX9_setRight 18 = .ok (.iastore, 1) := by decide +kernel
theorem dX9_setRight_19 : decode cX9_setRight 19 = .ok (.aload_n 0, 1) := by decide +kernel
theorem dX9_setRight_20 : decode cX9_setRight 20 = .ok (.getfield 11, 3) := by decide +kernel
theorem dX9_setRight_23 : decode cX9_setRight 23 = .ok (.iload_n 1, 1) := by decide +kernel
theorem dX9_setRight_24 : decode cX9_setRight 24 = .ok (.aaload, 1) := by decide +kernel
theorem dX9_setRight_25 : decode cX9_setRight 25 = .ok (.iconst 1, 1) := by decide +kernel
theorem dX9_setRight_26 : decode cX9_setRight 26 = .ok (.iconst 0, 1) := by decide +kernel
theorem dX9_setRight_27 : decode cX9_setRight 27 = .ok (.iastore, 1) := by decide +kernel
theorem dX9_setRight_28 : decode cX9_setRight 28 = .ok (.iload_n 2, 1) := by decide +kernel
theorem dX9_setRight_29 : decode cX9_setRight 29 = .ok (.ireturn, 1) := by decide +kernel
theorem k_X9_setRight : MV yX9_setRight cX9_setRight 3 (some .int) 1 := ⟨q_687, qs_15, q_11, q_688, ⟨by decide, by decide, by decide +kernel⟩⟩
theorem c_X9_setRight_q0 {v1 : Int32} {res : Int32 × (Nat → Nat → Int32)} (hf : X9_setRight_q0 x_q0_dials v1 = some res) : MC l E0 D t yX9_setRight cX9_setRight 3 (some .int) 3 0 0 [.ref (a 1), .int v1] (cW a ar t x_q0_dials x_q0_spots x_q0_skies x_q0_reports x_q0_count x_q0_chime x_q0_end x_q0_score x_q0_reportCount x_q0_z x_q0_rules x_q0_shades x_q0_facts x_q1_dials x_q1_spots x_q1_skies x_q1_reports x_q1_count x_q1_chime x_q1_end x_q1_score x_q1_reportCount x_q1_z x_q1_rules x_q1_shades x_q1_facts x_q2_dials x_q2_spots x_q2_skies x_q2_reports x_q2_count x_q2_chime x_q2_end x_q2_score x_q2_reportCount x_q2_z x_q2_rules x_q2_shades x_q2_facts x_isKept x_marks x_p_first x_p_steps x_p_most x_p_many x_p_fewest x_p_everRight x_p_opening x_p_rows x_p_rowCount x_p_acts x_p_marks x_p_deepest x_p_wanted x_t_length x_t_tape x_t_words x_t_places x_t_at x_t_kinds x_t_wills x_t_starts x_t_code x_t_count x_t_size x_h_sorts x_h_lengths x_h_items x_h_held x_h_things x_h_sizes x_h_bodies x_h_traced x_h_number x_h_spot x_h_parted x_g_count x_g_kinds x_g_wills x_g_starts x_g_code x_g_stack x_g_kl x_g_wl x_g_sl x_g_cl x_nr) (Qi res.1 (cW a ar t res.2 x_q0_spots x_q0_skies x_q0_reports x_q0_count x_q0_chime x_q0_end x_q0_score x_q0_reportCount x_q0_z x_q0_rules x_q0_shades x_q0_facts x_q1_dials x_q1_spots x_q1_skies x_q1_reports x_q1_count x_q1_chime x_q1_end x_q1_score x_q1_reportCount x_q1_z x_q1_rules x_q1_shades x_q1_facts x_q2_dials x_q2_spots x_q2_skies x_q2_reports x_q2_count x_q2_chime x_q2_end x_q2_score x_q2_reportCount x_q2_z x_q2_rules x_q2_shades x_q2_facts x_isKept x_marks x_p_first x_p_steps x_p_most x_p_many x_p_fewest x_p_everRight x_p_opening x_p_rows x_p_rowCount x_p_acts x_p_marks x_p_deepest x_p_wanted x_t_length x_t_tape x_t_words x_t_places x_t_at x_t_kinds x_t_wills x_t_starts x_t_code x_t_count x_t_size x_h_sorts x_h_lengths x_h_items x_h_held x_h_things x_h_sizes x_h_bodies x_h_traced x_h_number x_h_spot x_h_parted x_g_count x_g_kinds x_g_wills x_g_starts x_g_code x_g_stack x_g_kl x_g_wl x_g_sl x_g_cl x_nr)) := by
  unfold X9_setRight_q0 at hf
  refine MC.ofI pn_X9 (Nat.le_of_ble_eq_true rfl) ?_
  intro p e s m args below meth c A Q ls cx hR hw hl
  have hx := cx.1
  have hb := cx.2.1
  have hl : lv_has ls 3 [(0, .ref (a 1)), (1, .int v1)] := hl
  refine lv_aload_n hx hb dX9_setRight_0 rfl (lv_at hl 0 rfl) ?_
  refine lv_iload_n hx hb dX9_setRight_1 rfl (lv_at hl 1 rfl) ?_
  obtain ⟨r1, h2, hf⟩ := bnS hf
  refine calVi cx hw hl.1 (c_X9_paysOf_q0 h2) q_447 k_X9_paysOf rfl rv_q0 rfl dX9_setRight_2 rfl (Nat.le_of_ble_eq_true rfl) ⟨Nat.le_of_ble_eq_true rfl, Nat.le_of_ble_eq_true rfl⟩ ⟨Nat.le_refl _, Nat.le_refl _⟩ (fun H locs hw => ?_)
  refine lv_istore_n (lv' := [(2, .int r1), (0, .ref (a 1)), (1, .int v1)]) hx hb dX9_setRight_5 rfl hl (by decide) rfl (fun ls hl => ?_)
  refine lv_iload_n hx hb dX9_setRight_6 rfl (lv_at hl 0 rfl) ?_
  refine lv_if_le (tgt := 28) hx hb dX9_setRight_7 (by decide) (fun hc => ?_) (fun hc => ?_)
  · have hf := ifT hf hc
    refine lv_iload_n hx hb dX9_setRight_28 rfl (lv_at hl 0 rfl) ?_
    have hf := Option.some.inj hf
    subst hf
    exact hR _ _ _ _ _ _ hw rfl ⟨rfl, rfl⟩ dX9_setRight_29
  · have hf := ifF hf hc
    refine lv_aload_n hx hb dX9_setRight_10 rfl (lv_at hl 1 rfl) ?_
    refine cg_X9_11_q0 cx hw dX9_setRight_11 ?_
    refine lv_iload_n hx hb dX9_setRight_14 rfl (lv_at hl 2 rfl) ?_
    obtain ⟨h3, hf⟩ := ckS hf
    refine co_q0_dials (j := v1.toNatClampNeg) cx hw (ib_in h3) rfl dX9_setRight_15 ?_
    refine lv_iconst (v := 4) hx hb dX9_setRight_16 (by decide) ?_
    refine lv_iconst (v := 1) hx hb dX9_setRight_17 (by decide) ?_
    refine ct_q0_dials (j := 4) cx hw (ib_lt h3) (ib_in (by decide)) (by decide) dX9_setRight_18 (fun H locs hw => ?_)
    refine lv_aload_n hx hb dX9_setRight_19 rfl (lv_at hl 1 rfl) ?_
    refine cg_X9_11_q0 cx hw dX9_setRight_20 ?_
    refine lv_iload_n hx hb dX9_setRight_23 rfl (lv_at hl 2 rfl) ?_
    obtain ⟨h4, hf⟩ := ckS hf
    refine co_q0_dials (j := v1.toNatClampNeg) cx hw (ib_in h4) rfl dX9_setRight_24 ?_
    refine lv_iconst (v := 1) hx hb dX9_setRight_25 (by decide) ?_
    refine lv_iconst (v := 0) hx hb dX9_setRight_26 (by decide) ?_
    refine ct_q0_dials (j := 1) cx hw (ib_lt h4) (ib_in (by decide)) (by decide) dX9_setRight_27 (fun H locs hw => ?_)
    refine lv_iload_n hx hb dX9_setRight_28 rfl (lv_at hl 0 rfl) ?_
    have hf := Option.some.inj hf
    subst hf
    exact hR _ _ _ _ _ _ hw rfl ⟨rfl, rfl⟩ dX9_setRight_29
theorem dX9_arguedBy_0 : decode cX9_arguedBy 0 = .ok (.iconst 0, 1) := by decide +kernel
theorem dX9_arguedBy_1 : decode cX9_arguedBy 1 = .ok (.istore_n 2, 1) := by decide +kernel
theorem dX9_arguedBy_2 : decode cX9_arguedBy 2 = .ok (.iconst 0, 1) := by decide +kernel
theorem dX9_arguedBy_3 : decode cX9_arguedBy 3 = .ok (.istore_n 3, 1) := by decide +kernel
theorem dX9_arguedBy_4 : decode cX9_arguedBy 4 = .ok (.iload_n 3, 1) := by decide +kernel
theorem dX9_arguedBy_5 : decode cX9_arguedBy 5 = .ok (.aload_n 0, 1) := by decide +kernel
theorem dX9_arguedBy_6 : decode cX9_arguedBy 6 = .ok (.getfield 59, 3) := by decide +kernel
theorem dX9_arguedBy_9 : decode cX9_arguedBy 9 = .ok (.if_icmp .ge 100, 3) := by decide +kernel
theorem dX9_arguedBy_12 : decode cX9_arguedBy 12 = .ok (.aload_n 0, 1) := by decide +kernel
theorem dX9_arguedBy_13 : decode cX9_arguedBy 13 = .ok (.getfield 11, 3) := by decide +kernel
theorem dX9_arguedBy_16 : decode cX9_arguedBy 16 = .ok (.iload_n 3, 1) := by decide +kernel
theorem dX9_arguedBy_17 : decode cX9_arguedBy 17 = .ok (.aaload, 1) := by decide +kernel
theorem dX9_arguedBy_18 : decode cX9_arguedBy 18 = .ok (.iconst 3, 1) := by decide +kernel
theorem dX9_arguedBy_19 : decode cX9_arguedBy 19 = .ok (.iaload, 1) := by decide +kernel
theorem dX9_arguedBy_20 : decode cX9_arguedBy 20 = .ok (.aload_n 0, 1) := by decide +kernel
theorem dX9_arguedBy_21 : decode cX9_arguedBy 21 = .ok (.getfield 11, 3) := by decide +kernel
theorem dX9_arguedBy_24 : decode cX9_arguedBy 24 = .ok (.iload_n 1, 1) := by decide +kernel
theorem dX9_arguedBy_25 : decode cX9_arguedBy 25 = .ok (.aaload, 1) := by decide +kernel
theorem dX9_arguedBy_26 : decode cX9_arguedBy 26 = .ok (.iconst 3, 1) := by decide +kernel
theorem dX9_arguedBy_27 : decode cX9_arguedBy 27 = .ok (.iaload, 1) := by decide +kernel
theorem dX9_arguedBy_28 : decode cX9_arguedBy 28 = .ok (.isub, 1) := by decide +kernel
theorem dX9_arguedBy_29 : decode cX9_arguedBy 29 = .ok (.invokestatic 94, 3) := by decide +kernel
theorem dX9_arguedBy_32 : decode cX9_arguedBy 32 = .ok (.iconst 1, 1) := by decide +kernel
theorem dX9_arguedBy_33 : decode cX9_arguedBy 33 = .ok (.if_icmp .gt 7, 3) := by decide +kernel
theorem dX9_arguedBy_36 : decode cX9_arguedBy 36 = .ok (.iconst 1, 1) := by decide +kernel
theorem dX9_arguedBy_37 : decode cX9_arguedBy 37 = .ok (.goto 4, 3) := by decide +kernel
theorem dX9_arguedBy_40 : decode cX9_arguedBy 40 = .ok (.iconst 0, 1) := by decide +kernel
theorem dX9_arguedBy_41 : decode cX9_arguedBy 41 = .ok (.istore 4, 2) := by decide +kernel
theorem dX9_arguedBy_43 : decode cX9_arguedBy 43 = .ok (.aload_n 0, 1) := by decide +kernel
theorem dX9_arguedBy_44 : decode cX9_arguedBy 44 = .ok (.getfield 11, 3) := by decide +kernel
theorem dX9_arguedBy_47 : decode cX9_arguedBy 47 = .ok (.iload_n 1, 1) := by decide +kernel
theorem dX9_arguedBy_48 : decode cX9_arguedBy 48 = .ok (.aaload, 1) := by decide +kernel
theorem dX9_arguedBy_49 : decode cX9_arguedBy 49 = .ok (.iconst 1, 1) := by decide +kernel
theorem dX9_arguedBy_50 : decode cX9_arguedBy 50 = .ok (.iaload, 1) := by decide +kernel
theorem dX9_arguedBy_51 : decode cX9_arguedBy 51 = .ok (.aload_n 0, 1) := by decide +kernel
theorem dX9_arguedBy_52 : decode cX9_arguedBy 52 = .ok (.getfield 11, 3) := by decide +kernel
theorem dX9_arguedBy_55 : decode cX9_arguedBy 55 = .ok (.iload_n 3, 1) := by decide +kernel
theorem dX9_arguedBy_56 : decode cX9_arguedBy 56 = .ok (.aaload, 1) := by decide +kernel
theorem dX9_arguedBy_57 : decode cX9_arguedBy 57 = .ok (.iconst 1, 1) := by decide +kernel
theorem dX9_arguedBy_58 : decode cX9_arguedBy 58 = .ok (.iaload, 1) := by decide +kernel
theorem dX9_arguedBy_59 : decode cX9_arguedBy 59 = .ok (.isub, 1) := by decide +kernel
theorem dX9_arguedBy_60 : decode cX9_arguedBy 60 = .ok (.iconst 2, 1) := by decide +kernel
theorem dX9_arguedBy_61 : decode cX9_arguedBy 61 = .ok (.idiv, 1) := by decide +kernel
theorem dX9_arguedBy_62 : decode cX9_arguedBy 62 = .ok (.istore 5, 2) := by decide +kernel
theorem dX9_arguedBy_64 : decode cX9_arguedBy 64 = .ok (.iload_n 3, 1) := by decide +kernel
theorem dX9_arguedBy_65 : decode cX9_arguedBy 65 = .ok (.iload_n 1, 1) := by decide +kernel
theorem dX9_arguedBy_66 : decode cX9_arguedBy 66 = .ok (.if_icmp .eq 37, 3) := by decide +kernel
theorem dX9_arguedBy_69 : decode cX9_arguedBy 69 = .ok (.iload 4, 2) := by decide +kernel
theorem dX9_arguedBy_71 : decode cX9_arguedBy 71 = .ok (.ifCond .eq 32, 3) := by decide +kernel
theorem dX9_arguedBy_74 : decode cX9_arguedBy 74 = .ok (.aload_n 0, 1) := by decide +kernel
theorem dX9_arguedBy_75 : decode cX9_arguedBy 75 = .ok (.iload_n 3, 1) := by decide +kernel
theorem dX9_arguedBy_76 : decode cX9_arguedBy 76 = .ok (.invokevirtual 71, 3) := by decide +kernel
theorem dX9_arguedBy_79 : decode cX9_arguedBy 79 = .ok (.ifCond .ne 24, 3) := by decide +kernel
theorem dX9_arguedBy_82 : decode cX9_arguedBy 82 = .ok (.iload 5, 2) := by decide +kernel
theorem dX9_arguedBy_84 : decode cX9_arguedBy 84 = .ok (.ifCond .eq 19, 3) := by decide +kernel
theorem dX9_arguedBy_87 : decode cX9_arguedBy 87 = .ok (.aload_n 0, 1) := by decide +kernel
theorem dX9_arguedBy_88 : decode cX9_arguedBy 88 = .ok (.getfield 11, 3) := by decide +kernel
theorem dX9_arguedBy_91 : decode cX9_arguedBy 91 = .ok (.iload_n 3, 1) := by decide +kernel
theorem dX9_arguedBy_92 : decode cX9_arguedBy 92 = .ok (.aaload, 1) := by decide +kernel
theorem dX9_arguedBy_93 : decode cX9_arguedBy 93 = .ok (.iconst 1, 1) := by decide +kernel
theorem dX9_arguedBy_94 : decode cX9_arguedBy 94 = .ok (.dup2, 1) := by decide +kernel
theorem dX9_arguedBy_95 : decode cX9_arguedBy 95 = .ok (.iaload, 1) := by decide +kernel
theorem dX9_arguedBy_96 : decode cX9_arguedBy 96 = .ok (.iload 5, 2) := by decide +kernel
theorem dX9_arguedBy_98 : decode cX9_arguedBy 98 = .ok (.iadd, 1) := by decide +kernel
theorem dX9_arguedBy_99 : decode cX9_arguedBy 99 = .ok (.iastore, 1) := by decide +kernel
theorem dX9_arguedBy_100 : decode cX9_arguedBy 100 = .ok (.iinc 2 1, 3) := by decide +kernel
theorem dX9_arguedBy_103 : decode cX9_arguedBy 103 = .ok (.iinc 3 1, 3) := by decide +kernel
theorem dX9_arguedBy_106 : decode cX9_arguedBy 106 = .ok (.goto (-102), 3) := by decide +kernel
theorem dX9_arguedBy_109 : decode cX9_arguedBy 109 = .ok (.iload_n 2, 1) := by decide +kernel
theorem dX9_arguedBy_110 : decode cX9_arguedBy 110 = .ok (.ireturn, 1) := by decide +kernel
theorem k_X9_arguedBy : MV yX9_arguedBy cX9_arguedBy 6 (some .int) 1 := ⟨q_691, qs_16, q_11, q_692, ⟨by decide, by decide, by decide +kernel⟩⟩
theorem c_X9_arguedBy_q0 {v1 : Int32} {res : Int32 × (Nat → Nat → Int32)} (hf : X9_arguedBy_q0 n x_q0_dials x_q0_count v1 = some res) : MC l E0 D t yX9_arguedBy cX9_arguedBy 6 (some .int) 2 0 0 [.ref (a 1), .int v1] (cW a ar t x_q0_dials x_q0_spots x_q0_skies x_q0_reports x_q0_count x_q0_chime x_q0_end x_q0_score x_q0_reportCount x_q0_z x_q0_rules x_q0_shades x_q0_facts x_q1_dials x_q1_spots x_q1_skies x_q1_reports x_q1_count x_q1_chime x_q1_end x_q1_score x_q1_reportCount x_q1_z x_q1_rules x_q1_shades x_q1_facts x_q2_dials x_q2_spots x_q2_skies x_q2_reports x_q2_count x_q2_chime x_q2_end x_q2_score x_q2_reportCount x_q2_z x_q2_rules x_q2_shades x_q2_facts x_isKept x_marks x_p_first x_p_steps x_p_most x_p_many x_p_fewest x_p_everRight x_p_opening x_p_rows x_p_rowCount x_p_acts x_p_marks x_p_deepest x_p_wanted x_t_length x_t_tape x_t_words x_t_places x_t_at x_t_kinds x_t_wills x_t_starts x_t_code x_t_count x_t_size x_h_sorts x_h_lengths x_h_items x_h_held x_h_things x_h_sizes x_h_bodies x_h_traced x_h_number x_h_spot x_h_parted x_g_count x_g_kinds x_g_wills x_g_starts x_g_code x_g_stack x_g_kl x_g_wl x_g_sl x_g_cl x_nr) (Qi res.1 (cW a ar t res.2 x_q0_spots x_q0_skies x_q0_reports x_q0_count x_q0_chime x_q0_end x_q0_score x_q0_reportCount x_q0_z x_q0_rules x_q0_shades x_q0_facts x_q1_dials x_q1_spots x_q1_skies x_q1_reports x_q1_count x_q1_chime x_q1_end x_q1_score x_q1_reportCount x_q1_z x_q1_rules x_q1_shades x_q1_facts x_q2_dials x_q2_spots x_q2_skies x_q2_reports x_q2_count x_q2_chime x_q2_end x_q2_score x_q2_reportCount x_q2_z x_q2_rules x_q2_shades x_q2_facts x_isKept x_marks x_p_first x_p_steps x_p_most x_p_many x_p_fewest x_p_everRight x_p_opening x_p_rows x_p_rowCount x_p_acts x_p_marks x_p_deepest x_p_wanted x_t_length x_t_tape x_t_words x_t_places x_t_at x_t_kinds x_t_wills x_t_starts x_t_code x_t_count x_t_size x_h_sorts x_h_lengths x_h_items x_h_held x_h_things x_h_sizes x_h_bodies x_h_traced x_h_number x_h_spot x_h_parted x_g_count x_g_kinds x_g_wills x_g_starts x_g_code x_g_stack x_g_kl x_g_wl x_g_sl x_g_cl x_nr)) := by
  unfold X9_arguedBy_q0 at hf
  refine MC.ofI pn_X9 (Nat.le_of_ble_eq_true rfl) ?_
  intro p e s m args below meth c A Q ls cx hR hw hl
  have hx := cx.1
  have hb := cx.2.1
  have hl : lv_has ls 6 [(0, .ref (a 1)), (1, .int v1)] := hl
  refine lv_iconst (v := 0) hx hb dX9_arguedBy_0 (by decide) ?_
  refine lv_istore_n (lv' := [(2, .int (0 : Int32)), (0, .ref (a 1)), (1, .int v1)]) hx hb dX9_arguedBy_1 rfl hl (by decide) rfl (fun ls hl => ?_)
  refine lv_iconst (v := 0) hx hb dX9_arguedBy_2 (by decide) ?_
  refine lv_istore_n (lv' := [(3, .int (0 : Int32)), (2, .int (0 : Int32)), (0, .ref (a 1)), (1, .int v1)]) hx hb dX9_arguedBy_3 rfl hl (by decide) rfl (fun ls hl => ?_)
  obtain ⟨o10, ho10, hf⟩ := bnS hf
  have wL1 : ∀ (k : Nat) {v1 : Int32} {v2 : Int32} {v3 : Int32} {x_q0_dials : Nat → Nat → Int32} {H : Heap} {locs : List Loc} {ls : Array Slot} {o : Int32 × Int32 × (Nat → Nat → Int32)}, X9_arguedBy_q0_L1 n x_q0_count v1 k v2 v3 x_q0_dials = some o → Wd D A s (cW a ar t x_q0_dials x_q0_spots x_q0_skies x_q0_reports x_q0_count x_q0_chime x_q0_end x_q0_score x_q0_reportCount x_q0_z x_q0_rules x_q0_shades x_q0_facts x_q1_dials x_q1_spots x_q1_skies x_q1_reports x_q1_count x_q1_chime x_q1_end x_q1_score x_q1_reportCount x_q1_z x_q1_rules x_q1_shades x_q1_facts x_q2_dials x_q2_spots x_q2_skies x_q2_reports x_q2_count x_q2_chime x_q2_end x_q2_score x_q2_reportCount x_q2_z x_q2_rules x_q2_shades x_q2_facts x_isKept x_marks x_p_first x_p_steps x_p_most x_p_many x_p_fewest x_p_everRight x_p_opening x_p_rows x_p_rowCount x_p_acts x_p_marks x_p_deepest x_p_wanted x_t_length x_t_tape x_t_words x_t_places x_t_at x_t_kinds x_t_wills x_t_starts x_t_code x_t_count x_t_size x_h_sorts x_h_lengths x_h_items x_h_held x_h_things x_h_sizes x_h_bodies x_h_traced x_h_number x_h_spot x_h_parted x_g_count x_g_kinds x_g_wills x_g_starts x_g_code x_g_stack x_g_kl x_g_wl x_g_sl x_g_cl x_nr) H locs → lv_has ls 6 [(0, .ref (a 1)), (1, .int v1), (2, .int v2), (3, .int v3)] → (∀ (H : Heap) (locs : List Loc) (ls : Array Slot), Wd D A s (cW a ar t o.2.2 x_q0_spots x_q0_skies x_q0_reports x_q0_count x_q0_chime x_q0_end x_q0_score x_q0_reportCount x_q0_z x_q0_rules x_q0_shades x_q0_facts x_q1_dials x_q1_spots x_q1_skies x_q1_reports x_q1_count x_q1_chime x_q1_end x_q1_score x_q1_reportCount x_q1_z x_q1_rules x_q1_shades x_q1_facts x_q2_dials x_q2_spots x_q2_skies x_q2_reports x_q2_count x_q2_chime x_q2_end x_q2_score x_q2_reportCount x_q2_z x_q2_rules x_q2_shades x_q2_facts x_isKept x_marks x_p_first x_p_steps x_p_most x_p_many x_p_fewest x_p_everRight x_p_opening x_p_rows x_p_rowCount x_p_acts x_p_marks x_p_deepest x_p_wanted x_t_length x_t_tape x_t_words x_t_places x_t_at x_t_kinds x_t_wills x_t_starts x_t_code x_t_count x_t_size x_h_sorts x_h_lengths x_h_items x_h_held x_h_things x_h_sizes x_h_bodies x_h_traced x_h_number x_h_spot x_h_parted x_g_count x_g_kinds x_g_wills x_g_starts x_g_code x_g_stack x_g_kl x_g_wl x_g_sl x_g_cl x_nr) H locs → lv_has ls 6 [(0, .ref (a 1)), (1, .int v1), (2, .int o.1), (3, .int o.2.1)] → W p l e (rmz 2 0 0) s m args below meth c H locs 0 0 Q (F0 m 109 ls [])) → W p l e (rmz 2 0 0) s m args below meth c H locs 0 0 Q (F0 m 4 ls []) := by
    clear hf ho10 hw hl
    intro k
    induction k with
    | zero => intro v1 v2 v3 x_q0_dials H locs ls o hf hw hl kx; simp [X9_arguedBy_q0_L1] at hf
    | succ k ih =>
      intro v1 v2 v3 x_q0_dials H locs ls o hf hw hl kx
      rw [X9_arguedBy_q0_L1] at hf
      refine lv_iload_n hx hb dX9_arguedBy_4 rfl (lv_at hl 3 rfl) ?_
      refine lv_aload_n hx hb dX9_arguedBy_5 rfl (lv_at hl 0 rfl) ?_
      refine cg_X9_59_q0 cx hw dX9_arguedBy_6 ?_
      refine lv_icmp_ge (tgt := 109) hx hb dX9_arguedBy_9 (by decide) (fun hc => ?_) (fun hc => ?_)
      · have hf := ifT hf hc
        have hf := Option.some.inj hf
        subst hf
        exact kx _ _ _ hw (lv_sub hl [0, 1, 2, 3] rfl)
      · have hf := ifF hf hc
        refine lv_aload_n hx hb dX9_arguedBy_12 rfl (lv_at hl 0 rfl) ?_
        refine cg_X9_11_q0 cx hw dX9_arguedBy_13 ?_
        refine lv_iload_n hx hb dX9_arguedBy_16 rfl (lv_at hl 3 rfl) ?_
        obtain ⟨h1, hf⟩ := ckS hf
        refine co_q0_dials (j := v3.toNatClampNeg) cx hw (ib_in h1) rfl dX9_arguedBy_17 ?_
        refine lv_iconst (v := 3) hx hb dX9_arguedBy_18 (by decide) ?_
        refine cm_q0_dials (j := 3) cx hw (ib_lt h1) (ib_in (by decide)) (by decide) dX9_arguedBy_19 ?_
        refine lv_aload_n hx hb dX9_arguedBy_20 rfl (lv_at hl 0 rfl) ?_
        refine cg_X9_11_q0 cx hw dX9_arguedBy_21 ?_
        refine lv_iload_n hx hb dX9_arguedBy_24 rfl (lv_at hl 1 rfl) ?_
        obtain ⟨h2, hf⟩ := ckS hf
        refine co_q0_dials (j := v1.toNatClampNeg) cx hw (ib_in h2) rfl dX9_arguedBy_25 ?_
        refine lv_iconst (v := 3) hx hb dX9_arguedBy_26 (by decide) ?_
        refine cm_q0_dials (j := 3) cx hw (ib_lt h2) (ib_in (by decide)) (by decide) dX9_arguedBy_27 ?_
        refine lv_isub hx hb dX9_arguedBy_28 ?_
        refine va_mabs hx hb (cx.2.2.1.trans hl.1.symm) cx.2.2.2.1 (cx.2.2.2.2.1 _ q_517) (cx.2.2.2.2.1 _ q_518) (cx.2.2.2.2.1 _ q_15) (cx.2.2.2.2.1 _ q_519) (by show 1 ≤ _; exact Nat.le_of_ble_eq_true rfl) (by show _ ≤ 64 * _; exact Nat.le_of_ble_eq_true rfl) (Nat.le_refl _) (Nat.le_refl _) dX9_arguedBy_29 ?_
        refine lv_iconst (v := 1) hx hb dX9_arguedBy_32 (by decide) ?_
        obtain ⟨j3, hj3, hf⟩ := pbS hf
        have wj3 : ∀ (H : Heap) (locs : List Loc) (ls : Array Slot), Wd D A s (cW a ar t x_q0_dials x_q0_spots x_q0_skies x_q0_reports x_q0_count x_q0_chime x_q0_end x_q0_score x_q0_reportCount x_q0_z x_q0_rules x_q0_shades x_q0_facts x_q1_dials x_q1_spots x_q1_skies x_q1_reports x_q1_count x_q1_chime x_q1_end x_q1_score x_q1_reportCount x_q1_z x_q1_rules x_q1_shades x_q1_facts x_q2_dials x_q2_spots x_q2_skies x_q2_reports x_q2_count x_q2_chime x_q2_end x_q2_score x_q2_reportCount x_q2_z x_q2_rules x_q2_shades x_q2_facts x_isKept x_marks x_p_first x_p_steps x_p_most x_p_many x_p_fewest x_p_everRight x_p_opening x_p_rows x_p_rowCount x_p_acts x_p_marks x_p_deepest x_p_wanted x_t_length x_t_tape x_t_words x_t_places x_t_at x_t_kinds x_t_wills x_t_starts x_t_code x_t_count x_t_size x_h_sorts x_h_lengths x_h_items x_h_held x_h_things x_h_sizes x_h_bodies x_h_traced x_h_number x_h_spot x_h_parted x_g_count x_g_kinds x_g_wills x_g_starts x_g_code x_g_stack x_g_kl x_g_wl x_g_sl x_g_cl x_nr) H locs → lv_has ls 6 [(0, .ref (a 1)), (1, .int v1), (2, .int v2), (3, .int v3)] → W p l e (rmz 2 0 0) s m args below meth c H locs 0 0 Q (F0 m 41 ls [.int j3]) := by
          intro H locs ls hw hl
          refine lv_istore (lv' := [(4, .int j3), (0, .ref (a 1)), (1, .int v1), (2, .int v2), (3, .int v3)]) hx hb dX9_arguedBy_41 hl (by decide) rfl (fun ls hl => ?_)
          refine lv_aload_n hx hb dX9_arguedBy_43 rfl (lv_at hl 1 rfl) ?_
          refine cg_X9_11_q0 cx hw dX9_arguedBy_44 ?_
          refine lv_iload_n hx hb dX9_arguedBy_47 rfl (lv_at hl 2 rfl) ?_
          obtain ⟨h4, hf⟩ := ckS hf
          refine co_q0_dials (j := v1.toNatClampNeg) cx hw (ib_in h4) rfl dX9_arguedBy_48 ?_
          refine lv_iconst (v := 1) hx hb dX9_arguedBy_49 (by decide) ?_
          refine cm_q0_dials (j := 1) cx hw (ib_lt h4) (ib_in (by decide)) (by decide) dX9_arguedBy_50 ?_
          refine lv_aload_n hx hb dX9_arguedBy_51 rfl (lv_at hl 1 rfl) ?_
          refine cg_X9_11_q0 cx hw dX9_arguedBy_52 ?_
          refine lv_iload_n hx hb dX9_arguedBy_55 rfl (lv_at hl 4 rfl) ?_
          obtain ⟨h5, hf⟩ := ckS hf
          refine co_q0_dials (j := v3.toNatClampNeg) cx hw (ib_in h5) rfl dX9_arguedBy_56 ?_
          refine lv_iconst (v := 1) hx hb dX9_arguedBy_57 (by decide) ?_
          refine cm_q0_dials (j := 1) cx hw (ib_lt h5) (ib_in (by decide)) (by decide) dX9_arguedBy_58 ?_
          refine lv_isub hx hb dX9_arguedBy_59 ?_
          refine lv_iconst (v := 2) hx hb dX9_arguedBy_60 (by decide) ?_
          refine lv_idiv hx hb dX9_arguedBy_61 (by decide) ?_
          refine lv_istore (lv' := [(5, .int (((x_q0_dials v1.toNatClampNeg 1) - (x_q0_dials v3.toNatClampNeg 1)) / (2 : Int32))), (4, .int j3), (0, .ref (a 1)), (1, .int v1), (2, .int v2), (3, .int v3)]) hx hb dX9_arguedBy_62 hl (by decide) rfl (fun ls hl => ?_)
          refine lv_iload_n hx hb dX9_arguedBy_64 rfl (lv_at hl 5 rfl) ?_
          refine lv_iload_n hx hb dX9_arguedBy_65 rfl (lv_at hl 3 rfl) ?_
          obtain ⟨j9, hj9, hf⟩ := bnS hf
          have wj9 : ∀ (H : Heap) (locs : List Loc) (ls : Array Slot), Wd D A s (cW a ar t j9.2 x_q0_spots x_q0_skies x_q0_reports x_q0_count x_q0_chime x_q0_end x_q0_score x_q0_reportCount x_q0_z x_q0_rules x_q0_shades x_q0_facts x_q1_dials x_q1_spots x_q1_skies x_q1_reports x_q1_count x_q1_chime x_q1_end x_q1_score x_q1_reportCount x_q1_z x_q1_rules x_q1_shades x_q1_facts x_q2_dials x_q2_spots x_q2_skies x_q2_reports x_q2_count x_q2_chime x_q2_end x_q2_score x_q2_reportCount x_q2_z x_q2_rules x_q2_shades x_q2_facts x_isKept x_marks x_p_first x_p_steps x_p_most x_p_many x_p_fewest x_p_everRight x_p_opening x_p_rows x_p_rowCount x_p_acts x_p_marks x_p_deepest x_p_wanted x_t_length x_t_tape x_t_words x_t_places x_t_at x_t_kinds x_t_wills x_t_starts x_t_code x_t_count x_t_size x_h_sorts x_h_lengths x_h_items x_h_held x_h_things x_h_sizes x_h_bodies x_h_traced x_h_number x_h_spot x_h_parted x_g_count x_g_kinds x_g_wills x_g_starts x_g_code x_g_stack x_g_kl x_g_wl x_g_sl x_g_cl x_nr) H locs → lv_has ls 6 [(0, .ref (a 1)), (1, .int v1), (2, .int j9.1), (3, .int v3), (4, .int j3), (5, .int (((x_q0_dials v1.toNatClampNeg 1) - (x_q0_dials v3.toNatClampNeg 1)) / (2 : Int32)))] → W p l e (rmz 2 0 0) s m args below meth c H locs 0 0 Q (F0 m 103 ls []) := by
            intro H locs ls hw hl
            refine lv_iinc (v := (v3 + (1 : Int32))) (lv' := [(3, .int (v3 + (1 : Int32))), (0, .ref (a 1)), (1, .int v1), (2, .int j9.1), (4, .int j3), (5, .int (((x_q0_dials v1.toNatClampNeg 1) - (x_q0_dials v3.toNatClampNeg 1)) / (2 : Int32)))]) hx hb dX9_arguedBy_103 hl (k := 3) rfl rfl (by decide) rfl (fun ls hl => ?_)
            refine lv_goto (tgt := 4) hx hb dX9_arguedBy_106 (by decide) ?_
            exact ih hf hw (lv_sub hl [1, 2, 3, 0] rfl) kx
          clear hf
          have hf := hj9
          clear hj9
          refine lv_icmp_eq (tgt := 103) hx hb dX9_arguedBy_66 (by decide) (fun hc => ?_) (fun hc => ?_)
          · have hf := ifT hf hc
            have hf := Option.some.inj hf
            subst hf
            exact wj9 _ _ _ hw (lv_sub hl [2, 3, 4, 5, 1, 0] rfl)
          · have hf := ifF hf hc
            refine lv_iload hx hb dX9_arguedBy_69 (lv_at hl 1 rfl) ?_
            refine lv_if_eq (tgt := 103) hx hb dX9_arguedBy_71 (by decide) (fun hc => ?_) (fun hc => ?_)
            · have hf := ifT hf hc
              have hf := Option.some.inj hf
              subst hf
              exact wj9 _ _ _ hw (lv_sub hl [2, 3, 4, 5, 1, 0] rfl)
            · have hf := ifF hf hc
              refine lv_aload_n hx hb dX9_arguedBy_74 rfl (lv_at hl 2 rfl) ?_
              refine lv_iload_n hx hb dX9_arguedBy_75 rfl (lv_at hl 5 rfl) ?_
              obtain ⟨r6, h7, hf⟩ := bnS hf
              refine calVi cx hw hl.1 (c_X9_isRight_q0 h7) q_439 k_X9_isRight rfl rv_q0 rfl dX9_arguedBy_76 rfl (Nat.le_of_ble_eq_true rfl) ⟨Nat.le_of_ble_eq_true rfl, Nat.le_of_ble_eq_true rfl⟩ ⟨Nat.le_refl _, Nat.le_refl _⟩ (fun H locs hw => ?_)
              refine lv_if_ne (tgt := 103) hx hb dX9_arguedBy_79 (by decide) (fun hc => ?_) (fun hc => ?_)
              · have hf := ifF hf hc
                have hf := Option.some.inj hf
                subst hf
                exact wj9 _ _ _ hw (lv_sub hl [2, 3, 4, 5, 1, 0] rfl)
              · have hf := ifT hf hc
                refine lv_iload hx hb dX9_arguedBy_82 (lv_at hl 0 rfl) ?_
                refine lv_if_eq (tgt := 103) hx hb dX9_arguedBy_84 (by decide) (fun hc => ?_) (fun hc => ?_)
                · have hf := ifT hf hc
                  have hf := Option.some.inj hf
                  subst hf
                  exact wj9 _ _ _ hw (lv_sub hl [2, 3, 4, 5, 1, 0] rfl)
                · have hf := ifF hf hc
                  refine lv_aload_n hx hb dX9_arguedBy_87 rfl (lv_at hl 2 rfl) ?_
                  refine cg_X9_11_q0 cx hw dX9_arguedBy_88 ?_
                  refine lv_iload_n hx hb dX9_arguedBy_91 rfl (lv_at hl 5 rfl) ?_
                  obtain ⟨h8, hf⟩ := ckS hf
                  refine co_q0_dials (j := v3.toNatClampNeg) cx hw (ib_in h8) rfl dX9_arguedBy_92 ?_
                  refine lv_iconst (v := 1) hx hb dX9_arguedBy_93 (by decide) ?_
                  refine lv_dup2_11 hx hb dX9_arguedBy_94 rfl rfl ?_
                  refine cm_q0_dials (j := 1) cx hw (ib_lt h8) (ib_in (by decide)) (by decide) dX9_arguedBy_95 ?_
                  refine lv_iload hx hb dX9_arguedBy_96 (lv_at hl 0 rfl) ?_
                  refine lv_iadd hx hb dX9_arguedBy_98 ?_
                  refine ct_q0_dials (j := 1) cx hw (ib_lt h8) (ib_in (by decide)) (by decide) dX9_arguedBy_99 (fun H locs hw => ?_)
                  refine lv_iinc (v := (v2 + (1 : Int32))) (lv' := [(2, .int (v2 + (1 : Int32))), (5, .int (((x_q0_dials v1.toNatClampNeg 1) - (x_q0_dials v3.toNatClampNeg 1)) / (2 : Int32))), (4, .int j3), (0, .ref (a 1)), (1, .int v1), (3, .int v3)]) hx hb dX9_arguedBy_100 hl (k := 4) rfl rfl (by decide) rfl (fun ls hl => ?_)
                  have hf := Option.some.inj hf
                  subst hf
                  exact wj9 _ _ _ hw (lv_sub hl [3, 4, 0, 5, 2, 1] rfl)
        clear hf
        have hf := hj3
        clear hj3
        refine lv_icmp_gt (tgt := 40) hx hb dX9_arguedBy_33 (by decide) (fun hc => ?_) (fun hc => ?_)
        · have hf := ifT hf hc
          refine lv_iconst (v := 0) hx hb dX9_arguedBy_40 (by decide) ?_
          subst hf
          exact wj3 _ _ _ hw (lv_sub hl [0, 1, 2, 3] rfl)
        · have hf := ifF hf hc
          refine lv_iconst (v := 1) hx hb dX9_arguedBy_36 (by decide) ?_
          refine lv_goto (tgt := 41) hx hb dX9_arguedBy_37 (by decide) ?_
          subst hf
          exact wj3 _ _ _ hw (lv_sub hl [0, 1, 2, 3] rfl)
  refine wL1 n ho10 hw (lv_sub hl [2, 3, 1, 0] rfl) (fun H locs ls hw hl => ?_)
  clear wL1 ho10
  refine lv_iload_n hx hb dX9_arguedBy_109 rfl (lv_at hl 2 rfl) ?_
  have hf := Option.some.inj hf
  subst hf
  exact hR _ _ _ _ _ _ hw rfl ⟨rfl, rfl⟩ dX9_arguedBy_110
theorem dX9_slipAll_0 : decode cX9_slipAll 0 = .ok (.aload_n 0, 1) := by decide +kernel
theorem dX9_slipAll_1 : decode cX9_slipAll 1 = .ok (.aload_n 0, 1) := by decide +kernel
theorem dX9_slipAll_2 : decode cX9_slipAll 2 = .ok (.getfield 62, 3) := by decide +kernel
theorem dX9_slipAll_5 : decode cX9_slipAll 5 = .ok (.invokevirtual 79, 3) := by decide +kernel
theorem dX9_slipAll_8 : decode cX9_slipAll 8 = .ok (.iconst 4, 1) := by decide +kernel
theorem dX9_slipAll_9 : decode cX9_slipAll 9 = .ok (.irem, 1) := by decide +kernel
theorem dX9_slipAll_10 : decode cX9_slipAll 10 = .ok (.istore_n 1, 1) := by decide +kernel
theorem dX9_slipAll_11 : decode cX9_slipAll 11 = .ok (.iconst 0, 1) := by decide +kernel
theorem dX9_slipAll_12 : decode cX9_slipAll 12 = .ok (.istore_n 2, 1) := by decide +kernel
theorem dX9_slipAll_13 : decode cX9_slipAll 13 = .ok (.iload_n 2, 1) := by decide +kernel
theorem dX9_slipAll_14 : decode cX9_slipAll 14 = .ok (.aload_n 0, 1) := by decide +kernel
theorem dX9_slipAll_15 : decode cX9_slipAll 15 = .ok (.getfield 59, 3) := by decide +kernel
theorem dX9_slipAll_18 : decode cX9_slipAll 18 = .ok (.if_icmp .ge 72, 3) := by decide +kernel
theorem dX9_slipAll_21 : decode cX9_slipAll 21 = .ok (.aload_n 0, 1) := by decide +kernel
theorem dX9_slipAll_22 : decode cX9_slipAll 22 = .ok (.iload_n 2, 1) := by decide +kernel
theorem dX9_slipAll_23 : decode cX9_slipAll 23 = .ok (.invokevirtual 71, 3) := by decide +kernel
theorem dX9_slipAll_26 : decode cX9_slipAll 26 = .ok (.ifCond .eq 6, 3) := by decide +kernel
theorem dX9_slipAll_29 : decode cX9_slipAll 29 = .ok (.goto 55, 3) := by decide +kernel
theorem dX9_slipAll_32 : decode cX9_slipAll 32 = .ok (.aload_n 0, 1) := by decide +kernel
theorem dX9_slipAll_33 : decode cX9_slipAll 33 = .ok (.getfield 11, 3) := by decide +kernel
theorem dX9_slipAll_36 : decode cX9_slipAll 36 = .ok (.iload_n 2, 1) := by decide +kernel
theorem dX9_slipAll_37 : decode cX9_slipAll 37 = .ok (.aaload, 1) := by decide +kernel
theorem dX9_slipAll_38 : decode cX9_slipAll 38 = .ok (.iconst 1, 1) := by decide +kernel
theorem dX9_slipAll_39 : decode cX9_slipAll 39 = .ok (.iaload, 1) := by decide +kernel
theorem dX9_slipAll_40 : decode cX9_slipAll 40 = .ok (.aload_n 0, 1) := by decide +kernel
theorem dX9_slipAll_41 : decode cX9_slipAll 41 = .ok (.iload_n 2, 1) := by decide +kernel
theorem dX9_slipAll_42 : decode cX9_slipAll 42 = .ok (.invokevirtual 75, 3) := by decide +kernel
theorem dX9_slipAll_45 : decode cX9_slipAll 45 = .ok (.aload_n 0, 1) := by decide +kernel
theorem dX9_slipAll_46 : decode cX9_slipAll 46 = .ok (.getfield 33, 3) := by decide +kernel
theorem dX9_slipAll_49 : decode cX9_slipAll 49 = .ok (.aload_n 0, 1) := by decide +kernel
theorem dX9_slipAll_50 : decode cX9_slipAll 50 = .ok (.getfield 11, 3) := by decide +kernel
theorem dX9_slipAll_53 : decode cX9_slipAll 53 = .ok (.iload_n 2, 1) := by decide +kernel
theorem dX9_slipAll_54 : decode cX9_slipAll 54 = .ok (.aaload, 1) := by decide +kernel
theorem dX9_slipAll_55 : decode cX9_slipAll 55 = .ok (.iconst 3, 1) := by decide +kernel
theorem dX9_slipAll_56 : decode cX9_slipAll 56 = .ok (.iaload, 1) := by decide +kernel
theorem dX9_slipAll_57 : decode cX9_slipAll 57 = .ok (.iaload, 1) := by decide +kernel
theorem dX9_slipAll_58 : decode cX9_slipAll 58 = .ok (.iload_n 1, 1) := by decide +kernel
theorem dX9_slipAll_59 : decode cX9_slipAll 59 = .ok (.invokevirtual 91, 3) := by decide +kernel
theorem dX9_slipAll_62 : decode cX9_slipAll 62 = .ok (.iadd, 1) := by decide +kernel
theorem dX9_slipAll_63 : decode cX9_slipAll 63 = .ok (.istore_n 3, 1) := by decide +kernel
theorem dX9_slipAll_64 : decode cX9_slipAll 64 = .ok (.aload_n 0, 1) := by decide +kernel
theorem dX9_slipAll_65 : decode cX9_slipAll 65 = .ok (.getfield 11, 3) := by decide +kernel
theorem dX9_slipAll_68 : decode cX9_slipAll 68 = .ok (.iload_n 2, 1) := by decide +kernel
theorem dX9_slipAll_69 : decode cX9_slipAll 69 = .ok (.aaload, 1) := by decide +kernel
theorem dX9_slipAll_70 : decode cX9_slipAll 70 = .ok (.iconst 1, 1) := by decide +kernel
theorem dX9_slipAll_71 : decode cX9_slipAll 71 = .ok (.iload_n 3, 1) := by decide +kernel
theorem dX9_slipAll_72 : decode cX9_slipAll 72 = .ok (.bipush 99, 2) := by decide +kernel
theorem dX9_slipAll_74 : decode cX9_slipAll 74 = .ok (.if_icmp .ge 7, 3) := by decide +kernel
theorem dX9_slipAll_77 : decode cX9_slipAll 77 = .ok (.iload_n 3, 1) := by decide +kernel
theorem dX9_slipAll_78 : decode cX9_slipAll 78 = .ok (.goto 5, 3) := by decide +kernel
theorem dX9_slipAll_81 : decode cX9_slipAll 81 = .ok (.bipush 99, 2) := by decide +kernel
theorem dX9_slipAll_83 : decode cX9_slipAll 83 = .ok (.iastore, 1) := by decide +kernel
theorem dX9_slipAll_84 : decode cX9_slipAll 84 = .ok (.iinc 2 1, 3) := by decide +kernel
theorem dX9_slipAll_87 : decode cX9_slipAll 87 = .ok (.goto (-74), 3) := by decide +kernel
theorem dX9_slipAll_90 : decode cX9_slipAll 90 = .ok (.return_, 1) := by decide +kernel
theorem k_X9_slipAll : MV yX9_slipAll cX9_slipAll 4 none 0 := ⟨q_696, qs_17, q_11, q_697, ⟨by decide, by decide, by decide +kernel⟩⟩
theorem c_X9_slipAll_q0 {res : (Nat → Nat → Int32)} (hf : X9_slipAll_q0 n x_q0_dials x_q0_skies x_q0_count x_q0_chime x_q0_shades = some res) : MC l E0 D t yX9_slipAll cX9_slipAll 4 none 4 0 0 [.ref (a 1)] (cW a ar t x_q0_dials x_q0_spots x_q0_skies x_q0_reports x_q0_count x_q0_chime x_q0_end x_q0_score x_q0_reportCount x_q0_z x_q0_rules x_q0_shades x_q0_facts x_q1_dials x_q1_spots x_q1_skies x_q1_reports x_q1_count x_q1_chime x_q1_end x_q1_score x_q1_reportCount x_q1_z x_q1_rules x_q1_shades x_q1_facts x_q2_dials x_q2_spots x_q2_skies x_q2_reports x_q2_count x_q2_chime x_q2_end x_q2_score x_q2_reportCount x_q2_z x_q2_rules x_q2_shades x_q2_facts x_isKept x_marks x_p_first x_p_steps x_p_most x_p_many x_p_fewest x_p_everRight x_p_opening x_p_rows x_p_rowCount x_p_acts x_p_marks x_p_deepest x_p_wanted x_t_length x_t_tape x_t_words x_t_places x_t_at x_t_kinds x_t_wills x_t_starts x_t_code x_t_count x_t_size x_h_sorts x_h_lengths x_h_items x_h_held x_h_things x_h_sizes x_h_bodies x_h_traced x_h_number x_h_spot x_h_parted x_g_count x_g_kinds x_g_wills x_g_starts x_g_code x_g_stack x_g_kl x_g_wl x_g_sl x_g_cl x_nr) (Qn (cW a ar t res x_q0_spots x_q0_skies x_q0_reports x_q0_count x_q0_chime x_q0_end x_q0_score x_q0_reportCount x_q0_z x_q0_rules x_q0_shades x_q0_facts x_q1_dials x_q1_spots x_q1_skies x_q1_reports x_q1_count x_q1_chime x_q1_end x_q1_score x_q1_reportCount x_q1_z x_q1_rules x_q1_shades x_q1_facts x_q2_dials x_q2_spots x_q2_skies x_q2_reports x_q2_count x_q2_chime x_q2_end x_q2_score x_q2_reportCount x_q2_z x_q2_rules x_q2_shades x_q2_facts x_isKept x_marks x_p_first x_p_steps x_p_most x_p_many x_p_fewest x_p_everRight x_p_opening x_p_rows x_p_rowCount x_p_acts x_p_marks x_p_deepest x_p_wanted x_t_length x_t_tape x_t_words x_t_places x_t_at x_t_kinds x_t_wills x_t_starts x_t_code x_t_count x_t_size x_h_sorts x_h_lengths x_h_items x_h_held x_h_things x_h_sizes x_h_bodies x_h_traced x_h_number x_h_spot x_h_parted x_g_count x_g_kinds x_g_wills x_g_starts x_g_code x_g_stack x_g_kl x_g_wl x_g_sl x_g_cl x_nr)) := by
  unfold X9_slipAll_q0 at hf
  refine MC.ofV pn_X9 (Nat.le_of_ble_eq_true rfl) ?_
  intro p e s m args below meth c A Q ls cx hR hw hl
  have hx := cx.1
  have hb := cx.2.1
  have hl : lv_has ls 4 [(0, .ref (a 1))] := hl
  refine lv_aload_n hx hb dX9_slipAll_0 rfl (lv_at hl 0 rfl) ?_
  refine lv_aload_n hx hb dX9_slipAll_1 rfl (lv_at hl 0 rfl) ?_
  refine cg_X9_62_q0 cx hw dX9_slipAll_2 ?_
  obtain ⟨r1, h2, hf⟩ := bnS hf
  refine calVi cx hw hl.1 (c_X9_skyAt_q0 h2) q_376 k_X9_skyAt rfl rv_q0 rfl dX9_slipAll_5 rfl (Nat.le_of_ble_eq_true rfl) ⟨Nat.le_of_ble_eq_true rfl, Nat.le_of_ble_eq_true rfl⟩ ⟨Nat.le_refl _, Nat.le_refl _⟩ (fun H locs hw => ?_)
  refine lv_iconst (v := 4) hx hb dX9_slipAll_8 (by decide) ?_
  refine lv_irem hx hb dX9_slipAll_9 (by decide) ?_
  refine lv_istore_n (lv' := [(1, .int (irm r1 (4 : Int32))), (0, .ref (a 1))]) hx hb dX9_slipAll_10 rfl hl (by decide) rfl (fun ls hl => ?_)
  refine lv_iconst (v := 0) hx hb dX9_slipAll_11 (by decide) ?_
  refine lv_istore_n (lv' := [(2, .int (0 : Int32)), (1, .int (irm r1 (4 : Int32))), (0, .ref (a 1))]) hx hb dX9_slipAll_12 rfl hl (by decide) rfl (fun ls hl => ?_)
  obtain ⟨o15, ho15, hf⟩ := bnS hf
  have wL1 : ∀ (k : Nat) {v1 : Int32} {v2 : Int32} {x_q0_dials : Nat → Nat → Int32} {H : Heap} {locs : List Loc} {ls : Array Slot} {o : Int32 × (Nat → Nat → Int32)}, X9_slipAll_q0_L1 n x_q0_count x_q0_shades v1 k v2 x_q0_dials = some o → Wd D A s (cW a ar t x_q0_dials x_q0_spots x_q0_skies x_q0_reports x_q0_count x_q0_chime x_q0_end x_q0_score x_q0_reportCount x_q0_z x_q0_rules x_q0_shades x_q0_facts x_q1_dials x_q1_spots x_q1_skies x_q1_reports x_q1_count x_q1_chime x_q1_end x_q1_score x_q1_reportCount x_q1_z x_q1_rules x_q1_shades x_q1_facts x_q2_dials x_q2_spots x_q2_skies x_q2_reports x_q2_count x_q2_chime x_q2_end x_q2_score x_q2_reportCount x_q2_z x_q2_rules x_q2_shades x_q2_facts x_isKept x_marks x_p_first x_p_steps x_p_most x_p_many x_p_fewest x_p_everRight x_p_opening x_p_rows x_p_rowCount x_p_acts x_p_marks x_p_deepest x_p_wanted x_t_length x_t_tape x_t_words x_t_places x_t_at x_t_kinds x_t_wills x_t_starts x_t_code x_t_count x_t_size x_h_sorts x_h_lengths x_h_items x_h_held x_h_things x_h_sizes x_h_bodies x_h_traced x_h_number x_h_spot x_h_parted x_g_count x_g_kinds x_g_wills x_g_starts x_g_code x_g_stack x_g_kl x_g_wl x_g_sl x_g_cl x_nr) H locs → lv_has ls 4 [(0, .ref (a 1)), (1, .int v1), (2, .int v2)] → (∀ (H : Heap) (locs : List Loc) (ls : Array Slot), Wd D A s (cW a ar t o.2 x_q0_spots x_q0_skies x_q0_reports x_q0_count x_q0_chime x_q0_end x_q0_score x_q0_reportCount x_q0_z x_q0_rules x_q0_shades x_q0_facts x_q1_dials x_q1_spots x_q1_skies x_q1_reports x_q1_count x_q1_chime x_q1_end x_q1_score x_q1_reportCount x_q1_z x_q1_rules x_q1_shades x_q1_facts x_q2_dials x_q2_spots x_q2_skies x_q2_reports x_q2_count x_q2_chime x_q2_end x_q2_score x_q2_reportCount x_q2_z x_q2_rules x_q2_shades x_q2_facts x_isKept x_marks x_p_first x_p_steps x_p_most x_p_many x_p_fewest x_p_everRight x_p_opening x_p_rows x_p_rowCount x_p_acts x_p_marks x_p_deepest x_p_wanted x_t_length x_t_tape x_t_words x_t_places x_t_at x_t_kinds x_t_wills x_t_starts x_t_code x_t_count x_t_size x_h_sorts x_h_lengths x_h_items x_h_held x_h_things x_h_sizes x_h_bodies x_h_traced x_h_number x_h_spot x_h_parted x_g_count x_g_kinds x_g_wills x_g_starts x_g_code x_g_stack x_g_kl x_g_wl x_g_sl x_g_cl x_nr) H locs → lv_has ls 4 [(0, .ref (a 1)), (1, .int v1), (2, .int o.1)] → W p l e (rmz 4 0 0) s m args below meth c H locs 0 0 Q (F0 m 90 ls [])) → W p l e (rmz 4 0 0) s m args below meth c H locs 0 0 Q (F0 m 13 ls []) := by
    clear hf ho15 hw hl
    intro k
    induction k with
    | zero => intro v1 v2 x_q0_dials H locs ls o hf hw hl kx; simp [X9_slipAll_q0_L1] at hf
    | succ k ih =>
      intro v1 v2 x_q0_dials H locs ls o hf hw hl kx
      rw [X9_slipAll_q0_L1] at hf
      refine lv_iload_n hx hb dX9_slipAll_13 rfl (lv_at hl 2 rfl) ?_
      refine lv_aload_n hx hb dX9_slipAll_14 rfl (lv_at hl 0 rfl) ?_
      refine cg_X9_59_q0 cx hw dX9_slipAll_15 ?_
      refine lv_icmp_ge (tgt := 90) hx hb dX9_slipAll_18 (by decide) (fun hc => ?_) (fun hc => ?_)
      · have hf := ifT hf hc
        have hf := Option.some.inj hf
        subst hf
        exact kx _ _ _ hw (lv_sub hl [0, 1, 2] rfl)
      · have hf := ifF hf hc
        refine lv_aload_n hx hb dX9_slipAll_21 rfl (lv_at hl 0 rfl) ?_
        refine lv_iload_n hx hb dX9_slipAll_22 rfl (lv_at hl 2 rfl) ?_
        obtain ⟨r3, h4, hf⟩ := bnS hf
        refine calVi cx hw hl.1 (c_X9_isRight_q0 h4) q_439 k_X9_isRight rfl rv_q0 rfl dX9_slipAll_23 rfl (Nat.le_of_ble_eq_true rfl) ⟨Nat.le_of_ble_eq_true rfl, Nat.le_of_ble_eq_true rfl⟩ ⟨Nat.le_refl _, Nat.le_refl _⟩ (fun H locs hw => ?_)
        obtain ⟨j14, hj14, hf⟩ := bnS hf
        have wj14 : ∀ (H : Heap) (locs : List Loc) (ls : Array Slot), Wd D A s (cW a ar t j14 x_q0_spots x_q0_skies x_q0_reports x_q0_count x_q0_chime x_q0_end x_q0_score x_q0_reportCount x_q0_z x_q0_rules x_q0_shades x_q0_facts x_q1_dials x_q1_spots x_q1_skies x_q1_reports x_q1_count x_q1_chime x_q1_end x_q1_score x_q1_reportCount x_q1_z x_q1_rules x_q1_shades x_q1_facts x_q2_dials x_q2_spots x_q2_skies x_q2_reports x_q2_count x_q2_chime x_q2_end x_q2_score x_q2_reportCount x_q2_z x_q2_rules x_q2_shades x_q2_facts x_isKept x_marks x_p_first x_p_steps x_p_most x_p_many x_p_fewest x_p_everRight x_p_opening x_p_rows x_p_rowCount x_p_acts x_p_marks x_p_deepest x_p_wanted x_t_length x_t_tape x_t_words x_t_places x_t_at x_t_kinds x_t_wills x_t_starts x_t_code x_t_count x_t_size x_h_sorts x_h_lengths x_h_items x_h_held x_h_things x_h_sizes x_h_bodies x_h_traced x_h_number x_h_spot x_h_parted x_g_count x_g_kinds x_g_wills x_g_starts x_g_code x_g_stack x_g_kl x_g_wl x_g_sl x_g_cl x_nr) H locs → lv_has ls 4 [(0, .ref (a 1)), (1, .int v1), (2, .int v2)] → W p l e (rmz 4 0 0) s m args below meth c H locs 0 0 Q (F0 m 84 ls []) := by
          intro H locs ls hw hl
          refine lv_iinc (v := (v2 + (1 : Int32))) (lv' := [(2, .int (v2 + (1 : Int32))), (0, .ref (a 1)), (1, .int v1)]) hx hb dX9_slipAll_84 hl (k := 2) rfl rfl (by decide) rfl (fun ls hl => ?_)
          refine lv_goto (tgt := 13) hx hb dX9_slipAll_87 (by decide) ?_
          exact ih hf hw (lv_sub hl [1, 2, 0] rfl) kx
        clear hf
        have hf := hj14
        clear hj14
        refine lv_if_eq (tgt := 32) hx hb dX9_slipAll_26 (by decide) (fun hc => ?_) (fun hc => ?_)
        · have hf := ifT hf hc
          refine lv_aload_n hx hb dX9_slipAll_32 rfl (lv_at hl 0 rfl) ?_
          refine cg_X9_11_q0 cx hw dX9_slipAll_33 ?_
          refine lv_iload_n hx hb dX9_slipAll_36 rfl (lv_at hl 2 rfl) ?_
          obtain ⟨h5, hf⟩ := ckS hf
          refine co_q0_dials (j := v2.toNatClampNeg) cx hw (ib_in h5) rfl dX9_slipAll_37 ?_
          refine lv_iconst (v := 1) hx hb dX9_slipAll_38 (by decide) ?_
          refine cm_q0_dials (j := 1) cx hw (ib_lt h5) (ib_in (by decide)) (by decide) dX9_slipAll_39 ?_
          refine lv_aload_n hx hb dX9_slipAll_40 rfl (lv_at hl 0 rfl) ?_
          refine lv_iload_n hx hb dX9_slipAll_41 rfl (lv_at hl 2 rfl) ?_
          obtain ⟨r6, h7, hf⟩ := bnS hf
          refine calVa cx hw hl.1 (c_X9_kindOf_q0 h7) q_372 k_X9_kindOf rfl rv_q0 rfl dX9_slipAll_42 rfl (Nat.le_of_ble_eq_true rfl) ⟨Nat.le_of_ble_eq_true rfl, Nat.le_of_ble_eq_true rfl⟩ ⟨Nat.le_refl _, Nat.le_refl _⟩ (fun H locs hw => ?_)
          obtain ⟨h8, hf⟩ := ckS hf
          refine lv_aload_n hx hb dX9_slipAll_45 rfl (lv_at hl 0 rfl) ?_
          refine cg_X9_33_q0 cx hw dX9_slipAll_46 ?_
          refine lv_aload_n hx hb dX9_slipAll_49 rfl (lv_at hl 0 rfl) ?_
          refine cg_X9_11_q0 cx hw dX9_slipAll_50 ?_
          refine lv_iload_n hx hb dX9_slipAll_53 rfl (lv_at hl 2 rfl) ?_
          obtain ⟨h9, hf⟩ := ckS hf
          refine co_q0_dials (j := v2.toNatClampNeg) cx hw (ib_in h9) rfl dX9_slipAll_54 ?_
          refine lv_iconst (v := 3) hx hb dX9_slipAll_55 (by decide) ?_
          refine cm_q0_dials (j := 3) cx hw (ib_lt h9) (ib_in (by decide)) (by decide) dX9_slipAll_56 ?_
          obtain ⟨h10, hf⟩ := ckS hf
          refine cl_q0_shades (j := (x_q0_dials v2.toNatClampNeg 3).toNatClampNeg) cx hw (ib_in h10) rfl dX9_slipAll_57 ?_
          refine lv_iload_n hx hb dX9_slipAll_58 rfl (lv_at hl 1 rfl) ?_
          refine vr_slips_X9_91 cx hw hl.1 (dc h8) dX9_slipAll_59 (Nat.le_of_ble_eq_true rfl) (Nat.le_of_ble_eq_true rfl) (Nat.le_of_ble_eq_true rfl) ⟨Nat.le_refl _, Nat.le_refl _⟩ (fun H locs hw => ?_)
          refine lv_iadd hx hb dX9_slipAll_62 ?_
          obtain ⟨z11, hz, hf⟩ := pbS hf
          refine lv_topi (fun y ey => ?_)
          have ez : z11 = y := hz.symm.trans ey.symm
          subst ez
          refine lv_istore_n (lv' := [(3, .int z11), (0, .ref (a 1)), (1, .int v1), (2, .int v2)]) hx hb dX9_slipAll_63 rfl hl (by decide) rfl (fun ls hl => ?_)
          refine lv_aload_n hx hb dX9_slipAll_64 rfl (lv_at hl 1 rfl) ?_
          refine cg_X9_11_q0 cx hw dX9_slipAll_65 ?_
          refine lv_iload_n hx hb dX9_slipAll_68 rfl (lv_at hl 3 rfl) ?_
          obtain ⟨h12, hf⟩ := ckS hf
          refine co_q0_dials (j := v2.toNatClampNeg) cx hw (ib_in h12) rfl dX9_slipAll_69 ?_
          refine lv_iconst (v := 1) hx hb dX9_slipAll_70 (by decide) ?_
          refine lv_iload_n hx hb dX9_slipAll_71 rfl (lv_at hl 0 rfl) ?_
          refine lv_bipush (v := 99) hx hb dX9_slipAll_72 (by decide) ?_
          obtain ⟨j13, hj13, hf⟩ := pbS hf
          have wj13 : ∀ (H : Heap) (locs : List Loc) (ls : Array Slot), Wd D A s (cW a ar t x_q0_dials x_q0_spots x_q0_skies x_q0_reports x_q0_count x_q0_chime x_q0_end x_q0_score x_q0_reportCount x_q0_z x_q0_rules x_q0_shades x_q0_facts x_q1_dials x_q1_spots x_q1_skies x_q1_reports x_q1_count x_q1_chime x_q1_end x_q1_score x_q1_reportCount x_q1_z x_q1_rules x_q1_shades x_q1_facts x_q2_dials x_q2_spots x_q2_skies x_q2_reports x_q2_count x_q2_chime x_q2_end x_q2_score x_q2_reportCount x_q2_z x_q2_rules x_q2_shades x_q2_facts x_isKept x_marks x_p_first x_p_steps x_p_most x_p_many x_p_fewest x_p_everRight x_p_opening x_p_rows x_p_rowCount x_p_acts x_p_marks x_p_deepest x_p_wanted x_t_length x_t_tape x_t_words x_t_places x_t_at x_t_kinds x_t_wills x_t_starts x_t_code x_t_count x_t_size x_h_sorts x_h_lengths x_h_items x_h_held x_h_things x_h_sizes x_h_bodies x_h_traced x_h_number x_h_spot x_h_parted x_g_count x_g_kinds x_g_wills x_g_starts x_g_code x_g_stack x_g_kl x_g_wl x_g_sl x_g_cl x_nr) H locs → lv_has ls 4 [(0, .ref (a 1)), (1, .int v1), (2, .int v2), (3, .int z11)] → W p l e (rmz 4 0 0) s m args below meth c H locs 0 0 Q (F0 m 83 ls [.int j13, .int (1 : Int32), .ref (a (3 + v2.toNatClampNeg))]) := by
            intro H locs ls hw hl
            refine ct_q0_dials (j := 1) cx hw (ib_lt h12) (ib_in (by decide)) (by decide) dX9_slipAll_83 (fun H locs hw => ?_)
            have hf := Option.some.inj hf
            subst hf
            exact wj14 _ _ _ hw (lv_sub hl [0, 1, 2] rfl)
          clear hf
          have hf := hj13
          clear hj13
          refine lv_icmp_ge (tgt := 81) hx hb dX9_slipAll_74 (by decide) (fun hc => ?_) (fun hc => ?_)
          · have hf := ifT hf hc
            refine lv_bipush (v := 99) hx hb dX9_slipAll_81 (by decide) ?_
            subst hf
            exact wj13 _ _ _ hw (lv_sub hl [1, 2, 3, 0] rfl)
          · have hf := ifF hf hc
            refine lv_iload_n hx hb dX9_slipAll_77 rfl (lv_at hl 0 rfl) ?_
            refine lv_goto (tgt := 83) hx hb dX9_slipAll_78 (by decide) ?_
            subst hf
            exact wj13 _ _ _ hw (lv_sub hl [1, 2, 3, 0] rfl)
        · have hf := ifF hf hc
          refine lv_goto (tgt := 84) hx hb dX9_slipAll_29 (by decide) ?_
          have hf := Option.some.inj hf
          subst hf
          exact wj14 _ _ _ hw (lv_sub hl [0, 1, 2] rfl)
  refine wL1 n ho15 hw (lv_sub hl [2, 1, 0] rfl) (fun H locs ls hw hl => ?_)
  clear wL1 ho15
  have hf := Option.some.inj hf
  subst hf
  exact hR _ _ _ _ _ hw ⟨rfl, rfl⟩ dX9_slipAll_90
theorem dX9_goBy_0 : decode cX9_goBy 0 = .ok (.iconst 0, 1) := by decide +kernel
theorem dX9_goBy_1 : decode cX9_goBy 1 = .ok (.istore_n 2, 1) := by decide +kernel
theorem dX9_goBy_2 : decode cX9_goBy 2 = .ok (.iload_n 1, 1) := by decide +kernel
theorem dX9_goBy_3 : decode cX9_goBy 3 = .ok (.iconst 1, 1) := by decide +kernel
theorem dX9_goBy_4 : decode cX9_goBy 4 = .ok (.if_icmp .lt 44, 3) := by decide +kernel
theorem dX9_goBy_7 : decode cX9_goBy 7 = .ok (.iload_n 1, 1) := by decide +kernel
theorem dX9_goBy_8 : decode cX9_goBy 8 = .ok (.aload_n 0, 1) := by decide +kernel
theorem dX9_goBy_9 : decode cX9_goBy 9 = .ok (.getfield 59, 3) := by decide +kernel
theorem dX9_goBy_12 : decode cX9_goBy 12 = .ok (.if_icmp .gt 36, 3) := by decide +kernel
theorem dX9_goBy_15 : decode cX9_goBy 15 = .ok (.aload_n 0, 1) := by decide +kernel
theorem dX9_goBy_16 : decode cX9_goBy 16 = .ok (.iload_n 1, 1) := by decide +kernel
theorem dX9_goBy_17 : decode cX9_goBy 17 = .ok (.iconst 1, 1) := by decide +kernel
theorem dX9_goBy_18 : decode cX9_goBy 18 = .ok (.isub, 1) := by decide +kernel
theorem dX9_goBy_19 : decode cX9_goBy 19 = .ok (.invokevirtual 115, 3) := by decide +kernel
theorem dX9_goBy_22 : decode cX9_goBy 22 = .ok (.istore_n 3, 1) := by decide +kernel
theorem dX9_goBy_23 : decode cX9_goBy 23 = .ok (.iload_n 3, 1) := by decide +kernel
theorem dX9_goBy_24 : decode cX9_goBy 24 = .ok (.ifCond .ne 11, 3) := by decide +kernel
theorem dX9_goBy_27 : decode cX9_goBy 27 = .ok (.aload_n 0, 1) := by decide +kernel
theorem dX9_goBy_28 : decode cX9_goBy 28 = .ok (.iload_n 1, 1) := by decide +kernel
theorem dX9_goBy_29 : decode cX9_goBy 29 = .ok (.iconst 1, 1) := by decide +kernel
theorem dX9_goBy_30 : decode cX9_goBy 30 = .ok (.isub, 1) := by decide +kernel
theorem dX9_goBy_31 : decode cX9_goBy 31 = .ok (.invokevirtual 118, 3) := by decide +kernel
theorem dX9_goBy_34 : decode cX9_goBy 34 = .ok (.istore_n 2, 1) := by decide +kernel
theorem dX9_goBy_35 : decode cX9_goBy 35 = .ok (.iload_n 3, 1) := by decide +kernel
theorem dX9_goBy_36 : decode cX9_goBy 36 = .ok (.iconst 2, 1) := by decide +kernel
theorem dX9_goBy_37 : decode cX9_goBy 37 = .ok (.if_icmp .ne 11, 3) := by decide +kernel
theorem dX9_goBy_40 : decode cX9_goBy 40 = .ok (.aload_n 0, 1) := by decide +kernel
theorem dX9_goBy_41 : decode cX9_goBy 41 = .ok (.iload_n 1, 1) := by decide +kernel
theorem dX9_goBy_42 : decode cX9_goBy 42 = .ok (.iconst 1, 1) := by decide +kernel
theorem dX9_goBy_43 : decode cX9_goBy 43 = .ok (.isub, 1) := by decide +kernel
theorem dX9_goBy_44 : decode cX9_goBy 44 = .ok (.invokevirtual 121, 3) := by decide +kernel
theorem dX9_goBy_47 : decode cX9_goBy 47 = .ok (.istore_n 2, 1) := by decide +kernel
theorem dX9_goBy_48 : decode cX9_goBy 48 = .ok (.iload_n 2, 1) := by decide +kernel
theorem dX9_goBy_49 : decode cX9_goBy 49 = .ok (.aload_n 0, 1) := by decide +kernel
theorem dX9_goBy_50 : decode cX9_goBy 50 = .ok (.invokevirtual 124, 3) := by decide +kernel
theorem dX9_goBy_53 : decode cX9_goBy 53 = .ok (.iconst 2, 1) := by decide +kernel
theorem dX9_goBy_54 : decode cX9_goBy 54 = .ok (.idiv, 1) := by decide +kernel
theorem dX9_goBy_55 : decode cX9_goBy 55 = .ok (.iadd, 1) := by decide +kernel
theorem dX9_goBy_56 : decode cX9_goBy 56 = .ok (.istore_n 2, 1) := by decide +kernel
theorem dX9_goBy_57 : decode cX9_goBy 57 = .ok (.aload_n 0, 1) := by decide +kernel
theorem dX9_goBy_58 : decode cX9_goBy 58 = .ok (.invokevirtual 88, 3) := by decide +kernel
theorem dX9_goBy_61 : decode cX9_goBy 61 = .ok (.aload_n 0, 1) := by decide +kernel
theorem dX9_goBy_62 : decode cX9_goBy 62 = .ok (.invokevirtual 128, 3) := by decide +kernel
theorem dX9_goBy_65 : decode cX9_goBy 65 = .ok (.aload_n 0, 1) := by decide +kernel
theorem dX9_goBy_66 : decode cX9_goBy 66 = .ok (.dup, 1) := by decide +kernel
theorem dX9_goBy_67 : decode cX9_goBy 67 = .ok (.getfield 62, 3) := by decide +kernel
theorem dX9_goBy_70 : decode cX9_goBy 70 = .ok (.iconst 1, 1) := by decide +kernel
theorem dX9_goBy_71 : decode cX9_goBy 71 = .ok (.iadd, 1) := by decide +kernel
theorem dX9_goBy_72 : decode cX9_goBy 72 = .ok (.putfield 62, 3) := by decide +kernel
theorem dX9_goBy_75 : decode cX9_goBy 75 = .ok (.aload_n 0, 1) := by decide +kernel
theorem dX9_goBy_76 : decode cX9_goBy 76 = .ok (.dup, 1) := by decide +kernel
theorem dX9_goBy_77 : decode cX9_goBy 77 = .ok (.getfield 65, 3) := by decide +kernel
theorem dX9_goBy_80 : decode cX9_goBy 80 = .ok (.iload_n 2, 1) := by decide +kernel
theorem dX9_goBy_81 : decode cX9_goBy 81 = .ok (.iadd, 1) := by decide +kernel
theorem dX9_goBy_82 : decode cX9_goBy 82 = .ok (.putfield 65, 3) := by decide +kernel
theorem dX9_goBy_85 : decode cX9_goBy 85 = .ok (.iload_n 2, 1) := by decide +kernel
theorem dX9_goBy_86 : decode cX9_goBy 86 = .ok (.ireturn, 1) := by decide +kernel
theorem k_X9_goBy : MV yX9_goBy cX9_goBy 4 (some .int) 1 := ⟨q_682, q_683, q_11, q_684, ⟨by decide, by decide, by decide +kernel⟩⟩
theorem c_X9_goBy_q0 {v1 : Int32} {res : Int32 × (Nat → Nat → Int32) × Int32 × Int32 × (Nat → Int32) × (Nat → Int32) × (Nat → Nat → Int32)} (hf : X9_goBy_q0 n x_q0_dials x_q0_spots x_q0_skies x_q0_count x_q0_chime x_q0_score x_q0_rules x_q0_shades x_q0_facts x_g_count x_g_kinds x_g_wills x_g_starts x_g_code x_g_stack x_g_kl x_g_wl x_g_sl x_g_cl x_nr v1 = some res) : MC l E0 D t yX9_goBy cX9_goBy 4 (some .int) 5 0 0 [.ref (a 1), .int v1] (cW a ar t x_q0_dials x_q0_spots x_q0_skies x_q0_reports x_q0_count x_q0_chime x_q0_end x_q0_score x_q0_reportCount x_q0_z x_q0_rules x_q0_shades x_q0_facts x_q1_dials x_q1_spots x_q1_skies x_q1_reports x_q1_count x_q1_chime x_q1_end x_q1_score x_q1_reportCount x_q1_z x_q1_rules x_q1_shades x_q1_facts x_q2_dials x_q2_spots x_q2_skies x_q2_reports x_q2_count x_q2_chime x_q2_end x_q2_score x_q2_reportCount x_q2_z x_q2_rules x_q2_shades x_q2_facts x_isKept x_marks x_p_first x_p_steps x_p_most x_p_many x_p_fewest x_p_everRight x_p_opening x_p_rows x_p_rowCount x_p_acts x_p_marks x_p_deepest x_p_wanted x_t_length x_t_tape x_t_words x_t_places x_t_at x_t_kinds x_t_wills x_t_starts x_t_code x_t_count x_t_size x_h_sorts x_h_lengths x_h_items x_h_held x_h_things x_h_sizes x_h_bodies x_h_traced x_h_number x_h_spot x_h_parted x_g_count x_g_kinds x_g_wills x_g_starts x_g_code x_g_stack x_g_kl x_g_wl x_g_sl x_g_cl x_nr) (Qi res.1 (cW a ar t res.2.1 x_q0_spots x_q0_skies x_q0_reports x_q0_count res.2.2.1 x_q0_end res.2.2.2.1 x_q0_reportCount x_q0_z x_q0_rules res.2.2.2.2.1 res.2.2.2.2.2.1 x_q1_dials x_q1_spots x_q1_skies x_q1_reports x_q1_count x_q1_chime x_q1_end x_q1_score x_q1_reportCount x_q1_z x_q1_rules x_q1_shades x_q1_facts x_q2_dials x_q2_spots x_q2_skies x_q2_reports x_q2_count x_q2_chime x_q2_end x_q2_score x_q2_reportCount x_q2_z x_q2_rules x_q2_shades x_q2_facts x_isKept x_marks x_p_first x_p_steps x_p_most x_p_many x_p_fewest x_p_everRight x_p_opening x_p_rows x_p_rowCount x_p_acts x_p_marks x_p_deepest x_p_wanted x_t_length x_t_tape x_t_words x_t_places x_t_at x_t_kinds x_t_wills x_t_starts x_t_code x_t_count x_t_size x_h_sorts x_h_lengths x_h_items x_h_held x_h_things x_h_sizes x_h_bodies x_h_traced x_h_number x_h_spot x_h_parted x_g_count x_g_kinds x_g_wills x_g_starts x_g_code res.2.2.2.2.2.2 x_g_kl x_g_wl x_g_sl x_g_cl x_nr)) := by
  unfold X9_goBy_q0 at hf
  refine MC.ofI pn_X9 (Nat.le_of_ble_eq_true rfl) ?_
  intro p e s m args below meth c A Q ls cx hR hw hl
  have hx := cx.1
  have hb := cx.2.1
  have hl : lv_has ls 4 [(0, .ref (a 1)), (1, .int v1)] := hl
  refine lv_iconst (v := 0) hx hb dX9_goBy_0 (by decide) ?_
  refine lv_istore_n (lv' := [(2, .int (0 : Int32)), (0, .ref (a 1)), (1, .int v1)]) hx hb dX9_goBy_1 rfl hl (by decide) rfl (fun ls hl => ?_)
  refine lv_iload_n hx hb dX9_goBy_2 rfl (lv_at hl 2 rfl) ?_
  refine lv_iconst (v := 1) hx hb dX9_goBy_3 (by decide) ?_
  obtain ⟨j8, hj8, hf⟩ := bnS hf
  have wj8 : ∀ (H : Heap) (locs : List Loc) (ls : Array Slot), Wd D A s (cW a ar t j8.2.1 x_q0_spots x_q0_skies x_q0_reports x_q0_count x_q0_chime x_q0_end x_q0_score x_q0_reportCount x_q0_z x_q0_rules x_q0_shades j8.2.2.1 x_q1_dials x_q1_spots x_q1_skies x_q1_reports x_q1_count x_q1_chime x_q1_end x_q1_score x_q1_reportCount x_q1_z x_q1_rules x_q1_shades x_q1_facts x_q2_dials x_q2_spots x_q2_skies x_q2_reports x_q2_count x_q2_chime x_q2_end x_q2_score x_q2_reportCount x_q2_z x_q2_rules x_q2_shades x_q2_facts x_isKept x_marks x_p_first x_p_steps x_p_most x_p_many x_p_fewest x_p_everRight x_p_opening x_p_rows x_p_rowCount x_p_acts x_p_marks x_p_deepest x_p_wanted x_t_length x_t_tape x_t_words x_t_places x_t_at x_t_kinds x_t_wills x_t_starts x_t_code x_t_count x_t_size x_h_sorts x_h_lengths x_h_items x_h_held x_h_things x_h_sizes x_h_bodies x_h_traced x_h_number x_h_spot x_h_parted x_g_count x_g_kinds x_g_wills x_g_starts x_g_code j8.2.2.2 x_g_kl x_g_wl x_g_sl x_g_cl x_nr) H locs → lv_has ls 4 [(0, .ref (a 1)), (1, .int v1), (2, .int j8.1)] → W p l e (rmz 5 0 0) s m args below meth c H locs 0 0 Q (F0 m 48 ls []) := by
    intro H locs ls hw hl
    refine lv_iload_n hx hb dX9_goBy_48 rfl (lv_at hl 2 rfl) ?_
    refine lv_aload_n hx hb dX9_goBy_49 rfl (lv_at hl 0 rfl) ?_
    obtain ⟨r9, h10, hf⟩ := bnS hf
    refine calVi cx hw hl.1 (c_X9_pairs_q0 h10) q_693 k_X9_pairs rfl rv_q0 rfl dX9_goBy_50 rfl (Nat.le_of_ble_eq_true rfl) ⟨Nat.le_of_ble_eq_true rfl, Nat.le_of_ble_eq_true rfl⟩ ⟨Nat.le_refl _, Nat.le_refl _⟩ (fun H locs hw => ?_)
    refine lv_iconst (v := 2) hx hb dX9_goBy_53 (by decide) ?_
    refine lv_idiv hx hb dX9_goBy_54 (by decide) ?_
    refine lv_iadd hx hb dX9_goBy_55 ?_
    refine lv_istore_n (lv' := [(2, .int (j8.1 + (r9 / (2 : Int32)))), (0, .ref (a 1)), (1, .int v1)]) hx hb dX9_goBy_56 rfl hl (by decide) rfl (fun ls hl => ?_)
    refine lv_aload_n hx hb dX9_goBy_57 rfl (lv_at hl 1 rfl) ?_
    obtain ⟨r11, h12, hf⟩ := bnS hf
    refine calVv cx hw hl.1 (c_X9_measureShades_q0 h12) q_407 k_X9_measureShades rfl rv_q0 rfl dX9_goBy_58 rfl (Nat.le_of_ble_eq_true rfl) ⟨Nat.le_of_ble_eq_true rfl, Nat.le_of_ble_eq_true rfl⟩ ⟨Nat.le_refl _, Nat.le_refl _⟩ (fun H locs hw => ?_)
    refine lv_aload_n hx hb dX9_goBy_61 rfl (lv_at hl 1 rfl) ?_
    obtain ⟨r13, h14, hf⟩ := bnS hf
    refine calVv cx hw hl.1 (c_X9_slipAll_q0 h14) q_694 k_X9_slipAll rfl rv_q0 rfl dX9_goBy_62 rfl (Nat.le_of_ble_eq_true rfl) ⟨Nat.le_of_ble_eq_true rfl, Nat.le_of_ble_eq_true rfl⟩ ⟨Nat.le_refl _, Nat.le_refl _⟩ (fun H locs hw => ?_)
    refine lv_aload_n hx hb dX9_goBy_65 rfl (lv_at hl 1 rfl) ?_
    refine lv_dup hx hb dX9_goBy_66 rfl ?_
    refine cg_X9_62_q0 cx hw dX9_goBy_67 ?_
    refine lv_iconst (v := 1) hx hb dX9_goBy_70 (by decide) ?_
    refine lv_iadd hx hb dX9_goBy_71 ?_
    refine cp_X9_62_q0 cx hw dX9_goBy_72 (fun H locs hw => ?_)
    refine lv_aload_n hx hb dX9_goBy_75 rfl (lv_at hl 1 rfl) ?_
    refine lv_dup hx hb dX9_goBy_76 rfl ?_
    refine cg_X9_65_q0 cx hw dX9_goBy_77 ?_
    refine lv_iload_n hx hb dX9_goBy_80 rfl (lv_at hl 0 rfl) ?_
    refine lv_iadd hx hb dX9_goBy_81 ?_
    refine cp_X9_65_q0 cx hw dX9_goBy_82 (fun H locs hw => ?_)
    refine lv_iload_n hx hb dX9_goBy_85 rfl (lv_at hl 0 rfl) ?_
    have hf := Option.some.inj hf
    subst hf
    exact hR _ _ _ _ _ _ hw rfl ⟨rfl, rfl⟩ dX9_goBy_86
  clear hf
  have hf := hj8
  clear hj8
  refine lv_icmp_lt (tgt := 48) hx hb dX9_goBy_4 (by decide) (fun hc => ?_) (fun hc => ?_)
  · have hf := ifT hf hc
    have hf := Option.some.inj hf
    subst hf
    exact wj8 _ _ _ hw (lv_sub hl [1, 2, 0] rfl)
  · have hf := ifF hf hc
    refine lv_iload_n hx hb dX9_goBy_7 rfl (lv_at hl 2 rfl) ?_
    refine lv_aload_n hx hb dX9_goBy_8 rfl (lv_at hl 1 rfl) ?_
    refine cg_X9_59_q0 cx hw dX9_goBy_9 ?_
    refine lv_icmp_gt (tgt := 48) hx hb dX9_goBy_12 (by decide) (fun hc => ?_) (fun hc => ?_)
    · have hf := ifT hf hc
      have hf := Option.some.inj hf
      subst hf
      exact wj8 _ _ _ hw (lv_sub hl [1, 2, 0] rfl)
    · have hf := ifF hf hc
      refine lv_aload_n hx hb dX9_goBy_15 rfl (lv_at hl 1 rfl) ?_
      refine lv_iload_n hx hb dX9_goBy_16 rfl (lv_at hl 2 rfl) ?_
      refine lv_iconst (v := 1) hx hb dX9_goBy_17 (by decide) ?_
      refine lv_isub hx hb dX9_goBy_18 ?_
      obtain ⟨r1, h2, hf⟩ := bnS hf
      refine calVi cx hw hl.1 (c_X9_willOf_q0 h2) q_448 k_X9_willOf rfl rv_q0 rfl dX9_goBy_19 rfl (Nat.le_of_ble_eq_true rfl) ⟨Nat.le_of_ble_eq_true rfl, Nat.le_of_ble_eq_true rfl⟩ ⟨Nat.le_refl _, Nat.le_refl _⟩ (fun H locs hw => ?_)
      refine lv_istore_n (lv' := [(3, .int r1.1), (2, .int (0 : Int32)), (0, .ref (a 1)), (1, .int v1)]) hx hb dX9_goBy_22 rfl hl (by decide) rfl (fun ls hl => ?_)
      refine lv_iload_n hx hb dX9_goBy_23 rfl (lv_at hl 0 rfl) ?_
      obtain ⟨j5, hj5, hf⟩ := bnS hf
      have wj5 : ∀ (H : Heap) (locs : List Loc) (ls : Array Slot), Wd D A s (cW a ar t j5.2 x_q0_spots x_q0_skies x_q0_reports x_q0_count x_q0_chime x_q0_end x_q0_score x_q0_reportCount x_q0_z x_q0_rules x_q0_shades r1.2.1 x_q1_dials x_q1_spots x_q1_skies x_q1_reports x_q1_count x_q1_chime x_q1_end x_q1_score x_q1_reportCount x_q1_z x_q1_rules x_q1_shades x_q1_facts x_q2_dials x_q2_spots x_q2_skies x_q2_reports x_q2_count x_q2_chime x_q2_end x_q2_score x_q2_reportCount x_q2_z x_q2_rules x_q2_shades x_q2_facts x_isKept x_marks x_p_first x_p_steps x_p_most x_p_many x_p_fewest x_p_everRight x_p_opening x_p_rows x_p_rowCount x_p_acts x_p_marks x_p_deepest x_p_wanted x_t_length x_t_tape x_t_words x_t_places x_t_at x_t_kinds x_t_wills x_t_starts x_t_code x_t_count x_t_size x_h_sorts x_h_lengths x_h_items x_h_held x_h_things x_h_sizes x_h_bodies x_h_traced x_h_number x_h_spot x_h_parted x_g_count x_g_kinds x_g_wills x_g_starts x_g_code r1.2.2 x_g_kl x_g_wl x_g_sl x_g_cl x_nr) H locs → lv_has ls 4 [(0, .ref (a 1)), (1, .int v1), (2, .int j5.1), (3, .int r1.1)] → W p l e (rmz 5 0 0) s m args below meth c H locs 0 0 Q (F0 m 35 ls []) := by
        intro H locs ls hw hl
        refine lv_iload_n hx hb dX9_goBy_35 rfl (lv_at hl 3 rfl) ?_
        refine lv_iconst (v := 2) hx hb dX9_goBy_36 (by decide) ?_
        refine lv_icmp_ne (tgt := 48) hx hb dX9_goBy_37 (by decide) (fun hc => ?_) (fun hc => ?_)
        · have hf := ifF hf hc
          have hf := Option.some.inj hf
          subst hf
          exact wj8 _ _ _ hw (lv_sub hl [0, 1, 2] rfl)
        · have hf := ifT hf hc
          refine lv_aload_n hx hb dX9_goBy_40 rfl (lv_at hl 0 rfl) ?_
          refine lv_iload_n hx hb dX9_goBy_41 rfl (lv_at hl 1 rfl) ?_
          refine lv_iconst (v := 1) hx hb dX9_goBy_42 (by decide) ?_
          refine lv_isub hx hb dX9_goBy_43 ?_
          obtain ⟨r6, h7, hf⟩ := bnS hf
          refine calVi cx hw hl.1 (c_X9_arguedBy_q0 h7) q_689 k_X9_arguedBy rfl rv_q0 rfl dX9_goBy_44 rfl (Nat.le_of_ble_eq_true rfl) ⟨Nat.le_of_ble_eq_true rfl, Nat.le_of_ble_eq_true rfl⟩ ⟨Nat.le_refl _, Nat.le_refl _⟩ (fun H locs hw => ?_)
          refine lv_istore_n (lv' := [(2, .int r6.1), (0, .ref (a 1)), (1, .int v1), (3, .int r1.1)]) hx hb dX9_goBy_47 rfl hl (by decide) rfl (fun ls hl => ?_)
          have hf := Option.some.inj hf
          subst hf
          exact wj8 _ _ _ hw (lv_sub hl [1, 2, 0] rfl)
      clear hf
      have hf := hj5
      clear hj5
      refine lv_if_ne (tgt := 35) hx hb dX9_goBy_24 (by decide) (fun hc => ?_) (fun hc => ?_)
      · have hf := ifF hf hc
        have hf := Option.some.inj hf
        subst hf
        exact wj5 _ _ _ hw (lv_sub hl [2, 3, 1, 0] rfl)
      · have hf := ifT hf hc
        refine lv_aload_n hx hb dX9_goBy_27 rfl (lv_at hl 2 rfl) ?_
        refine lv_iload_n hx hb dX9_goBy_28 rfl (lv_at hl 3 rfl) ?_
        refine lv_iconst (v := 1) hx hb dX9_goBy_29 (by decide) ?_
        refine lv_isub hx hb dX9_goBy_30 ?_
        obtain ⟨r3, h4, hf⟩ := bnS hf
        refine calVi cx hw hl.1 (c_X9_setRight_q0 h4) q_685 k_X9_setRight rfl rv_q0 rfl dX9_goBy_31 rfl (Nat.le_of_ble_eq_true rfl) ⟨Nat.le_of_ble_eq_true rfl, Nat.le_of_ble_eq_true rfl⟩ ⟨Nat.le_refl _, Nat.le_refl _⟩ (fun H locs hw => ?_)
        refine lv_istore_n (lv' := [(2, .int r3.1), (3, .int r1.1), (0, .ref (a 1)), (1, .int v1)]) hx hb dX9_goBy_34 rfl hl (by decide) rfl (fun ls hl => ?_)
        have hf := Option.some.inj hf
        subst hf
        exact wj5 _ _ _ hw (lv_sub hl [2, 3, 0, 1] rfl)
theorem dX9_rest_0 : decode cX9_rest 0 = .ok (.iconst 0, 1) := by decide +kernel
theorem dX9_rest_1 : decode cX9_rest 1 = .ok (.istore_n 2, 1) := by decide +kernel
theorem dX9_rest_2 : decode cX9_rest 2 = .ok (.iconst 0, 1) := by decide +kernel
theorem dX9_rest_3 : decode cX9_rest 3 = .ok (.istore_n 3, 1) := by decide +kernel
theorem dX9_rest_4 : decode cX9_rest 4 = .ok (.iload_n 3, 1) := by decide +kernel
theorem dX9_rest_5 : decode cX9_rest 5 = .ok (.iload_n 1, 1) := by decide +kernel
theorem dX9_rest_6 : decode cX9_rest 6 = .ok (.if_icmp .ge 27, 3) := by decide +kernel
theorem dX9_rest_9 : decode cX9_rest 9 = .ok (.aload_n 0, 1) := by decide +kernel
theorem dX9_rest_10 : decode cX9_rest 10 = .ok (.invokevirtual 134, 3) := by decide +kernel
theorem dX9_rest_13 : decode cX9_rest 13 = .ok (.ifCond .ne 20, 3) := by decide +kernel
theorem dX9_rest_16 : decode cX9_rest 16 = .ok (.iload_n 2, 1) := by decide +kernel
theorem dX9_rest_17 : decode cX9_rest 17 = .ok (.aload_n 0, 1) := by decide +kernel
theorem dX9_rest_18 : decode cX9_rest 18 = .ok (.aload_n 0, 1) := by decide +kernel
theorem dX9_rest_19 : decode cX9_rest 19 = .ok (.invokevirtual 138, 3) := by decide +kernel
theorem dX9_rest_22 : decode cX9_rest 22 = .ok (.invokevirtual 141, 3) := by decide +kernel
theorem dX9_rest_25 : decode cX9_rest 25 = .ok (.iadd, 1) := by decide +kernel
theorem dX9_rest_26 : decode cX9_rest 26 = .ok (.istore_n 2, 1) := by decide +kernel
theorem dX9_rest_27 : decode cX9_rest 27 = .ok (.iinc 3 1, 3) := by decide +kernel
theorem dX9_rest_30 : decode cX9_rest 30 = .ok (.goto (-26), 3) := by decide +kernel
theorem dX9_rest_33 : decode cX9_rest 33 = .ok (.iload_n 2, 1) := by decide +kernel
theorem dX9_rest_34 : decode cX9_rest 34 = .ok (.ireturn, 1) := by decide +kernel
theorem k_X9_rest : MV yX9_rest cX9_rest 4 (some .int) 1 := ⟨q_672, q_673, q_11, q_674, ⟨by decide, by decide, by decide +kernel⟩⟩
theorem c_X9_rest_q0 {v1 : Int32} {res : Int32 × (Nat → Nat → Int32) × Int32 × Int32 × (Nat → Int32) × (Nat → Int32) × (Nat → Nat → Int32)} (hf : X9_rest_q0 n x_q0_dials x_q0_spots x_q0_skies x_q0_count x_q0_chime x_q0_end x_q0_score x_q0_rules x_q0_shades x_q0_facts x_g_count x_g_kinds x_g_wills x_g_starts x_g_code x_g_stack x_g_kl x_g_wl x_g_sl x_g_cl x_nr v1 = some res) : MC l E0 D t yX9_rest cX9_rest 4 (some .int) 6 0 0 [.ref (a 1), .int v1] (cW a ar t x_q0_dials x_q0_spots x_q0_skies x_q0_reports x_q0_count x_q0_chime x_q0_end x_q0_score x_q0_reportCount x_q0_z x_q0_rules x_q0_shades x_q0_facts x_q1_dials x_q1_spots x_q1_skies x_q1_reports x_q1_count x_q1_chime x_q1_end x_q1_score x_q1_reportCount x_q1_z x_q1_rules x_q1_shades x_q1_facts x_q2_dials x_q2_spots x_q2_skies x_q2_reports x_q2_count x_q2_chime x_q2_end x_q2_score x_q2_reportCount x_q2_z x_q2_rules x_q2_shades x_q2_facts x_isKept x_marks x_p_first x_p_steps x_p_most x_p_many x_p_fewest x_p_everRight x_p_opening x_p_rows x_p_rowCount x_p_acts x_p_marks x_p_deepest x_p_wanted x_t_length x_t_tape x_t_words x_t_places x_t_at x_t_kinds x_t_wills x_t_starts x_t_code x_t_count x_t_size x_h_sorts x_h_lengths x_h_items x_h_held x_h_things x_h_sizes x_h_bodies x_h_traced x_h_number x_h_spot x_h_parted x_g_count x_g_kinds x_g_wills x_g_starts x_g_code x_g_stack x_g_kl x_g_wl x_g_sl x_g_cl x_nr) (Qi res.1 (cW a ar t res.2.1 x_q0_spots x_q0_skies x_q0_reports x_q0_count res.2.2.1 x_q0_end res.2.2.2.1 x_q0_reportCount x_q0_z x_q0_rules res.2.2.2.2.1 res.2.2.2.2.2.1 x_q1_dials x_q1_spots x_q1_skies x_q1_reports x_q1_count x_q1_chime x_q1_end x_q1_score x_q1_reportCount x_q1_z x_q1_rules x_q1_shades x_q1_facts x_q2_dials x_q2_spots x_q2_skies x_q2_reports x_q2_count x_q2_chime x_q2_end x_q2_score x_q2_reportCount x_q2_z x_q2_rules x_q2_shades x_q2_facts x_isKept x_marks x_p_first x_p_steps x_p_most x_p_many x_p_fewest x_p_everRight x_p_opening x_p_rows x_p_rowCount x_p_acts x_p_marks x_p_deepest x_p_wanted x_t_length x_t_tape x_t_words x_t_places x_t_at x_t_kinds x_t_wills x_t_starts x_t_code x_t_count x_t_size x_h_sorts x_h_lengths x_h_items x_h_held x_h_things x_h_sizes x_h_bodies x_h_traced x_h_number x_h_spot x_h_parted x_g_count x_g_kinds x_g_wills x_g_starts x_g_code res.2.2.2.2.2.2 x_g_kl x_g_wl x_g_sl x_g_cl x_nr)) := by
  unfold X9_rest_q0 at hf
  refine MC.ofI pn_X9 (Nat.le_of_ble_eq_true rfl) ?_
  intro p e s m args below meth c A Q ls cx hR hw hl
  have hx := cx.1
  have hb := cx.2.1
  have hl : lv_has ls 4 [(0, .ref (a 1)), (1, .int v1)] := hl
  refine lv_iconst (v := 0) hx hb dX9_rest_0 (by decide) ?_
  refine lv_istore_n (lv' := [(2, .int (0 : Int32)), (0, .ref (a 1)), (1, .int v1)]) hx hb dX9_rest_1 rfl hl (by decide) rfl (fun ls hl => ?_)
  refine lv_iconst (v := 0) hx hb dX9_rest_2 (by decide) ?_
  refine lv_istore_n (lv' := [(3, .int (0 : Int32)), (2, .int (0 : Int32)), (0, .ref (a 1)), (1, .int v1)]) hx hb dX9_rest_3 rfl hl (by decide) rfl (fun ls hl => ?_)
  obtain ⟨o5, ho5, hf⟩ := bnS hf
  have wL1 : ∀ (k : Nat) {v1 : Int32} {v2 : Int32} {v3 : Int32} {x_q0_dials : Nat → Nat → Int32} {x_q0_chime : Int32} {x_q0_score : Int32} {x_q0_shades : Nat → Int32} {x_q0_facts : Nat → Int32} {x_g_stack : Nat → Nat → Int32} {H : Heap} {locs : List Loc} {ls : Array Slot} {o : Int32 × Int32 × (Nat → Nat → Int32) × Int32 × Int32 × (Nat → Int32) × (Nat → Int32) × (Nat → Nat → Int32)}, X9_rest_q0_L1 n x_q0_spots x_q0_skies x_q0_count x_q0_end x_q0_rules x_g_count x_g_kinds x_g_wills x_g_starts x_g_code x_g_kl x_g_wl x_g_sl x_g_cl x_nr v1 k v2 v3 x_q0_dials x_q0_chime x_q0_score x_q0_shades x_q0_facts x_g_stack = some o → Wd D A s (cW a ar t x_q0_dials x_q0_spots x_q0_skies x_q0_reports x_q0_count x_q0_chime x_q0_end x_q0_score x_q0_reportCount x_q0_z x_q0_rules x_q0_shades x_q0_facts x_q1_dials x_q1_spots x_q1_skies x_q1_reports x_q1_count x_q1_chime x_q1_end x_q1_score x_q1_reportCount x_q1_z x_q1_rules x_q1_shades x_q1_facts x_q2_dials x_q2_spots x_q2_skies x_q2_reports x_q2_count x_q2_chime x_q2_end x_q2_score x_q2_reportCount x_q2_z x_q2_rules x_q2_shades x_q2_facts x_isKept x_marks x_p_first x_p_steps x_p_most x_p_many x_p_fewest x_p_everRight x_p_opening x_p_rows x_p_rowCount x_p_acts x_p_marks x_p_deepest x_p_wanted x_t_length x_t_tape x_t_words x_t_places x_t_at x_t_kinds x_t_wills x_t_starts x_t_code x_t_count x_t_size x_h_sorts x_h_lengths x_h_items x_h_held x_h_things x_h_sizes x_h_bodies x_h_traced x_h_number x_h_spot x_h_parted x_g_count x_g_kinds x_g_wills x_g_starts x_g_code x_g_stack x_g_kl x_g_wl x_g_sl x_g_cl x_nr) H locs → lv_has ls 4 [(0, .ref (a 1)), (1, .int v1), (2, .int v2), (3, .int v3)] → (∀ (H : Heap) (locs : List Loc) (ls : Array Slot), Wd D A s (cW a ar t o.2.2.1 x_q0_spots x_q0_skies x_q0_reports x_q0_count o.2.2.2.1 x_q0_end o.2.2.2.2.1 x_q0_reportCount x_q0_z x_q0_rules o.2.2.2.2.2.1 o.2.2.2.2.2.2.1 x_q1_dials x_q1_spots x_q1_skies x_q1_reports x_q1_count x_q1_chime x_q1_end x_q1_score x_q1_reportCount x_q1_z x_q1_rules x_q1_shades x_q1_facts x_q2_dials x_q2_spots x_q2_skies x_q2_reports x_q2_count x_q2_chime x_q2_end x_q2_score x_q2_reportCount x_q2_z x_q2_rules x_q2_shades x_q2_facts x_isKept x_marks x_p_first x_p_steps x_p_most x_p_many x_p_fewest x_p_everRight x_p_opening x_p_rows x_p_rowCount x_p_acts x_p_marks x_p_deepest x_p_wanted x_t_length x_t_tape x_t_words x_t_places x_t_at x_t_kinds x_t_wills x_t_starts x_t_code x_t_count x_t_size x_h_sorts x_h_lengths x_h_items x_h_held x_h_things x_h_sizes x_h_bodies x_h_traced x_h_number x_h_spot x_h_parted x_g_count x_g_kinds x_g_wills x_g_starts x_g_code o.2.2.2.2.2.2.2 x_g_kl x_g_wl x_g_sl x_g_cl x_nr) H locs → lv_has ls 4 [(0, .ref (a 1)), (1, .int v1), (2, .int o.1), (3, .int o.2.1)] → W p l e (rmz 6 0 0) s m args below meth c H locs 0 0 Q (F0 m 33 ls [])) → W p l e (rmz 6 0 0) s m args below meth c H locs 0 0 Q (F0 m 4 ls []) := by
    clear hf ho5 hw hl
    intro k
    induction k with
    | zero => intro v1 v2 v3 x_q0_dials x_q0_chime x_q0_score x_q0_shades x_q0_facts x_g_stack H locs ls o hf hw hl kx; simp [X9_rest_q0_L1] at hf
    | succ k ih =>
      intro v1 v2 v3 x_q0_dials x_q0_chime x_q0_score x_q0_shades x_q0_facts x_g_stack H locs ls o hf hw hl kx
      rw [X9_rest_q0_L1] at hf
      refine lv_iload_n hx hb dX9_rest_4 rfl (lv_at hl 3 rfl) ?_
      refine lv_iload_n hx hb dX9_rest_5 rfl (lv_at hl 1 rfl) ?_
      refine lv_icmp_ge (tgt := 33) hx hb dX9_rest_6 (by decide) (fun hc => ?_) (fun hc => ?_)
      · have hf := ifT hf hc
        have hf := Option.some.inj hf
        subst hf
        exact kx _ _ _ hw (lv_sub hl [0, 1, 2, 3] rfl)
      · have hf := ifF hf hc
        refine lv_aload_n hx hb dX9_rest_9 rfl (lv_at hl 0 rfl) ?_
        refine calVi cx hw hl.1 (c_X9_isOver_q0 rfl) q_675 k_X9_isOver rfl rv_q0 rfl dX9_rest_10 rfl (Nat.le_of_ble_eq_true rfl) ⟨Nat.le_of_ble_eq_true rfl, Nat.le_of_ble_eq_true rfl⟩ ⟨Nat.le_refl _, Nat.le_refl _⟩ (fun H locs hw => ?_)
        refine lv_if_ne (tgt := 33) hx hb dX9_rest_13 (by decide) (fun hc => ?_) (fun hc => ?_)
        · have hf := ifF hf hc
          have hf := Option.some.inj hf
          subst hf
          exact kx _ _ _ hw (lv_sub hl [0, 1, 2, 3] rfl)
        · have hf := ifT hf hc
          refine lv_iload_n hx hb dX9_rest_16 rfl (lv_at hl 2 rfl) ?_
          refine lv_aload_n hx hb dX9_rest_17 rfl (lv_at hl 0 rfl) ?_
          refine lv_aload_n hx hb dX9_rest_18 rfl (lv_at hl 0 rfl) ?_
          obtain ⟨r1, h2, hf⟩ := bnS hf
          refine calVi cx hw hl.1 (c_X9_restAct_q0 h2) q_676 k_X9_restAct rfl rv_q0 rfl dX9_rest_19 rfl (Nat.le_of_ble_eq_true rfl) ⟨Nat.le_of_ble_eq_true rfl, Nat.le_of_ble_eq_true rfl⟩ ⟨Nat.le_refl _, Nat.le_refl _⟩ (fun H locs hw => ?_)
          obtain ⟨r3, h4, hf⟩ := bnS hf
          refine calVi cx hw hl.1 (c_X9_goBy_q0 h4) q_681 k_X9_goBy rfl rv_q0 rfl dX9_rest_22 rfl (Nat.le_of_ble_eq_true rfl) ⟨Nat.le_of_ble_eq_true rfl, Nat.le_of_ble_eq_true rfl⟩ ⟨Nat.le_refl _, Nat.le_refl _⟩ (fun H locs hw => ?_)
          refine lv_iadd hx hb dX9_rest_25 ?_
          refine lv_istore_n (lv' := [(2, .int (v2 + r3.1)), (0, .ref (a 1)), (1, .int v1), (3, .int v3)]) hx hb dX9_rest_26 rfl hl (by decide) rfl (fun ls hl => ?_)
          refine lv_iinc (v := (v3 + (1 : Int32))) (lv' := [(3, .int (v3 + (1 : Int32))), (2, .int (v2 + r3.1)), (0, .ref (a 1)), (1, .int v1)]) hx hb dX9_rest_27 hl (k := 3) rfl rfl (by decide) rfl (fun ls hl => ?_)
          refine lv_goto (tgt := 4) hx hb dX9_rest_30 (by decide) ?_
          exact ih hf hw (lv_sub hl [2, 3, 1, 0] rfl) kx
  refine wL1 n ho5 hw (lv_sub hl [2, 3, 1, 0] rfl) (fun H locs ls hw hl => ?_)
  clear wL1 ho5
  refine lv_iload_n hx hb dX9_rest_33 rfl (lv_at hl 2 rfl) ?_
  have hf := Option.some.inj hf
  subst hf
  exact hR _ _ _ _ _ _ hw rfl ⟨rfl, rfl⟩ dX9_rest_34
theorem dX11_chime_0 : decode cX11_chime 0 = .ok (.aload_n 0, 1) := by decide +kernel
theorem dX11_chime_1 : decode cX11_chime 1 = .ok (.getfield 55, 3) := by decide +kernel
theorem dX11_chime_4 : decode cX11_chime 4 = .ok (.invokevirtual 137, 3) := by decide +kernel
theorem dX11_chime_7 : decode cX11_chime 7 = .ok (.ifCond .eq 8, 3) := by decide +kernel
theorem dX11_chime_10 : decode cX11_chime 10 = .ok (.bipush (-4), 2) := by decide +kernel
theorem dX11_chime_12 : decode cX11_chime 12 = .ok (.goto 11, 3) := by decide +kernel
theorem dX11_chime_15 : decode cX11_chime 15 = .ok (.aload_n 0, 1) := by decide +kernel
theorem dX11_chime_16 : decode cX11_chime 16 = .ok (.getfield 55, 3) := by decide +kernel
theorem dX11_chime_19 : decode cX11_chime 19 = .ok (.iconst 1, 1) := by decide +kernel
theorem dX11_chime_20 : decode cX11_chime 20 = .ok (.invokevirtual 173, 3) := by decide +kernel
theorem dX11_chime_23 : decode cX11_chime 23 = .ok (.ireturn, 1) := by decide +kernel
theorem k_X11_chime : MV yX11_chime cX11_chime 1 (some .int) 0 := ⟨q_668, q_669, q_1, q_670, ⟨by decide, by decide, by decide +kernel⟩⟩
theorem c_X11_chime {res : Int32 × (Nat → Nat → Int32) × Int32 × Int32 × (Nat → Int32) × (Nat → Int32) × (Nat → Nat → Int32)} (hf : X11_chime n x_q0_dials x_q0_spots x_q0_skies x_q0_count x_q0_chime x_q0_end x_q0_score x_q0_rules x_q0_shades x_q0_facts x_g_count x_g_kinds x_g_wills x_g_starts x_g_code x_g_stack x_g_kl x_g_wl x_g_sl x_g_cl x_nr = some res) : MC l E0 D t yX11_chime cX11_chime 1 (some .int) 7 0 0 [.ref (a 0)] (cW a ar t x_q0_dials x_q0_spots x_q0_skies x_q0_reports x_q0_count x_q0_chime x_q0_end x_q0_score x_q0_reportCount x_q0_z x_q0_rules x_q0_shades x_q0_facts x_q1_dials x_q1_spots x_q1_skies x_q1_reports x_q1_count x_q1_chime x_q1_end x_q1_score x_q1_reportCount x_q1_z x_q1_rules x_q1_shades x_q1_facts x_q2_dials x_q2_spots x_q2_skies x_q2_reports x_q2_count x_q2_chime x_q2_end x_q2_score x_q2_reportCount x_q2_z x_q2_rules x_q2_shades x_q2_facts x_isKept x_marks x_p_first x_p_steps x_p_most x_p_many x_p_fewest x_p_everRight x_p_opening x_p_rows x_p_rowCount x_p_acts x_p_marks x_p_deepest x_p_wanted x_t_length x_t_tape x_t_words x_t_places x_t_at x_t_kinds x_t_wills x_t_starts x_t_code x_t_count x_t_size x_h_sorts x_h_lengths x_h_items x_h_held x_h_things x_h_sizes x_h_bodies x_h_traced x_h_number x_h_spot x_h_parted x_g_count x_g_kinds x_g_wills x_g_starts x_g_code x_g_stack x_g_kl x_g_wl x_g_sl x_g_cl x_nr) (Qi res.1 (cW a ar t res.2.1 x_q0_spots x_q0_skies x_q0_reports x_q0_count res.2.2.1 x_q0_end res.2.2.2.1 x_q0_reportCount x_q0_z x_q0_rules res.2.2.2.2.1 res.2.2.2.2.2.1 x_q1_dials x_q1_spots x_q1_skies x_q1_reports x_q1_count x_q1_chime x_q1_end x_q1_score x_q1_reportCount x_q1_z x_q1_rules x_q1_shades x_q1_facts x_q2_dials x_q2_spots x_q2_skies x_q2_reports x_q2_count x_q2_chime x_q2_end x_q2_score x_q2_reportCount x_q2_z x_q2_rules x_q2_shades x_q2_facts x_isKept x_marks x_p_first x_p_steps x_p_most x_p_many x_p_fewest x_p_everRight x_p_opening x_p_rows x_p_rowCount x_p_acts x_p_marks x_p_deepest x_p_wanted x_t_length x_t_tape x_t_words x_t_places x_t_at x_t_kinds x_t_wills x_t_starts x_t_code x_t_count x_t_size x_h_sorts x_h_lengths x_h_items x_h_held x_h_things x_h_sizes x_h_bodies x_h_traced x_h_number x_h_spot x_h_parted x_g_count x_g_kinds x_g_wills x_g_starts x_g_code res.2.2.2.2.2.2 x_g_kl x_g_wl x_g_sl x_g_cl x_nr)) := by
  unfold X11_chime at hf
  refine MC.ofI pn_X11 (Nat.le_of_ble_eq_true rfl) ?_
  intro p e s m args below meth c A Q ls cx hR hw hl
  have hx := cx.1
  have hb := cx.2.1
  have hl : lv_has ls 1 [(0, .ref (a 0))] := hl
  refine lv_aload_n hx hb dX11_chime_0 rfl (lv_at hl 0 rfl) ?_
  refine cg_X11_55_ds cx hw dX11_chime_1 ?_
  refine calVi cx hw hl.1 (c_X9_isOver_q0 rfl) q_500 k_X9_isOver rfl rv_q0 rfl dX11_chime_4 rfl (Nat.le_of_ble_eq_true rfl) ⟨Nat.le_of_ble_eq_true rfl, Nat.le_of_ble_eq_true rfl⟩ ⟨Nat.le_refl _, Nat.le_refl _⟩ (fun H locs hw => ?_)
  refine lv_if_eq (tgt := 15) hx hb dX11_chime_7 (by decide) (fun hc => ?_) (fun hc => ?_)
  · have hf := ifT hf hc
    refine lv_aload_n hx hb dX11_chime_15 rfl (lv_at hl 0 rfl) ?_
    refine cg_X11_55_ds cx hw dX11_chime_16 ?_
    refine lv_iconst (v := 1) hx hb dX11_chime_19 (by decide) ?_
    obtain ⟨r1, h2, hf⟩ := bnS hf
    refine calVi cx hw hl.1 (c_X9_rest_q0 h2) q_671 k_X9_rest rfl rv_q0 rfl dX11_chime_20 rfl (Nat.le_of_ble_eq_true rfl) ⟨Nat.le_of_ble_eq_true rfl, Nat.le_of_ble_eq_true rfl⟩ ⟨Nat.le_refl _, Nat.le_refl _⟩ (fun H locs hw => ?_)
    have hf := Option.some.inj hf
    subst hf
    exact hR _ _ _ _ _ _ hw rfl ⟨rfl, rfl⟩ dX11_chime_23
  · have hf := ifF hf hc
    refine lv_bipush (v := (-4)) hx hb dX11_chime_10 (by decide) ?_
    refine lv_goto (tgt := 23) hx hb dX11_chime_12 (by decide) ?_
    have hf := Option.some.inj hf
    subst hf
    exact hR _ _ _ _ _ _ hw rfl ⟨rfl, rfl⟩ dX11_chime_23
end CW3
