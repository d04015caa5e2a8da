section CW1
variable {l : Launch} {D : va_G} {t : Nat → ClassId} {a : Nat → Nat} {ar : Nat → Nat → Nat} {n : Nat} {x_q0_dials : Nat → Nat → Int32} {x_q0_spots : Nat → Nat → Int32} {x_q0_skies : Nat → Int32} {x_q0_reports : Nat → Nat → Int32} {x_q0_count : Int32} {x_q0_chime : Int32} {x_q0_end : Int32} {x_q0_score : Int32} {x_q0_reportCount : Int32} {x_q0_z : Int32} {x_q0_rules : Nat} {x_q0_shades : Nat → Int32} {x_q0_facts : Nat → Int32} {x_q1_dials : Nat → Nat → Int32} {x_q1_spots : Nat → Nat → Int32} {x_q1_skies : Nat → Int32} {x_q1_reports : Nat → Nat → Int32} {x_q1_count : Int32} {x_q1_chime : Int32} {x_q1_end : Int32} {x_q1_score : Int32} {x_q1_reportCount : Int32} {x_q1_z : Int32} {x_q1_rules : Nat} {x_q1_shades : Nat → Int32} {x_q1_facts : Nat → Int32} {x_q2_dials : Nat → Nat → Int32} {x_q2_spots : Nat → Nat → Int32} {x_q2_skies : Nat → Int32} {x_q2_reports : Nat → Nat → Int32} {x_q2_count : Int32} {x_q2_chime : Int32} {x_q2_end : Int32} {x_q2_score : Int32} {x_q2_reportCount : Int32} {x_q2_z : Int32} {x_q2_rules : Nat} {x_q2_shades : Nat → Int32} {x_q2_facts : Nat → Int32} {x_isKept : Int32} {x_marks : Nat → Int32} {x_p_first : Nat → Int32} {x_p_steps : Int32} {x_p_most : Int32} {x_p_many : Int32} {x_p_fewest : Int32} {x_p_everRight : Int32} {x_p_opening : Int32} {x_p_rows : Nat → Nat → Int32} {x_p_rowCount : Int32} {x_p_acts : Nat → Int32} {x_p_marks : Nat → Nat → Int32} {x_p_deepest : Int32} {x_p_wanted : Int32} {x_t_length : Int32} {x_t_tape : Nat → Int32} {x_t_words : Nat → Int32} {x_t_places : Nat → Int32} {x_t_at : Int32} {x_t_kinds : Nat → Int32} {x_t_wills : Nat → Int32} {x_t_starts : Nat → Int32} {x_t_code : Nat → Int32} {x_t_count : Int32} {x_t_size : Int32} {x_h_sorts : Nat → Int32} {x_h_lengths : Nat → Int32} {x_h_items : Nat → Nat → Int32} {x_h_held : Nat → Int32} {x_h_things : Nat → Int32} {x_h_sizes : Nat → Int32} {x_h_bodies : Nat → Int32} {x_h_traced : Int32} {x_h_number : Int32} {x_h_spot : Int32} {x_h_parted : Int32} {x_g_count : Nat → Int32} {x_g_kinds : Nat → Nat → Int32} {x_g_wills : Nat → Nat → Int32} {x_g_starts : Nat → Nat → Int32} {x_g_code : Nat → Nat → Int32} {x_g_stack : Nat → Nat → Int32} {x_g_kl : Nat → Nat} {x_g_wl : Nat → Nat} {x_g_sl : Nat → Nat} {x_g_cl : Nat → Nat} {x_nr : Nat}
theorem dX11_isIn_0 : decode cX11_isIn 0 = .ok (.iload_n 0, 1) := by decide +kernel
theorem dX11_isIn_1 : decode cX11_isIn 1 = .ok (.iload_n 1, 1) := by decide +kernel
theorem dX11_isIn_2 : decode cX11_isIn 2 = .ok (.if_icmp .lt 12, 3) := by decide +kernel
theorem dX11_isIn_5 : decode cX11_isIn 5 = .ok (.iload_n 0, 1) := by decide +kernel
theorem dX11_isIn_6 : decode cX11_isIn 6 = .ok (.iload_n 2, 1) := by decide +kernel
theorem dX11_isIn_7 : decode cX11_isIn 7 = .ok (.if_icmp .gt 7, 3) := by decide +kernel
theorem dX11_isIn_10 : decode cX11_isIn 10 = .ok (.iconst 1, 1) := by decide +kernel
theorem dX11_isIn_11 : decode cX11_isIn 11 = .ok (.goto 4, 3) := by decide +kernel
theorem dX11_isIn_14 : decode cX11_isIn 14 = .ok (.iconst 0, 1) := by decide +kernel
theorem dX11_isIn_15 : decode cX11_isIn 15 = .ok (.ireturn, 1) := by decide +kernel
theorem k_X11_isIn : MS yX11_isIn cX11_isIn 3 (some .boolean) 3 := ⟨q_351, q_1, q_352, ⟨by decide, by decide, by decide +kernel⟩⟩
theorem c_X11_isIn {v0 : Int32} {v1 : Int32} {v2 : Int32} {res : Int32} (hf : X11_isIn v0 v1 v2 = res) : MC l E0 D t yX11_isIn cX11_isIn 3 (some .boolean) 1 0 0 [.int v0, .int v1, .int v2] (cW a ar t x_q0_dials x_q0_spots x_q0_skies x_q0_reports x_q0_count x_q0_chime x_q0_end x_q0_score x_q0_reportCount x_q0_z x_q0_rules x_q0_shades x_q0_facts x_q1_dials x_q1_spots x_q1_skies x_q1_reports x_q1_count x_q1_chime x_q1_end x_q1_score x_q1_reportCount x_q1_z x_q1_rules x_q1_shades x_q1_facts x_q2_dials x_q2_spots x_q2_skies x_q2_reports x_q2_count x_q2_chime x_q2_end x_q2_score x_q2_reportCount x_q2_z x_q2_rules x_q2_shades x_q2_facts x_isKept x_marks x_p_first x_p_steps x_p_most x_p_many x_p_fewest x_p_everRight x_p_opening x_p_rows x_p_rowCount x_p_acts x_p_marks x_p_deepest x_p_wanted x_t_length x_t_tape x_t_words x_t_places x_t_at x_t_kinds x_t_wills x_t_starts x_t_code x_t_count x_t_size x_h_sorts x_h_lengths x_h_items x_h_held x_h_things x_h_sizes x_h_bodies x_h_traced x_h_number x_h_spot x_h_parted x_g_count x_g_kinds x_g_wills x_g_starts x_g_code x_g_stack x_g_kl x_g_wl x_g_sl x_g_cl x_nr) (Qi res (cW a ar t x_q0_dials x_q0_spots x_q0_skies x_q0_reports x_q0_count x_q0_chime x_q0_end x_q0_score x_q0_reportCount x_q0_z x_q0_rules x_q0_shades x_q0_facts x_q1_dials x_q1_spots x_q1_skies x_q1_reports x_q1_count x_q1_chime x_q1_end x_q1_score x_q1_reportCount x_q1_z x_q1_rules x_q1_shades x_q1_facts x_q2_dials x_q2_spots x_q2_skies x_q2_reports x_q2_count x_q2_chime x_q2_end x_q2_score x_q2_reportCount x_q2_z x_q2_rules x_q2_shades x_q2_facts x_isKept x_marks x_p_first x_p_steps x_p_most x_p_many x_p_fewest x_p_everRight x_p_opening x_p_rows x_p_rowCount x_p_acts x_p_marks x_p_deepest x_p_wanted x_t_length x_t_tape x_t_words x_t_places x_t_at x_t_kinds x_t_wills x_t_starts x_t_code x_t_count x_t_size x_h_sorts x_h_lengths x_h_items x_h_held x_h_things x_h_sizes x_h_bodies x_h_traced x_h_number x_h_spot x_h_parted x_g_count x_g_kinds x_g_wills x_g_starts x_g_code x_g_stack x_g_kl x_g_wl x_g_sl x_g_cl x_nr)) := by
  unfold X11_isIn at hf
  refine MC.ofI pn_X11 (Nat.le_of_ble_eq_true rfl) ?_
  intro p e s m args below meth c A Q ls cx hR hw hl
  have hx := cx.1
  have hb := cx.2.1
  have hl : lv_has ls 3 [(0, .int v0), (1, .int v1), (2, .int v2)] := hl
  refine lv_iload_n hx hb dX11_isIn_0 rfl (lv_at hl 0 rfl) ?_
  refine lv_iload_n hx hb dX11_isIn_1 rfl (lv_at hl 1 rfl) ?_
  refine lv_icmp_lt (tgt := 14) hx hb dX11_isIn_2 (by decide) (fun hc => ?_) (fun hc => ?_)
  · have hf := ifT hf hc
    refine lv_iconst (v := 0) hx hb dX11_isIn_14 (by decide) ?_
    subst hf
    exact hR _ _ _ _ _ _ hw rfl ⟨rfl, rfl⟩ dX11_isIn_15
  · have hf := ifF hf hc
    refine lv_iload_n hx hb dX11_isIn_5 rfl (lv_at hl 0 rfl) ?_
    refine lv_iload_n hx hb dX11_isIn_6 rfl (lv_at hl 2 rfl) ?_
    refine lv_icmp_gt (tgt := 14) hx hb dX11_isIn_7 (by decide) (fun hc => ?_) (fun hc => ?_)
    · have hf := ifT hf hc
      refine lv_iconst (v := 0) hx hb dX11_isIn_14 (by decide) ?_
      subst hf
      exact hR _ _ _ _ _ _ hw rfl ⟨rfl, rfl⟩ dX11_isIn_15
    · have hf := ifF hf hc
      refine lv_iconst (v := 1) hx hb dX11_isIn_10 (by decide) ?_
      refine lv_goto (tgt := 15) hx hb dX11_isIn_11 (by decide) ?_
      subst hf
      exact hR _ _ _ _ _ _ hw rfl ⟨rfl, rfl⟩ dX11_isIn_15
theorem b_X11_isIn (v0 : Int32) (v1 : Int32) (v2 : Int32) : X11_isIn v0 v1 v2 = 0 ∨ X11_isIn v0 v1 v2 = 1 := by unfold X11_isIn; repeat (first | exact Or.inl rfl | exact Or.inr rfl | split)
theorem dX11_isSpot_0 : decode cX11_isSpot 0 = .ok (.iload_n 0, 1) := by decide +kernel
theorem dX11_isSpot_1 : decode cX11_isSpot 1 = .ok (.iconst 0, 1) := by decide +kernel
theorem dX11_isSpot_2 : decode cX11_isSpot 2 = .ok (.iconst 5, 1) := by decide +kernel
theorem dX11_isSpot_3 : decode cX11_isSpot 3 = .ok (.invokestatic 74, 3) := by decide +kernel
theorem dX11_isSpot_6 : decode cX11_isSpot 6 = .ok (.ireturn, 1) := by decide +kernel
theorem k_X11_isSpot : MS yX11_isSpot cX11_isSpot 1 (some .boolean) 1 := ⟨q_354, q_1, q_355, ⟨by decide, by decide, by decide +kernel⟩⟩
theorem c_X11_isSpot {v0 : Int32} {res : Int32} (hf : X11_isSpot v0 = res) : MC l E0 D t yX11_isSpot cX11_isSpot 1 (some .boolean) 2 0 0 [.int v0] (cW a ar t x_q0_dials x_q0_spots x_q0_skies x_q0_reports x_q0_count x_q0_chime x_q0_end x_q0_score x_q0_reportCount x_q0_z x_q0_rules x_q0_shades x_q0_facts x_q1_dials x_q1_spots x_q1_skies x_q1_reports x_q1_count x_q1_chime x_q1_end x_q1_score x_q1_reportCount x_q1_z x_q1_rules x_q1_shades x_q1_facts x_q2_dials x_q2_spots x_q2_skies x_q2_reports x_q2_count x_q2_chime x_q2_end x_q2_score x_q2_reportCount x_q2_z x_q2_rules x_q2_shades x_q2_facts x_isKept x_marks x_p_first x_p_steps x_p_most x_p_many x_p_fewest x_p_everRight x_p_opening x_p_rows x_p_rowCount x_p_acts x_p_marks x_p_deepest x_p_wanted x_t_length x_t_tape x_t_words x_t_places x_t_at x_t_kinds x_t_wills x_t_starts x_t_code x_t_count x_t_size x_h_sorts x_h_lengths x_h_items x_h_held x_h_things x_h_sizes x_h_bodies x_h_traced x_h_number x_h_spot x_h_parted x_g_count x_g_kinds x_g_wills x_g_starts x_g_code x_g_stack x_g_kl x_g_wl x_g_sl x_g_cl x_nr) (Qi res (cW a ar t x_q0_dials x_q0_spots x_q0_skies x_q0_reports x_q0_count x_q0_chime x_q0_end x_q0_score x_q0_reportCount x_q0_z x_q0_rules x_q0_shades x_q0_facts x_q1_dials x_q1_spots x_q1_skies x_q1_reports x_q1_count x_q1_chime x_q1_end x_q1_score x_q1_reportCount x_q1_z x_q1_rules x_q1_shades x_q1_facts x_q2_dials x_q2_spots x_q2_skies x_q2_reports x_q2_count x_q2_chime x_q2_end x_q2_score x_q2_reportCount x_q2_z x_q2_rules x_q2_shades x_q2_facts x_isKept x_marks x_p_first x_p_steps x_p_most x_p_many x_p_fewest x_p_everRight x_p_opening x_p_rows x_p_rowCount x_p_acts x_p_marks x_p_deepest x_p_wanted x_t_length x_t_tape x_t_words x_t_places x_t_at x_t_kinds x_t_wills x_t_starts x_t_code x_t_count x_t_size x_h_sorts x_h_lengths x_h_items x_h_held x_h_things x_h_sizes x_h_bodies x_h_traced x_h_number x_h_spot x_h_parted x_g_count x_g_kinds x_g_wills x_g_starts x_g_code x_g_stack x_g_kl x_g_wl x_g_sl x_g_cl x_nr)) := by
  unfold X11_isSpot at hf
  refine MC.ofI pn_X11 (Nat.le_of_ble_eq_true rfl) ?_
  intro p e s m args below meth c A Q ls cx hR hw hl
  have hx := cx.1
  have hb := cx.2.1
  have hl : lv_has ls 1 [(0, .int v0)] := hl
  refine lv_iload_n hx hb dX11_isSpot_0 rfl (lv_at hl 0 rfl) ?_
  refine lv_iconst (v := 0) hx hb dX11_isSpot_1 (by decide) ?_
  refine lv_iconst (v := 5) hx hb dX11_isSpot_2 (by decide) ?_
  refine calSi cx hw hl.1 (c_X11_isIn rfl) q_350 k_X11_isIn rfl dX11_isSpot_3 rfl (Nat.le_of_ble_eq_true rfl) ⟨Nat.le_of_ble_eq_true rfl, Nat.le_of_ble_eq_true rfl⟩ ⟨Nat.le_refl _, Nat.le_refl _⟩ (fun H locs hw => ?_)
  subst hf
  exact hR _ _ _ _ _ _ hw (nb (b_X11_isIn _ _ _)) ⟨rfl, rfl⟩ dX11_isSpot_6
theorem b_X11_isSpot (v0 : Int32) : X11_isSpot v0 = 0 ∨ X11_isSpot v0 = 1 := by unfold X11_isSpot; repeat (first | exact Or.inl rfl | exact Or.inr rfl | apply b_X11_isIn | split)
theorem dX9_put_0 : decode cX9_put 0 = .ok (.aload_n 0, 1) := by decide +kernel
theorem dX9_put_1 : decode cX9_put 1 = .ok (.getfield 11, 3) := by decide +kernel
theorem dX9_put_4 : decode cX9_put 4 = .ok (.aload_n 0, 1) := by decide +kernel
theorem dX9_put_5 : decode cX9_put 5 = .ok (.getfield 59, 3) := by decide +kernel
theorem dX9_put_8 : decode cX9_put 8 = .ok (.aaload, 1) := by decide +kernel
theorem dX9_put_9 : decode cX9_put 9 = .ok (.astore 5, 2) := by decide +kernel
theorem dX9_put_11 : decode cX9_put 11 = .ok (.aload 5, 2) := by decide +kernel
theorem dX9_put_13 : decode cX9_put 13 = .ok (.iconst 0, 1) := by decide +kernel
theorem dX9_put_14 : decode cX9_put 14 = .ok (.iload_n 1, 1) := by decide +kernel
theorem dX9_put_15 : decode cX9_put 15 = .ok (.iastore, 1) := by decide +kernel
theorem dX9_put_16 : decode cX9_put 16 = .ok (.aload 5, 2) := by decide +kernel
theorem dX9_put_18 : decode cX9_put 18 = .ok (.iconst 1, 1) := by decide +kernel
theorem dX9_put_19 : decode cX9_put 19 = .ok (.iload_n 2, 1) := by decide +kernel
theorem dX9_put_20 : decode cX9_put 20 = .ok (.iastore, 1) := by decide +kernel
theorem dX9_put_21 : decode cX9_put 21 = .ok (.aload 5, 2) := by decide +kernel
theorem dX9_put_23 : decode cX9_put 23 = .ok (.iconst 2, 1) := by decide +kernel
theorem dX9_put_24 : decode cX9_put 24 = .ok (.iload_n 3, 1) := by decide +kernel
theorem dX9_put_25 : decode cX9_put 25 = .ok (.iastore, 1) := by decide +kernel
theorem dX9_put_26 : decode cX9_put 26 = .ok (.aload 5, 2) := by decide +kernel
theorem dX9_put_28 : decode cX9_put 28 = .ok (.iconst 3, 1) := by decide +kernel
theorem dX9_put_29 : decode cX9_put 29 = .ok (.iload 4, 2) := by decide +kernel
theorem dX9_put_31 : decode cX9_put 31 = .ok (.iastore, 1) := by decide +kernel
theorem dX9_put_32 : decode cX9_put 32 = .ok (.aload 5, 2) := by decide +kernel
theorem dX9_put_34 : decode cX9_put 34 = .ok (.iconst 4, 1) := by decide +kernel
theorem dX9_put_35 : decode cX9_put 35 = .ok (.iconst 0, 1) := by decide +kernel
theorem dX9_put_36 : decode cX9_put 36 = .ok (.iastore, 1) := by decide +kernel
theorem dX9_put_37 : decode cX9_put 37 = .ok (.aload_n 0, 1) := by decide +kernel
theorem dX9_put_38 : decode cX9_put 38 = .ok (.dup, 1) := by decide +kernel
theorem dX9_put_39 : decode cX9_put 39 = .ok (.getfield 59, 3) := by decide +kernel
theorem dX9_put_42 : decode cX9_put 42 = .ok (.dup_x1, 1) := by decide +kernel
theorem dX9_put_43 : decode cX9_put 43 = .ok (.iconst 1, 1) := by decide +kernel
theorem dX9_put_44 : decode cX9_put 44 = .ok (.iadd, 1) := by decide +kernel
theorem dX9_put_45 : decode cX9_put 45 = .ok (.putfield 59, 3) := by decide +kernel
theorem dX9_put_48 : decode cX9_put 48 = .ok (.ireturn, 1) := by decide +kernel
theorem k_X9_put : MV yX9_put cX9_put 6 (some .int) 4 := ⟨q_357, q_358, q_11, q_359, ⟨by decide, by decide, by decide +kernel⟩⟩
theorem c_X9_put_q0 {v1 : Int32} {v2 : Int32} {v3 : Int32} {v4 : Int32} {res : Int32 × (Nat → Nat → Int32) × Int32} (hf : X9_put_q0 x_q0_dials x_q0_count v1 v2 v3 v4 = some res) : MC l E0 D t yX9_put cX9_put 6 (some .int) 1 0 0 [.ref (a 1), .int v1, .int v2, .int v3, .int v4] (cW a ar t x_q0_dials x_q0_spots x_q0_skies x_q0_reports x_q0_count x_q0_chime x_q0_end x_q0_score x_q0_reportCount x_q0_z x_q0_rules x_q0_shades x_q0_facts x_q1_dials x_q1_spots x_q1_skies x_q1_reports x_q1_count x_q1_chime x_q1_end x_q1_score x_q1_reportCount x_q1_z x_q1_rules x_q1_shades x_q1_facts x_q2_dials x_q2_spots x_q2_skies x_q2_reports x_q2_count x_q2_chime x_q2_end x_q2_score x_q2_reportCount x_q2_z x_q2_rules x_q2_shades x_q2_facts x_isKept x_marks x_p_first x_p_steps x_p_most x_p_many x_p_fewest x_p_everRight x_p_opening x_p_rows x_p_rowCount x_p_acts x_p_marks x_p_deepest x_p_wanted x_t_length x_t_tape x_t_words x_t_places x_t_at x_t_kinds x_t_wills x_t_starts x_t_code x_t_count x_t_size x_h_sorts x_h_lengths x_h_items x_h_held x_h_things x_h_sizes x_h_bodies x_h_traced x_h_number x_h_spot x_h_parted x_g_count x_g_kinds x_g_wills x_g_starts x_g_code x_g_stack x_g_kl x_g_wl x_g_sl x_g_cl x_nr) (Qi res.1 (cW a ar t res.2.1 x_q0_spots x_q0_skies x_q0_reports res.2.2 x_q0_chime x_q0_end x_q0_score x_q0_reportCount x_q0_z x_q0_rules x_q0_shades x_q0_facts x_q1_dials x_q1_spots x_q1_skies x_q1_reports x_q1_count x_q1_chime x_q1_end x_q1_score x_q1_reportCount x_q1_z x_q1_rules x_q1_shades x_q1_facts x_q2_dials x_q2_spots x_q2_skies x_q2_reports x_q2_count x_q2_chime x_q2_end x_q2_score x_q2_reportCount x_q2_z x_q2_rules x_q2_shades x_q2_facts x_isKept x_marks x_p_first x_p_steps x_p_most x_p_many x_p_fewest x_p_everRight x_p_opening x_p_rows x_p_rowCount x_p_acts x_p_marks x_p_deepest x_p_wanted x_t_length x_t_tape x_t_words x_t_places x_t_at x_t_kinds x_t_wills x_t_starts x_t_code x_t_count x_t_size x_h_sorts x_h_lengths x_h_items x_h_held x_h_things x_h_sizes x_h_bodies x_h_traced x_h_number x_h_spot x_h_parted x_g_count x_g_kinds x_g_wills x_g_starts x_g_code x_g_stack x_g_kl x_g_wl x_g_sl x_g_cl x_nr)) := by
  unfold X9_put_q0 at hf
  refine MC.ofI pn_X9 (Nat.le_of_ble_eq_true rfl) ?_
  intro p e s m args below meth c A Q ls cx hR hw hl
  have hx := cx.1
  have hb := cx.2.1
  have hl : lv_has ls 6 [(0, .ref (a 1)), (1, .int v1), (2, .int v2), (3, .int v3), (4, .int v4)] := hl
  refine lv_aload_n hx hb dX9_put_0 rfl (lv_at hl 0 rfl) ?_
  refine cg_X9_11_q0 cx hw dX9_put_1 ?_
  refine lv_aload_n hx hb dX9_put_4 rfl (lv_at hl 0 rfl) ?_
  refine cg_X9_59_q0 cx hw dX9_put_5 ?_
  obtain ⟨h1, hf⟩ := ckS hf
  refine co_q0_dials (j := x_q0_count.toNatClampNeg) cx hw (ib_in h1) rfl dX9_put_8 ?_
  refine lv_astore (lv' := [(5, .ref (a (3 + x_q0_count.toNatClampNeg))), (0, .ref (a 1)), (1, .int v1), (2, .int v2), (3, .int v3), (4, .int v4)]) hx hb dX9_put_9 hl (by decide) rfl (fun ls hl => ?_)
  refine lv_aload hx hb dX9_put_11 (lv_at hl 0 rfl) ?_
  refine lv_iconst (v := 0) hx hb dX9_put_13 (by decide) ?_
  refine lv_iload_n hx hb dX9_put_14 rfl (lv_at hl 2 rfl) ?_
  refine ct_q0_dials (j := 0) cx hw (ib_lt h1) (ib_in (by decide)) (by decide) dX9_put_15 (fun H locs hw => ?_)
  refine lv_aload hx hb dX9_put_16 (lv_at hl 0 rfl) ?_
  refine lv_iconst (v := 1) hx hb dX9_put_18 (by decide) ?_
  refine lv_iload_n hx hb dX9_put_19 rfl (lv_at hl 3 rfl) ?_
  refine ct_q0_dials (j := 1) cx hw (ib_lt h1) (ib_in (by decide)) (by decide) dX9_put_20 (fun H locs hw => ?_)
  refine lv_aload hx hb dX9_put_21 (lv_at hl 0 rfl) ?_
  refine lv_iconst (v := 2) hx hb dX9_put_23 (by decide) ?_
  refine lv_iload_n hx hb dX9_put_24 rfl (lv_at hl 4 rfl) ?_
  refine ct_q0_dials (j := 2) cx hw (ib_lt h1) (ib_in (by decide)) (by decide) dX9_put_25 (fun H locs hw => ?_)
  refine lv_aload hx hb dX9_put_26 (lv_at hl 0 rfl) ?_
  refine lv_iconst (v := 3) hx hb dX9_put_28 (by decide) ?_
  refine lv_iload hx hb dX9_put_29 (lv_at hl 5 rfl) ?_
  refine ct_q0_dials (j := 3) cx hw (ib_lt h1) (ib_in (by decide)) (by decide) dX9_put_31 (fun H locs hw => ?_)
  refine lv_aload hx hb dX9_put_32 (lv_at hl 0 rfl) ?_
  refine lv_iconst (v := 4) hx hb dX9_put_34 (by decide) ?_
  refine lv_iconst (v := 0) hx hb dX9_put_35 (by decide) ?_
  refine ct_q0_dials (j := 4) cx hw (ib_lt h1) (ib_in (by decide)) (by decide) dX9_put_36 (fun H locs hw => ?_)
  refine lv_aload_n hx hb dX9_put_37 rfl (lv_at hl 1 rfl) ?_
  refine lv_dup hx hb dX9_put_38 rfl ?_
  refine cg_X9_59_q0 cx hw dX9_put_39 ?_
  refine lv_dup_x1 hx hb dX9_put_42 rfl rfl ?_
  refine lv_iconst (v := 1) hx hb dX9_put_43 (by decide) ?_
  refine lv_iadd hx hb dX9_put_44 ?_
  refine cp_X9_59_q0 cx hw dX9_put_45 (fun H locs hw => ?_)
  have hf := Option.some.inj hf
  subst hf
  exact hR _ _ _ _ _ _ hw rfl ⟨rfl, rfl⟩ dX9_put_48
theorem dX11_dial_0 : decode cX11_dial 0 = .ok (.iload_n 1, 1) := by decide +kernel
theorem dX11_dial_1 : decode cX11_dial 1 = .ok (.iconst 1, 1) := by decide +kernel
theorem dX11_dial_2 : decode cX11_dial 2 = .ok (.iconst 5, 1) := by decide +kernel
theorem dX11_dial_3 : decode cX11_dial 3 = .ok (.invokestatic 74, 3) := by decide +kernel
theorem dX11_dial_6 : decode cX11_dial 6 = .ok (.ifCond .eq 13, 3) := by decide +kernel
theorem dX11_dial_9 : decode cX11_dial 9 = .ok (.iload_n 2, 1) := by decide +kernel
theorem dX11_dial_10 : decode cX11_dial 10 = .ok (.iconst 0, 1) := by decide +kernel
theorem dX11_dial_11 : decode cX11_dial 11 = .ok (.bipush 99, 2) := by decide +kernel
theorem dX11_dial_13 : decode cX11_dial 13 = .ok (.invokestatic 74, 3) := by decide +kernel
theorem dX11_dial_16 : decode cX11_dial 16 = .ok (.ifCond .ne 5, 3) := by decide +kernel
theorem dX11_dial_19 : decode cX11_dial 19 = .ok (.iconst (-1), 1) := by decide +kernel
theorem dX11_dial_20 : decode cX11_dial 20 = .ok (.ireturn, 1) := by decide +kernel
theorem dX11_dial_21 : decode cX11_dial 21 = .ok (.iload_n 3, 1) := by decide +kernel
theorem dX11_dial_22 : decode cX11_dial 22 = .ok (.iconst 0, 1) := by decide +kernel
theorem dX11_dial_23 : decode cX11_dial 23 = .ok (.bipush 9, 2) := by decide +kernel
theorem dX11_dial_25 : decode cX11_dial 25 = .ok (.invokestatic 74, 3) := by decide +kernel
theorem dX11_dial_28 : decode cX11_dial 28 = .ok (.ifCond .eq 11, 3) := by decide +kernel
theorem dX11_dial_31 : decode cX11_dial 31 = .ok (.iload 4, 2) := by decide +kernel
theorem dX11_dial_33 : decode cX11_dial 33 = .ok (.invokestatic 78, 3) := by decide +kernel
theorem dX11_dial_36 : decode cX11_dial 36 = .ok (.ifCond .ne 5, 3) := by decide +kernel
theorem dX11_dial_39 : decode cX11_dial 39 = .ok (.iconst (-1), 1) := by decide +kernel
theorem dX11_dial_40 : decode cX11_dial 40 = .ok (.ireturn, 1) := by decide +kernel
theorem dX11_dial_41 : decode cX11_dial 41 = .ok (.aload_n 0, 1) := by decide +kernel
theorem dX11_dial_42 : decode cX11_dial 42 = .ok (.getfield 55, 3) := by decide +kernel
theorem dX11_dial_45 : decode cX11_dial 45 = .ok (.getfield 82, 3) := by decide +kernel
theorem dX11_dial_48 : decode cX11_dial 48 = .ok (.bipush 6, 2) := by decide +kernel
theorem dX11_dial_50 : decode cX11_dial 50 = .ok (.if_icmp .lt 6, 3) := by decide +kernel
theorem dX11_dial_53 : decode cX11_dial 53 = .ok (.bipush (-2), 2) := by decide +kernel
theorem dX11_dial_55 : decode cX11_dial 55 = .ok (.ireturn, 1) := by decide +kernel
theorem dX11_dial_56 : decode cX11_dial 56 = .ok (.aload_n 0, 1) := by decide +kernel
theorem dX11_dial_57 : decode cX11_dial 57 = .ok (.getfield 55, 3) := by decide +kernel
theorem dX11_dial_60 : decode cX11_dial 60 = .ok (.iload_n 1, 1) := by decide +kernel
theorem dX11_dial_61 : decode cX11_dial 61 = .ok (.iload_n 2, 1) := by decide +kernel
theorem dX11_dial_62 : decode cX11_dial 62 = .ok (.iload_n 3, 1) := by decide +kernel
theorem dX11_dial_63 : decode cX11_dial 63 = .ok (.iload 4, 2) := by decide +kernel
theorem dX11_dial_65 : decode cX11_dial 65 = .ok (.invokevirtual 86, 3) := by decide +kernel
theorem dX11_dial_68 : decode cX11_dial 68 = .ok (.ireturn, 1) := by decide +kernel
theorem k_X11_dial : MV yX11_dial cX11_dial 5 (some .int) 4 := ⟨q_347, q_348, q_1, q_349, ⟨by decide, by decide, by decide +kernel⟩⟩
theorem c_X11_dial {v1 : Int32} {v2 : Int32} {v3 : Int32} {v4 : Int32} {res : Int32 × (Nat → Nat → Int32) × Int32} (hf : X11_dial x_q0_dials x_q0_count v1 v2 v3 v4 = some res) : MC l E0 D t yX11_dial cX11_dial 5 (some .int) 3 0 0 [.ref (a 0), .int v1, .int v2, .int v3, .int v4] (cW a ar t x_q0_dials x_q0_spots x_q0_skies x_q0_reports x_q0_count x_q0_chime x_q0_end x_q0_score x_q0_reportCount x_q0_z x_q0_rules x_q0_shades x_q0_facts x_q1_dials x_q1_spots x_q1_skies x_q1_reports x_q1_count x_q1_chime x_q1_end x_q1_score x_q1_reportCount x_q1_z x_q1_rules x_q1_shades x_q1_facts x_q2_dials x_q2_spots x_q2_skies x_q2_reports x_q2_count x_q2_chime x_q2_end x_q2_score x_q2_reportCount x_q2_z x_q2_rules x_q2_shades x_q2_facts x_isKept x_marks x_p_first x_p_steps x_p_most x_p_many x_p_fewest x_p_everRight x_p_opening x_p_rows x_p_rowCount x_p_acts x_p_marks x_p_deepest x_p_wanted x_t_length x_t_tape x_t_words x_t_places x_t_at x_t_kinds x_t_wills x_t_starts x_t_code x_t_count x_t_size x_h_sorts x_h_lengths x_h_items x_h_held x_h_things x_h_sizes x_h_bodies x_h_traced x_h_number x_h_spot x_h_parted x_g_count x_g_kinds x_g_wills x_g_starts x_g_code x_g_stack x_g_kl x_g_wl x_g_sl x_g_cl x_nr) (Qi res.1 (cW a ar t res.2.1 x_q0_spots x_q0_skies x_q0_reports res.2.2 x_q0_chime x_q0_end x_q0_score x_q0_reportCount x_q0_z x_q0_rules x_q0_shades x_q0_facts x_q1_dials x_q1_spots x_q1_skies x_q1_reports x_q1_count x_q1_chime x_q1_end x_q1_score x_q1_reportCount x_q1_z x_q1_rules x_q1_shades x_q1_facts x_q2_dials x_q2_spots x_q2_skies x_q2_reports x_q2_count x_q2_chime x_q2_end x_q2_score x_q2_reportCount x_q2_z x_q2_rules x_q2_shades x_q2_facts x_isKept x_marks x_p_first x_p_steps x_p_most x_p_many x_p_fewest x_p_everRight x_p_opening x_p_rows x_p_rowCount x_p_acts x_p_marks x_p_deepest x_p_wanted x_t_length x_t_tape x_t_words x_t_places x_t_at x_t_kinds x_t_wills x_t_starts x_t_code x_t_count x_t_size x_h_sorts x_h_lengths x_h_items x_h_held x_h_things x_h_sizes x_h_bodies x_h_traced x_h_number x_h_spot x_h_parted x_g_count x_g_kinds x_g_wills x_g_starts x_g_code x_g_stack x_g_kl x_g_wl x_g_sl x_g_cl x_nr)) := by
  unfold X11_dial at hf
  refine MC.ofI pn_X11 (Nat.le_of_ble_eq_true rfl) ?_
  intro p e s m args below meth c A Q ls cx hR hw hl
  have hx := cx.1
  have hb := cx.2.1
  have hl : lv_has ls 5 [(0, .ref (a 0)), (1, .int v1), (2, .int v2), (3, .int v3), (4, .int v4)] := hl
  refine lv_iload_n hx hb dX11_dial_0 rfl (lv_at hl 1 rfl) ?_
  refine lv_iconst (v := 1) hx hb dX11_dial_1 (by decide) ?_
  refine lv_iconst (v := 5) hx hb dX11_dial_2 (by decide) ?_
  refine calSi cx hw hl.1 (c_X11_isIn rfl) q_350 k_X11_isIn rfl dX11_dial_3 rfl (Nat.le_of_ble_eq_true rfl) ⟨Nat.le_of_ble_eq_true rfl, Nat.le_of_ble_eq_true rfl⟩ ⟨Nat.le_refl _, Nat.le_refl _⟩ (fun H locs hw => ?_)
  refine lv_if_eq (tgt := 19) hx hb dX11_dial_6 (by decide) (fun hc => ?_) (fun hc => ?_)
  · have hf := ifT hf hc
    refine lv_iconst (v := (-1)) hx hb dX11_dial_19 (by decide) ?_
    have hf := Option.some.inj hf
    subst hf
    exact hR _ _ _ _ _ _ hw rfl ⟨rfl, rfl⟩ dX11_dial_20
  · have hf := ifF hf hc
    refine lv_iload_n hx hb dX11_dial_9 rfl (lv_at hl 2 rfl) ?_
    refine lv_iconst (v := 0) hx hb dX11_dial_10 (by decide) ?_
    refine lv_bipush (v := 99) hx hb dX11_dial_11 (by decide) ?_
    refine calSi cx hw hl.1 (c_X11_isIn rfl) q_350 k_X11_isIn rfl dX11_dial_13 rfl (Nat.le_of_ble_eq_true rfl) ⟨Nat.le_of_ble_eq_true rfl, Nat.le_of_ble_eq_true rfl⟩ ⟨Nat.le_refl _, Nat.le_refl _⟩ (fun H locs hw => ?_)
    refine lv_if_ne (tgt := 21) hx hb dX11_dial_16 (by decide) (fun hc => ?_) (fun hc => ?_)
    · have hf := ifF hf hc
      refine lv_iload_n hx hb dX11_dial_21 rfl (lv_at hl 3 rfl) ?_
      refine lv_iconst (v := 0) hx hb dX11_dial_22 (by decide) ?_
      refine lv_bipush (v := 9) hx hb dX11_dial_23 (by decide) ?_
      refine calSi cx hw hl.1 (c_X11_isIn rfl) q_350 k_X11_isIn rfl dX11_dial_25 rfl (Nat.le_of_ble_eq_true rfl) ⟨Nat.le_of_ble_eq_true rfl, Nat.le_of_ble_eq_true rfl⟩ ⟨Nat.le_refl _, Nat.le_refl _⟩ (fun H locs hw => ?_)
      refine lv_if_eq (tgt := 39) hx hb dX11_dial_28 (by decide) (fun hc => ?_) (fun hc => ?_)
      · have hf := ifT hf hc
        refine lv_iconst (v := (-1)) hx hb dX11_dial_39 (by decide) ?_
        have hf := Option.some.inj hf
        subst hf
        exact hR _ _ _ _ _ _ hw rfl ⟨rfl, rfl⟩ dX11_dial_40
      · have hf := ifF hf hc
        refine lv_iload hx hb dX11_dial_31 (lv_at hl 4 rfl) ?_
        refine calSi cx hw hl.1 (c_X11_isSpot rfl) q_353 k_X11_isSpot rfl dX11_dial_33 rfl (Nat.le_of_ble_eq_true rfl) ⟨Nat.le_of_ble_eq_true rfl, Nat.le_of_ble_eq_true rfl⟩ ⟨Nat.le_refl _, Nat.le_refl _⟩ (fun H locs hw => ?_)
        refine lv_if_ne (tgt := 41) hx hb dX11_dial_36 (by decide) (fun hc => ?_) (fun hc => ?_)
        · have hf := ifF hf hc
          refine lv_aload_n hx hb dX11_dial_41 rfl (lv_at hl 0 rfl) ?_
          refine cg_X11_55_ds cx hw dX11_dial_42 ?_
          refine cg_X11_82_q0 cx hw dX11_dial_45 ?_
          refine lv_bipush (v := 6) hx hb dX11_dial_48 (by decide) ?_
          refine lv_icmp_lt (tgt := 56) hx hb dX11_dial_50 (by decide) (fun hc => ?_) (fun hc => ?_)
          · have hf := ifT hf hc
            refine lv_aload_n hx hb dX11_dial_56 rfl (lv_at hl 0 rfl) ?_
            refine cg_X11_55_ds cx hw dX11_dial_57 ?_
            refine lv_iload_n hx hb dX11_dial_60 rfl (lv_at hl 1 rfl) ?_
            refine lv_iload_n hx hb dX11_dial_61 rfl (lv_at hl 2 rfl) ?_
            refine lv_iload_n hx hb dX11_dial_62 rfl (lv_at hl 3 rfl) ?_
            refine lv_iload hx hb dX11_dial_63 (lv_at hl 4 rfl) ?_
            obtain ⟨r1, h2, hf⟩ := bnS hf
            refine calVi cx hw hl.1 (c_X9_put_q0 h2) q_356 k_X9_put rfl rv_q0 rfl dX11_dial_65 rfl (Nat.le_of_ble_eq_true rfl) ⟨Nat.le_of_ble_eq_true rfl, Nat.le_of_ble_eq_true rfl⟩ ⟨Nat.le_refl _, Nat.le_refl _⟩ (fun H locs hw => ?_)
            have hf := Option.some.inj hf
            subst hf
            exact hR _ _ _ _ _ _ hw rfl ⟨rfl, rfl⟩ dX11_dial_68
          · have hf := ifF hf hc
            refine lv_bipush (v := (-2)) hx hb dX11_dial_53 (by decide) ?_
            have hf := Option.some.inj hf
            subst hf
            exact hR _ _ _ _ _ _ hw rfl ⟨rfl, rfl⟩ dX11_dial_55
        · have hf := ifT hf hc
          refine lv_iconst (v := (-1)) hx hb dX11_dial_39 (by decide) ?_
          have hf := Option.some.inj hf
          subst hf
          exact hR _ _ _ _ _ _ hw rfl ⟨rfl, rfl⟩ dX11_dial_40
    · have hf := ifT hf hc
      refine lv_iconst (v := (-1)) hx hb dX11_dial_19 (by decide) ?_
      have hf := Option.some.inj hf
      subst hf
      exact hR _ _ _ _ _ _ hw rfl ⟨rfl, rfl⟩ dX11_dial_20
theorem dX9_has_0 : decode cX9_has 0 = .ok (.iload_n 1, 1) := by decide +kernel
theorem dX9_has_1 : decode cX9_has 1 = .ok (.ifCond .lt 15, 3) := by decide +kernel
theorem dX9_has_4 : decode cX9_has 4 = .ok (.iload_n 1, 1) := by decide +kernel
theorem dX9_has_5 : decode cX9_has 5 = .ok (.aload_n 0, 1) := by decide +kernel
theorem dX9_has_6 : decode cX9_has 6 = .ok (.getfield 59, 3) := by decide +kernel
theorem dX9_has_9 : decode cX9_has 9 = .ok (.if_icmp .ge 7, 3) := by decide +kernel
theorem dX9_has_12 : decode cX9_has 12 = .ok (.iconst 1, 1) := by decide +kernel
theorem dX9_has_13 : decode cX9_has 13 = .ok (.goto 4, 3) := by decide +kernel
theorem dX9_has_16 : decode cX9_has 16 = .ok (.iconst 0, 1) := by decide +kernel
theorem dX9_has_17 : decode cX9_has 17 = .ok (.ireturn, 1) := by decide +kernel
theorem k_X9_has : MV yX9_has cX9_has 2 (some .boolean) 1 := ⟨q_365, q_366, q_11, q_367, ⟨by decide, by decide, by decide +kernel⟩⟩
theorem c_X9_has_q0 {v1 : Int32} {res : Int32} (hf : X9_has_q0 x_q0_count v1 = res) : MC l E0 D t yX9_has cX9_has 2 (some .boolean) 1 0 0 [.ref (a 1), .int v1] (cW a ar t x_q0_dials x_q0_spots x_q0_skies x_q0_reports x_q0_count x_q0_chime x_q0_end x_q0_score x_q0_reportCount x_q0_z x_q0_rules x_q0_shades x_q0_facts x_q1_dials x_q1_spots x_q1_skies x_q1_reports x_q1_count x_q1_chime x_q1_end x_q1_score x_q1_reportCount x_q1_z x_q1_rules x_q1_shades x_q1_facts x_q2_dials x_q2_spots x_q2_skies x_q2_reports x_q2_count x_q2_chime x_q2_end x_q2_score x_q2_reportCount x_q2_z x_q2_rules x_q2_shades x_q2_facts x_isKept x_marks x_p_first x_p_steps x_p_most x_p_many x_p_fewest x_p_everRight x_p_opening x_p_rows x_p_rowCount x_p_acts x_p_marks x_p_deepest x_p_wanted x_t_length x_t_tape x_t_words x_t_places x_t_at x_t_kinds x_t_wills x_t_starts x_t_code x_t_count x_t_size x_h_sorts x_h_lengths x_h_items x_h_held x_h_things x_h_sizes x_h_bodies x_h_traced x_h_number x_h_spot x_h_parted x_g_count x_g_kinds x_g_wills x_g_starts x_g_code x_g_stack x_g_kl x_g_wl x_g_sl x_g_cl x_nr) (Qi res (cW a ar t x_q0_dials x_q0_spots x_q0_skies x_q0_reports x_q0_count x_q0_chime x_q0_end x_q0_score x_q0_reportCount x_q0_z x_q0_rules x_q0_shades x_q0_facts x_q1_dials x_q1_spots x_q1_skies x_q1_reports x_q1_count x_q1_chime x_q1_end x_q1_score x_q1_reportCount x_q1_z x_q1_rules x_q1_shades x_q1_facts x_q2_dials x_q2_spots x_q2_skies x_q2_reports x_q2_count x_q2_chime x_q2_end x_q2_score x_q2_reportCount x_q2_z x_q2_rules x_q2_shades x_q2_facts x_isKept x_marks x_p_first x_p_steps x_p_most x_p_many x_p_fewest x_p_everRight x_p_opening x_p_rows x_p_rowCount x_p_acts x_p_marks x_p_deepest x_p_wanted x_t_length x_t_tape x_t_words x_t_places x_t_at x_t_kinds x_t_wills x_t_starts x_t_code x_t_count x_t_size x_h_sorts x_h_lengths x_h_items x_h_held x_h_things x_h_sizes x_h_bodies x_h_traced x_h_number x_h_spot x_h_parted x_g_count x_g_kinds x_g_wills x_g_starts x_g_code x_g_stack x_g_kl x_g_wl x_g_sl x_g_cl x_nr)) := by
  unfold X9_has_q0 at hf
  refine MC.ofI pn_X9 (Nat.le_of_ble_eq_true rfl) ?_
  intro p e s m args below meth c A Q ls cx hR hw hl
  have hx := cx.1
  have hb := cx.2.1
  have hl : lv_has ls 2 [(0, .ref (a 1)), (1, .int v1)] := hl
  refine lv_iload_n hx hb dX9_has_0 rfl (lv_at hl 1 rfl) ?_
  refine lv_if_lt (tgt := 16) hx hb dX9_has_1 (by decide) (fun hc => ?_) (fun hc => ?_)
  · have hf := ifT hf hc
    refine lv_iconst (v := 0) hx hb dX9_has_16 (by decide) ?_
    subst hf
    exact hR _ _ _ _ _ _ hw rfl ⟨rfl, rfl⟩ dX9_has_17
  · have hf := ifF hf hc
    refine lv_iload_n hx hb dX9_has_4 rfl (lv_at hl 1 rfl) ?_
    refine lv_aload_n hx hb dX9_has_5 rfl (lv_at hl 0 rfl) ?_
    refine cg_X9_59_q0 cx hw dX9_has_6 ?_
    refine lv_icmp_ge (tgt := 16) hx hb dX9_has_9 (by decide) (fun hc => ?_) (fun hc => ?_)
    · have hf := ifT hf hc
      refine lv_iconst (v := 0) hx hb dX9_has_16 (by decide) ?_
      subst hf
      exact hR _ _ _ _ _ _ hw rfl ⟨rfl, rfl⟩ dX9_has_17
    · have hf := ifF hf hc
      refine lv_iconst (v := 1) hx hb dX9_has_12 (by decide) ?_
      refine lv_goto (tgt := 17) hx hb dX9_has_13 (by decide) ?_
      subst hf
      exact hR _ _ _ _ _ _ hw rfl ⟨rfl, rfl⟩ dX9_has_17
theorem b_X9_has_q0 (x_q0_count : Int32) (v1 : Int32) : X9_has_q0 x_q0_count v1 = 0 ∨ X9_has_q0 x_q0_count v1 = 1 := by unfold X9_has_q0; repeat (first | exact Or.inl rfl | exact Or.inr rfl | split)
theorem dX9_kindOf_0 : decode cX9_kindOf 0 = .ok (.aload_n 0, 1) := by decide +kernel
theorem dX9_kindOf_1 : decode cX9_kindOf 1 = .ok (.getfield 39, 3) := by decide +kernel
theorem dX9_kindOf_4 : decode cX9_kindOf 4 = .ok (.aload_n 0, 1) := by decide +kernel
theorem dX9_kindOf_5 : decode cX9_kindOf 5 = .ok (.getfield 11, 3) := by decide +kernel
theorem dX9_kindOf_8 : decode cX9_kindOf 8 = .ok (.iload_n 1, 1) := by decide +kernel
theorem dX9_kindOf_9 : decode cX9_kindOf 9 = .ok (.aaload, 1) := by decide +kernel
theorem dX9_kindOf_10 : decode cX9_kindOf 10 = .ok (.iconst 0, 1) := by decide +kernel
theorem dX9_kindOf_11 : decode cX9_kindOf 11 = .ok (.iaload, 1) := by decide +kernel
theorem dX9_kindOf_12 : decode cX9_kindOf 12 = .ok (.aaload, 1) := by decide +kernel
theorem dX9_kindOf_13 : decode cX9_kindOf 13 = .ok (.areturn, 1) := by decide +kernel
theorem k_X9_kindOf : MV yX9_kindOf cX9_kindOf 2 (some ((.object "DialSquare$Dial"))) 1 := ⟨q_373, q_374, q_11, q_375, ⟨by decide, by decide, by decide +kernel⟩⟩
theorem c_X9_kindOf_q0 {v1 : Int32} {res : Nat} (hf : X9_kindOf_q0 x_q0_dials v1 = some res) : MC l E0 D t yX9_kindOf cX9_kindOf 2 (some ((.object "DialSquare$Dial"))) 1 0 0 [.ref (a 1), .int v1] (cW a ar t x_q0_dials x_q0_spots x_q0_skies x_q0_reports x_q0_count x_q0_chime x_q0_end x_q0_score x_q0_reportCount x_q0_z x_q0_rules x_q0_shades x_q0_facts x_q1_dials x_q1_spots x_q1_skies x_q1_reports x_q1_count x_q1_chime x_q1_end x_q1_score x_q1_reportCount x_q1_z x_q1_rules x_q1_shades x_q1_facts x_q2_dials x_q2_spots x_q2_skies x_q2_reports x_q2_count x_q2_chime x_q2_end x_q2_score x_q2_reportCount x_q2_z x_q2_rules x_q2_shades x_q2_facts x_isKept x_marks x_p_first x_p_steps x_p_most x_p_many x_p_fewest x_p_everRight x_p_opening x_p_rows x_p_rowCount x_p_acts x_p_marks x_p_deepest x_p_wanted x_t_length x_t_tape x_t_words x_t_places x_t_at x_t_kinds x_t_wills x_t_starts x_t_code x_t_count x_t_size x_h_sorts x_h_lengths x_h_items x_h_held x_h_things x_h_sizes x_h_bodies x_h_traced x_h_number x_h_spot x_h_parted x_g_count x_g_kinds x_g_wills x_g_starts x_g_code x_g_stack x_g_kl x_g_wl x_g_sl x_g_cl x_nr) (Qa (a (78 + res)) (cW a ar t x_q0_dials x_q0_spots x_q0_skies x_q0_reports x_q0_count x_q0_chime x_q0_end x_q0_score x_q0_reportCount x_q0_z x_q0_rules x_q0_shades x_q0_facts x_q1_dials x_q1_spots x_q1_skies x_q1_reports x_q1_count x_q1_chime x_q1_end x_q1_score x_q1_reportCount x_q1_z x_q1_rules x_q1_shades x_q1_facts x_q2_dials x_q2_spots x_q2_skies x_q2_reports x_q2_count x_q2_chime x_q2_end x_q2_score x_q2_reportCount x_q2_z x_q2_rules x_q2_shades x_q2_facts x_isKept x_marks x_p_first x_p_steps x_p_most x_p_many x_p_fewest x_p_everRight x_p_opening x_p_rows x_p_rowCount x_p_acts x_p_marks x_p_deepest x_p_wanted x_t_length x_t_tape x_t_words x_t_places x_t_at x_t_kinds x_t_wills x_t_starts x_t_code x_t_count x_t_size x_h_sorts x_h_lengths x_h_items x_h_held x_h_things x_h_sizes x_h_bodies x_h_traced x_h_number x_h_spot x_h_parted x_g_count x_g_kinds x_g_wills x_g_starts x_g_code x_g_stack x_g_kl x_g_wl x_g_sl x_g_cl x_nr)) := by
  unfold X9_kindOf_q0 at hf
  refine MC.ofA (Or.inl ⟨_, rfl⟩) pn_X9 (Nat.le_of_ble_eq_true rfl) ?_
  intro p e s m args below meth c A Q ls cx hR hw hl
  have hx := cx.1
  have hb := cx.2.1
  have hl : lv_has ls 2 [(0, .ref (a 1)), (1, .int v1)] := hl
  refine lv_aload_n hx hb dX9_kindOf_0 rfl (lv_at hl 0 rfl) ?_
  refine cg_X9_39_q0 cx hw dX9_kindOf_1 ?_
  refine lv_aload_n hx hb dX9_kindOf_4 rfl (lv_at hl 0 rfl) ?_
  refine cg_X9_11_q0 cx hw dX9_kindOf_5 ?_
  refine lv_iload_n hx hb dX9_kindOf_8 rfl (lv_at hl 1 rfl) ?_
  obtain ⟨h1, hf⟩ := ckS hf
  refine co_q0_dials (j := v1.toNatClampNeg) cx hw (ib_in h1) rfl dX9_kindOf_9 ?_
  refine lv_iconst (v := 0) hx hb dX9_kindOf_10 (by decide) ?_
  refine cm_q0_dials (j := 0) cx hw (ib_lt h1) (ib_in (by decide)) (by decide) dX9_kindOf_11 ?_
  obtain ⟨h2, hf⟩ := ckS hf
  refine co_kinds (j := (x_q0_dials v1.toNatClampNeg 0).toNatClampNeg) cx hw (ib_in h2) rfl dX9_kindOf_12 ?_
  have hf := Option.some.inj hf
  subst hf
  exact hR _ _ _ _ _ _ hw ⟨rfl, rfl⟩ dX9_kindOf_13
theorem dX9_skyAt_0 : decode cX9_skyAt 0 = .ok (.iload_n 1, 1) := by decide +kernel
theorem dX9_skyAt_1 : decode cX9_skyAt 1 = .ok (.ifCond .lt 18, 3) := by decide +kernel
theorem dX9_skyAt_4 : decode cX9_skyAt 4 = .ok (.iload_n 1, 1) := by decide +kernel
theorem dX9_skyAt_5 : decode cX9_skyAt 5 = .ok (.bipush 16, 2) := by decide +kernel
theorem dX9_skyAt_7 : decode cX9_skyAt 7 = .ok (.if_icmp .ge 12, 3) := by decide +kernel
theorem dX9_skyAt_10 : decode cX9_skyAt 10 = .ok (.aload_n 0, 1) := by decide +kernel
theorem dX9_skyAt_11 : decode cX9_skyAt 11 = .ok (.getfield 19, 3) := by decide +kernel
theorem dX9_skyAt_14 : decode cX9_skyAt 14 = .ok (.iload_n 1, 1) := by decide +kernel
theorem dX9_skyAt_15 : decode cX9_skyAt 15 = .ok (.iaload, 1) := by decide +kernel
theorem dX9_skyAt_16 : decode cX9_skyAt 16 = .ok (.goto 4, 3) := by decide +kernel
theorem dX9_skyAt_19 : decode cX9_skyAt 19 = .ok (.iconst 0, 1) := by decide +kernel
theorem dX9_skyAt_20 : decode cX9_skyAt 20 = .ok (.ireturn, 1) := by decide +kernel
theorem k_X9_skyAt : MV yX9_skyAt cX9_skyAt 2 (some .int) 1 := ⟨q_377, q_378, q_11, q_379, ⟨by decide, by decide, by decide +kernel⟩⟩
theorem c_X9_skyAt_q0 {v1 : Int32} {res : Int32} (hf : X9_skyAt_q0 x_q0_skies v1 = some res) : MC l E0 D t yX9_skyAt cX9_skyAt 2 (some .int) 1 0 0 [.ref (a 1), .int v1] (cW a ar t x_q0_dials x_q0_spots x_q0_skies x_q0_reports x_q0_count x_q0_chime x_q0_end x_q0_score x_q0_reportCount x_q0_z x_q0_rules x_q0_shades x_q0_facts x_q1_dials x_q1_spots x_q1_skies x_q1_reports x_q1_count x_q1_chime x_q1_end x_q1_score x_q1_reportCount x_q1_z x_q1_rules x_q1_shades x_q1_facts x_q2_dials x_q2_spots x_q2_skies x_q2_reports x_q2_count x_q2_chime x_q2_end x_q2_score x_q2_reportCount x_q2_z x_q2_rules x_q2_shades x_q2_facts x_isKept x_marks x_p_first x_p_steps x_p_most x_p_many x_p_fewest x_p_everRight x_p_opening x_p_rows x_p_rowCount x_p_acts x_p_marks x_p_deepest x_p_wanted x_t_length x_t_tape x_t_words x_t_places x_t_at x_t_kinds x_t_wills x_t_starts x_t_code x_t_count x_t_size x_h_sorts x_h_lengths x_h_items x_h_held x_h_things x_h_sizes x_h_bodies x_h_traced x_h_number x_h_spot x_h_parted x_g_count x_g_kinds x_g_wills x_g_starts x_g_code x_g_stack x_g_kl x_g_wl x_g_sl x_g_cl x_nr) (Qi res (cW a ar t x_q0_dials x_q0_spots x_q0_skies x_q0_reports x_q0_count x_q0_chime x_q0_end x_q0_score x_q0_reportCount x_q0_z x_q0_rules x_q0_shades x_q0_facts x_q1_dials x_q1_spots x_q1_skies x_q1_reports x_q1_count x_q1_chime x_q1_end x_q1_score x_q1_reportCount x_q1_z x_q1_rules x_q1_shades x_q1_facts x_q2_dials x_q2_spots x_q2_skies x_q2_reports x_q2_count x_q2_chime x_q2_end x_q2_score x_q2_reportCount x_q2_z x_q2_rules x_q2_shades x_q2_facts x_isKept x_marks x_p_first x_p_steps x_p_most x_p_many x_p_fewest x_p_everRight x_p_opening x_p_rows x_p_rowCount x_p_acts x_p_marks x_p_deepest x_p_wanted x_t_length x_t_tape x_t_words x_t_places x_t_at x_t_kinds x_t_wills x_t_starts x_t_code x_t_count x_t_size x_h_sorts x_h_lengths x_h_items x_h_held x_h_things x_h_sizes x_h_bodies x_h_traced x_h_number x_h_spot x_h_parted x_g_count x_g_kinds x_g_wills x_g_starts x_g_code x_g_stack x_g_kl x_g_wl x_g_sl x_g_cl x_nr)) := by
  unfold X9_skyAt_q0 at hf
  refine MC.ofI pn_X9 (Nat.le_of_ble_eq_true rfl) ?_
  intro p e s m args below meth c A Q ls cx hR hw hl
  have hx := cx.1
  have hb := cx.2.1
  have hl : lv_has ls 2 [(0, .ref (a 1)), (1, .int v1)] := hl
  refine lv_iload_n hx hb dX9_skyAt_0 rfl (lv_at hl 1 rfl) ?_
  refine lv_if_lt (tgt := 19) hx hb dX9_skyAt_1 (by decide) (fun hc => ?_) (fun hc => ?_)
  · have hf := ifT hf hc
    refine lv_iconst (v := 0) hx hb dX9_skyAt_19 (by decide) ?_
    have hf := Option.some.inj hf
    subst hf
    exact hR _ _ _ _ _ _ hw rfl ⟨rfl, rfl⟩ dX9_skyAt_20
  · have hf := ifF hf hc
    refine lv_iload_n hx hb dX9_skyAt_4 rfl (lv_at hl 1 rfl) ?_
    refine lv_bipush (v := 16) hx hb dX9_skyAt_5 (by decide) ?_
    refine lv_icmp_ge (tgt := 19) hx hb dX9_skyAt_7 (by decide) (fun hc => ?_) (fun hc => ?_)
    · have hf := ifT hf hc
      refine lv_iconst (v := 0) hx hb dX9_skyAt_19 (by decide) ?_
      have hf := Option.some.inj hf
      subst hf
      exact hR _ _ _ _ _ _ hw rfl ⟨rfl, rfl⟩ dX9_skyAt_20
    · have hf := ifF hf hc
      refine lv_aload_n hx hb dX9_skyAt_10 rfl (lv_at hl 0 rfl) ?_
      refine cg_X9_19_q0 cx hw dX9_skyAt_11 ?_
      refine lv_iload_n hx hb dX9_skyAt_14 rfl (lv_at hl 1 rfl) ?_
      obtain ⟨h1, hf⟩ := ckS hf
      refine cl_q0_skies (j := v1.toNatClampNeg) cx hw (ib_in h1) rfl dX9_skyAt_15 ?_
      refine lv_goto (tgt := 20) hx hb dX9_skyAt_16 (by decide) ?_
      have hf := Option.some.inj hf
      subst hf
      exact hR _ _ _ _ _ _ hw rfl ⟨rfl, rfl⟩ dX9_skyAt_20
theorem dX0_shades_0 : decode cX0_shades 0 = .ok (.iconst 4, 1) := by decide +kernel
theorem dX0_shades_1 : decode cX0_shades 1 = .ok (.iload_n 1, 1) := by decide +kernel
theorem dX0_shades_2 : decode cX0_shades 2 = .ok (.isub, 1) := by decide +kernel
theorem dX0_shades_3 : decode cX0_shades 3 = .ok (.ireturn, 1) := by decide +kernel
theorem k_X0_shades : MV yX0_shades cX0_shades 3 (some .int) 2 := ⟨q_381, q_382, q_4, q_402, ⟨by decide, by decide, by decide +kernel⟩⟩
theorem c_X0_shades_k0 {v1 : Int32} {v2 : Int32} {res : Int32} (hf : X0_shades_k0 v1 v2 = res) : MC l E0 D t yX0_shades cX0_shades 3 (some .int) 1 0 0 [.ref (a (78 + 0)), .int v1, .int v2] (cW a ar t x_q0_dials x_q0_spots x_q0_skies x_q0_reports x_q0_count x_q0_chime x_q0_end x_q0_score x_q0_reportCount x_q0_z x_q0_rules x_q0_shades x_q0_facts x_q1_dials x_q1_spots x_q1_skies x_q1_reports x_q1_count x_q1_chime x_q1_end x_q1_score x_q1_reportCount x_q1_z x_q1_rules x_q1_shades x_q1_facts x_q2_dials x_q2_spots x_q2_skies x_q2_reports x_q2_count x_q2_chime x_q2_end x_q2_score x_q2_reportCount x_q2_z x_q2_rules x_q2_shades x_q2_facts x_isKept x_marks x_p_first x_p_steps x_p_most x_p_many x_p_fewest x_p_everRight x_p_opening x_p_rows x_p_rowCount x_p_acts x_p_marks x_p_deepest x_p_wanted x_t_length x_t_tape x_t_words x_t_places x_t_at x_t_kinds x_t_wills x_t_starts x_t_code x_t_count x_t_size x_h_sorts x_h_lengths x_h_items x_h_held x_h_things x_h_sizes x_h_bodies x_h_traced x_h_number x_h_spot x_h_parted x_g_count x_g_kinds x_g_wills x_g_starts x_g_code x_g_stack x_g_kl x_g_wl x_g_sl x_g_cl x_nr) (Qi res (cW a ar t x_q0_dials x_q0_spots x_q0_skies x_q0_reports x_q0_count x_q0_chime x_q0_end x_q0_score x_q0_reportCount x_q0_z x_q0_rules x_q0_shades x_q0_facts x_q1_dials x_q1_spots x_q1_skies x_q1_reports x_q1_count x_q1_chime x_q1_end x_q1_score x_q1_reportCount x_q1_z x_q1_rules x_q1_shades x_q1_facts x_q2_dials x_q2_spots x_q2_skies x_q2_reports x_q2_count x_q2_chime x_q2_end x_q2_score x_q2_reportCount x_q2_z x_q2_rules x_q2_shades x_q2_facts x_isKept x_marks x_p_first x_p_steps x_p_most x_p_many x_p_fewest x_p_everRight x_p_opening x_p_rows x_p_rowCount x_p_acts x_p_marks x_p_deepest x_p_wanted x_t_length x_t_tape x_t_words x_t_places x_t_at x_t_kinds x_t_wills x_t_starts x_t_code x_t_count x_t_size x_h_sorts x_h_lengths x_h_items x_h_held x_h_things x_h_sizes x_h_bodies x_h_traced x_h_number x_h_spot x_h_parted x_g_count x_g_kinds x_g_wills x_g_starts x_g_code x_g_stack x_g_kl x_g_wl x_g_sl x_g_cl x_nr)) := by
  unfold X0_shades_k0 at hf
  refine MC.ofI pn_X0 (Nat.le_of_ble_eq_true rfl) ?_
  intro p e s m args below meth c A Q ls cx hR hw hl
  have hx := cx.1
  have hb := cx.2.1
  have hl : lv_has ls 3 [(0, .ref (a (78 + 0))), (1, .int v1), (2, .int v2)] := hl
  refine lv_iconst (v := 4) hx hb dX0_shades_0 (by decide) ?_
  refine lv_iload_n hx hb dX0_shades_1 rfl (lv_at hl 1 rfl) ?_
  refine lv_isub hx hb dX0_shades_2 ?_
  subst hf
  exact hR _ _ _ _ _ _ hw rfl ⟨rfl, rfl⟩ dX0_shades_3
theorem dX4_shades_0 : decode cX4_shades 0 = .ok (.iconst 2, 1) := by decide +kernel
theorem dX4_shades_1 : decode cX4_shades 1 = .ok (.ireturn, 1) := by decide +kernel
theorem c_X4_shades_k1 {v1 : Int32} {v2 : Int32} {res : Int32} (hf : X4_shades_k1 v1 v2 = res) : MC l E0 D t yX4_shades cX4_shades 3 (some .int) 1 0 0 [.ref (a (78 + 1)), .int v1, .int v2] (cW a ar t x_q0_dials x_q0_spots x_q0_skies x_q0_reports x_q0_count x_q0_chime x_q0_end x_q0_score x_q0_reportCount x_q0_z x_q0_rules x_q0_shades x_q0_facts x_q1_dials x_q1_spots x_q1_skies x_q1_reports x_q1_count x_q1_chime x_q1_end x_q1_score x_q1_reportCount x_q1_z x_q1_rules x_q1_shades x_q1_facts x_q2_dials x_q2_spots x_q2_skies x_q2_reports x_q2_count x_q2_chime x_q2_end x_q2_score x_q2_reportCount x_q2_z x_q2_rules x_q2_shades x_q2_facts x_isKept x_marks x_p_first x_p_steps x_p_most x_p_many x_p_fewest x_p_everRight x_p_opening x_p_rows x_p_rowCount x_p_acts x_p_marks x_p_deepest x_p_wanted x_t_length x_t_tape x_t_words x_t_places x_t_at x_t_kinds x_t_wills x_t_starts x_t_code x_t_count x_t_size x_h_sorts x_h_lengths x_h_items x_h_held x_h_things x_h_sizes x_h_bodies x_h_traced x_h_number x_h_spot x_h_parted x_g_count x_g_kinds x_g_wills x_g_starts x_g_code x_g_stack x_g_kl x_g_wl x_g_sl x_g_cl x_nr) (Qi res (cW a ar t x_q0_dials x_q0_spots x_q0_skies x_q0_reports x_q0_count x_q0_chime x_q0_end x_q0_score x_q0_reportCount x_q0_z x_q0_rules x_q0_shades x_q0_facts x_q1_dials x_q1_spots x_q1_skies x_q1_reports x_q1_count x_q1_chime x_q1_end x_q1_score x_q1_reportCount x_q1_z x_q1_rules x_q1_shades x_q1_facts x_q2_dials x_q2_spots x_q2_skies x_q2_reports x_q2_count x_q2_chime x_q2_end x_q2_score x_q2_reportCount x_q2_z x_q2_rules x_q2_shades x_q2_facts x_isKept x_marks x_p_first x_p_steps x_p_most x_p_many x_p_fewest x_p_everRight x_p_opening x_p_rows x_p_rowCount x_p_acts x_p_marks x_p_deepest x_p_wanted x_t_length x_t_tape x_t_words x_t_places x_t_at x_t_kinds x_t_wills x_t_starts x_t_code x_t_count x_t_size x_h_sorts x_h_lengths x_h_items x_h_held x_h_things x_h_sizes x_h_bodies x_h_traced x_h_number x_h_spot x_h_parted x_g_count x_g_kinds x_g_wills x_g_starts x_g_code x_g_stack x_g_kl x_g_wl x_g_sl x_g_cl x_nr)) := by
  unfold X4_shades_k1 at hf
  refine MC.ofI pn_X4 (Nat.le_of_ble_eq_true rfl) ?_
  intro p e s m args below meth c A Q ls cx hR hw hl
  have hx := cx.1
  have hb := cx.2.1
  have hl : lv_has ls 3 [(0, .ref (a (78 + 1))), (1, .int v1), (2, .int v2)] := hl
  refine lv_iconst (v := 2) hx hb dX4_shades_0 (by decide) ?_
  subst hf
  exact hR _ _ _ _ _ _ hw rfl ⟨rfl, rfl⟩ dX4_shades_1
theorem c_X0_shades_k2 {v1 : Int32} {v2 : Int32} {res : Int32} (hf : X0_shades_k2 v1 v2 = res) : MC l E0 D t yX0_shades cX0_shades 3 (some .int) 1 0 0 [.ref (a (78 + 2)), .int v1, .int v2] (cW a ar t x_q0_dials x_q0_spots x_q0_skies x_q0_reports x_q0_count x_q0_chime x_q0_end x_q0_score x_q0_reportCount x_q0_z x_q0_rules x_q0_shades x_q0_facts x_q1_dials x_q1_spots x_q1_skies x_q1_reports x_q1_count x_q1_chime x_q1_end x_q1_score x_q1_reportCount x_q1_z x_q1_rules x_q1_shades x_q1_facts x_q2_dials x_q2_spots x_q2_skies x_q2_reports x_q2_count x_q2_chime x_q2_end x_q2_score x_q2_reportCount x_q2_z x_q2_rules x_q2_shades x_q2_facts x_isKept x_marks x_p_first x_p_steps x_p_most x_p_many x_p_fewest x_p_everRight x_p_opening x_p_rows x_p_rowCount x_p_acts x_p_marks x_p_deepest x_p_wanted x_t_length x_t_tape x_t_words x_t_places x_t_at x_t_kinds x_t_wills x_t_starts x_t_code x_t_count x_t_size x_h_sorts x_h_lengths x_h_items x_h_held x_h_things x_h_sizes x_h_bodies x_h_traced x_h_number x_h_spot x_h_parted x_g_count x_g_kinds x_g_wills x_g_starts x_g_code x_g_stack x_g_kl x_g_wl x_g_sl x_g_cl x_nr) (Qi res (cW a ar t x_q0_dials x_q0_spots x_q0_skies x_q0_reports x_q0_count x_q0_chime x_q0_end x_q0_score x_q0_reportCount x_q0_z x_q0_rules x_q0_shades x_q0_facts x_q1_dials x_q1_spots x_q1_skies x_q1_reports x_q1_count x_q1_chime x_q1_end x_q1_score x_q1_reportCount x_q1_z x_q1_rules x_q1_shades x_q1_facts x_q2_dials x_q2_spots x_q2_skies x_q2_reports x_q2_count x_q2_chime x_q2_end x_q2_score x_q2_reportCount x_q2_z x_q2_rules x_q2_shades x_q2_facts x_isKept x_marks x_p_first x_p_steps x_p_most x_p_many x_p_fewest x_p_everRight x_p_opening x_p_rows x_p_rowCount x_p_acts x_p_marks x_p_deepest x_p_wanted x_t_length x_t_tape x_t_words x_t_places x_t_at x_t_kinds x_t_wills x_t_starts x_t_code x_t_count x_t_size x_h_sorts x_h_lengths x_h_items x_h_held x_h_things x_h_sizes x_h_bodies x_h_traced x_h_number x_h_spot x_h_parted x_g_count x_g_kinds x_g_wills x_g_starts x_g_code x_g_stack x_g_kl x_g_wl x_g_sl x_g_cl x_nr)) := by
  unfold X0_shades_k2 at hf
  refine MC.ofI pn_X0 (Nat.le_of_ble_eq_true rfl) ?_
  intro p e s m args below meth c A Q ls cx hR hw hl
  have hx := cx.1
  have hb := cx.2.1
  have hl : lv_has ls 3 [(0, .ref (a (78 + 2))), (1, .int v1), (2, .int v2)] := hl
  refine lv_iconst (v := 4) hx hb dX0_shades_0 (by decide) ?_
  refine lv_iload_n hx hb dX0_shades_1 rfl (lv_at hl 1 rfl) ?_
  refine lv_isub hx hb dX0_shades_2 ?_
  subst hf
  exact hR _ _ _ _ _ _ hw rfl ⟨rfl, rfl⟩ dX0_shades_3
theorem dX10_shades_0 : decode cX10_shades 0 = .ok (.iconst 2, 1) := by decide +kernel
theorem dX10_shades_1 : decode cX10_shades 1 = .ok (.aload_n 0, 1) := by decide +kernel
theorem dX10_shades_2 : decode cX10_shades 2 = .ok (.iload_n 1, 1) := by decide +kernel
theorem dX10_shades_3 : decode cX10_shades 3 = .ok (.iload_n 2, 1) := by decide +kernel
theorem dX10_shades_4 : decode cX10_shades 4 = .ok (.invokespecial 7, 3) := by decide +kernel
theorem dX10_shades_7 : decode cX10_shades 7 = .ok (.imul, 1) := by decide +kernel
theorem dX10_shades_8 : decode cX10_shades 8 = .ok (.ireturn, 1) := by decide +kernel
theorem c_X10_shades_k2 {v1 : Int32} {v2 : Int32} {res : Int32} (hf : X10_shades_k2 v1 v2 = res) : MC l E0 D t yX10_shades cX10_shades 3 (some .int) 2 0 0 [.ref (a (78 + 2)), .int v1, .int v2] (cW a ar t x_q0_dials x_q0_spots x_q0_skies x_q0_reports x_q0_count x_q0_chime x_q0_end x_q0_score x_q0_reportCount x_q0_z x_q0_rules x_q0_shades x_q0_facts x_q1_dials x_q1_spots x_q1_skies x_q1_reports x_q1_count x_q1_chime x_q1_end x_q1_score x_q1_reportCount x_q1_z x_q1_rules x_q1_shades x_q1_facts x_q2_dials x_q2_spots x_q2_skies x_q2_reports x_q2_count x_q2_chime x_q2_end x_q2_score x_q2_reportCount x_q2_z x_q2_rules x_q2_shades x_q2_facts x_isKept x_marks x_p_first x_p_steps x_p_most x_p_many x_p_fewest x_p_everRight x_p_opening x_p_rows x_p_rowCount x_p_acts x_p_marks x_p_deepest x_p_wanted x_t_length x_t_tape x_t_words x_t_places x_t_at x_t_kinds x_t_wills x_t_starts x_t_code x_t_count x_t_size x_h_sorts x_h_lengths x_h_items x_h_held x_h_things x_h_sizes x_h_bodies x_h_traced x_h_number x_h_spot x_h_parted x_g_count x_g_kinds x_g_wills x_g_starts x_g_code x_g_stack x_g_kl x_g_wl x_g_sl x_g_cl x_nr) (Qi res (cW a ar t x_q0_dials x_q0_spots x_q0_skies x_q0_reports x_q0_count x_q0_chime x_q0_end x_q0_score x_q0_reportCount x_q0_z x_q0_rules x_q0_shades x_q0_facts x_q1_dials x_q1_spots x_q1_skies x_q1_reports x_q1_count x_q1_chime x_q1_end x_q1_score x_q1_reportCount x_q1_z x_q1_rules x_q1_shades x_q1_facts x_q2_dials x_q2_spots x_q2_skies x_q2_reports x_q2_count x_q2_chime x_q2_end x_q2_score x_q2_reportCount x_q2_z x_q2_rules x_q2_shades x_q2_facts x_isKept x_marks x_p_first x_p_steps x_p_most x_p_many x_p_fewest x_p_everRight x_p_opening x_p_rows x_p_rowCount x_p_acts x_p_marks x_p_deepest x_p_wanted x_t_length x_t_tape x_t_words x_t_places x_t_at x_t_kinds x_t_wills x_t_starts x_t_code x_t_count x_t_size x_h_sorts x_h_lengths x_h_items x_h_held x_h_things x_h_sizes x_h_bodies x_h_traced x_h_number x_h_spot x_h_parted x_g_count x_g_kinds x_g_wills x_g_starts x_g_code x_g_stack x_g_kl x_g_wl x_g_sl x_g_cl x_nr)) := by
  unfold X10_shades_k2 at hf
  refine MC.ofI pn_X10 (Nat.le_of_ble_eq_true rfl) ?_
  intro p e s m args below meth c A Q ls cx hR hw hl
  have hx := cx.1
  have hb := cx.2.1
  have hl : lv_has ls 3 [(0, .ref (a (78 + 2))), (1, .int v1), (2, .int v2)] := hl
  refine lv_iconst (v := 2) hx hb dX10_shades_0 (by decide) ?_
  refine lv_aload_n hx hb dX10_shades_1 rfl (lv_at hl 0 rfl) ?_
  refine lv_iload_n hx hb dX10_shades_2 rfl (lv_at hl 1 rfl) ?_
  refine lv_iload_n hx hb dX10_shades_3 rfl (lv_at hl 2 rfl) ?_
  refine calSUi cx hw hl.1 (c_X0_shades_k2 rfl) ws_X10_7 q_402 hs_X0_shades rfl rv_k2 rfl dX10_shades_4 rfl (Nat.le_of_ble_eq_true rfl) ⟨Nat.le_of_ble_eq_true rfl, Nat.le_of_ble_eq_true rfl⟩ ⟨Nat.le_refl _, Nat.le_refl _⟩ (fun H locs hw => ?_)
  refine lv_imul hx hb dX10_shades_7 ?_
  subst hf
  exact hR _ _ _ _ _ _ hw rfl ⟨rfl, rfl⟩ dX10_shades_8
theorem c_X0_shades_k3 {v1 : Int32} {v2 : Int32} {res : Int32} (hf : X0_shades_k3 v1 v2 = res) : MC l E0 D t yX0_shades cX0_shades 3 (some .int) 1 0 0 [.ref (a (78 + 3)), .int v1, .int v2] (cW a ar t x_q0_dials x_q0_spots x_q0_skies x_q0_reports x_q0_count x_q0_chime x_q0_end x_q0_score x_q0_reportCount x_q0_z x_q0_rules x_q0_shades x_q0_facts x_q1_dials x_q1_spots x_q1_skies x_q1_reports x_q1_count x_q1_chime x_q1_end x_q1_score x_q1_reportCount x_q1_z x_q1_rules x_q1_shades x_q1_facts x_q2_dials x_q2_spots x_q2_skies x_q2_reports x_q2_count x_q2_chime x_q2_end x_q2_score x_q2_reportCount x_q2_z x_q2_rules x_q2_shades x_q2_facts x_isKept x_marks x_p_first x_p_steps x_p_most x_p_many x_p_fewest x_p_everRight x_p_opening x_p_rows x_p_rowCount x_p_acts x_p_marks x_p_deepest x_p_wanted x_t_length x_t_tape x_t_words x_t_places x_t_at x_t_kinds x_t_wills x_t_starts x_t_code x_t_count x_t_size x_h_sorts x_h_lengths x_h_items x_h_held x_h_things x_h_sizes x_h_bodies x_h_traced x_h_number x_h_spot x_h_parted x_g_count x_g_kinds x_g_wills x_g_starts x_g_code x_g_stack x_g_kl x_g_wl x_g_sl x_g_cl x_nr) (Qi res (cW a ar t x_q0_dials x_q0_spots x_q0_skies x_q0_reports x_q0_count x_q0_chime x_q0_end x_q0_score x_q0_reportCount x_q0_z x_q0_rules x_q0_shades x_q0_facts x_q1_dials x_q1_spots x_q1_skies x_q1_reports x_q1_count x_q1_chime x_q1_end x_q1_score x_q1_reportCount x_q1_z x_q1_rules x_q1_shades x_q1_facts x_q2_dials x_q2_spots x_q2_skies x_q2_reports x_q2_count x_q2_chime x_q2_end x_q2_score x_q2_reportCount x_q2_z x_q2_rules x_q2_shades x_q2_facts x_isKept x_marks x_p_first x_p_steps x_p_most x_p_many x_p_fewest x_p_everRight x_p_opening x_p_rows x_p_rowCount x_p_acts x_p_marks x_p_deepest x_p_wanted x_t_length x_t_tape x_t_words x_t_places x_t_at x_t_kinds x_t_wills x_t_starts x_t_code x_t_count x_t_size x_h_sorts x_h_lengths x_h_items x_h_held x_h_things x_h_sizes x_h_bodies x_h_traced x_h_number x_h_spot x_h_parted x_g_count x_g_kinds x_g_wills x_g_starts x_g_code x_g_stack x_g_kl x_g_wl x_g_sl x_g_cl x_nr)) := by
  unfold X0_shades_k3 at hf
  refine MC.ofI pn_X0 (Nat.le_of_ble_eq_true rfl) ?_
  intro p e s m args below meth c A Q ls cx hR hw hl
  have hx := cx.1
  have hb := cx.2.1
  have hl : lv_has ls 3 [(0, .ref (a (78 + 3))), (1, .int v1), (2, .int v2)] := hl
  refine lv_iconst (v := 4) hx hb dX0_shades_0 (by decide) ?_
  refine lv_iload_n hx hb dX0_shades_1 rfl (lv_at hl 1 rfl) ?_
  refine lv_isub hx hb dX0_shades_2 ?_
  subst hf
  exact hR _ _ _ _ _ _ hw rfl ⟨rfl, rfl⟩ dX0_shades_3
theorem c_X10_shades_k3 {v1 : Int32} {v2 : Int32} {res : Int32} (hf : X10_shades_k3 v1 v2 = res) : MC l E0 D t yX10_shades cX10_shades 3 (some .int) 2 0 0 [.ref (a (78 + 3)), .int v1, .int v2] (cW a ar t x_q0_dials x_q0_spots x_q0_skies x_q0_reports x_q0_count x_q0_chime x_q0_end x_q0_score x_q0_reportCount x_q0_z x_q0_rules x_q0_shades x_q0_facts x_q1_dials x_q1_spots x_q1_skies x_q1_reports x_q1_count x_q1_chime x_q1_end x_q1_score x_q1_reportCount x_q1_z x_q1_rules x_q1_shades x_q1_facts x_q2_dials x_q2_spots x_q2_skies x_q2_reports x_q2_count x_q2_chime x_q2_end x_q2_score x_q2_reportCount x_q2_z x_q2_rules x_q2_shades x_q2_facts x_isKept x_marks x_p_first x_p_steps x_p_most x_p_many x_p_fewest x_p_everRight x_p_opening x_p_rows x_p_rowCount x_p_acts x_p_marks x_p_deepest x_p_wanted x_t_length x_t_tape x_t_words x_t_places x_t_at x_t_kinds x_t_wills x_t_starts x_t_code x_t_count x_t_size x_h_sorts x_h_lengths x_h_items x_h_held x_h_things x_h_sizes x_h_bodies x_h_traced x_h_number x_h_spot x_h_parted x_g_count x_g_kinds x_g_wills x_g_starts x_g_code x_g_stack x_g_kl x_g_wl x_g_sl x_g_cl x_nr) (Qi res (cW a ar t x_q0_dials x_q0_spots x_q0_skies x_q0_reports x_q0_count x_q0_chime x_q0_end x_q0_score x_q0_reportCount x_q0_z x_q0_rules x_q0_shades x_q0_facts x_q1_dials x_q1_spots x_q1_skies x_q1_reports x_q1_count x_q1_chime x_q1_end x_q1_score x_q1_reportCount x_q1_z x_q1_rules x_q1_shades x_q1_facts x_q2_dials x_q2_spots x_q2_skies x_q2_reports x_q2_count x_q2_chime x_q2_end x_q2_score x_q2_reportCount x_q2_z x_q2_rules x_q2_shades x_q2_facts x_isKept x_marks x_p_first x_p_steps x_p_most x_p_many x_p_fewest x_p_everRight x_p_opening x_p_rows x_p_rowCount x_p_acts x_p_marks x_p_deepest x_p_wanted x_t_length x_t_tape x_t_words x_t_places x_t_at x_t_kinds x_t_wills x_t_starts x_t_code x_t_count x_t_size x_h_sorts x_h_lengths x_h_items x_h_held x_h_things x_h_sizes x_h_bodies x_h_traced x_h_number x_h_spot x_h_parted x_g_count x_g_kinds x_g_wills x_g_starts x_g_code x_g_stack x_g_kl x_g_wl x_g_sl x_g_cl x_nr)) := by
  unfold X10_shades_k3 at hf
  refine MC.ofI pn_X10 (Nat.le_of_ble_eq_true rfl) ?_
  intro p e s m args below meth c A Q ls cx hR hw hl
  have hx := cx.1
  have hb := cx.2.1
  have hl : lv_has ls 3 [(0, .ref (a (78 + 3))), (1, .int v1), (2, .int v2)] := hl
  refine lv_iconst (v := 2) hx hb dX10_shades_0 (by decide) ?_
  refine lv_aload_n hx hb dX10_shades_1 rfl (lv_at hl 0 rfl) ?_
  refine lv_iload_n hx hb dX10_shades_2 rfl (lv_at hl 1 rfl) ?_
  refine lv_iload_n hx hb dX10_shades_3 rfl (lv_at hl 2 rfl) ?_
  refine calSUi cx hw hl.1 (c_X0_shades_k3 rfl) ws_X10_7 q_402 hs_X0_shades rfl rv_k3 rfl dX10_shades_4 rfl (Nat.le_of_ble_eq_true rfl) ⟨Nat.le_of_ble_eq_true rfl, Nat.le_of_ble_eq_true rfl⟩ ⟨Nat.le_refl _, Nat.le_refl _⟩ (fun H locs hw => ?_)
  refine lv_imul hx hb dX10_shades_7 ?_
  subst hf
  exact hR _ _ _ _ _ _ hw rfl ⟨rfl, rfl⟩ dX10_shades_8
theorem dX1_shades_0 : decode cX1_shades 0 = .ok (.aload_n 0, 1) := by decide +kernel
theorem dX1_shades_1 : decode cX1_shades 1 = .ok (.iload_n 1, 1) := by decide +kernel
theorem dX1_shades_2 : decode cX1_shades 2 = .ok (.iload_n 2, 1) := by decide +kernel
theorem dX1_shades_3 : decode cX1_shades 3 = .ok (.invokespecial 7, 3) := by decide +kernel
theorem dX1_shades_6 : decode cX1_shades 6 = .ok (.iload_n 2, 1) := by decide +kernel
theorem dX1_shades_7 : decode cX1_shades 7 = .ok (.iconst 5, 1) := by decide +kernel
theorem dX1_shades_8 : decode cX1_shades 8 = .ok (.idiv, 1) := by decide +kernel
theorem dX1_shades_9 : decode cX1_shades 9 = .ok (.iadd, 1) := by decide +kernel
theorem dX1_shades_10 : decode cX1_shades 10 = .ok (.ireturn, 1) := by decide +kernel
theorem c_X1_shades_k3 {v1 : Int32} {v2 : Int32} {res : Int32} (hf : X1_shades_k3 v1 v2 = res) : MC l E0 D t yX1_shades cX1_shades 3 (some .int) 3 0 0 [.ref (a (78 + 3)), .int v1, .int v2] (cW a ar t x_q0_dials x_q0_spots x_q0_skies x_q0_reports x_q0_count x_q0_chime x_q0_end x_q0_score x_q0_reportCount x_q0_z x_q0_rules x_q0_shades x_q0_facts x_q1_dials x_q1_spots x_q1_skies x_q1_reports x_q1_count x_q1_chime x_q1_end x_q1_score x_q1_reportCount x_q1_z x_q1_rules x_q1_shades x_q1_facts x_q2_dials x_q2_spots x_q2_skies x_q2_reports x_q2_count x_q2_chime x_q2_end x_q2_score x_q2_reportCount x_q2_z x_q2_rules x_q2_shades x_q2_facts x_isKept x_marks x_p_first x_p_steps x_p_most x_p_many x_p_fewest x_p_everRight x_p_opening x_p_rows x_p_rowCount x_p_acts x_p_marks x_p_deepest x_p_wanted x_t_length x_t_tape x_t_words x_t_places x_t_at x_t_kinds x_t_wills x_t_starts x_t_code x_t_count x_t_size x_h_sorts x_h_lengths x_h_items x_h_held x_h_things x_h_sizes x_h_bodies x_h_traced x_h_number x_h_spot x_h_parted x_g_count x_g_kinds x_g_wills x_g_starts x_g_code x_g_stack x_g_kl x_g_wl x_g_sl x_g_cl x_nr) (Qi res (cW a ar t x_q0_dials x_q0_spots x_q0_skies x_q0_reports x_q0_count x_q0_chime x_q0_end x_q0_score x_q0_reportCount x_q0_z x_q0_rules x_q0_shades x_q0_facts x_q1_dials x_q1_spots x_q1_skies x_q1_reports x_q1_count x_q1_chime x_q1_end x_q1_score x_q1_reportCount x_q1_z x_q1_rules x_q1_shades x_q1_facts x_q2_dials x_q2_spots x_q2_skies x_q2_reports x_q2_count x_q2_chime x_q2_end x_q2_score x_q2_reportCount x_q2_z x_q2_rules x_q2_shades x_q2_facts x_isKept x_marks x_p_first x_p_steps x_p_most x_p_many x_p_fewest x_p_everRight x_p_opening x_p_rows x_p_rowCount x_p_acts x_p_marks x_p_deepest x_p_wanted x_t_length x_t_tape x_t_words x_t_places x_t_at x_t_kinds x_t_wills x_t_starts x_t_code x_t_count x_t_size x_h_sorts x_h_lengths x_h_items x_h_held x_h_things x_h_sizes x_h_bodies x_h_traced x_h_number x_h_spot x_h_parted x_g_count x_g_kinds x_g_wills x_g_starts x_g_code x_g_stack x_g_kl x_g_wl x_g_sl x_g_cl x_nr)) := by
  unfold X1_shades_k3 at hf
  refine MC.ofI pn_X1 (Nat.le_of_ble_eq_true rfl) ?_
  intro p e s m args below meth c A Q ls cx hR hw hl
  have hx := cx.1
  have hb := cx.2.1
  have hl : lv_has ls 3 [(0, .ref (a (78 + 3))), (1, .int v1), (2, .int v2)] := hl
  refine lv_aload_n hx hb dX1_shades_0 rfl (lv_at hl 0 rfl) ?_
  refine lv_iload_n hx hb dX1_shades_1 rfl (lv_at hl 1 rfl) ?_
  refine lv_iload_n hx hb dX1_shades_2 rfl (lv_at hl 2 rfl) ?_
  refine calSUi cx hw hl.1 (c_X10_shades_k3 rfl) ws_X1_7 q_389 hs_X10_shades rfl rv_k3 rfl dX1_shades_3 rfl (Nat.le_of_ble_eq_true rfl) ⟨Nat.le_of_ble_eq_true rfl, Nat.le_of_ble_eq_true rfl⟩ ⟨Nat.le_refl _, Nat.le_refl _⟩ (fun H locs hw => ?_)
  refine lv_iload_n hx hb dX1_shades_6 rfl (lv_at hl 2 rfl) ?_
  refine lv_iconst (v := 5) hx hb dX1_shades_7 (by decide) ?_
  refine lv_idiv hx hb dX1_shades_8 (by decide) ?_
  refine lv_iadd hx hb dX1_shades_9 ?_
  subst hf
  exact hR _ _ _ _ _ _ hw rfl ⟨rfl, rfl⟩ dX1_shades_10
theorem dX3_shades_0 : decode cX3_shades 0 = .ok (.iconst 1, 1) := by decide +kernel
theorem dX3_shades_1 : decode cX3_shades 1 = .ok (.ireturn, 1) := by decide +kernel
theorem c_X3_shades_k4 {v1 : Int32} {v2 : Int32} {res : Int32} (hf : X3_shades_k4 v1 v2 = res) : MC l E0 D t yX3_shades cX3_shades 3 (some .int) 1 0 0 [.ref (a (78 + 4)), .int v1, .int v2] (cW a ar t x_q0_dials x_q0_spots x_q0_skies x_q0_reports x_q0_count x_q0_chime x_q0_end x_q0_score x_q0_reportCount x_q0_z x_q0_rules x_q0_shades x_q0_facts x_q1_dials x_q1_spots x_q1_skies x_q1_reports x_q1_count x_q1_chime x_q1_end x_q1_score x_q1_reportCount x_q1_z x_q1_rules x_q1_shades x_q1_facts x_q2_dials x_q2_spots x_q2_skies x_q2_reports x_q2_count x_q2_chime x_q2_end x_q2_score x_q2_reportCount x_q2_z x_q2_rules x_q2_shades x_q2_facts x_isKept x_marks x_p_first x_p_steps x_p_most x_p_many x_p_fewest x_p_everRight x_p_opening x_p_rows x_p_rowCount x_p_acts x_p_marks x_p_deepest x_p_wanted x_t_length x_t_tape x_t_words x_t_places x_t_at x_t_kinds x_t_wills x_t_starts x_t_code x_t_count x_t_size x_h_sorts x_h_lengths x_h_items x_h_held x_h_things x_h_sizes x_h_bodies x_h_traced x_h_number x_h_spot x_h_parted x_g_count x_g_kinds x_g_wills x_g_starts x_g_code x_g_stack x_g_kl x_g_wl x_g_sl x_g_cl x_nr) (Qi res (cW a ar t x_q0_dials x_q0_spots x_q0_skies x_q0_reports x_q0_count x_q0_chime x_q0_end x_q0_score x_q0_reportCount x_q0_z x_q0_rules x_q0_shades x_q0_facts x_q1_dials x_q1_spots x_q1_skies x_q1_reports x_q1_count x_q1_chime x_q1_end x_q1_score x_q1_reportCount x_q1_z x_q1_rules x_q1_shades x_q1_facts x_q2_dials x_q2_spots x_q2_skies x_q2_reports x_q2_count x_q2_chime x_q2_end x_q2_score x_q2_reportCount x_q2_z x_q2_rules x_q2_shades x_q2_facts x_isKept x_marks x_p_first x_p_steps x_p_most x_p_many x_p_fewest x_p_everRight x_p_opening x_p_rows x_p_rowCount x_p_acts x_p_marks x_p_deepest x_p_wanted x_t_length x_t_tape x_t_words x_t_places x_t_at x_t_kinds x_t_wills x_t_starts x_t_code x_t_count x_t_size x_h_sorts x_h_lengths x_h_items x_h_held x_h_things x_h_sizes x_h_bodies x_h_traced x_h_number x_h_spot x_h_parted x_g_count x_g_kinds x_g_wills x_g_starts x_g_code x_g_stack x_g_kl x_g_wl x_g_sl x_g_cl x_nr)) := by
  unfold X3_shades_k4 at hf
  refine MC.ofI pn_X3 (Nat.le_of_ble_eq_true rfl) ?_
  intro p e s m args below meth c A Q ls cx hR hw hl
  have hx := cx.1
  have hb := cx.2.1
  have hl : lv_has ls 3 [(0, .ref (a (78 + 4))), (1, .int v1), (2, .int v2)] := hl
  refine lv_iconst (v := 1) hx hb dX3_shades_0 (by decide) ?_
  subst hf
  exact hR _ _ _ _ _ _ hw rfl ⟨rfl, rfl⟩ dX3_shades_1
theorem c_X3_shades_k5 {v1 : Int32} {v2 : Int32} {res : Int32} (hf : X3_shades_k5 v1 v2 = res) : MC l E0 D t yX3_shades cX3_shades 3 (some .int) 1 0 0 [.ref (a (78 + 5)), .int v1, .int v2] (cW a ar t x_q0_dials x_q0_spots x_q0_skies x_q0_reports x_q0_count x_q0_chime x_q0_end x_q0_score x_q0_reportCount x_q0_z x_q0_rules x_q0_shades x_q0_facts x_q1_dials x_q1_spots x_q1_skies x_q1_reports x_q1_count x_q1_chime x_q1_end x_q1_score x_q1_reportCount x_q1_z x_q1_rules x_q1_shades x_q1_facts x_q2_dials x_q2_spots x_q2_skies x_q2_reports x_q2_count x_q2_chime x_q2_end x_q2_score x_q2_reportCount x_q2_z x_q2_rules x_q2_shades x_q2_facts x_isKept x_marks x_p_first x_p_steps x_p_most x_p_many x_p_fewest x_p_everRight x_p_opening x_p_rows x_p_rowCount x_p_acts x_p_marks x_p_deepest x_p_wanted x_t_length x_t_tape x_t_words x_t_places x_t_at x_t_kinds x_t_wills x_t_starts x_t_code x_t_count x_t_size x_h_sorts x_h_lengths x_h_items x_h_held x_h_things x_h_sizes x_h_bodies x_h_traced x_h_number x_h_spot x_h_parted x_g_count x_g_kinds x_g_wills x_g_starts x_g_code x_g_stack x_g_kl x_g_wl x_g_sl x_g_cl x_nr) (Qi res (cW a ar t x_q0_dials x_q0_spots x_q0_skies x_q0_reports x_q0_count x_q0_chime x_q0_end x_q0_score x_q0_reportCount x_q0_z x_q0_rules x_q0_shades x_q0_facts x_q1_dials x_q1_spots x_q1_skies x_q1_reports x_q1_count x_q1_chime x_q1_end x_q1_score x_q1_reportCount x_q1_z x_q1_rules x_q1_shades x_q1_facts x_q2_dials x_q2_spots x_q2_skies x_q2_reports x_q2_count x_q2_chime x_q2_end x_q2_score x_q2_reportCount x_q2_z x_q2_rules x_q2_shades x_q2_facts x_isKept x_marks x_p_first x_p_steps x_p_most x_p_many x_p_fewest x_p_everRight x_p_opening x_p_rows x_p_rowCount x_p_acts x_p_marks x_p_deepest x_p_wanted x_t_length x_t_tape x_t_words x_t_places x_t_at x_t_kinds x_t_wills x_t_starts x_t_code x_t_count x_t_size x_h_sorts x_h_lengths x_h_items x_h_held x_h_things x_h_sizes x_h_bodies x_h_traced x_h_number x_h_spot x_h_parted x_g_count x_g_kinds x_g_wills x_g_starts x_g_code x_g_stack x_g_kl x_g_wl x_g_sl x_g_cl x_nr)) := by
  unfold X3_shades_k5 at hf
  refine MC.ofI pn_X3 (Nat.le_of_ble_eq_true rfl) ?_
  intro p e s m args below meth c A Q ls cx hR hw hl
  have hx := cx.1
  have hb := cx.2.1
  have hl : lv_has ls 3 [(0, .ref (a (78 + 5))), (1, .int v1), (2, .int v2)] := hl
  refine lv_iconst (v := 1) hx hb dX3_shades_0 (by decide) ?_
  subst hf
  exact hR _ _ _ _ _ _ hw rfl ⟨rfl, rfl⟩ dX3_shades_1
theorem dX8_shades_0 : decode cX8_shades 0 = .ok (.iload_n 2, 1) := by decide +kernel
theorem dX8_shades_1 : decode cX8_shades 1 = .ok (.iconst 3, 1) := by decide +kernel
theorem dX8_shades_2 : decode cX8_shades 2 = .ok (.irem, 1) := by decide +kernel
theorem dX8_shades_3 : decode cX8_shades 3 = .ok (.ifCond .ne 7, 3) := by decide +kernel
theorem dX8_shades_6 : decode cX8_shades 6 = .ok (.iconst 0, 1) := by decide +kernel
theorem dX8_shades_7 : decode cX8_shades 7 = .ok (.goto 9, 3) := by decide +kernel
theorem dX8_shades_10 : decode cX8_shades 10 = .ok (.aload_n 0, 1) := by decide +kernel
theorem dX8_shades_11 : decode cX8_shades 11 = .ok (.iload_n 1, 1) := by decide +kernel
theorem dX8_shades_12 : decode cX8_shades 12 = .ok (.iload_n 2, 1) := by decide +kernel
theorem dX8_shades_13 : decode cX8_shades 13 = .ok (.invokespecial 7, 3) := by decide +kernel
theorem dX8_shades_16 : decode cX8_shades 16 = .ok (.ireturn, 1) := by decide +kernel
theorem c_X8_shades_k5 {v1 : Int32} {v2 : Int32} {res : Int32} (hf : X8_shades_k5 v1 v2 = res) : MC l E0 D t yX8_shades cX8_shades 3 (some .int) 2 0 0 [.ref (a (78 + 5)), .int v1, .int v2] (cW a ar t x_q0_dials x_q0_spots x_q0_skies x_q0_reports x_q0_count x_q0_chime x_q0_end x_q0_score x_q0_reportCount x_q0_z x_q0_rules x_q0_shades x_q0_facts x_q1_dials x_q1_spots x_q1_skies x_q1_reports x_q1_count x_q1_chime x_q1_end x_q1_score x_q1_reportCount x_q1_z x_q1_rules x_q1_shades x_q1_facts x_q2_dials x_q2_spots x_q2_skies x_q2_reports x_q2_count x_q2_chime x_q2_end x_q2_score x_q2_reportCount x_q2_z x_q2_rules x_q2_shades x_q2_facts x_isKept x_marks x_p_first x_p_steps x_p_most x_p_many x_p_fewest x_p_everRight x_p_opening x_p_rows x_p_rowCount x_p_acts x_p_marks x_p_deepest x_p_wanted x_t_length x_t_tape x_t_words x_t_places x_t_at x_t_kinds x_t_wills x_t_starts x_t_code x_t_count x_t_size x_h_sorts x_h_lengths x_h_items x_h_held x_h_things x_h_sizes x_h_bodies x_h_traced x_h_number x_h_spot x_h_parted x_g_count x_g_kinds x_g_wills x_g_starts x_g_code x_g_stack x_g_kl x_g_wl x_g_sl x_g_cl x_nr) (Qi res (cW a ar t x_q0_dials x_q0_spots x_q0_skies x_q0_reports x_q0_count x_q0_chime x_q0_end x_q0_score x_q0_reportCount x_q0_z x_q0_rules x_q0_shades x_q0_facts x_q1_dials x_q1_spots x_q1_skies x_q1_reports x_q1_count x_q1_chime x_q1_end x_q1_score x_q1_reportCount x_q1_z x_q1_rules x_q1_shades x_q1_facts x_q2_dials x_q2_spots x_q2_skies x_q2_reports x_q2_count x_q2_chime x_q2_end x_q2_score x_q2_reportCount x_q2_z x_q2_rules x_q2_shades x_q2_facts x_isKept x_marks x_p_first x_p_steps x_p_most x_p_many x_p_fewest x_p_everRight x_p_opening x_p_rows x_p_rowCount x_p_acts x_p_marks x_p_deepest x_p_wanted x_t_length x_t_tape x_t_words x_t_places x_t_at x_t_kinds x_t_wills x_t_starts x_t_code x_t_count x_t_size x_h_sorts x_h_lengths x_h_items x_h_held x_h_things x_h_sizes x_h_bodies x_h_traced x_h_number x_h_spot x_h_parted x_g_count x_g_kinds x_g_wills x_g_starts x_g_code x_g_stack x_g_kl x_g_wl x_g_sl x_g_cl x_nr)) := by
  unfold X8_shades_k5 at hf
  refine MC.ofI pn_X8 (Nat.le_of_ble_eq_true rfl) ?_
  intro p e s m args below meth c A Q ls cx hR hw hl
  have hx := cx.1
  have hb := cx.2.1
  have hl : lv_has ls 3 [(0, .ref (a (78 + 5))), (1, .int v1), (2, .int v2)] := hl
  refine lv_iload_n hx hb dX8_shades_0 rfl (lv_at hl 2 rfl) ?_
  refine lv_iconst (v := 3) hx hb dX8_shades_1 (by decide) ?_
  refine lv_irem hx hb dX8_shades_2 (by decide) ?_
  refine lv_if_ne (tgt := 10) hx hb dX8_shades_3 (by decide) (fun hc => ?_) (fun hc => ?_)
  · have hf := ifF hf hc
    refine lv_aload_n hx hb dX8_shades_10 rfl (lv_at hl 0 rfl) ?_
    refine lv_iload_n hx hb dX8_shades_11 rfl (lv_at hl 1 rfl) ?_
    refine lv_iload_n hx hb dX8_shades_12 rfl (lv_at hl 2 rfl) ?_
    refine calSUi cx hw hl.1 (c_X3_shades_k5 rfl) ws_X8_7 q_393 hs_X3_shades rfl rv_k5 rfl dX8_shades_13 rfl (Nat.le_of_ble_eq_true rfl) ⟨Nat.le_of_ble_eq_true rfl, Nat.le_of_ble_eq_true rfl⟩ ⟨Nat.le_refl _, Nat.le_refl _⟩ (fun H locs hw => ?_)
    subst hf
    exact hR _ _ _ _ _ _ hw rfl ⟨rfl, rfl⟩ dX8_shades_16
  · have hf := ifT hf hc
    refine lv_iconst (v := 0) hx hb dX8_shades_6 (by decide) ?_
    refine lv_goto (tgt := 16) hx hb dX8_shades_7 (by decide) ?_
    subst hf
    exact hR _ _ _ _ _ _ hw rfl ⟨rfl, rfl⟩ dX8_shades_16
section VR_vr_shades_X9_83
variable {p : Program} {l : Launch} {e : Env} {R : Room} {s : State} {m : MethodId} {args : Array Value} {below : List Frame} {meth : Method} {c : Code} {H : Heap} {locs : List Loc} {cells slots : Nat} {Q : State → Prop}
variable {E : EX} {D : va_G} {t : Nat → ClassId} {cc : ByteArray} {own nm : String} {nL pc : Nat} {A : Nat → Prop} {ls : Array Slot} {rest : List Value} {a : Nat → Nat} {ar : Nat → Nat → Nat} {x_q0_dials : Nat → Nat → Int32} {x_q0_spots : Nat → Nat → Int32} {x_q0_skies : Nat → Int32} {x_q0_reports : Nat → Nat → Int32} {x_q0_count : Int32} {x_q0_chime : Int32} {x_q0_end : Int32} {x_q0_score : Int32} {x_q0_reportCount : Int32} {x_q0_z : Int32} {x_q0_rules : Nat} {x_q0_shades : Nat → Int32} {x_q0_facts : Nat → Int32} {x_q1_dials : Nat → Nat → Int32} {x_q1_spots : Nat → Nat → Int32} {x_q1_skies : Nat → Int32} {x_q1_reports : Nat → Nat → Int32} {x_q1_count : Int32} {x_q1_chime : Int32} {x_q1_end : Int32} {x_q1_score : Int32} {x_q1_reportCount : Int32} {x_q1_z : Int32} {x_q1_rules : Nat} {x_q1_shades : Nat → Int32} {x_q1_facts : Nat → Int32} {x_q2_dials : Nat → Nat → Int32} {x_q2_spots : Nat → Nat → Int32} {x_q2_skies : Nat → Int32} {x_q2_reports : Nat → Nat → Int32} {x_q2_count : Int32} {x_q2_chime : Int32} {x_q2_end : Int32} {x_q2_score : Int32} {x_q2_reportCount : Int32} {x_q2_z : Int32} {x_q2_rules : Nat} {x_q2_shades : Nat → Int32} {x_q2_facts : Nat → Int32} {x_isKept : Int32} {x_marks : Nat → Int32} {x_p_first : Nat → Int32} {x_p_steps : Int32} {x_p_most : Int32} {x_p_many : Int32} {x_p_fewest : Int32} {x_p_everRight : Int32} {x_p_opening : Int32} {x_p_rows : Nat → Nat → Int32} {x_p_rowCount : Int32} {x_p_acts : Nat → Int32} {x_p_marks : Nat → Nat → Int32} {x_p_deepest : Int32} {x_p_wanted : Int32} {x_t_length : Int32} {x_t_tape : Nat → Int32} {x_t_words : Nat → Int32} {x_t_places : Nat → Int32} {x_t_at : Int32} {x_t_kinds : Nat → Int32} {x_t_wills : Nat → Int32} {x_t_starts : Nat → Int32} {x_t_code : Nat → Int32} {x_t_count : Int32} {x_t_size : Int32} {x_h_sorts : Nat → Int32} {x_h_lengths : Nat → Int32} {x_h_items : Nat → Nat → Int32} {x_h_held : Nat → Int32} {x_h_things : Nat → Int32} {x_h_sizes : Nat → Int32} {x_h_bodies : Nat → Int32} {x_h_traced : Int32} {x_h_number : Int32} {x_h_spot : Int32} {x_h_parted : Int32} {x_g_count : Nat → Int32} {x_g_kinds : Nat → Nat → Int32} {x_g_wills : Nat → Nat → Int32} {x_g_starts : Nat → Nat → Int32} {x_g_code : Nat → Nat → Int32} {x_g_stack : Nat → Nat → Int32} {x_g_kl : Nat → Nat} {x_g_wl : Nat → Nat} {x_g_sl : Nat → Nat} {x_g_cl : Nat → Nat} {x_nr : Nat}
theorem vr_shades_X9_83 {k : Nat} {v1 : Int32} {v2 : Int32} (cx : Cx E D t p s m args meth c cc RX9 nm nL A) (hw : Wd D A s (cW a ar t x_q0_dials x_q0_spots x_q0_skies x_q0_reports x_q0_count x_q0_chime x_q0_end x_q0_score x_q0_reportCount x_q0_z x_q0_rules x_q0_shades x_q0_facts x_q1_dials x_q1_spots x_q1_skies x_q1_reports x_q1_count x_q1_chime x_q1_end x_q1_score x_q1_reportCount x_q1_z x_q1_rules x_q1_shades x_q1_facts x_q2_dials x_q2_spots x_q2_skies x_q2_reports x_q2_count x_q2_chime x_q2_end x_q2_score x_q2_reportCount x_q2_z x_q2_rules x_q2_shades x_q2_facts x_isKept x_marks x_p_first x_p_steps x_p_most x_p_many x_p_fewest x_p_everRight x_p_opening x_p_rows x_p_rowCount x_p_acts x_p_marks x_p_deepest x_p_wanted x_t_length x_t_tape x_t_words x_t_places x_t_at x_t_kinds x_t_wills x_t_starts x_t_code x_t_count x_t_size x_h_sorts x_h_lengths x_h_items x_h_held x_h_things x_h_sizes x_h_bodies x_h_traced x_h_number x_h_spot x_h_parted x_g_count x_g_kinds x_g_wills x_g_starts x_g_code x_g_stack x_g_kl x_g_wl x_g_sl x_g_cl x_nr) H locs) (hl : ls.size = nL) (hk : k < 6) (hdg : decode cc pc = .ok (.invokevirtual 83, 3)) (hcat : (rest.map fun v => v.category).sum ≤ 8) (h1 : 4 ≤ R.frames) (h2 : 256 ≤ R.locals) (hcs : cells ≤ R.cells ∧ slots ≤ R.slots) (kk : ∀ (H : Heap) (locs : List Loc), Wd D A s (cW a ar t x_q0_dials x_q0_spots x_q0_skies x_q0_reports x_q0_count x_q0_chime x_q0_end x_q0_score x_q0_reportCount x_q0_z x_q0_rules x_q0_shades x_q0_facts x_q1_dials x_q1_spots x_q1_skies x_q1_reports x_q1_count x_q1_chime x_q1_end x_q1_score x_q1_reportCount x_q1_z x_q1_rules x_q1_shades x_q1_facts x_q2_dials x_q2_spots x_q2_skies x_q2_reports x_q2_count x_q2_chime x_q2_end x_q2_score x_q2_reportCount x_q2_z x_q2_rules x_q2_shades x_q2_facts x_isKept x_marks x_p_first x_p_steps x_p_most x_p_many x_p_fewest x_p_everRight x_p_opening x_p_rows x_p_rowCount x_p_acts x_p_marks x_p_deepest x_p_wanted x_t_length x_t_tape x_t_words x_t_places x_t_at x_t_kinds x_t_wills x_t_starts x_t_code x_t_count x_t_size x_h_sorts x_h_lengths x_h_items x_h_held x_h_things x_h_sizes x_h_bodies x_h_traced x_h_number x_h_spot x_h_parted x_g_count x_g_kinds x_g_wills x_g_starts x_g_code x_g_stack x_g_kl x_g_wl x_g_sl x_g_cl x_nr) H locs → W p l e R s m args below meth c H locs cells slots Q (F0 m (pc + 3) ls (.int (vd_shades k v1 v2) :: rest))) : W p l e R s m args below meth c H locs cells slots Q (F0 m pc ls (.int v2 :: .int v1 :: .ref (a (78 + k)) :: rest)) := by
  match k, hk with
  | 0, _ => exact calUi cx hw hl (c_X0_shades_k0 rfl) wu_X9_83_0 q_402 q_402 hu_X0_shades rfl rv_k0 rfl hdg rfl hcat ⟨Nat.le_trans (Nat.le_of_ble_eq_true rfl) h1, Nat.le_trans (Nat.le_of_ble_eq_true rfl) h2⟩ hcs kk
  | 1, _ => exact calUi cx hw hl (c_X4_shades_k1 rfl) wu_X9_83_1 q_396 q_402 hu_X0_shades rfl rv_k1 rfl hdg rfl hcat ⟨Nat.le_trans (Nat.le_of_ble_eq_true rfl) h1, Nat.le_trans (Nat.le_of_ble_eq_true rfl) h2⟩ hcs kk
  | 2, _ => exact calUi cx hw hl (c_X10_shades_k2 rfl) wu_X9_83_2 q_389 q_402 hu_X0_shades rfl rv_k2 rfl hdg rfl hcat ⟨Nat.le_trans (Nat.le_of_ble_eq_true rfl) h1, Nat.le_trans (Nat.le_of_ble_eq_true rfl) h2⟩ hcs kk
  | 3, _ => exact calUi cx hw hl (c_X1_shades_k3 rfl) wu_X9_83_3 q_386 q_402 hu_X0_shades rfl rv_k3 rfl hdg rfl hcat ⟨Nat.le_trans (Nat.le_of_ble_eq_true rfl) h1, Nat.le_trans (Nat.le_of_ble_eq_true rfl) h2⟩ hcs kk
  | 4, _ => exact calUi cx hw hl (c_X3_shades_k4 rfl) wu_X9_83_4 q_393 q_402 hu_X0_shades rfl rv_k4 rfl hdg rfl hcat ⟨Nat.le_trans (Nat.le_of_ble_eq_true rfl) h1, Nat.le_trans (Nat.le_of_ble_eq_true rfl) h2⟩ hcs kk
  | 5, _ => exact calUi cx hw hl (c_X8_shades_k5 rfl) wu_X9_83_5 q_399 q_402 hu_X0_shades rfl rv_k5 rfl hdg rfl hcat ⟨Nat.le_trans (Nat.le_of_ble_eq_true rfl) h1, Nat.le_trans (Nat.le_of_ble_eq_true rfl) h2⟩ hcs kk
  | z + 6, hk => exact absurd hk (by omega)
end VR_vr_shades_X9_83
theorem dX9_shadesOf_0 : decode cX9_shadesOf 0 = .ok (.aload_n 0, 1) := by decide +kernel
theorem dX9_shadesOf_1 : decode cX9_shadesOf 1 = .ok (.iload_n 1, 1) := by decide +kernel
theorem dX9_shadesOf_2 : decode cX9_shadesOf 2 = .ok (.invokevirtual 75, 3) := by decide +kernel
theorem dX9_shadesOf_5 : decode cX9_shadesOf 5 = .ok (.aload_n 0, 1) := by decide +kernel
theorem dX9_shadesOf_6 : decode cX9_shadesOf 6 = .ok (.aload_n 0, 1) := by decide +kernel
theorem dX9_shadesOf_7 : decode cX9_shadesOf 7 = .ok (.getfield 62, 3) := by decide +kernel
theorem dX9_shadesOf_10 : decode cX9_shadesOf 10 = .ok (.invokevirtual 79, 3) := by decide +kernel
theorem dX9_shadesOf_13 : decode cX9_shadesOf 13 = .ok (.iconst 4, 1) := by decide +kernel
theorem dX9_shadesOf_14 : decode cX9_shadesOf 14 = .ok (.idiv, 1) := by decide +kernel
theorem dX9_shadesOf_15 : decode cX9_shadesOf 15 = .ok (.aload_n 0, 1) := by decide +kernel
theorem dX9_shadesOf_16 : decode cX9_shadesOf 16 = .ok (.getfield 62, 3) := by decide +kernel
theorem dX9_shadesOf_19 : decode cX9_shadesOf 19 = .ok (.invokevirtual 83, 3) := by decide +kernel
theorem dX9_shadesOf_22 : decode cX9_shadesOf 22 = .ok (.ireturn, 1) := by decide +kernel
theorem k_X9_shadesOf : MV yX9_shadesOf cX9_shadesOf 2 (some .int) 1 := ⟨q_369, q_370, q_11, q_371, ⟨by decide, by decide, by decide +kernel⟩⟩
theorem c_X9_shadesOf_q0 {v1 : Int32} {res : Int32} (hf : X9_shadesOf_q0 x_q0_dials x_q0_skies x_q0_chime v1 = some res) : MC l E0 D t yX9_shadesOf cX9_shadesOf 2 (some .int) 4 0 0 [.ref (a 1), .int v1] (cW a ar t x_q0_dials x_q0_spots x_q0_skies x_q0_reports x_q0_count x_q0_chime x_q0_end x_q0_score x_q0_reportCount x_q0_z x_q0_rules x_q0_shades x_q0_facts x_q1_dials x_q1_spots x_q1_skies x_q1_reports x_q1_count x_q1_chime x_q1_end x_q1_score x_q1_reportCount x_q1_z x_q1_rules x_q1_shades x_q1_facts x_q2_dials x_q2_spots x_q2_skies x_q2_reports x_q2_count x_q2_chime x_q2_end x_q2_score x_q2_reportCount x_q2_z x_q2_rules x_q2_shades x_q2_facts x_isKept x_marks x_p_first x_p_steps x_p_most x_p_many x_p_fewest x_p_everRight x_p_opening x_p_rows x_p_rowCount x_p_acts x_p_marks x_p_deepest x_p_wanted x_t_length x_t_tape x_t_words x_t_places x_t_at x_t_kinds x_t_wills x_t_starts x_t_code x_t_count x_t_size x_h_sorts x_h_lengths x_h_items x_h_held x_h_things x_h_sizes x_h_bodies x_h_traced x_h_number x_h_spot x_h_parted x_g_count x_g_kinds x_g_wills x_g_starts x_g_code x_g_stack x_g_kl x_g_wl x_g_sl x_g_cl x_nr) (Qi res (cW a ar t x_q0_dials x_q0_spots x_q0_skies x_q0_reports x_q0_count x_q0_chime x_q0_end x_q0_score x_q0_reportCount x_q0_z x_q0_rules x_q0_shades x_q0_facts x_q1_dials x_q1_spots x_q1_skies x_q1_reports x_q1_count x_q1_chime x_q1_end x_q1_score x_q1_reportCount x_q1_z x_q1_rules x_q1_shades x_q1_facts x_q2_dials x_q2_spots x_q2_skies x_q2_reports x_q2_count x_q2_chime x_q2_end x_q2_score x_q2_reportCount x_q2_z x_q2_rules x_q2_shades x_q2_facts x_isKept x_marks x_p_first x_p_steps x_p_most x_p_many x_p_fewest x_p_everRight x_p_opening x_p_rows x_p_rowCount x_p_acts x_p_marks x_p_deepest x_p_wanted x_t_length x_t_tape x_t_words x_t_places x_t_at x_t_kinds x_t_wills x_t_starts x_t_code x_t_count x_t_size x_h_sorts x_h_lengths x_h_items x_h_held x_h_things x_h_sizes x_h_bodies x_h_traced x_h_number x_h_spot x_h_parted x_g_count x_g_kinds x_g_wills x_g_starts x_g_code x_g_stack x_g_kl x_g_wl x_g_sl x_g_cl x_nr)) := by
  unfold X9_shadesOf_q0 at hf
  refine MC.ofI pn_X9 (Nat.le_of_ble_eq_true rfl) ?_
  intro p e s m args below meth c A Q ls cx hR hw hl
  have hx := cx.1
  have hb := cx.2.1
  have hl : lv_has ls 2 [(0, .ref (a 1)), (1, .int v1)] := hl
  refine lv_aload_n hx hb dX9_shadesOf_0 rfl (lv_at hl 0 rfl) ?_
  refine lv_iload_n hx hb dX9_shadesOf_1 rfl (lv_at hl 1 rfl) ?_
  obtain ⟨r1, h2, hf⟩ := bnS hf
  refine calVa cx hw hl.1 (c_X9_kindOf_q0 h2) q_372 k_X9_kindOf rfl rv_q0 rfl dX9_shadesOf_2 rfl (Nat.le_of_ble_eq_true rfl) ⟨Nat.le_of_ble_eq_true rfl, Nat.le_of_ble_eq_true rfl⟩ ⟨Nat.le_refl _, Nat.le_refl _⟩ (fun H locs hw => ?_)
  obtain ⟨h3, hf⟩ := ckS hf
  refine lv_aload_n hx hb dX9_shadesOf_5 rfl (lv_at hl 0 rfl) ?_
  refine lv_aload_n hx hb dX9_shadesOf_6 rfl (lv_at hl 0 rfl) ?_
  refine cg_X9_62_q0 cx hw dX9_shadesOf_7 ?_
  obtain ⟨r4, h5, hf⟩ := bnS hf
  refine calVi cx hw hl.1 (c_X9_skyAt_q0 h5) q_376 k_X9_skyAt rfl rv_q0 rfl dX9_shadesOf_10 rfl (Nat.le_of_ble_eq_true rfl) ⟨Nat.le_of_ble_eq_true rfl, Nat.le_of_ble_eq_true rfl⟩ ⟨Nat.le_refl _, Nat.le_refl _⟩ (fun H locs hw => ?_)
  refine lv_iconst (v := 4) hx hb dX9_shadesOf_13 (by decide) ?_
  refine lv_idiv hx hb dX9_shadesOf_14 (by decide) ?_
  refine lv_aload_n hx hb dX9_shadesOf_15 rfl (lv_at hl 0 rfl) ?_
  refine cg_X9_62_q0 cx hw dX9_shadesOf_16 ?_
  refine vr_shades_X9_83 cx hw hl.1 (dc h3) dX9_shadesOf_19 (Nat.le_of_ble_eq_true rfl) (Nat.le_of_ble_eq_true rfl) (Nat.le_of_ble_eq_true rfl) ⟨Nat.le_refl _, Nat.le_refl _⟩ (fun H locs hw => ?_)
  have hf := Option.some.inj hf
  subst hf
  exact hR _ _ _ _ _ _ hw rfl ⟨rfl, rfl⟩ dX9_shadesOf_22
theorem dX9_measureShades_0 : decode cX9_measureShades 0 = .ok (.iconst 0, 1) := by decide +kernel
theorem dX9_measureShades_1 : decode cX9_measureShades 1 = .ok (.istore_n 1, 1) := by decide +kernel
theorem dX9_measureShades_2 : decode cX9_measureShades 2 = .ok (.iload_n 1, 1) := by decide +kernel
theorem dX9_measureShades_3 : decode cX9_measureShades 3 = .ok (.bipush 6, 2) := by decide +kernel
theorem dX9_measureShades_5 : decode cX9_measureShades 5 = .ok (.if_icmp .ge 23, 3) := by decide +kernel
theorem dX9_measureShades_8 : decode cX9_measureShades 8 = .ok (.aload_n 0, 1) := by decide +kernel
theorem dX9_measureShades_9 : decode cX9_measureShades 9 = .ok (.getfield 33, 3) := by decide +kernel
theorem dX9_measureShades_12 : decode cX9_measureShades 12 = .ok (.iload_n 1, 1) := by decide +kernel
theorem dX9_measureShades_13 : decode cX9_measureShades 13 = .ok (.aload_n 0, 1) := by decide +kernel
theorem dX9_measureShades_14 : decode cX9_measureShades 14 = .ok (.getfield 16, 3) := by decide +kernel
theorem dX9_measureShades_17 : decode cX9_measureShades 17 = .ok (.iload_n 1, 1) := by decide +kernel
theorem dX9_measureShades_18 : decode cX9_measureShades 18 = .ok (.aaload, 1) := by decide +kernel
theorem dX9_measureShades_19 : decode cX9_measureShades 19 = .ok (.iconst 0, 1) := by decide +kernel
theorem dX9_measureShades_20 : decode cX9_measureShades 20 = .ok (.iaload, 1) := by decide +kernel
theorem dX9_measureShades_21 : decode cX9_measureShades 21 = .ok (.iastore, 1) := by decide +kernel
theorem dX9_measureShades_22 : decode cX9_measureShades 22 = .ok (.iinc 1 1, 3) := by decide +kernel
theorem dX9_measureShades_25 : decode cX9_measureShades 25 = .ok (.goto (-23), 3) := by decide +kernel
theorem dX9_measureShades_28 : decode cX9_measureShades 28 = .ok (.aload_n 0, 1) := by decide +kernel
theorem dX9_measureShades_29 : decode cX9_measureShades 29 = .ok (.aload_n 0, 1) := by decide +kernel
theorem dX9_measureShades_30 : decode cX9_measureShades 30 = .ok (.getfield 62, 3) := by decide +kernel
theorem dX9_measureShades_33 : decode cX9_measureShades 33 = .ok (.invokevirtual 79, 3) := by decide +kernel
theorem dX9_measureShades_36 : decode cX9_measureShades 36 = .ok (.iconst 4, 1) := by decide +kernel
theorem dX9_measureShades_37 : decode cX9_measureShades 37 = .ok (.idiv, 1) := by decide +kernel
theorem dX9_measureShades_38 : decode cX9_measureShades 38 = .ok (.istore_n 1, 1) := by decide +kernel
theorem dX9_measureShades_39 : decode cX9_measureShades 39 = .ok (.iconst 0, 1) := by decide +kernel
theorem dX9_measureShades_40 : decode cX9_measureShades 40 = .ok (.istore_n 2, 1) := by decide +kernel
theorem dX9_measureShades_41 : decode cX9_measureShades 41 = .ok (.iload_n 2, 1) := by decide +kernel
theorem dX9_measureShades_42 : decode cX9_measureShades 42 = .ok (.aload_n 0, 1) := by decide +kernel
theorem dX9_measureShades_43 : decode cX9_measureShades 43 = .ok (.getfield 59, 3) := by decide +kernel
theorem dX9_measureShades_46 : decode cX9_measureShades 46 = .ok (.if_icmp .ge 48, 3) := by decide +kernel
theorem dX9_measureShades_49 : decode cX9_measureShades 49 = .ok (.aload_n 0, 1) := by decide +kernel
theorem dX9_measureShades_50 : decode cX9_measureShades 50 = .ok (.getfield 11, 3) := by decide +kernel
theorem dX9_measureShades_53 : decode cX9_measureShades 53 = .ok (.iload_n 2, 1) := by decide +kernel
theorem dX9_measureShades_54 : decode cX9_measureShades 54 = .ok (.aaload, 1) := by decide +kernel
theorem dX9_measureShades_55 : decode cX9_measureShades 55 = .ok (.iconst 3, 1) := by decide +kernel
theorem dX9_measureShades_56 : decode cX9_measureShades 56 = .ok (.iaload, 1) := by decide +kernel
theorem dX9_measureShades_57 : decode cX9_measureShades 57 = .ok (.iconst 1, 1) := by decide +kernel
theorem dX9_measureShades_58 : decode cX9_measureShades 58 = .ok (.iadd, 1) := by decide +kernel
theorem dX9_measureShades_59 : decode cX9_measureShades 59 = .ok (.istore_n 3, 1) := by decide +kernel
theorem dX9_measureShades_60 : decode cX9_measureShades 60 = .ok (.iload_n 3, 1) := by decide +kernel
theorem dX9_measureShades_61 : decode cX9_measureShades 61 = .ok (.bipush 6, 2) := by decide +kernel
theorem dX9_measureShades_63 : decode cX9_measureShades 63 = .ok (.if_icmp .ge 25, 3) := by decide +kernel
theorem dX9_measureShades_66 : decode cX9_measureShades 66 = .ok (.aload_n 0, 1) := by decide +kernel
theorem dX9_measureShades_67 : decode cX9_measureShades 67 = .ok (.getfield 33, 3) := by decide +kernel
theorem dX9_measureShades_70 : decode cX9_measureShades 70 = .ok (.iload_n 3, 1) := by decide +kernel
theorem dX9_measureShades_71 : decode cX9_measureShades 71 = .ok (.dup2, 1) := by decide +kernel
theorem dX9_measureShades_72 : decode cX9_measureShades 72 = .ok (.iaload, 1) := by decide +kernel
theorem dX9_measureShades_73 : decode cX9_measureShades 73 = .ok (.aload_n 0, 1) := by decide +kernel
theorem dX9_measureShades_74 : decode cX9_measureShades 74 = .ok (.iload_n 2, 1) := by decide +kernel
theorem dX9_measureShades_75 : decode cX9_measureShades 75 = .ok (.invokevirtual 75, 3) := by decide +kernel
theorem dX9_measureShades_78 : decode cX9_measureShades 78 = .ok (.iload_n 1, 1) := by decide +kernel
theorem dX9_measureShades_79 : decode cX9_measureShades 79 = .ok (.aload_n 0, 1) := by decide +kernel
theorem dX9_measureShades_80 : decode cX9_measureShades 80 = .ok (.getfield 62, 3) := by decide +kernel
theorem dX9_measureShades_83 : decode cX9_measureShades 83 = .ok (.invokevirtual 83, 3) := by decide +kernel
theorem dX9_measureShades_86 : decode cX9_measureShades 86 = .ok (.iadd, 1) := by decide +kernel
theorem dX9_measureShades_87 : decode cX9_measureShades 87 = .ok (.iastore, 1) := by decide +kernel
theorem dX9_measureShades_88 : decode cX9_measureShades 88 = .ok (.iinc 2 1, 3) := by decide +kernel
theorem dX9_measureShades_91 : decode cX9_measureShades 91 = .ok (.goto (-50), 3) := by decide +kernel
theorem dX9_measureShades_94 : decode cX9_measureShades 94 = .ok (.return_, 1) := by decide +kernel
theorem k_X9_measureShades : MV yX9_measureShades cX9_measureShades 4 none 0 := ⟨q_408, q_409, q_11, q_410, ⟨by decide, by decide, by decide +kernel⟩⟩
theorem c_X9_measureShades_q0 {res : (Nat → Int32)} (hf : X9_measureShades_q0 n x_q0_dials x_q0_spots x_q0_skies x_q0_count x_q0_chime x_q0_shades = some res) : MC l E0 D t yX9_measureShades cX9_measureShades 4 none 4 0 0 [.ref (a 1)] (cW a ar t x_q0_dials x_q0_spots x_q0_skies x_q0_reports x_q0_count x_q0_chime x_q0_end x_q0_score x_q0_reportCount x_q0_z x_q0_rules x_q0_shades x_q0_facts x_q1_dials x_q1_spots x_q1_skies x_q1_reports x_q1_count x_q1_chime x_q1_end x_q1_score x_q1_reportCount x_q1_z x_q1_rules x_q1_shades x_q1_facts x_q2_dials x_q2_spots x_q2_skies x_q2_reports x_q2_count x_q2_chime x_q2_end x_q2_score x_q2_reportCount x_q2_z x_q2_rules x_q2_shades x_q2_facts x_isKept x_marks x_p_first x_p_steps x_p_most x_p_many x_p_fewest x_p_everRight x_p_opening x_p_rows x_p_rowCount x_p_acts x_p_marks x_p_deepest x_p_wanted x_t_length x_t_tape x_t_words x_t_places x_t_at x_t_kinds x_t_wills x_t_starts x_t_code x_t_count x_t_size x_h_sorts x_h_lengths x_h_items x_h_held x_h_things x_h_sizes x_h_bodies x_h_traced x_h_number x_h_spot x_h_parted x_g_count x_g_kinds x_g_wills x_g_starts x_g_code x_g_stack x_g_kl x_g_wl x_g_sl x_g_cl x_nr) (Qn (cW a ar t x_q0_dials x_q0_spots x_q0_skies x_q0_reports x_q0_count x_q0_chime x_q0_end x_q0_score x_q0_reportCount x_q0_z x_q0_rules res x_q0_facts x_q1_dials x_q1_spots x_q1_skies x_q1_reports x_q1_count x_q1_chime x_q1_end x_q1_score x_q1_reportCount x_q1_z x_q1_rules x_q1_shades x_q1_facts x_q2_dials x_q2_spots x_q2_skies x_q2_reports x_q2_count x_q2_chime x_q2_end x_q2_score x_q2_reportCount x_q2_z x_q2_rules x_q2_shades x_q2_facts x_isKept x_marks x_p_first x_p_steps x_p_most x_p_many x_p_fewest x_p_everRight x_p_opening x_p_rows x_p_rowCount x_p_acts x_p_marks x_p_deepest x_p_wanted x_t_length x_t_tape x_t_words x_t_places x_t_at x_t_kinds x_t_wills x_t_starts x_t_code x_t_count x_t_size x_h_sorts x_h_lengths x_h_items x_h_held x_h_things x_h_sizes x_h_bodies x_h_traced x_h_number x_h_spot x_h_parted x_g_count x_g_kinds x_g_wills x_g_starts x_g_code x_g_stack x_g_kl x_g_wl x_g_sl x_g_cl x_nr)) := by
  unfold X9_measureShades_q0 at hf
  refine MC.ofV pn_X9 (Nat.le_of_ble_eq_true rfl) ?_
  intro p e s m args below meth c A Q ls cx hR hw hl
  have hx := cx.1
  have hb := cx.2.1
  have hl : lv_has ls 4 [(0, .ref (a 1))] := hl
  refine lv_iconst (v := 0) hx hb dX9_measureShades_0 (by decide) ?_
  refine lv_istore_n (lv' := [(1, .int (0 : Int32)), (0, .ref (a 1))]) hx hb dX9_measureShades_1 rfl hl (by decide) rfl (fun ls hl => ?_)
  obtain ⟨o3, ho3, hf⟩ := bnS hf
  have wL1 : ∀ (k : Nat) {v1 : Int32} {x_q0_shades : Nat → Int32} {H : Heap} {locs : List Loc} {ls : Array Slot} {o : Int32 × (Nat → Int32)}, X9_measureShades_q0_L1 n x_q0_spots k v1 x_q0_shades = some o → Wd D A s (cW a ar t x_q0_dials x_q0_spots x_q0_skies x_q0_reports x_q0_count x_q0_chime x_q0_end x_q0_score x_q0_reportCount x_q0_z x_q0_rules x_q0_shades x_q0_facts x_q1_dials x_q1_spots x_q1_skies x_q1_reports x_q1_count x_q1_chime x_q1_end x_q1_score x_q1_reportCount x_q1_z x_q1_rules x_q1_shades x_q1_facts x_q2_dials x_q2_spots x_q2_skies x_q2_reports x_q2_count x_q2_chime x_q2_end x_q2_score x_q2_reportCount x_q2_z x_q2_rules x_q2_shades x_q2_facts x_isKept x_marks x_p_first x_p_steps x_p_most x_p_many x_p_fewest x_p_everRight x_p_opening x_p_rows x_p_rowCount x_p_acts x_p_marks x_p_deepest x_p_wanted x_t_length x_t_tape x_t_words x_t_places x_t_at x_t_kinds x_t_wills x_t_starts x_t_code x_t_count x_t_size x_h_sorts x_h_lengths x_h_items x_h_held x_h_things x_h_sizes x_h_bodies x_h_traced x_h_number x_h_spot x_h_parted x_g_count x_g_kinds x_g_wills x_g_starts x_g_code x_g_stack x_g_kl x_g_wl x_g_sl x_g_cl x_nr) H locs → lv_has ls 4 [(0, .ref (a 1)), (1, .int v1)] → (∀ (H : Heap) (locs : List Loc) (ls : Array Slot), Wd D A s (cW a ar t x_q0_dials x_q0_spots x_q0_skies x_q0_reports x_q0_count x_q0_chime x_q0_end x_q0_score x_q0_reportCount x_q0_z x_q0_rules o.2 x_q0_facts x_q1_dials x_q1_spots x_q1_skies x_q1_reports x_q1_count x_q1_chime x_q1_end x_q1_score x_q1_reportCount x_q1_z x_q1_rules x_q1_shades x_q1_facts x_q2_dials x_q2_spots x_q2_skies x_q2_reports x_q2_count x_q2_chime x_q2_end x_q2_score x_q2_reportCount x_q2_z x_q2_rules x_q2_shades x_q2_facts x_isKept x_marks x_p_first x_p_steps x_p_most x_p_many x_p_fewest x_p_everRight x_p_opening x_p_rows x_p_rowCount x_p_acts x_p_marks x_p_deepest x_p_wanted x_t_length x_t_tape x_t_words x_t_places x_t_at x_t_kinds x_t_wills x_t_starts x_t_code x_t_count x_t_size x_h_sorts x_h_lengths x_h_items x_h_held x_h_things x_h_sizes x_h_bodies x_h_traced x_h_number x_h_spot x_h_parted x_g_count x_g_kinds x_g_wills x_g_starts x_g_code x_g_stack x_g_kl x_g_wl x_g_sl x_g_cl x_nr) H locs → lv_has ls 4 [(0, .ref (a 1)), (1, .int o.1)] → W p l e (rmz 4 0 0) s m args below meth c H locs 0 0 Q (F0 m 28 ls [])) → W p l e (rmz 4 0 0) s m args below meth c H locs 0 0 Q (F0 m 2 ls []) := by
    clear hf ho3 hw hl
    intro k
    induction k with
    | zero => intro v1 x_q0_shades H locs ls o hf hw hl kx; simp [X9_measureShades_q0_L1] at hf
    | succ k ih =>
      intro v1 x_q0_shades H locs ls o hf hw hl kx
      rw [X9_measureShades_q0_L1] at hf
      refine lv_iload_n hx hb dX9_measureShades_2 rfl (lv_at hl 1 rfl) ?_
      refine lv_bipush (v := 6) hx hb dX9_measureShades_3 (by decide) ?_
      refine lv_icmp_ge (tgt := 28) hx hb dX9_measureShades_5 (by decide) (fun hc => ?_) (fun hc => ?_)
      · have hf := ifT hf hc
        have hf := Option.some.inj hf
        subst hf
        exact kx _ _ _ hw (lv_sub hl [0, 1] rfl)
      · have hf := ifF hf hc
        refine lv_aload_n hx hb dX9_measureShades_8 rfl (lv_at hl 0 rfl) ?_
        refine cg_X9_33_q0 cx hw dX9_measureShades_9 ?_
        refine lv_iload_n hx hb dX9_measureShades_12 rfl (lv_at hl 1 rfl) ?_
        refine lv_aload_n hx hb dX9_measureShades_13 rfl (lv_at hl 0 rfl) ?_
        refine cg_X9_16_q0 cx hw dX9_measureShades_14 ?_
        refine lv_iload_n hx hb dX9_measureShades_17 rfl (lv_at hl 1 rfl) ?_
        obtain ⟨h1, hf⟩ := ckS hf
        refine co_q0_spots (j := v1.toNatClampNeg) cx hw (ib_in h1) rfl dX9_measureShades_18 ?_
        refine lv_iconst (v := 0) hx hb dX9_measureShades_19 (by decide) ?_
        refine cm_q0_spots (j := 0) cx hw (ib_lt h1) (ib_in (by decide)) (by decide) dX9_measureShades_20 ?_
        obtain ⟨h2, hf⟩ := ckS hf
        refine cs_q0_shades (j := v1.toNatClampNeg) cx hw (ib_in h2) rfl dX9_measureShades_21 (fun H locs hw => ?_)
        refine lv_iinc (v := (v1 + (1 : Int32))) (lv' := [(1, .int (v1 + (1 : Int32))), (0, .ref (a 1))]) hx hb dX9_measureShades_22 hl (k := 1) rfl rfl (by decide) rfl (fun ls hl => ?_)
        refine lv_goto (tgt := 2) hx hb dX9_measureShades_25 (by decide) ?_
        exact ih hf hw (lv_sub hl [1, 0] rfl) kx
  refine wL1 n ho3 hw (lv_sub hl [1, 0] rfl) (fun H locs ls hw hl => ?_)
  clear wL1 ho3
  refine lv_aload_n hx hb dX9_measureShades_28 rfl (lv_at hl 0 rfl) ?_
  refine lv_aload_n hx hb dX9_measureShades_29 rfl (lv_at hl 0 rfl) ?_
  refine cg_X9_62_q0 cx hw dX9_measureShades_30 ?_
  obtain ⟨r4, h5, hf⟩ := bnS hf
  refine calVi cx hw hl.1 (c_X9_skyAt_q0 h5) q_376 k_X9_skyAt rfl rv_q0 rfl dX9_measureShades_33 rfl (Nat.le_of_ble_eq_true rfl) ⟨Nat.le_of_ble_eq_true rfl, Nat.le_of_ble_eq_true rfl⟩ ⟨Nat.le_refl _, Nat.le_refl _⟩ (fun H locs hw => ?_)
  refine lv_iconst (v := 4) hx hb dX9_measureShades_36 (by decide) ?_
  refine lv_idiv hx hb dX9_measureShades_37 (by decide) ?_
  refine lv_istore_n (lv' := [(1, .int (r4 / (4 : Int32))), (0, .ref (a 1))]) hx hb dX9_measureShades_38 rfl hl (by decide) rfl (fun ls hl => ?_)
  refine lv_iconst (v := 0) hx hb dX9_measureShades_39 (by decide) ?_
  refine lv_istore_n (lv' := [(2, .int (0 : Int32)), (1, .int (r4 / (4 : Int32))), (0, .ref (a 1))]) hx hb dX9_measureShades_40 rfl hl (by decide) rfl (fun ls hl => ?_)
  obtain ⟨o13, ho13, hf⟩ := bnS hf
  have wL2 : ∀ (k : Nat) {v1 : Int32} {v2 : Int32} {x_q0_shades : Nat → Int32} {H : Heap} {locs : List Loc} {ls : Array Slot} {o : Int32 × (Nat → Int32)}, X9_measureShades_q0_L2 n x_q0_dials x_q0_count x_q0_chime v1 k v2 x_q0_shades = some o → Wd D A s (cW a ar t x_q0_dials x_q0_spots x_q0_skies x_q0_reports x_q0_count x_q0_chime x_q0_end x_q0_score x_q0_reportCount x_q0_z x_q0_rules x_q0_shades x_q0_facts x_q1_dials x_q1_spots x_q1_skies x_q1_reports x_q1_count x_q1_chime x_q1_end x_q1_score x_q1_reportCount x_q1_z x_q1_rules x_q1_shades x_q1_facts x_q2_dials x_q2_spots x_q2_skies x_q2_reports x_q2_count x_q2_chime x_q2_end x_q2_score x_q2_reportCount x_q2_z x_q2_rules x_q2_shades x_q2_facts x_isKept x_marks x_p_first x_p_steps x_p_most x_p_many x_p_fewest x_p_everRight x_p_opening x_p_rows x_p_rowCount x_p_acts x_p_marks x_p_deepest x_p_wanted x_t_length x_t_tape x_t_words x_t_places x_t_at x_t_kinds x_t_wills x_t_starts x_t_code x_t_count x_t_size x_h_sorts x_h_lengths x_h_items x_h_held x_h_things x_h_sizes x_h_bodies x_h_traced x_h_number x_h_spot x_h_parted x_g_count x_g_kinds x_g_wills x_g_starts x_g_code x_g_stack x_g_kl x_g_wl x_g_sl x_g_cl x_nr) H locs → lv_has ls 4 [(0, .ref (a 1)), (1, .int v1), (2, .int v2)] → (∀ (H : Heap) (locs : List Loc) (ls : Array Slot), Wd D A s (cW a ar t x_q0_dials x_q0_spots x_q0_skies x_q0_reports x_q0_count x_q0_chime x_q0_end x_q0_score x_q0_reportCount x_q0_z x_q0_rules o.2 x_q0_facts x_q1_dials x_q1_spots x_q1_skies x_q1_reports x_q1_count x_q1_chime x_q1_end x_q1_score x_q1_reportCount x_q1_z x_q1_rules x_q1_shades x_q1_facts x_q2_dials x_q2_spots x_q2_skies x_q2_reports x_q2_count x_q2_chime x_q2_end x_q2_score x_q2_reportCount x_q2_z x_q2_rules x_q2_shades x_q2_facts x_isKept x_marks x_p_first x_p_steps x_p_most x_p_many x_p_fewest x_p_everRight x_p_opening x_p_rows x_p_rowCount x_p_acts x_p_marks x_p_deepest x_p_wanted x_t_length x_t_tape x_t_words x_t_places x_t_at x_t_kinds x_t_wills x_t_starts x_t_code x_t_count x_t_size x_h_sorts x_h_lengths x_h_items x_h_held x_h_things x_h_sizes x_h_bodies x_h_traced x_h_number x_h_spot x_h_parted x_g_count x_g_kinds x_g_wills x_g_starts x_g_code x_g_stack x_g_kl x_g_wl x_g_sl x_g_cl x_nr) H locs → lv_has ls 4 [(0, .ref (a 1)), (1, .int v1), (2, .int o.1)] → W p l e (rmz 4 0 0) s m args below meth c H locs 0 0 Q (F0 m 94 ls [])) → W p l e (rmz 4 0 0) s m args below meth c H locs 0 0 Q (F0 m 41 ls []) := by
    clear hf ho13 hw hl
    intro k
    induction k with
    | zero => intro v1 v2 x_q0_shades H locs ls o hf hw hl kx; simp [X9_measureShades_q0_L2] at hf
    | succ k ih =>
      intro v1 v2 x_q0_shades H locs ls o hf hw hl kx
      rw [X9_measureShades_q0_L2] at hf
      refine lv_iload_n hx hb dX9_measureShades_41 rfl (lv_at hl 2 rfl) ?_
      refine lv_aload_n hx hb dX9_measureShades_42 rfl (lv_at hl 0 rfl) ?_
      refine cg_X9_59_q0 cx hw dX9_measureShades_43 ?_
      refine lv_icmp_ge (tgt := 94) hx hb dX9_measureShades_46 (by decide) (fun hc => ?_) (fun hc => ?_)
      · have hf := ifT hf hc
        have hf := Option.some.inj hf
        subst hf
        exact kx _ _ _ hw (lv_sub hl [0, 1, 2] rfl)
      · have hf := ifF hf hc
        refine lv_aload_n hx hb dX9_measureShades_49 rfl (lv_at hl 0 rfl) ?_
        refine cg_X9_11_q0 cx hw dX9_measureShades_50 ?_
        refine lv_iload_n hx hb dX9_measureShades_53 rfl (lv_at hl 2 rfl) ?_
        obtain ⟨h6, hf⟩ := ckS hf
        refine co_q0_dials (j := v2.toNatClampNeg) cx hw (ib_in h6) rfl dX9_measureShades_54 ?_
        refine lv_iconst (v := 3) hx hb dX9_measureShades_55 (by decide) ?_
        refine cm_q0_dials (j := 3) cx hw (ib_lt h6) (ib_in (by decide)) (by decide) dX9_measureShades_56 ?_
        refine lv_iconst (v := 1) hx hb dX9_measureShades_57 (by decide) ?_
        refine lv_iadd hx hb dX9_measureShades_58 ?_
        refine lv_istore_n (lv' := [(3, .int ((x_q0_dials v2.toNatClampNeg 3) + (1 : Int32))), (0, .ref (a 1)), (1, .int v1), (2, .int v2)]) hx hb dX9_measureShades_59 rfl hl (by decide) rfl (fun ls hl => ?_)
        refine lv_iload_n hx hb dX9_measureShades_60 rfl (lv_at hl 0 rfl) ?_
        refine lv_bipush (v := 6) hx hb dX9_measureShades_61 (by decide) ?_
        obtain ⟨j12, hj12, hf⟩ := bnS hf
        have wj12 : ∀ (H : Heap) (locs : List Loc) (ls : Array Slot), Wd D A s (cW a ar t x_q0_dials x_q0_spots x_q0_skies x_q0_reports x_q0_count x_q0_chime x_q0_end x_q0_score x_q0_reportCount x_q0_z x_q0_rules j12 x_q0_facts x_q1_dials x_q1_spots x_q1_skies x_q1_reports x_q1_count x_q1_chime x_q1_end x_q1_score x_q1_reportCount x_q1_z x_q1_rules x_q1_shades x_q1_facts x_q2_dials x_q2_spots x_q2_skies x_q2_reports x_q2_count x_q2_chime x_q2_end x_q2_score x_q2_reportCount x_q2_z x_q2_rules x_q2_shades x_q2_facts x_isKept x_marks x_p_first x_p_steps x_p_most x_p_many x_p_fewest x_p_everRight x_p_opening x_p_rows x_p_rowCount x_p_acts x_p_marks x_p_deepest x_p_wanted x_t_length x_t_tape x_t_words x_t_places x_t_at x_t_kinds x_t_wills x_t_starts x_t_code x_t_count x_t_size x_h_sorts x_h_lengths x_h_items x_h_held x_h_things x_h_sizes x_h_bodies x_h_traced x_h_number x_h_spot x_h_parted x_g_count x_g_kinds x_g_wills x_g_starts x_g_code x_g_stack x_g_kl x_g_wl x_g_sl x_g_cl x_nr) H locs → lv_has ls 4 [(0, .ref (a 1)), (1, .int v1), (2, .int v2), (3, .int ((x_q0_dials v2.toNatClampNeg 3) + (1 : Int32)))] → W p l e (rmz 4 0 0) s m args below meth c H locs 0 0 Q (F0 m 88 ls []) := by
          intro H locs ls hw hl
          refine lv_iinc (v := (v2 + (1 : Int32))) (lv' := [(2, .int (v2 + (1 : Int32))), (0, .ref (a 1)), (1, .int v1), (3, .int ((x_q0_dials v2.toNatClampNeg 3) + (1 : Int32)))]) hx hb dX9_measureShades_88 hl (k := 2) rfl rfl (by decide) rfl (fun ls hl => ?_)
          refine lv_goto (tgt := 41) hx hb dX9_measureShades_91 (by decide) ?_
          exact ih hf hw (lv_sub hl [1, 2, 0] rfl) kx
        clear hf
        have hf := hj12
        clear hj12
        refine lv_icmp_ge (tgt := 88) hx hb dX9_measureShades_63 (by decide) (fun hc => ?_) (fun hc => ?_)
        · have hf := ifT hf hc
          have hf := Option.some.inj hf
          subst hf
          exact wj12 _ _ _ hw (lv_sub hl [1, 2, 3, 0] rfl)
        · have hf := ifF hf hc
          refine lv_aload_n hx hb dX9_measureShades_66 rfl (lv_at hl 1 rfl) ?_
          refine cg_X9_33_q0 cx hw dX9_measureShades_67 ?_
          refine lv_iload_n hx hb dX9_measureShades_70 rfl (lv_at hl 0 rfl) ?_
          refine lv_dup2_11 hx hb dX9_measureShades_71 rfl rfl ?_
          obtain ⟨h7, hf⟩ := ckS hf
          refine cl_q0_shades (j := ((x_q0_dials v2.toNatClampNeg 3) + (1 : Int32)).toNatClampNeg) cx hw (ib_in h7) rfl dX9_measureShades_72 ?_
          refine lv_aload_n hx hb dX9_measureShades_73 rfl (lv_at hl 1 rfl) ?_
          refine lv_iload_n hx hb dX9_measureShades_74 rfl (lv_at hl 3 rfl) ?_
          obtain ⟨r8, h9, hf⟩ := bnS hf
          refine calVa cx hw hl.1 (c_X9_kindOf_q0 h9) q_372 k_X9_kindOf rfl rv_q0 rfl dX9_measureShades_75 rfl (Nat.le_of_ble_eq_true rfl) ⟨Nat.le_of_ble_eq_true rfl, Nat.le_of_ble_eq_true rfl⟩ ⟨Nat.le_refl _, Nat.le_refl _⟩ (fun H locs hw => ?_)
          obtain ⟨h10, hf⟩ := ckS hf
          refine lv_iload_n hx hb dX9_measureShades_78 rfl (lv_at hl 2 rfl) ?_
          refine lv_aload_n hx hb dX9_measureShades_79 rfl (lv_at hl 1 rfl) ?_
          refine cg_X9_62_q0 cx hw dX9_measureShades_80 ?_
          refine vr_shades_X9_83 cx hw hl.1 (dc h10) dX9_measureShades_83 (Nat.le_of_ble_eq_true rfl) (Nat.le_of_ble_eq_true rfl) (Nat.le_of_ble_eq_true rfl) ⟨Nat.le_refl _, Nat.le_refl _⟩ (fun H locs hw => ?_)
          refine lv_iadd hx hb dX9_measureShades_86 ?_
          obtain ⟨h11, hf⟩ := ckS hf
          refine cs_q0_shades (j := ((x_q0_dials v2.toNatClampNeg 3) + (1 : Int32)).toNatClampNeg) cx hw (ib_in h11) rfl dX9_measureShades_87 (fun H locs hw => ?_)
          have hf := Option.some.inj hf
          subst hf
          exact wj12 _ _ _ hw (lv_sub hl [1, 2, 3, 0] rfl)
  refine wL2 n ho13 hw (lv_sub hl [2, 1, 0] rfl) (fun H locs ls hw hl => ?_)
  clear wL2 ho13
  have hf := Option.some.inj hf
  subst hf
  exact hR _ _ _ _ _ hw ⟨rfl, rfl⟩ dX9_measureShades_94
theorem dX0_slips_0 : decode cX0_slips 0 = .ok (.iload_n 1, 1) := by decide +kernel
theorem dX0_slips_1 : decode cX0_slips 1 = .ok (.iconst 1, 1) := by decide +kernel
theorem dX0_slips_2 : decode cX0_slips 2 = .ok (.iadd, 1) := by decide +kernel
theorem dX0_slips_3 : decode cX0_slips 3 = .ok (.iload_n 2, 1) := by decide +kernel
theorem dX0_slips_4 : decode cX0_slips 4 = .ok (.if_icmp .le 11, 3) := by decide +kernel
theorem dX0_slips_7 : decode cX0_slips 7 = .ok (.iload_n 1, 1) := by decide +kernel
theorem dX0_slips_8 : decode cX0_slips 8 = .ok (.iconst 1, 1) := by decide +kernel
theorem dX0_slips_9 : decode cX0_slips 9 = .ok (.iadd, 1) := by decide +kernel
theorem dX0_slips_10 : decode cX0_slips 10 = .ok (.iload_n 2, 1) := by decide +kernel
theorem dX0_slips_11 : decode cX0_slips 11 = .ok (.isub, 1) := by decide +kernel
theorem dX0_slips_12 : decode cX0_slips 12 = .ok (.goto 4, 3) := by decide +kernel
theorem dX0_slips_15 : decode cX0_slips 15 = .ok (.iconst 0, 1) := by decide +kernel
theorem dX0_slips_16 : decode cX0_slips 16 = .ok (.ireturn, 1) := by decide +kernel
theorem k_X0_slips : MV yX0_slips cX0_slips 3 (some .int) 2 := ⟨q_412, q_413, q_4, q_434, ⟨by decide, by decide, by decide +kernel⟩⟩
theorem c_X0_slips_k0 {v1 : Int32} {v2 : Int32} {res : Int32} (hf : X0_slips_k0 v1 v2 = res) : MC l E0 D t yX0_slips cX0_slips 3 (some .int) 1 0 0 [.ref (a (78 + 0)), .int v1, .int v2] (cW a ar t x_q0_dials x_q0_spots x_q0_skies x_q0_reports x_q0_count x_q0_chime x_q0_end x_q0_score x_q0_reportCount x_q0_z x_q0_rules x_q0_shades x_q0_facts x_q1_dials x_q1_spots x_q1_skies x_q1_reports x_q1_count x_q1_chime x_q1_end x_q1_score x_q1_reportCount x_q1_z x_q1_rules x_q1_shades x_q1_facts x_q2_dials x_q2_spots x_q2_skies x_q2_reports x_q2_count x_q2_chime x_q2_end x_q2_score x_q2_reportCount x_q2_z x_q2_rules x_q2_shades x_q2_facts x_isKept x_marks x_p_first x_p_steps x_p_most x_p_many x_p_fewest x_p_everRight x_p_opening x_p_rows x_p_rowCount x_p_acts x_p_marks x_p_deepest x_p_wanted x_t_length x_t_tape x_t_words x_t_places x_t_at x_t_kinds x_t_wills x_t_starts x_t_code x_t_count x_t_size x_h_sorts x_h_lengths x_h_items x_h_held x_h_things x_h_sizes x_h_bodies x_h_traced x_h_number x_h_spot x_h_parted x_g_count x_g_kinds x_g_wills x_g_starts x_g_code x_g_stack x_g_kl x_g_wl x_g_sl x_g_cl x_nr) (Qi res (cW a ar t x_q0_dials x_q0_spots x_q0_skies x_q0_reports x_q0_count x_q0_chime x_q0_end x_q0_score x_q0_reportCount x_q0_z x_q0_rules x_q0_shades x_q0_facts x_q1_dials x_q1_spots x_q1_skies x_q1_reports x_q1_count x_q1_chime x_q1_end x_q1_score x_q1_reportCount x_q1_z x_q1_rules x_q1_shades x_q1_facts x_q2_dials x_q2_spots x_q2_skies x_q2_reports x_q2_count x_q2_chime x_q2_end x_q2_score x_q2_reportCount x_q2_z x_q2_rules x_q2_shades x_q2_facts x_isKept x_marks x_p_first x_p_steps x_p_most x_p_many x_p_fewest x_p_everRight x_p_opening x_p_rows x_p_rowCount x_p_acts x_p_marks x_p_deepest x_p_wanted x_t_length x_t_tape x_t_words x_t_places x_t_at x_t_kinds x_t_wills x_t_starts x_t_code x_t_count x_t_size x_h_sorts x_h_lengths x_h_items x_h_held x_h_things x_h_sizes x_h_bodies x_h_traced x_h_number x_h_spot x_h_parted x_g_count x_g_kinds x_g_wills x_g_starts x_g_code x_g_stack x_g_kl x_g_wl x_g_sl x_g_cl x_nr)) := by
  unfold X0_slips_k0 at hf
  refine MC.ofI pn_X0 (Nat.le_of_ble_eq_true rfl) ?_
  intro p e s m args below meth c A Q ls cx hR hw hl
  have hx := cx.1
  have hb := cx.2.1
  have hl : lv_has ls 3 [(0, .ref (a (78 + 0))), (1, .int v1), (2, .int v2)] := hl
  refine lv_iload_n hx hb dX0_slips_0 rfl (lv_at hl 1 rfl) ?_
  refine lv_iconst (v := 1) hx hb dX0_slips_1 (by decide) ?_
  refine lv_iadd hx hb dX0_slips_2 ?_
  refine lv_iload_n hx hb dX0_slips_3 rfl (lv_at hl 2 rfl) ?_
  refine lv_icmp_le (tgt := 15) hx hb dX0_slips_4 (by decide) (fun hc => ?_) (fun hc => ?_)
  · have hf := ifT hf hc
    refine lv_iconst (v := 0) hx hb dX0_slips_15 (by decide) ?_
    subst hf
    exact hR _ _ _ _ _ _ hw rfl ⟨rfl, rfl⟩ dX0_slips_16
  · have hf := ifF hf hc
    refine lv_iload_n hx hb dX0_slips_7 rfl (lv_at hl 1 rfl) ?_
    refine lv_iconst (v := 1) hx hb dX0_slips_8 (by decide) ?_
    refine lv_iadd hx hb dX0_slips_9 ?_
    refine lv_iload_n hx hb dX0_slips_10 rfl (lv_at hl 2 rfl) ?_
    refine lv_isub hx hb dX0_slips_11 ?_
    refine lv_goto (tgt := 16) hx hb dX0_slips_12 (by decide) ?_
    subst hf
    exact hR _ _ _ _ _ _ hw rfl ⟨rfl, rfl⟩ dX0_slips_16
theorem dX4_slips_0 : decode cX4_slips 0 = .ok (.iconst 0, 1) := by decide +kernel
theorem dX4_slips_1 : decode cX4_slips 1 = .ok (.ireturn, 1) := by decide +kernel
theorem c_X4_slips_k1 {v1 : Int32} {v2 : Int32} {res : Int32} (hf : X4_slips_k1 v1 v2 = res) : MC l E0 D t yX4_slips cX4_slips 3 (some .int) 1 0 0 [.ref (a (78 + 1)), .int v1, .int v2] (cW a ar t x_q0_dials x_q0_spots x_q0_skies x_q0_reports x_q0_count x_q0_chime x_q0_end x_q0_score x_q0_reportCount x_q0_z x_q0_rules x_q0_shades x_q0_facts x_q1_dials x_q1_spots x_q1_skies x_q1_reports x_q1_count x_q1_chime x_q1_end x_q1_score x_q1_reportCount x_q1_z x_q1_rules x_q1_shades x_q1_facts x_q2_dials x_q2_spots x_q2_skies x_q2_reports x_q2_count x_q2_chime x_q2_end x_q2_score x_q2_reportCount x_q2_z x_q2_rules x_q2_shades x_q2_facts x_isKept x_marks x_p_first x_p_steps x_p_most x_p_many x_p_fewest x_p_everRight x_p_opening x_p_rows x_p_rowCount x_p_acts x_p_marks x_p_deepest x_p_wanted x_t_length x_t_tape x_t_words x_t_places x_t_at x_t_kinds x_t_wills x_t_starts x_t_code x_t_count x_t_size x_h_sorts x_h_lengths x_h_items x_h_held x_h_things x_h_sizes x_h_bodies x_h_traced x_h_number x_h_spot x_h_parted x_g_count x_g_kinds x_g_wills x_g_starts x_g_code x_g_stack x_g_kl x_g_wl x_g_sl x_g_cl x_nr) (Qi res (cW a ar t x_q0_dials x_q0_spots x_q0_skies x_q0_reports x_q0_count x_q0_chime x_q0_end x_q0_score x_q0_reportCount x_q0_z x_q0_rules x_q0_shades x_q0_facts x_q1_dials x_q1_spots x_q1_skies x_q1_reports x_q1_count x_q1_chime x_q1_end x_q1_score x_q1_reportCount x_q1_z x_q1_rules x_q1_shades x_q1_facts x_q2_dials x_q2_spots x_q2_skies x_q2_reports x_q2_count x_q2_chime x_q2_end x_q2_score x_q2_reportCount x_q2_z x_q2_rules x_q2_shades x_q2_facts x_isKept x_marks x_p_first x_p_steps x_p_most x_p_many x_p_fewest x_p_everRight x_p_opening x_p_rows x_p_rowCount x_p_acts x_p_marks x_p_deepest x_p_wanted x_t_length x_t_tape x_t_words x_t_places x_t_at x_t_kinds x_t_wills x_t_starts x_t_code x_t_count x_t_size x_h_sorts x_h_lengths x_h_items x_h_held x_h_things x_h_sizes x_h_bodies x_h_traced x_h_number x_h_spot x_h_parted x_g_count x_g_kinds x_g_wills x_g_starts x_g_code x_g_stack x_g_kl x_g_wl x_g_sl x_g_cl x_nr)) := by
  unfold X4_slips_k1 at hf
  refine MC.ofI pn_X4 (Nat.le_of_ble_eq_true rfl) ?_
  intro p e s m args below meth c A Q ls cx hR hw hl
  have hx := cx.1
  have hb := cx.2.1
  have hl : lv_has ls 3 [(0, .ref (a (78 + 1))), (1, .int v1), (2, .int v2)] := hl
  refine lv_iconst (v := 0) hx hb dX4_slips_0 (by decide) ?_
  subst hf
  exact hR _ _ _ _ _ _ hw rfl ⟨rfl, rfl⟩ dX4_slips_1
theorem c_X0_slips_k2 {v1 : Int32} {v2 : Int32} {res : Int32} (hf : X0_slips_k2 v1 v2 = res) : MC l E0 D t yX0_slips cX0_slips 3 (some .int) 1 0 0 [.ref (a (78 + 2)), .int v1, .int v2] (cW a ar t x_q0_dials x_q0_spots x_q0_skies x_q0_reports x_q0_count x_q0_chime x_q0_end x_q0_score x_q0_reportCount x_q0_z x_q0_rules x_q0_shades x_q0_facts x_q1_dials x_q1_spots x_q1_skies x_q1_reports x_q1_count x_q1_chime x_q1_end x_q1_score x_q1_reportCount x_q1_z x_q1_rules x_q1_shades x_q1_facts x_q2_dials x_q2_spots x_q2_skies x_q2_reports x_q2_count x_q2_chime x_q2_end x_q2_score x_q2_reportCount x_q2_z x_q2_rules x_q2_shades x_q2_facts x_isKept x_marks x_p_first x_p_steps x_p_most x_p_many x_p_fewest x_p_everRight x_p_opening x_p_rows x_p_rowCount x_p_acts x_p_marks x_p_deepest x_p_wanted x_t_length x_t_tape x_t_words x_t_places x_t_at x_t_kinds x_t_wills x_t_starts x_t_code x_t_count x_t_size x_h_sorts x_h_lengths x_h_items x_h_held x_h_things x_h_sizes x_h_bodies x_h_traced x_h_number x_h_spot x_h_parted x_g_count x_g_kinds x_g_wills x_g_starts x_g_code x_g_stack x_g_kl x_g_wl x_g_sl x_g_cl x_nr) (Qi res (cW a ar t x_q0_dials x_q0_spots x_q0_skies x_q0_reports x_q0_count x_q0_chime x_q0_end x_q0_score x_q0_reportCount x_q0_z x_q0_rules x_q0_shades x_q0_facts x_q1_dials x_q1_spots x_q1_skies x_q1_reports x_q1_count x_q1_chime x_q1_end x_q1_score x_q1_reportCount x_q1_z x_q1_rules x_q1_shades x_q1_facts x_q2_dials x_q2_spots x_q2_skies x_q2_reports x_q2_count x_q2_chime x_q2_end x_q2_score x_q2_reportCount x_q2_z x_q2_rules x_q2_shades x_q2_facts x_isKept x_marks x_p_first x_p_steps x_p_most x_p_many x_p_fewest x_p_everRight x_p_opening x_p_rows x_p_rowCount x_p_acts x_p_marks x_p_deepest x_p_wanted x_t_length x_t_tape x_t_words x_t_places x_t_at x_t_kinds x_t_wills x_t_starts x_t_code x_t_count x_t_size x_h_sorts x_h_lengths x_h_items x_h_held x_h_things x_h_sizes x_h_bodies x_h_traced x_h_number x_h_spot x_h_parted x_g_count x_g_kinds x_g_wills x_g_starts x_g_code x_g_stack x_g_kl x_g_wl x_g_sl x_g_cl x_nr)) := by
  unfold X0_slips_k2 at hf
  refine MC.ofI pn_X0 (Nat.le_of_ble_eq_true rfl) ?_
  intro p e s m args below meth c A Q ls cx hR hw hl
  have hx := cx.1
  have hb := cx.2.1
  have hl : lv_has ls 3 [(0, .ref (a (78 + 2))), (1, .int v1), (2, .int v2)] := hl
  refine lv_iload_n hx hb dX0_slips_0 rfl (lv_at hl 1 rfl) ?_
  refine lv_iconst (v := 1) hx hb dX0_slips_1 (by decide) ?_
  refine lv_iadd hx hb dX0_slips_2 ?_
  refine lv_iload_n hx hb dX0_slips_3 rfl (lv_at hl 2 rfl) ?_
  refine lv_icmp_le (tgt := 15) hx hb dX0_slips_4 (by decide) (fun hc => ?_) (fun hc => ?_)
  · have hf := ifT hf hc
    refine lv_iconst (v := 0) hx hb dX0_slips_15 (by decide) ?_
    subst hf
    exact hR _ _ _ _ _ _ hw rfl ⟨rfl, rfl⟩ dX0_slips_16
  · have hf := ifF hf hc
    refine lv_iload_n hx hb dX0_slips_7 rfl (lv_at hl 1 rfl) ?_
    refine lv_iconst (v := 1) hx hb dX0_slips_8 (by decide) ?_
    refine lv_iadd hx hb dX0_slips_9 ?_
    refine lv_iload_n hx hb dX0_slips_10 rfl (lv_at hl 2 rfl) ?_
    refine lv_isub hx hb dX0_slips_11 ?_
    refine lv_goto (tgt := 16) hx hb dX0_slips_12 (by decide) ?_
    subst hf
    exact hR _ _ _ _ _ _ hw rfl ⟨rfl, rfl⟩ dX0_slips_16
theorem dX10_slips_0 : decode cX10_slips 0 = .ok (.aload_n 0, 1) := by decide +kernel
theorem dX10_slips_1 : decode cX10_slips 1 = .ok (.iload_n 1, 1) := by decide +kernel
theorem dX10_slips_2 : decode cX10_slips 2 = .ok (.iload_n 2, 1) := by decide +kernel
theorem dX10_slips_3 : decode cX10_slips 3 = .ok (.invokespecial 11, 3) := by decide +kernel
theorem dX10_slips_6 : decode cX10_slips 6 = .ok (.iconst 2, 1) := by decide +kernel
theorem dX10_slips_7 : decode cX10_slips 7 = .ok (.idiv, 1) := by decide +kernel
theorem dX10_slips_8 : decode cX10_slips 8 = .ok (.ireturn, 1) := by decide +kernel
theorem c_X10_slips_k2 {v1 : Int32} {v2 : Int32} {res : Int32} (hf : X10_slips_k2 v1 v2 = res) : MC l E0 D t yX10_slips cX10_slips 3 (some .int) 2 0 0 [.ref (a (78 + 2)), .int v1, .int v2] (cW a ar t x_q0_dials x_q0_spots x_q0_skies x_q0_reports x_q0_count x_q0_chime x_q0_end x_q0_score x_q0_reportCount x_q0_z x_q0_rules x_q0_shades x_q0_facts x_q1_dials x_q1_spots x_q1_skies x_q1_reports x_q1_count x_q1_chime x_q1_end x_q1_score x_q1_reportCount x_q1_z x_q1_rules x_q1_shades x_q1_facts x_q2_dials x_q2_spots x_q2_skies x_q2_reports x_q2_count x_q2_chime x_q2_end x_q2_score x_q2_reportCount x_q2_z x_q2_rules x_q2_shades x_q2_facts x_isKept x_marks x_p_first x_p_steps x_p_most x_p_many x_p_fewest x_p_everRight x_p_opening x_p_rows x_p_rowCount x_p_acts x_p_marks x_p_deepest x_p_wanted x_t_length x_t_tape x_t_words x_t_places x_t_at x_t_kinds x_t_wills x_t_starts x_t_code x_t_count x_t_size x_h_sorts x_h_lengths x_h_items x_h_held x_h_things x_h_sizes x_h_bodies x_h_traced x_h_number x_h_spot x_h_parted x_g_count x_g_kinds x_g_wills x_g_starts x_g_code x_g_stack x_g_kl x_g_wl x_g_sl x_g_cl x_nr) (Qi res (cW a ar t x_q0_dials x_q0_spots x_q0_skies x_q0_reports x_q0_count x_q0_chime x_q0_end x_q0_score x_q0_reportCount x_q0_z x_q0_rules x_q0_shades x_q0_facts x_q1_dials x_q1_spots x_q1_skies x_q1_reports x_q1_count x_q1_chime x_q1_end x_q1_score x_q1_reportCount x_q1_z x_q1_rules x_q1_shades x_q1_facts x_q2_dials x_q2_spots x_q2_skies x_q2_reports x_q2_count x_q2_chime x_q2_end x_q2_score x_q2_reportCount x_q2_z x_q2_rules x_q2_shades x_q2_facts x_isKept x_marks x_p_first x_p_steps x_p_most x_p_many x_p_fewest x_p_everRight x_p_opening x_p_rows x_p_rowCount x_p_acts x_p_marks x_p_deepest x_p_wanted x_t_length x_t_tape x_t_words x_t_places x_t_at x_t_kinds x_t_wills x_t_starts x_t_code x_t_count x_t_size x_h_sorts x_h_lengths x_h_items x_h_held x_h_things x_h_sizes x_h_bodies x_h_traced x_h_number x_h_spot x_h_parted x_g_count x_g_kinds x_g_wills x_g_starts x_g_code x_g_stack x_g_kl x_g_wl x_g_sl x_g_cl x_nr)) := by
  unfold X10_slips_k2 at hf
  refine MC.ofI pn_X10 (Nat.le_of_ble_eq_true rfl) ?_
  intro p e s m args below meth c A Q ls cx hR hw hl
  have hx := cx.1
  have hb := cx.2.1
  have hl : lv_has ls 3 [(0, .ref (a (78 + 2))), (1, .int v1), (2, .int v2)] := hl
  refine lv_aload_n hx hb dX10_slips_0 rfl (lv_at hl 0 rfl) ?_
  refine lv_iload_n hx hb dX10_slips_1 rfl (lv_at hl 1 rfl) ?_
  refine lv_iload_n hx hb dX10_slips_2 rfl (lv_at hl 2 rfl) ?_
  refine calSUi cx hw hl.1 (c_X0_slips_k2 rfl) ws_X10_11 q_434 hs_X0_slips rfl rv_k2 rfl dX10_slips_3 rfl (Nat.le_of_ble_eq_true rfl) ⟨Nat.le_of_ble_eq_true rfl, Nat.le_of_ble_eq_true rfl⟩ ⟨Nat.le_refl _, Nat.le_refl _⟩ (fun H locs hw => ?_)
  refine lv_iconst (v := 2) hx hb dX10_slips_6 (by decide) ?_
  refine lv_idiv hx hb dX10_slips_7 (by decide) ?_
  subst hf
  exact hR _ _ _ _ _ _ hw rfl ⟨rfl, rfl⟩ dX10_slips_8
theorem c_X0_slips_k3 {v1 : Int32} {v2 : Int32} {res : Int32} (hf : X0_slips_k3 v1 v2 = res) : MC l E0 D t yX0_slips cX0_slips 3 (some .int) 1 0 0 [.ref (a (78 + 3)), .int v1, .int v2] (cW a ar t x_q0_dials x_q0_spots x_q0_skies x_q0_reports x_q0_count x_q0_chime x_q0_end x_q0_score x_q0_reportCount x_q0_z x_q0_rules x_q0_shades x_q0_facts x_q1_dials x_q1_spots x_q1_skies x_q1_reports x_q1_count x_q1_chime x_q1_end x_q1_score x_q1_reportCount x_q1_z x_q1_rules x_q1_shades x_q1_facts x_q2_dials x_q2_spots x_q2_skies x_q2_reports x_q2_count x_q2_chime x_q2_end x_q2_score x_q2_reportCount x_q2_z x_q2_rules x_q2_shades x_q2_facts x_isKept x_marks x_p_first x_p_steps x_p_most x_p_many x_p_fewest x_p_everRight x_p_opening x_p_rows x_p_rowCount x_p_acts x_p_marks x_p_deepest x_p_wanted x_t_length x_t_tape x_t_words x_t_places x_t_at x_t_kinds x_t_wills x_t_starts x_t_code x_t_count x_t_size x_h_sorts x_h_lengths x_h_items x_h_held x_h_things x_h_sizes x_h_bodies x_h_traced x_h_number x_h_spot x_h_parted x_g_count x_g_kinds x_g_wills x_g_starts x_g_code x_g_stack x_g_kl x_g_wl x_g_sl x_g_cl x_nr) (Qi res (cW a ar t x_q0_dials x_q0_spots x_q0_skies x_q0_reports x_q0_count x_q0_chime x_q0_end x_q0_score x_q0_reportCount x_q0_z x_q0_rules x_q0_shades x_q0_facts x_q1_dials x_q1_spots x_q1_skies x_q1_reports x_q1_count x_q1_chime x_q1_end x_q1_score x_q1_reportCount x_q1_z x_q1_rules x_q1_shades x_q1_facts x_q2_dials x_q2_spots x_q2_skies x_q2_reports x_q2_count x_q2_chime x_q2_end x_q2_score x_q2_reportCount x_q2_z x_q2_rules x_q2_shades x_q2_facts x_isKept x_marks x_p_first x_p_steps x_p_most x_p_many x_p_fewest x_p_everRight x_p_opening x_p_rows x_p_rowCount x_p_acts x_p_marks x_p_deepest x_p_wanted x_t_length x_t_tape x_t_words x_t_places x_t_at x_t_kinds x_t_wills x_t_starts x_t_code x_t_count x_t_size x_h_sorts x_h_lengths x_h_items x_h_held x_h_things x_h_sizes x_h_bodies x_h_traced x_h_number x_h_spot x_h_parted x_g_count x_g_kinds x_g_wills x_g_starts x_g_code x_g_stack x_g_kl x_g_wl x_g_sl x_g_cl x_nr)) := by
  unfold X0_slips_k3 at hf
  refine MC.ofI pn_X0 (Nat.le_of_ble_eq_true rfl) ?_
  intro p e s m args below meth c A Q ls cx hR hw hl
  have hx := cx.1
  have hb := cx.2.1
  have hl : lv_has ls 3 [(0, .ref (a (78 + 3))), (1, .int v1), (2, .int v2)] := hl
  refine lv_iload_n hx hb dX0_slips_0 rfl (lv_at hl 1 rfl) ?_
  refine lv_iconst (v := 1) hx hb dX0_slips_1 (by decide) ?_
  refine lv_iadd hx hb dX0_slips_2 ?_
  refine lv_iload_n hx hb dX0_slips_3 rfl (lv_at hl 2 rfl) ?_
  refine lv_icmp_le (tgt := 15) hx hb dX0_slips_4 (by decide) (fun hc => ?_) (fun hc => ?_)
  · have hf := ifT hf hc
    refine lv_iconst (v := 0) hx hb dX0_slips_15 (by decide) ?_
    subst hf
    exact hR _ _ _ _ _ _ hw rfl ⟨rfl, rfl⟩ dX0_slips_16
  · have hf := ifF hf hc
    refine lv_iload_n hx hb dX0_slips_7 rfl (lv_at hl 1 rfl) ?_
    refine lv_iconst (v := 1) hx hb dX0_slips_8 (by decide) ?_
    refine lv_iadd hx hb dX0_slips_9 ?_
    refine lv_iload_n hx hb dX0_slips_10 rfl (lv_at hl 2 rfl) ?_
    refine lv_isub hx hb dX0_slips_11 ?_
    refine lv_goto (tgt := 16) hx hb dX0_slips_12 (by decide) ?_
    subst hf
    exact hR _ _ _ _ _ _ hw rfl ⟨rfl, rfl⟩ dX0_slips_16
theorem c_X10_slips_k3 {v1 : Int32} {v2 : Int32} {res : Int32} (hf : X10_slips_k3 v1 v2 = res) : MC l E0 D t yX10_slips cX10_slips 3 (some .int) 2 0 0 [.ref (a (78 + 3)), .int v1, .int v2] (cW a ar t x_q0_dials x_q0_spots x_q0_skies x_q0_reports x_q0_count x_q0_chime x_q0_end x_q0_score x_q0_reportCount x_q0_z x_q0_rules x_q0_shades x_q0_facts x_q1_dials x_q1_spots x_q1_skies x_q1_reports x_q1_count x_q1_chime x_q1_end x_q1_score x_q1_reportCount x_q1_z x_q1_rules x_q1_shades x_q1_facts x_q2_dials x_q2_spots x_q2_skies x_q2_reports x_q2_count x_q2_chime x_q2_end x_q2_score x_q2_reportCount x_q2_z x_q2_rules x_q2_shades x_q2_facts x_isKept x_marks x_p_first x_p_steps x_p_most x_p_many x_p_fewest x_p_everRight x_p_opening x_p_rows x_p_rowCount x_p_acts x_p_marks x_p_deepest x_p_wanted x_t_length x_t_tape x_t_words x_t_places x_t_at x_t_kinds x_t_wills x_t_starts x_t_code x_t_count x_t_size x_h_sorts x_h_lengths x_h_items x_h_held x_h_things x_h_sizes x_h_bodies x_h_traced x_h_number x_h_spot x_h_parted x_g_count x_g_kinds x_g_wills x_g_starts x_g_code x_g_stack x_g_kl x_g_wl x_g_sl x_g_cl x_nr) (Qi res (cW a ar t x_q0_dials x_q0_spots x_q0_skies x_q0_reports x_q0_count x_q0_chime x_q0_end x_q0_score x_q0_reportCount x_q0_z x_q0_rules x_q0_shades x_q0_facts x_q1_dials x_q1_spots x_q1_skies x_q1_reports x_q1_count x_q1_chime x_q1_end x_q1_score x_q1_reportCount x_q1_z x_q1_rules x_q1_shades x_q1_facts x_q2_dials x_q2_spots x_q2_skies x_q2_reports x_q2_count x_q2_chime x_q2_end x_q2_score x_q2_reportCount x_q2_z x_q2_rules x_q2_shades x_q2_facts x_isKept x_marks x_p_first x_p_steps x_p_most x_p_many x_p_fewest x_p_everRight x_p_opening x_p_rows x_p_rowCount x_p_acts x_p_marks x_p_deepest x_p_wanted x_t_length x_t_tape x_t_words x_t_places x_t_at x_t_kinds x_t_wills x_t_starts x_t_code x_t_count x_t_size x_h_sorts x_h_lengths x_h_items x_h_held x_h_things x_h_sizes x_h_bodies x_h_traced x_h_number x_h_spot x_h_parted x_g_count x_g_kinds x_g_wills x_g_starts x_g_code x_g_stack x_g_kl x_g_wl x_g_sl x_g_cl x_nr)) := by
  unfold X10_slips_k3 at hf
  refine MC.ofI pn_X10 (Nat.le_of_ble_eq_true rfl) ?_
  intro p e s m args below meth c A Q ls cx hR hw hl
  have hx := cx.1
  have hb := cx.2.1
  have hl : lv_has ls 3 [(0, .ref (a (78 + 3))), (1, .int v1), (2, .int v2)] := hl
  refine lv_aload_n hx hb dX10_slips_0 rfl (lv_at hl 0 rfl) ?_
  refine lv_iload_n hx hb dX10_slips_1 rfl (lv_at hl 1 rfl) ?_
  refine lv_iload_n hx hb dX10_slips_2 rfl (lv_at hl 2 rfl) ?_
  refine calSUi cx hw hl.1 (c_X0_slips_k3 rfl) ws_X10_11 q_434 hs_X0_slips rfl rv_k3 rfl dX10_slips_3 rfl (Nat.le_of_ble_eq_true rfl) ⟨Nat.le_of_ble_eq_true rfl, Nat.le_of_ble_eq_true rfl⟩ ⟨Nat.le_refl _, Nat.le_refl _⟩ (fun H locs hw => ?_)
  refine lv_iconst (v := 2) hx hb dX10_slips_6 (by decide) ?_
  refine lv_idiv hx hb dX10_slips_7 (by decide) ?_
  subst hf
  exact hR _ _ _ _ _ _ hw rfl ⟨rfl, rfl⟩ dX10_slips_8
theorem dX1_slips_0 : decode cX1_slips 0 = .ok (.aload_n 0, 1) := by decide +kernel
theorem dX1_slips_1 : decode cX1_slips 1 = .ok (.iload_n 1, 1) := by decide +kernel
theorem dX1_slips_2 : decode cX1_slips 2 = .ok (.iload_n 2, 1) := by decide +kernel
theorem dX1_slips_3 : decode cX1_slips 3 = .ok (.invokespecial 11, 3) := by decide +kernel
theorem dX1_slips_6 : decode cX1_slips 6 = .ok (.istore_n 3, 1) := by decide +kernel
theorem dX1_slips_7 : decode cX1_slips 7 = .ok (.iload_n 3, 1) := by decide +kernel
theorem dX1_slips_8 : decode cX1_slips 8 = .ok (.ifCond .le 9, 3) := by decide +kernel
theorem dX1_slips_11 : decode cX1_slips 11 = .ok (.iload_n 3, 1) := by decide +kernel
theorem dX1_slips_12 : decode cX1_slips 12 = .ok (.iconst 1, 1) := by decide +kernel
theorem dX1_slips_13 : decode cX1_slips 13 = .ok (.isub, 1) := by decide +kernel
theorem dX1_slips_14 : decode cX1_slips 14 = .ok (.goto 4, 3) := by decide +kernel
theorem dX1_slips_17 : decode cX1_slips 17 = .ok (.iconst 0, 1) := by decide +kernel
theorem dX1_slips_18 : decode cX1_slips 18 = .ok (.ireturn, 1) := by decide +kernel
theorem c_X1_slips_k3 {v1 : Int32} {v2 : Int32} {res : Int32} (hf : X1_slips_k3 v1 v2 = res) : MC l E0 D t yX1_slips cX1_slips 4 (some .int) 3 0 0 [.ref (a (78 + 3)), .int v1, .int v2] (cW a ar t x_q0_dials x_q0_spots x_q0_skies x_q0_reports x_q0_count x_q0_chime x_q0_end x_q0_score x_q0_reportCount x_q0_z x_q0_rules x_q0_shades x_q0_facts x_q1_dials x_q1_spots x_q1_skies x_q1_reports x_q1_count x_q1_chime x_q1_end x_q1_score x_q1_reportCount x_q1_z x_q1_rules x_q1_shades x_q1_facts x_q2_dials x_q2_spots x_q2_skies x_q2_reports x_q2_count x_q2_chime x_q2_end x_q2_score x_q2_reportCount x_q2_z x_q2_rules x_q2_shades x_q2_facts x_isKept x_marks x_p_first x_p_steps x_p_most x_p_many x_p_fewest x_p_everRight x_p_opening x_p_rows x_p_rowCount x_p_acts x_p_marks x_p_deepest x_p_wanted x_t_length x_t_tape x_t_words x_t_places x_t_at x_t_kinds x_t_wills x_t_starts x_t_code x_t_count x_t_size x_h_sorts x_h_lengths x_h_items x_h_held x_h_things x_h_sizes x_h_bodies x_h_traced x_h_number x_h_spot x_h_parted x_g_count x_g_kinds x_g_wills x_g_starts x_g_code x_g_stack x_g_kl x_g_wl x_g_sl x_g_cl x_nr) (Qi res (cW a ar t x_q0_dials x_q0_spots x_q0_skies x_q0_reports x_q0_count x_q0_chime x_q0_end x_q0_score x_q0_reportCount x_q0_z x_q0_rules x_q0_shades x_q0_facts x_q1_dials x_q1_spots x_q1_skies x_q1_reports x_q1_count x_q1_chime x_q1_end x_q1_score x_q1_reportCount x_q1_z x_q1_rules x_q1_shades x_q1_facts x_q2_dials x_q2_spots x_q2_skies x_q2_reports x_q2_count x_q2_chime x_q2_end x_q2_score x_q2_reportCount x_q2_z x_q2_rules x_q2_shades x_q2_facts x_isKept x_marks x_p_first x_p_steps x_p_most x_p_many x_p_fewest x_p_everRight x_p_opening x_p_rows x_p_rowCount x_p_acts x_p_marks x_p_deepest x_p_wanted x_t_length x_t_tape x_t_words x_t_places x_t_at x_t_kinds x_t_wills x_t_starts x_t_code x_t_count x_t_size x_h_sorts x_h_lengths x_h_items x_h_held x_h_things x_h_sizes x_h_bodies x_h_traced x_h_number x_h_spot x_h_parted x_g_count x_g_kinds x_g_wills x_g_starts x_g_code x_g_stack x_g_kl x_g_wl x_g_sl x_g_cl x_nr)) := by
  unfold X1_slips_k3 at hf
  refine MC.ofI pn_X1 (Nat.le_of_ble_eq_true rfl) ?_
  intro p e s m args below meth c A Q ls cx hR hw hl
  have hx := cx.1
  have hb := cx.2.1
  have hl : lv_has ls 4 [(0, .ref (a (78 + 3))), (1, .int v1), (2, .int v2)] := hl
  refine lv_aload_n hx hb dX1_slips_0 rfl (lv_at hl 0 rfl) ?_
  refine lv_iload_n hx hb dX1_slips_1 rfl (lv_at hl 1 rfl) ?_
  refine lv_iload_n hx hb dX1_slips_2 rfl (lv_at hl 2 rfl) ?_
  refine calSUi cx hw hl.1 (c_X10_slips_k3 rfl) ws_X1_11 q_420 hs_X10_slips rfl rv_k3 rfl dX1_slips_3 rfl (Nat.le_of_ble_eq_true rfl) ⟨Nat.le_of_ble_eq_true rfl, Nat.le_of_ble_eq_true rfl⟩ ⟨Nat.le_refl _, Nat.le_refl _⟩ (fun H locs hw => ?_)
  refine lv_istore_n (lv' := [(3, .int (X10_slips_k3 v1 v2)), (0, .ref (a (78 + 3))), (1, .int v1), (2, .int v2)]) hx hb dX1_slips_6 rfl hl (by decide) rfl (fun ls hl => ?_)
  refine lv_iload_n hx hb dX1_slips_7 rfl (lv_at hl 0 rfl) ?_
  refine lv_if_le (tgt := 17) hx hb dX1_slips_8 (by decide) (fun hc => ?_) (fun hc => ?_)
  · have hf := ifT hf hc
    refine lv_iconst (v := 0) hx hb dX1_slips_17 (by decide) ?_
    subst hf
    exact hR _ _ _ _ _ _ hw rfl ⟨rfl, rfl⟩ dX1_slips_18
  · have hf := ifF hf hc
    refine lv_iload_n hx hb dX1_slips_11 rfl (lv_at hl 0 rfl) ?_
    refine lv_iconst (v := 1) hx hb dX1_slips_12 (by decide) ?_
    refine lv_isub hx hb dX1_slips_13 ?_
    refine lv_goto (tgt := 18) hx hb dX1_slips_14 (by decide) ?_
    subst hf
    exact hR _ _ _ _ _ _ hw rfl ⟨rfl, rfl⟩ dX1_slips_18
theorem c_X0_slips_k4 {v1 : Int32} {v2 : Int32} {res : Int32} (hf : X0_slips_k4 v1 v2 = res) : MC l E0 D t yX0_slips cX0_slips 3 (some .int) 1 0 0 [.ref (a (78 + 4)), .int v1, .int v2] (cW a ar t x_q0_dials x_q0_spots x_q0_skies x_q0_reports x_q0_count x_q0_chime x_q0_end x_q0_score x_q0_reportCount x_q0_z x_q0_rules x_q0_shades x_q0_facts x_q1_dials x_q1_spots x_q1_skies x_q1_reports x_q1_count x_q1_chime x_q1_end x_q1_score x_q1_reportCount x_q1_z x_q1_rules x_q1_shades x_q1_facts x_q2_dials x_q2_spots x_q2_skies x_q2_reports x_q2_count x_q2_chime x_q2_end x_q2_score x_q2_reportCount x_q2_z x_q2_rules x_q2_shades x_q2_facts x_isKept x_marks x_p_first x_p_steps x_p_most x_p_many x_p_fewest x_p_everRight x_p_opening x_p_rows x_p_rowCount x_p_acts x_p_marks x_p_deepest x_p_wanted x_t_length x_t_tape x_t_words x_t_places x_t_at x_t_kinds x_t_wills x_t_starts x_t_code x_t_count x_t_size x_h_sorts x_h_lengths x_h_items x_h_held x_h_things x_h_sizes x_h_bodies x_h_traced x_h_number x_h_spot x_h_parted x_g_count x_g_kinds x_g_wills x_g_starts x_g_code x_g_stack x_g_kl x_g_wl x_g_sl x_g_cl x_nr) (Qi res (cW a ar t x_q0_dials x_q0_spots x_q0_skies x_q0_reports x_q0_count x_q0_chime x_q0_end x_q0_score x_q0_reportCount x_q0_z x_q0_rules x_q0_shades x_q0_facts x_q1_dials x_q1_spots x_q1_skies x_q1_reports x_q1_count x_q1_chime x_q1_end x_q1_score x_q1_reportCount x_q1_z x_q1_rules x_q1_shades x_q1_facts x_q2_dials x_q2_spots x_q2_skies x_q2_reports x_q2_count x_q2_chime x_q2_end x_q2_score x_q2_reportCount x_q2_z x_q2_rules x_q2_shades x_q2_facts x_isKept x_marks x_p_first x_p_steps x_p_most x_p_many x_p_fewest x_p_everRight x_p_opening x_p_rows x_p_rowCount x_p_acts x_p_marks x_p_deepest x_p_wanted x_t_length x_t_tape x_t_words x_t_places x_t_at x_t_kinds x_t_wills x_t_starts x_t_code x_t_count x_t_size x_h_sorts x_h_lengths x_h_items x_h_held x_h_things x_h_sizes x_h_bodies x_h_traced x_h_number x_h_spot x_h_parted x_g_count x_g_kinds x_g_wills x_g_starts x_g_code x_g_stack x_g_kl x_g_wl x_g_sl x_g_cl x_nr)) := by
  unfold X0_slips_k4 at hf
  refine MC.ofI pn_X0 (Nat.le_of_ble_eq_true rfl) ?_
  intro p e s m args below meth c A Q ls cx hR hw hl
  have hx := cx.1
  have hb := cx.2.1
  have hl : lv_has ls 3 [(0, .ref (a (78 + 4))), (1, .int v1), (2, .int v2)] := hl
  refine lv_iload_n hx hb dX0_slips_0 rfl (lv_at hl 1 rfl) ?_
  refine lv_iconst (v := 1) hx hb dX0_slips_1 (by decide) ?_
  refine lv_iadd hx hb dX0_slips_2 ?_
  refine lv_iload_n hx hb dX0_slips_3 rfl (lv_at hl 2 rfl) ?_
  refine lv_icmp_le (tgt := 15) hx hb dX0_slips_4 (by decide) (fun hc => ?_) (fun hc => ?_)
  · have hf := ifT hf hc
    refine lv_iconst (v := 0) hx hb dX0_slips_15 (by decide) ?_
    subst hf
    exact hR _ _ _ _ _ _ hw rfl ⟨rfl, rfl⟩ dX0_slips_16
  · have hf := ifF hf hc
    refine lv_iload_n hx hb dX0_slips_7 rfl (lv_at hl 1 rfl) ?_
    refine lv_iconst (v := 1) hx hb dX0_slips_8 (by decide) ?_
    refine lv_iadd hx hb dX0_slips_9 ?_
    refine lv_iload_n hx hb dX0_slips_10 rfl (lv_at hl 2 rfl) ?_
    refine lv_isub hx hb dX0_slips_11 ?_
    refine lv_goto (tgt := 16) hx hb dX0_slips_12 (by decide) ?_
    subst hf
    exact hR _ _ _ _ _ _ hw rfl ⟨rfl, rfl⟩ dX0_slips_16
theorem dX3_slips_0 : decode cX3_slips 0 = .ok (.aload_n 0, 1) := by decide +kernel
theorem dX3_slips_1 : decode cX3_slips 1 = .ok (.iload_n 1, 1) := by decide +kernel
theorem dX3_slips_2 : decode cX3_slips 2 = .ok (.iload_n 2, 1) := by decide +kernel
theorem dX3_slips_3 : decode cX3_slips 3 = .ok (.invokespecial 7, 3) := by decide +kernel
theorem dX3_slips_6 : decode cX3_slips 6 = .ok (.iload_n 1, 1) := by decide +kernel
theorem dX3_slips_7 : decode cX3_slips 7 = .ok (.iadd, 1) := by decide +kernel
theorem dX3_slips_8 : decode cX3_slips 8 = .ok (.ireturn, 1) := by decide +kernel
theorem c_X3_slips_k4 {v1 : Int32} {v2 : Int32} {res : Int32} (hf : X3_slips_k4 v1 v2 = res) : MC l E0 D t yX3_slips cX3_slips 3 (some .int) 2 0 0 [.ref (a (78 + 4)), .int v1, .int v2] (cW a ar t x_q0_dials x_q0_spots x_q0_skies x_q0_reports x_q0_count x_q0_chime x_q0_end x_q0_score x_q0_reportCount x_q0_z x_q0_rules x_q0_shades x_q0_facts x_q1_dials x_q1_spots x_q1_skies x_q1_reports x_q1_count x_q1_chime x_q1_end x_q1_score x_q1_reportCount x_q1_z x_q1_rules x_q1_shades x_q1_facts x_q2_dials x_q2_spots x_q2_skies x_q2_reports x_q2_count x_q2_chime x_q2_end x_q2_score x_q2_reportCount x_q2_z x_q2_rules x_q2_shades x_q2_facts x_isKept x_marks x_p_first x_p_steps x_p_most x_p_many x_p_fewest x_p_everRight x_p_opening x_p_rows x_p_rowCount x_p_acts x_p_marks x_p_deepest x_p_wanted x_t_length x_t_tape x_t_words x_t_places x_t_at x_t_kinds x_t_wills x_t_starts x_t_code x_t_count x_t_size x_h_sorts x_h_lengths x_h_items x_h_held x_h_things x_h_sizes x_h_bodies x_h_traced x_h_number x_h_spot x_h_parted x_g_count x_g_kinds x_g_wills x_g_starts x_g_code x_g_stack x_g_kl x_g_wl x_g_sl x_g_cl x_nr) (Qi res (cW a ar t x_q0_dials x_q0_spots x_q0_skies x_q0_reports x_q0_count x_q0_chime x_q0_end x_q0_score x_q0_reportCount x_q0_z x_q0_rules x_q0_shades x_q0_facts x_q1_dials x_q1_spots x_q1_skies x_q1_reports x_q1_count x_q1_chime x_q1_end x_q1_score x_q1_reportCount x_q1_z x_q1_rules x_q1_shades x_q1_facts x_q2_dials x_q2_spots x_q2_skies x_q2_reports x_q2_count x_q2_chime x_q2_end x_q2_score x_q2_reportCount x_q2_z x_q2_rules x_q2_shades x_q2_facts x_isKept x_marks x_p_first x_p_steps x_p_most x_p_many x_p_fewest x_p_everRight x_p_opening x_p_rows x_p_rowCount x_p_acts x_p_marks x_p_deepest x_p_wanted x_t_length x_t_tape x_t_words x_t_places x_t_at x_t_kinds x_t_wills x_t_starts x_t_code x_t_count x_t_size x_h_sorts x_h_lengths x_h_items x_h_held x_h_things x_h_sizes x_h_bodies x_h_traced x_h_number x_h_spot x_h_parted x_g_count x_g_kinds x_g_wills x_g_starts x_g_code x_g_stack x_g_kl x_g_wl x_g_sl x_g_cl x_nr)) := by
  unfold X3_slips_k4 at hf
  refine MC.ofI pn_X3 (Nat.le_of_ble_eq_true rfl) ?_
  intro p e s m args below meth c A Q ls cx hR hw hl
  have hx := cx.1
  have hb := cx.2.1
  have hl : lv_has ls 3 [(0, .ref (a (78 + 4))), (1, .int v1), (2, .int v2)] := hl
  refine lv_aload_n hx hb dX3_slips_0 rfl (lv_at hl 0 rfl) ?_
  refine lv_iload_n hx hb dX3_slips_1 rfl (lv_at hl 1 rfl) ?_
  refine lv_iload_n hx hb dX3_slips_2 rfl (lv_at hl 2 rfl) ?_
  refine calSUi cx hw hl.1 (c_X0_slips_k4 rfl) ws_X3_7 q_434 hs_X0_slips rfl rv_k4 rfl dX3_slips_3 rfl (Nat.le_of_ble_eq_true rfl) ⟨Nat.le_of_ble_eq_true rfl, Nat.le_of_ble_eq_true rfl⟩ ⟨Nat.le_refl _, Nat.le_refl _⟩ (fun H locs hw => ?_)
  refine lv_iload_n hx hb dX3_slips_6 rfl (lv_at hl 1 rfl) ?_
  refine lv_iadd hx hb dX3_slips_7 ?_
  subst hf
  exact hR _ _ _ _ _ _ hw rfl ⟨rfl, rfl⟩ dX3_slips_8
theorem c_X0_slips_k5 {v1 : Int32} {v2 : Int32} {res : Int32} (hf : X0_slips_k5 v1 v2 = res) : MC l E0 D t yX0_slips cX0_slips 3 (some .int) 1 0 0 [.ref (a (78 + 5)), .int v1, .int v2] (cW a ar t x_q0_dials x_q0_spots x_q0_skies x_q0_reports x_q0_count x_q0_chime x_q0_end x_q0_score x_q0_reportCount x_q0_z x_q0_rules x_q0_shades x_q0_facts x_q1_dials x_q1_spots x_q1_skies x_q1_reports x_q1_count x_q1_chime x_q1_end x_q1_score x_q1_reportCount x_q1_z x_q1_rules x_q1_shades x_q1_facts x_q2_dials x_q2_spots x_q2_skies x_q2_reports x_q2_count x_q2_chime x_q2_end x_q2_score x_q2_reportCount x_q2_z x_q2_rules x_q2_shades x_q2_facts x_isKept x_marks x_p_first x_p_steps x_p_most x_p_many x_p_fewest x_p_everRight x_p_opening x_p_rows x_p_rowCount x_p_acts x_p_marks x_p_deepest x_p_wanted x_t_length x_t_tape x_t_words x_t_places x_t_at x_t_kinds x_t_wills x_t_starts x_t_code x_t_count x_t_size x_h_sorts x_h_lengths x_h_items x_h_held x_h_things x_h_sizes x_h_bodies x_h_traced x_h_number x_h_spot x_h_parted x_g_count x_g_kinds x_g_wills x_g_starts x_g_code x_g_stack x_g_kl x_g_wl x_g_sl x_g_cl x_nr) (Qi res (cW a ar t x_q0_dials x_q0_spots x_q0_skies x_q0_reports x_q0_count x_q0_chime x_q0_end x_q0_score x_q0_reportCount x_q0_z x_q0_rules x_q0_shades x_q0_facts x_q1_dials x_q1_spots x_q1_skies x_q1_reports x_q1_count x_q1_chime x_q1_end x_q1_score x_q1_reportCount x_q1_z x_q1_rules x_q1_shades x_q1_facts x_q2_dials x_q2_spots x_q2_skies x_q2_reports x_q2_count x_q2_chime x_q2_end x_q2_score x_q2_reportCount x_q2_z x_q2_rules x_q2_shades x_q2_facts x_isKept x_marks x_p_first x_p_steps x_p_most x_p_many x_p_fewest x_p_everRight x_p_opening x_p_rows x_p_rowCount x_p_acts x_p_marks x_p_deepest x_p_wanted x_t_length x_t_tape x_t_words x_t_places x_t_at x_t_kinds x_t_wills x_t_starts x_t_code x_t_count x_t_size x_h_sorts x_h_lengths x_h_items x_h_held x_h_things x_h_sizes x_h_bodies x_h_traced x_h_number x_h_spot x_h_parted x_g_count x_g_kinds x_g_wills x_g_starts x_g_code x_g_stack x_g_kl x_g_wl x_g_sl x_g_cl x_nr)) := by
  unfold X0_slips_k5 at hf
  refine MC.ofI pn_X0 (Nat.le_of_ble_eq_true rfl) ?_
  intro p e s m args below meth c A Q ls cx hR hw hl
  have hx := cx.1
  have hb := cx.2.1
  have hl : lv_has ls 3 [(0, .ref (a (78 + 5))), (1, .int v1), (2, .int v2)] := hl
  refine lv_iload_n hx hb dX0_slips_0 rfl (lv_at hl 1 rfl) ?_
  refine lv_iconst (v := 1) hx hb dX0_slips_1 (by decide) ?_
  refine lv_iadd hx hb dX0_slips_2 ?_
  refine lv_iload_n hx hb dX0_slips_3 rfl (lv_at hl 2 rfl) ?_
  refine lv_icmp_le (tgt := 15) hx hb dX0_slips_4 (by decide) (fun hc => ?_) (fun hc => ?_)
  · have hf := ifT hf hc
    refine lv_iconst (v := 0) hx hb dX0_slips_15 (by decide) ?_
    subst hf
    exact hR _ _ _ _ _ _ hw rfl ⟨rfl, rfl⟩ dX0_slips_16
  · have hf := ifF hf hc
    refine lv_iload_n hx hb dX0_slips_7 rfl (lv_at hl 1 rfl) ?_
    refine lv_iconst (v := 1) hx hb dX0_slips_8 (by decide) ?_
    refine lv_iadd hx hb dX0_slips_9 ?_
    refine lv_iload_n hx hb dX0_slips_10 rfl (lv_at hl 2 rfl) ?_
    refine lv_isub hx hb dX0_slips_11 ?_
    refine lv_goto (tgt := 16) hx hb dX0_slips_12 (by decide) ?_
    subst hf
    exact hR _ _ _ _ _ _ hw rfl ⟨rfl, rfl⟩ dX0_slips_16
theorem c_X3_slips_k5 {v1 : Int32} {v2 : Int32} {res : Int32} (hf : X3_slips_k5 v1 v2 = res) : MC l E0 D t yX3_slips cX3_slips 3 (some .int) 2 0 0 [.ref (a (78 + 5)), .int v1, .int v2] (cW a ar t x_q0_dials x_q0_spots x_q0_skies x_q0_reports x_q0_count x_q0_chime x_q0_end x_q0_score x_q0_reportCount x_q0_z x_q0_rules x_q0_shades x_q0_facts x_q1_dials x_q1_spots x_q1_skies x_q1_reports x_q1_count x_q1_chime x_q1_end x_q1_score x_q1_reportCount x_q1_z x_q1_rules x_q1_shades x_q1_facts x_q2_dials x_q2_spots x_q2_skies x_q2_reports x_q2_count x_q2_chime x_q2_end x_q2_score x_q2_reportCount x_q2_z x_q2_rules x_q2_shades x_q2_facts x_isKept x_marks x_p_first x_p_steps x_p_most x_p_many x_p_fewest x_p_everRight x_p_opening x_p_rows x_p_rowCount x_p_acts x_p_marks x_p_deepest x_p_wanted x_t_length x_t_tape x_t_words x_t_places x_t_at x_t_kinds x_t_wills x_t_starts x_t_code x_t_count x_t_size x_h_sorts x_h_lengths x_h_items x_h_held x_h_things x_h_sizes x_h_bodies x_h_traced x_h_number x_h_spot x_h_parted x_g_count x_g_kinds x_g_wills x_g_starts x_g_code x_g_stack x_g_kl x_g_wl x_g_sl x_g_cl x_nr) (Qi res (cW a ar t x_q0_dials x_q0_spots x_q0_skies x_q0_reports x_q0_count x_q0_chime x_q0_end x_q0_score x_q0_reportCount x_q0_z x_q0_rules x_q0_shades x_q0_facts x_q1_dials x_q1_spots x_q1_skies x_q1_reports x_q1_count x_q1_chime x_q1_end x_q1_score x_q1_reportCount x_q1_z x_q1_rules x_q1_shades x_q1_facts x_q2_dials x_q2_spots x_q2_skies x_q2_reports x_q2_count x_q2_chime x_q2_end x_q2_score x_q2_reportCount x_q2_z x_q2_rules x_q2_shades x_q2_facts x_isKept x_marks x_p_first x_p_steps x_p_most x_p_many x_p_fewest x_p_everRight x_p_opening x_p_rows x_p_rowCount x_p_acts x_p_marks x_p_deepest x_p_wanted x_t_length x_t_tape x_t_words x_t_places x_t_at x_t_kinds x_t_wills x_t_starts x_t_code x_t_count x_t_size x_h_sorts x_h_lengths x_h_items x_h_held x_h_things x_h_sizes x_h_bodies x_h_traced x_h_number x_h_spot x_h_parted x_g_count x_g_kinds x_g_wills x_g_starts x_g_code x_g_stack x_g_kl x_g_wl x_g_sl x_g_cl x_nr)) := by
  unfold X3_slips_k5 at hf
  refine MC.ofI pn_X3 (Nat.le_of_ble_eq_true rfl) ?_
  intro p e s m args below meth c A Q ls cx hR hw hl
  have hx := cx.1
  have hb := cx.2.1
  have hl : lv_has ls 3 [(0, .ref (a (78 + 5))), (1, .int v1), (2, .int v2)] := hl
  refine lv_aload_n hx hb dX3_slips_0 rfl (lv_at hl 0 rfl) ?_
  refine lv_iload_n hx hb dX3_slips_1 rfl (lv_at hl 1 rfl) ?_
  refine lv_iload_n hx hb dX3_slips_2 rfl (lv_at hl 2 rfl) ?_
  refine calSUi cx hw hl.1 (c_X0_slips_k5 rfl) ws_X3_7 q_434 hs_X0_slips rfl rv_k5 rfl dX3_slips_3 rfl (Nat.le_of_ble_eq_true rfl) ⟨Nat.le_of_ble_eq_true rfl, Nat.le_of_ble_eq_true rfl⟩ ⟨Nat.le_refl _, Nat.le_refl _⟩ (fun H locs hw => ?_)
  refine lv_iload_n hx hb dX3_slips_6 rfl (lv_at hl 1 rfl) ?_
  refine lv_iadd hx hb dX3_slips_7 ?_
  subst hf
  exact hR _ _ _ _ _ _ hw rfl ⟨rfl, rfl⟩ dX3_slips_8
theorem dX8_slips_0 : decode cX8_slips 0 = .ok (.aload_n 0, 1) := by decide +kernel
theorem dX8_slips_1 : decode cX8_slips 1 = .ok (.iload_n 1, 1) := by decide +kernel
theorem dX8_slips_2 : decode cX8_slips 2 = .ok (.iload_n 2, 1) := by decide +kernel
theorem dX8_slips_3 : decode cX8_slips 3 = .ok (.invokespecial 11, 3) := by decide +kernel
theorem dX8_slips_6 : decode cX8_slips 6 = .ok (.istore_n 3, 1) := by decide +kernel
theorem dX8_slips_7 : decode cX8_slips 7 = .ok (.iload_n 3, 1) := by decide +kernel
theorem dX8_slips_8 : decode cX8_slips 8 = .ok (.bipush 9, 2) := by decide +kernel
theorem dX8_slips_10 : decode cX8_slips 10 = .ok (.if_icmp .ge 7, 3) := by decide +kernel
theorem dX8_slips_13 : decode cX8_slips 13 = .ok (.iload_n 3, 1) := by decide +kernel
theorem dX8_slips_14 : decode cX8_slips 14 = .ok (.goto 5, 3) := by decide +kernel
theorem dX8_slips_17 : decode cX8_slips 17 = .ok (.bipush 9, 2) := by decide +kernel
theorem dX8_slips_19 : decode cX8_slips 19 = .ok (.ireturn, 1) := by decide +kernel
theorem c_X8_slips_k5 {v1 : Int32} {v2 : Int32} {res : Int32} (hf : X8_slips_k5 v1 v2 = res) : MC l E0 D t yX8_slips cX8_slips 4 (some .int) 3 0 0 [.ref (a (78 + 5)), .int v1, .int v2] (cW a ar t x_q0_dials x_q0_spots x_q0_skies x_q0_reports x_q0_count x_q0_chime x_q0_end x_q0_score x_q0_reportCount x_q0_z x_q0_rules x_q0_shades x_q0_facts x_q1_dials x_q1_spots x_q1_skies x_q1_reports x_q1_count x_q1_chime x_q1_end x_q1_score x_q1_reportCount x_q1_z x_q1_rules x_q1_shades x_q1_facts x_q2_dials x_q2_spots x_q2_skies x_q2_reports x_q2_count x_q2_chime x_q2_end x_q2_score x_q2_reportCount x_q2_z x_q2_rules x_q2_shades x_q2_facts x_isKept x_marks x_p_first x_p_steps x_p_most x_p_many x_p_fewest x_p_everRight x_p_opening x_p_rows x_p_rowCount x_p_acts x_p_marks x_p_deepest x_p_wanted x_t_length x_t_tape x_t_words x_t_places x_t_at x_t_kinds x_t_wills x_t_starts x_t_code x_t_count x_t_size x_h_sorts x_h_lengths x_h_items x_h_held x_h_things x_h_sizes x_h_bodies x_h_traced x_h_number x_h_spot x_h_parted x_g_count x_g_kinds x_g_wills x_g_starts x_g_code x_g_stack x_g_kl x_g_wl x_g_sl x_g_cl x_nr) (Qi res (cW a ar t x_q0_dials x_q0_spots x_q0_skies x_q0_reports x_q0_count x_q0_chime x_q0_end x_q0_score x_q0_reportCount x_q0_z x_q0_rules x_q0_shades x_q0_facts x_q1_dials x_q1_spots x_q1_skies x_q1_reports x_q1_count x_q1_chime x_q1_end x_q1_score x_q1_reportCount x_q1_z x_q1_rules x_q1_shades x_q1_facts x_q2_dials x_q2_spots x_q2_skies x_q2_reports x_q2_count x_q2_chime x_q2_end x_q2_score x_q2_reportCount x_q2_z x_q2_rules x_q2_shades x_q2_facts x_isKept x_marks x_p_first x_p_steps x_p_most x_p_many x_p_fewest x_p_everRight x_p_opening x_p_rows x_p_rowCount x_p_acts x_p_marks x_p_deepest x_p_wanted x_t_length x_t_tape x_t_words x_t_places x_t_at x_t_kinds x_t_wills x_t_starts x_t_code x_t_count x_t_size x_h_sorts x_h_lengths x_h_items x_h_held x_h_things x_h_sizes x_h_bodies x_h_traced x_h_number x_h_spot x_h_parted x_g_count x_g_kinds x_g_wills x_g_starts x_g_code x_g_stack x_g_kl x_g_wl x_g_sl x_g_cl x_nr)) := by
  unfold X8_slips_k5 at hf
  refine MC.ofI pn_X8 (Nat.le_of_ble_eq_true rfl) ?_
  intro p e s m args below meth c A Q ls cx hR hw hl
  have hx := cx.1
  have hb := cx.2.1
  have hl : lv_has ls 4 [(0, .ref (a (78 + 5))), (1, .int v1), (2, .int v2)] := hl
  refine lv_aload_n hx hb dX8_slips_0 rfl (lv_at hl 0 rfl) ?_
  refine lv_iload_n hx hb dX8_slips_1 rfl (lv_at hl 1 rfl) ?_
  refine lv_iload_n hx hb dX8_slips_2 rfl (lv_at hl 2 rfl) ?_
  refine calSUi cx hw hl.1 (c_X3_slips_k5 rfl) ws_X8_11 q_424 hs_X3_slips rfl rv_k5 rfl dX8_slips_3 rfl (Nat.le_of_ble_eq_true rfl) ⟨Nat.le_of_ble_eq_true rfl, Nat.le_of_ble_eq_true rfl⟩ ⟨Nat.le_refl _, Nat.le_refl _⟩ (fun H locs hw => ?_)
  refine lv_istore_n (lv' := [(3, .int (X3_slips_k5 v1 v2)), (0, .ref (a (78 + 5))), (1, .int v1), (2, .int v2)]) hx hb dX8_slips_6 rfl hl (by decide) rfl (fun ls hl => ?_)
  refine lv_iload_n hx hb dX8_slips_7 rfl (lv_at hl 0 rfl) ?_
  refine lv_bipush (v := 9) hx hb dX8_slips_8 (by decide) ?_
  refine lv_icmp_ge (tgt := 17) hx hb dX8_slips_10 (by decide) (fun hc => ?_) (fun hc => ?_)
  · have hf := ifT hf hc
    refine lv_bipush (v := 9) hx hb dX8_slips_17 (by decide) ?_
    subst hf
    exact hR _ _ _ _ _ _ hw rfl ⟨rfl, rfl⟩ dX8_slips_19
  · have hf := ifF hf hc
    refine lv_iload_n hx hb dX8_slips_13 rfl (lv_at hl 0 rfl) ?_
    refine lv_goto (tgt := 19) hx hb dX8_slips_14 (by decide) ?_
    subst hf
    exact hR _ _ _ _ _ _ hw rfl ⟨rfl, rfl⟩ dX8_slips_19
section VR_vr_slips_X9_91
variable {p : Program} {l : Launch} {e : Env} {R : Room} {s : State} {m : MethodId} {args : Array Value} {below : List Frame} {meth : Method} {c : Code} {H : Heap} {locs : List Loc} {cells slots : Nat} {Q : State → Prop}
variable {E : EX} {D : va_G} {t : Nat → ClassId} {cc : ByteArray} {own nm : String} {nL pc : Nat} {A : Nat → Prop} {ls : Array Slot} {rest : List Value} {a : Nat → Nat} {ar : Nat → Nat → Nat} {x_q0_dials : Nat → Nat → Int32} {x_q0_spots : Nat → Nat → Int32} {x_q0_skies : Nat → Int32} {x_q0_reports : Nat → Nat → Int32} {x_q0_count : Int32} {x_q0_chime : Int32} {x_q0_end : Int32} {x_q0_score : Int32} {x_q0_reportCount : Int32} {x_q0_z : Int32} {x_q0_rules : Nat} {x_q0_shades : Nat → Int32} {x_q0_facts : Nat → Int32} {x_q1_dials : Nat → Nat → Int32} {x_q1_spots : Nat → Nat → Int32} {x_q1_skies : Nat → Int32} {x_q1_reports : Nat → Nat → Int32} {x_q1_count : Int32} {x_q1_chime : Int32} {x_q1_end : Int32} {x_q1_score : Int32} {x_q1_reportCount : Int32} {x_q1_z : Int32} {x_q1_rules : Nat} {x_q1_shades : Nat → Int32} {x_q1_facts : Nat → Int32} {x_q2_dials : Nat → Nat → Int32} {x_q2_spots : Nat → Nat → Int32} {x_q2_skies : Nat → Int32} {x_q2_reports : Nat → Nat → Int32} {x_q2_count : Int32} {x_q2_chime : Int32} {x_q2_end : Int32} {x_q2_score : Int32} {x_q2_reportCount : Int32} {x_q2_z : Int32} {x_q2_rules : Nat} {x_q2_shades : Nat → Int32} {x_q2_facts : Nat → Int32} {x_isKept : Int32} {x_marks : Nat → Int32} {x_p_first : Nat → Int32} {x_p_steps : Int32} {x_p_most : Int32} {x_p_many : Int32} {x_p_fewest : Int32} {x_p_everRight : Int32} {x_p_opening : Int32} {x_p_rows : Nat → Nat → Int32} {x_p_rowCount : Int32} {x_p_acts : Nat → Int32} {x_p_marks : Nat → Nat → Int32} {x_p_deepest : Int32} {x_p_wanted : Int32} {x_t_length : Int32} {x_t_tape : Nat → Int32} {x_t_words : Nat → Int32} {x_t_places : Nat → Int32} {x_t_at : Int32} {x_t_kinds : Nat → Int32} {x_t_wills : Nat → Int32} {x_t_starts : Nat → Int32} {x_t_code : Nat → Int32} {x_t_count : Int32} {x_t_size : Int32} {x_h_sorts : Nat → Int32} {x_h_lengths : Nat → Int32} {x_h_items : Nat → Nat → Int32} {x_h_held : Nat → Int32} {x_h_things : Nat → Int32} {x_h_sizes : Nat → Int32} {x_h_bodies : Nat → Int32} {x_h_traced : Int32} {x_h_number : Int32} {x_h_spot : Int32} {x_h_parted : Int32} {x_g_count : Nat → Int32} {x_g_kinds : Nat → Nat → Int32} {x_g_wills : Nat → Nat → Int32} {x_g_starts : Nat → Nat → Int32} {x_g_code : Nat → Nat → Int32} {x_g_stack : Nat → Nat → Int32} {x_g_kl : Nat → Nat} {x_g_wl : Nat → Nat} {x_g_sl : Nat → Nat} {x_g_cl : Nat → Nat} {x_nr : Nat}
theorem vr_slips_X9_91 {k : Nat} {v1 : Int32} {v2 : Int32} (cx : Cx E D t p s m args meth c cc RX9 nm nL A) (hw : Wd D A s (cW a ar t x_q0_dials x_q0_spots x_q0_skies x_q0_reports x_q0_count x_q0_chime x_q0_end x_q0_score x_q0_reportCount x_q0_z x_q0_rules x_q0_shades x_q0_facts x_q1_dials x_q1_spots x_q1_skies x_q1_reports x_q1_count x_q1_chime x_q1_end x_q1_score x_q1_reportCount x_q1_z x_q1_rules x_q1_shades x_q1_facts x_q2_dials x_q2_spots x_q2_skies x_q2_reports x_q2_count x_q2_chime x_q2_end x_q2_score x_q2_reportCount x_q2_z x_q2_rules x_q2_shades x_q2_facts x_isKept x_marks x_p_first x_p_steps x_p_most x_p_many x_p_fewest x_p_everRight x_p_opening x_p_rows x_p_rowCount x_p_acts x_p_marks x_p_deepest x_p_wanted x_t_length x_t_tape x_t_words x_t_places x_t_at x_t_kinds x_t_wills x_t_starts x_t_code x_t_count x_t_size x_h_sorts x_h_lengths x_h_items x_h_held x_h_things x_h_sizes x_h_bodies x_h_traced x_h_number x_h_spot x_h_parted x_g_count x_g_kinds x_g_wills x_g_starts x_g_code x_g_stack x_g_kl x_g_wl x_g_sl x_g_cl x_nr) H locs) (hl : ls.size = nL) (hk : k < 6) (hdg : decode cc pc = .ok (.invokevirtual 91, 3)) (hcat : (rest.map fun v => v.category).sum ≤ 8) (h1 : 4 ≤ R.frames) (h2 : 256 ≤ R.locals) (hcs : cells ≤ R.cells ∧ slots ≤ R.slots) (kk : ∀ (H : Heap) (locs : List Loc), Wd D A s (cW a ar t x_q0_dials x_q0_spots x_q0_skies x_q0_reports x_q0_count x_q0_chime x_q0_end x_q0_score x_q0_reportCount x_q0_z x_q0_rules x_q0_shades x_q0_facts x_q1_dials x_q1_spots x_q1_skies x_q1_reports x_q1_count x_q1_chime x_q1_end x_q1_score x_q1_reportCount x_q1_z x_q1_rules x_q1_shades x_q1_facts x_q2_dials x_q2_spots x_q2_skies x_q2_reports x_q2_count x_q2_chime x_q2_end x_q2_score x_q2_reportCount x_q2_z x_q2_rules x_q2_shades x_q2_facts x_isKept x_marks x_p_first x_p_steps x_p_most x_p_many x_p_fewest x_p_everRight x_p_opening x_p_rows x_p_rowCount x_p_acts x_p_marks x_p_deepest x_p_wanted x_t_length x_t_tape x_t_words x_t_places x_t_at x_t_kinds x_t_wills x_t_starts x_t_code x_t_count x_t_size x_h_sorts x_h_lengths x_h_items x_h_held x_h_things x_h_sizes x_h_bodies x_h_traced x_h_number x_h_spot x_h_parted x_g_count x_g_kinds x_g_wills x_g_starts x_g_code x_g_stack x_g_kl x_g_wl x_g_sl x_g_cl x_nr) H locs → W p l e R s m args below meth c H locs cells slots Q (F0 m (pc + 3) ls (.int (vd_slips k v1 v2) :: rest))) : W p l e R s m args below meth c H locs cells slots Q (F0 m pc ls (.int v2 :: .int v1 :: .ref (a (78 + k)) :: rest)) := by
  match k, hk with
  | 0, _ => exact calUi cx hw hl (c_X0_slips_k0 rfl) wu_X9_91_0 q_434 q_434 hu_X0_slips rfl rv_k0 rfl hdg rfl hcat ⟨Nat.le_trans (Nat.le_of_ble_eq_true rfl) h1, Nat.le_trans (Nat.le_of_ble_eq_true rfl) h2⟩ hcs kk
  | 1, _ => exact calUi cx hw hl (c_X4_slips_k1 rfl) wu_X9_91_1 q_428 q_434 hu_X0_slips rfl rv_k1 rfl hdg rfl hcat ⟨Nat.le_trans (Nat.le_of_ble_eq_true rfl) h1, Nat.le_trans (Nat.le_of_ble_eq_true rfl) h2⟩ hcs kk
  | 2, _ => exact calUi cx hw hl (c_X10_slips_k2 rfl) wu_X9_91_2 q_420 q_434 hu_X0_slips rfl rv_k2 rfl hdg rfl hcat ⟨Nat.le_trans (Nat.le_of_ble_eq_true rfl) h1, Nat.le_trans (Nat.le_of_ble_eq_true rfl) h2⟩ hcs kk
  | 3, _ => exact calUi cx hw hl (c_X1_slips_k3 rfl) wu_X9_91_3 q_417 q_434 hu_X0_slips rfl rv_k3 rfl hdg rfl hcat ⟨Nat.le_trans (Nat.le_of_ble_eq_true rfl) h1, Nat.le_trans (Nat.le_of_ble_eq_true rfl) h2⟩ hcs kk
  | 4, _ => exact calUi cx hw hl (c_X3_slips_k4 rfl) wu_X9_91_4 q_424 q_434 hu_X0_slips rfl rv_k4 rfl hdg rfl hcat ⟨Nat.le_trans (Nat.le_of_ble_eq_true rfl) h1, Nat.le_trans (Nat.le_of_ble_eq_true rfl) h2⟩ hcs kk
  | 5, _ => exact calUi cx hw hl (c_X8_slips_k5 rfl) wu_X9_91_5 q_431 q_434 hu_X0_slips rfl rv_k5 rfl hdg rfl hcat ⟨Nat.le_trans (Nat.le_of_ble_eq_true rfl) h1, Nat.le_trans (Nat.le_of_ble_eq_true rfl) h2⟩ hcs kk
  | z + 6, hk => exact absurd hk (by omega)
end VR_vr_slips_X9_91
theorem dX9_slipsOf_0 : decode cX9_slipsOf 0 = .ok (.aload_n 0, 1) := by decide +kernel
theorem dX9_slipsOf_1 : decode cX9_slipsOf 1 = .ok (.invokevirtual 88, 3) := by decide +kernel
theorem dX9_slipsOf_4 : decode cX9_slipsOf 4 = .ok (.aload_n 0, 1) := by decide +kernel
theorem dX9_slipsOf_5 : decode cX9_slipsOf 5 = .ok (.iload_n 1, 1) := by decide +kernel
theorem dX9_slipsOf_6 : decode cX9_slipsOf 6 = .ok (.invokevirtual 75, 3) := by decide +kernel
theorem dX9_slipsOf_9 : decode cX9_slipsOf 9 = .ok (.aload_n 0, 1) := by decide +kernel
theorem dX9_slipsOf_10 : decode cX9_slipsOf 10 = .ok (.getfield 33, 3) := by decide +kernel
theorem dX9_slipsOf_13 : decode cX9_slipsOf 13 = .ok (.aload_n 0, 1) := by decide +kernel
theorem dX9_slipsOf_14 : decode cX9_slipsOf 14 = .ok (.getfield 11, 3) := by decide +kernel
theorem dX9_slipsOf_17 : decode cX9_slipsOf 17 = .ok (.iload_n 1, 1) := by decide +kernel
theorem dX9_slipsOf_18 : decode cX9_slipsOf 18 = .ok (.aaload, 1) := by decide +kernel
theorem dX9_slipsOf_19 : decode cX9_slipsOf 19 = .ok (.iconst 3, 1) := by decide +kernel
theorem dX9_slipsOf_20 : decode cX9_slipsOf 20 = .ok (.iaload, 1) := by decide +kernel
theorem dX9_slipsOf_21 : decode cX9_slipsOf 21 = .ok (.iaload, 1) := by decide +kernel
theorem dX9_slipsOf_22 : decode cX9_slipsOf 22 = .ok (.aload_n 0, 1) := by decide +kernel
theorem dX9_slipsOf_23 : decode cX9_slipsOf 23 = .ok (.aload_n 0, 1) := by decide +kernel
theorem dX9_slipsOf_24 : decode cX9_slipsOf 24 = .ok (.getfield 62, 3) := by decide +kernel
theorem dX9_slipsOf_27 : decode cX9_slipsOf 27 = .ok (.invokevirtual 79, 3) := by decide +kernel
theorem dX9_slipsOf_30 : decode cX9_slipsOf 30 = .ok (.iconst 4, 1) := by decide +kernel
theorem dX9_slipsOf_31 : decode cX9_slipsOf 31 = .ok (.irem, 1) := by decide +kernel
theorem dX9_slipsOf_32 : decode cX9_slipsOf 32 = .ok (.invokevirtual 91, 3) := by decide +kernel
theorem dX9_slipsOf_35 : decode cX9_slipsOf 35 = .ok (.ireturn, 1) := by decide +kernel
theorem k_X9_slipsOf : MV yX9_slipsOf cX9_slipsOf 2 (some .int) 1 := ⟨q_404, q_405, q_11, q_406, ⟨by decide, by decide, by decide +kernel⟩⟩
theorem c_X9_slipsOf_q0 {v1 : Int32} {res : Int32 × (Nat → Int32)} (hf : X9_slipsOf_q0 n x_q0_dials x_q0_spots x_q0_skies x_q0_count x_q0_chime x_q0_shades v1 = some res) : MC l E0 D t yX9_slipsOf cX9_slipsOf 2 (some .int) 5 0 0 [.ref (a 1), .int v1] (cW a ar t x_q0_dials x_q0_spots x_q0_skies x_q0_reports x_q0_count x_q0_chime x_q0_end x_q0_score x_q0_reportCount x_q0_z x_q0_rules x_q0_shades x_q0_facts x_q1_dials x_q1_spots x_q1_skies x_q1_reports x_q1_count x_q1_chime x_q1_end x_q1_score x_q1_reportCount x_q1_z x_q1_rules x_q1_shades x_q1_facts x_q2_dials x_q2_spots x_q2_skies x_q2_reports x_q2_count x_q2_chime x_q2_end x_q2_score x_q2_reportCount x_q2_z x_q2_rules x_q2_shades x_q2_facts x_isKept x_marks x_p_first x_p_steps x_p_most x_p_many x_p_fewest x_p_everRight x_p_opening x_p_rows x_p_rowCount x_p_acts x_p_marks x_p_deepest x_p_wanted x_t_length x_t_tape x_t_words x_t_places x_t_at x_t_kinds x_t_wills x_t_starts x_t_code x_t_count x_t_size x_h_sorts x_h_lengths x_h_items x_h_held x_h_things x_h_sizes x_h_bodies x_h_traced x_h_number x_h_spot x_h_parted x_g_count x_g_kinds x_g_wills x_g_starts x_g_code x_g_stack x_g_kl x_g_wl x_g_sl x_g_cl x_nr) (Qi res.1 (cW a ar t x_q0_dials x_q0_spots x_q0_skies x_q0_reports x_q0_count x_q0_chime x_q0_end x_q0_score x_q0_reportCount x_q0_z x_q0_rules res.2 x_q0_facts x_q1_dials x_q1_spots x_q1_skies x_q1_reports x_q1_count x_q1_chime x_q1_end x_q1_score x_q1_reportCount x_q1_z x_q1_rules x_q1_shades x_q1_facts x_q2_dials x_q2_spots x_q2_skies x_q2_reports x_q2_count x_q2_chime x_q2_end x_q2_score x_q2_reportCount x_q2_z x_q2_rules x_q2_shades x_q2_facts x_isKept x_marks x_p_first x_p_steps x_p_most x_p_many x_p_fewest x_p_everRight x_p_opening x_p_rows x_p_rowCount x_p_acts x_p_marks x_p_deepest x_p_wanted x_t_length x_t_tape x_t_words x_t_places x_t_at x_t_kinds x_t_wills x_t_starts x_t_code x_t_count x_t_size x_h_sorts x_h_lengths x_h_items x_h_held x_h_things x_h_sizes x_h_bodies x_h_traced x_h_number x_h_spot x_h_parted x_g_count x_g_kinds x_g_wills x_g_starts x_g_code x_g_stack x_g_kl x_g_wl x_g_sl x_g_cl x_nr)) := by
  unfold X9_slipsOf_q0 at hf
  refine MC.ofI pn_X9 (Nat.le_of_ble_eq_true rfl) ?_
  intro p e s m args below meth c A Q ls cx hR hw hl
  have hx := cx.1
  have hb := cx.2.1
  have hl : lv_has ls 2 [(0, .ref (a 1)), (1, .int v1)] := hl
  refine lv_aload_n hx hb dX9_slipsOf_0 rfl (lv_at hl 0 rfl) ?_
  obtain ⟨r1, h2, hf⟩ := bnS hf
  refine calVv cx hw hl.1 (c_X9_measureShades_q0 h2) q_407 k_X9_measureShades rfl rv_q0 rfl dX9_slipsOf_1 rfl (Nat.le_of_ble_eq_true rfl) ⟨Nat.le_of_ble_eq_true rfl, Nat.le_of_ble_eq_true rfl⟩ ⟨Nat.le_refl _, Nat.le_refl _⟩ (fun H locs hw => ?_)
  refine lv_aload_n hx hb dX9_slipsOf_4 rfl (lv_at hl 0 rfl) ?_
  refine lv_iload_n hx hb dX9_slipsOf_5 rfl (lv_at hl 1 rfl) ?_
  obtain ⟨r3, h4, hf⟩ := bnS hf
  refine calVa cx hw hl.1 (c_X9_kindOf_q0 h4) q_372 k_X9_kindOf rfl rv_q0 rfl dX9_slipsOf_6 rfl (Nat.le_of_ble_eq_true rfl) ⟨Nat.le_of_ble_eq_true rfl, Nat.le_of_ble_eq_true rfl⟩ ⟨Nat.le_refl _, Nat.le_refl _⟩ (fun H locs hw => ?_)
  obtain ⟨h5, hf⟩ := ckS hf
  refine lv_aload_n hx hb dX9_slipsOf_9 rfl (lv_at hl 0 rfl) ?_
  refine cg_X9_33_q0 cx hw dX9_slipsOf_10 ?_
  refine lv_aload_n hx hb dX9_slipsOf_13 rfl (lv_at hl 0 rfl) ?_
  refine cg_X9_11_q0 cx hw dX9_slipsOf_14 ?_
  refine lv_iload_n hx hb dX9_slipsOf_17 rfl (lv_at hl 1 rfl) ?_
  obtain ⟨h6, hf⟩ := ckS hf
  refine co_q0_dials (j := v1.toNatClampNeg) cx hw (ib_in h6) rfl dX9_slipsOf_18 ?_
  refine lv_iconst (v := 3) hx hb dX9_slipsOf_19 (by decide) ?_
  refine cm_q0_dials (j := 3) cx hw (ib_lt h6) (ib_in (by decide)) (by decide) dX9_slipsOf_20 ?_
  obtain ⟨h7, hf⟩ := ckS hf
  refine cl_q0_shades (j := (x_q0_dials v1.toNatClampNeg 3).toNatClampNeg) cx hw (ib_in h7) rfl dX9_slipsOf_21 ?_
  refine lv_aload_n hx hb dX9_slipsOf_22 rfl (lv_at hl 0 rfl) ?_
  refine lv_aload_n hx hb dX9_slipsOf_23 rfl (lv_at hl 0 rfl) ?_
  refine cg_X9_62_q0 cx hw dX9_slipsOf_24 ?_
  obtain ⟨r8, h9, hf⟩ := bnS hf
  refine calVi cx hw hl.1 (c_X9_skyAt_q0 h9) q_376 k_X9_skyAt rfl rv_q0 rfl dX9_slipsOf_27 rfl (Nat.le_of_ble_eq_true rfl) ⟨Nat.le_of_ble_eq_true rfl, Nat.le_of_ble_eq_true rfl⟩ ⟨Nat.le_refl _, Nat.le_refl _⟩ (fun H locs hw => ?_)
  refine lv_iconst (v := 4) hx hb dX9_slipsOf_30 (by decide) ?_
  refine lv_irem hx hb dX9_slipsOf_31 (by decide) ?_
  refine vr_slips_X9_91 cx hw hl.1 (dc h5) dX9_slipsOf_32 (Nat.le_of_ble_eq_true rfl) (Nat.le_of_ble_eq_true rfl) (Nat.le_of_ble_eq_true rfl) ⟨Nat.le_refl _, Nat.le_refl _⟩ (fun H locs hw => ?_)
  have hf := Option.some.inj hf
  subst hf
  exact hR _ _ _ _ _ _ hw rfl ⟨rfl, rfl⟩ dX9_slipsOf_35
end CW1
