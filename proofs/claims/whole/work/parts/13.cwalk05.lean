section CW5
variable {l : Launch} {D : va_G} {t : Nat → ClassId} {a : Nat → Nat} {ar : Nat → Nat → Nat} {n : Nat} {x_q0_dials : Nat → Nat → Int32} {x_q0_spots : Nat → Nat → Int32} {x_q0_skies : Nat → Int32} {x_q0_reports : Nat → Nat → Int32} {x_q0_count : Int32} {x_q0_chime : Int32} {x_q0_end : Int32} {x_q0_score : Int32} {x_q0_reportCount : Int32} {x_q0_z : Int32} {x_q0_rules : Nat} {x_q0_shades : Nat → Int32} {x_q0_facts : Nat → Int32} {x_q1_dials : Nat → Nat → Int32} {x_q1_spots : Nat → Nat → Int32} {x_q1_skies : Nat → Int32} {x_q1_reports : Nat → Nat → Int32} {x_q1_count : Int32} {x_q1_chime : Int32} {x_q1_end : Int32} {x_q1_score : Int32} {x_q1_reportCount : Int32} {x_q1_z : Int32} {x_q1_rules : Nat} {x_q1_shades : Nat → Int32} {x_q1_facts : Nat → Int32} {x_q2_dials : Nat → Nat → Int32} {x_q2_spots : Nat → Nat → Int32} {x_q2_skies : Nat → Int32} {x_q2_reports : Nat → Nat → Int32} {x_q2_count : Int32} {x_q2_chime : Int32} {x_q2_end : Int32} {x_q2_score : Int32} {x_q2_reportCount : Int32} {x_q2_z : Int32} {x_q2_rules : Nat} {x_q2_shades : Nat → Int32} {x_q2_facts : Nat → Int32} {x_isKept : Int32} {x_marks : Nat → Int32} {x_p_first : Nat → Int32} {x_p_steps : Int32} {x_p_most : Int32} {x_p_many : Int32} {x_p_fewest : Int32} {x_p_everRight : Int32} {x_p_opening : Int32} {x_p_rows : Nat → Nat → Int32} {x_p_rowCount : Int32} {x_p_acts : Nat → Int32} {x_p_marks : Nat → Nat → Int32} {x_p_deepest : Int32} {x_p_wanted : Int32} {x_t_length : Int32} {x_t_tape : Nat → Int32} {x_t_words : Nat → Int32} {x_t_places : Nat → Int32} {x_t_at : Int32} {x_t_kinds : Nat → Int32} {x_t_wills : Nat → Int32} {x_t_starts : Nat → Int32} {x_t_code : Nat → Int32} {x_t_count : Int32} {x_t_size : Int32} {x_h_sorts : Nat → Int32} {x_h_lengths : Nat → Int32} {x_h_items : Nat → Nat → Int32} {x_h_held : Nat → Int32} {x_h_things : Nat → Int32} {x_h_sizes : Nat → Int32} {x_h_bodies : Nat → Int32} {x_h_traced : Int32} {x_h_number : Int32} {x_h_spot : Int32} {x_h_parted : Int32} {x_g_count : Nat → Int32} {x_g_kinds : Nat → Nat → Int32} {x_g_wills : Nat → Nat → Int32} {x_g_starts : Nat → Nat → Int32} {x_g_code : Nat → Nat → Int32} {x_g_stack : Nat → Nat → Int32} {x_g_kl : Nat → Nat} {x_g_wl : Nat → Nat} {x_g_sl : Nat → Nat} {x_g_cl : Nat → Nat} {x_nr : Nat}
theorem c_X9_agree_q2 {v1 : Int32} {v2 : Int32} {res : Int32} (hf : X9_agree_q2 x_q2_dials v1 v2 = some res) : MC l E0 D t yX9_agree cX9_agree 3 (some .boolean) 1 0 0 [.ref (a 51), .int v1, .int v2] (cW a ar t x_q0_dials x_q0_spots x_q0_skies x_q0_reports x_q0_count x_q0_chime x_q0_end x_q0_score x_q0_reportCount x_q0_z x_q0_rules x_q0_shades x_q0_facts x_q1_dials x_q1_spots x_q1_skies x_q1_reports x_q1_count x_q1_chime x_q1_end x_q1_score x_q1_reportCount x_q1_z x_q1_rules x_q1_shades x_q1_facts x_q2_dials x_q2_spots x_q2_skies x_q2_reports x_q2_count x_q2_chime x_q2_end x_q2_score x_q2_reportCount x_q2_z x_q2_rules x_q2_shades x_q2_facts x_isKept x_marks x_p_first x_p_steps x_p_most x_p_many x_p_fewest x_p_everRight x_p_opening x_p_rows x_p_rowCount x_p_acts x_p_marks x_p_deepest x_p_wanted x_t_length x_t_tape x_t_words x_t_places x_t_at x_t_kinds x_t_wills x_t_starts x_t_code x_t_count x_t_size x_h_sorts x_h_lengths x_h_items x_h_held x_h_things x_h_sizes x_h_bodies x_h_traced x_h_number x_h_spot x_h_parted x_g_count x_g_kinds x_g_wills x_g_starts x_g_code x_g_stack x_g_kl x_g_wl x_g_sl x_g_cl x_nr) (Qi res (cW a ar t x_q0_dials x_q0_spots x_q0_skies x_q0_reports x_q0_count x_q0_chime x_q0_end x_q0_score x_q0_reportCount x_q0_z x_q0_rules x_q0_shades x_q0_facts x_q1_dials x_q1_spots x_q1_skies x_q1_reports x_q1_count x_q1_chime x_q1_end x_q1_score x_q1_reportCount x_q1_z x_q1_rules x_q1_shades x_q1_facts x_q2_dials x_q2_spots x_q2_skies x_q2_reports x_q2_count x_q2_chime x_q2_end x_q2_score x_q2_reportCount x_q2_z x_q2_rules x_q2_shades x_q2_facts x_isKept x_marks x_p_first x_p_steps x_p_most x_p_many x_p_fewest x_p_everRight x_p_opening x_p_rows x_p_rowCount x_p_acts x_p_marks x_p_deepest x_p_wanted x_t_length x_t_tape x_t_words x_t_places x_t_at x_t_kinds x_t_wills x_t_starts x_t_code x_t_count x_t_size x_h_sorts x_h_lengths x_h_items x_h_held x_h_things x_h_sizes x_h_bodies x_h_traced x_h_number x_h_spot x_h_parted x_g_count x_g_kinds x_g_wills x_g_starts x_g_code x_g_stack x_g_kl x_g_wl x_g_sl x_g_cl x_nr)) := by
  unfold X9_agree_q2 at hf
  refine MC.ofI pn_X9 (Nat.le_of_ble_eq_true rfl) ?_
  intro p e s m args below meth c A Q ls cx hR hw hl
  have hx := cx.1
  have hb := cx.2.1
  have hl : lv_has ls 3 [(0, .ref (a 51)), (1, .int v1), (2, .int v2)] := hl
  refine lv_aload_n hx hb dX9_agree_0 rfl (lv_at hl 0 rfl) ?_
  refine cg_X9_11_q2 cx hw dX9_agree_1 ?_
  refine lv_iload_n hx hb dX9_agree_4 rfl (lv_at hl 1 rfl) ?_
  obtain ⟨h1, hf⟩ := ckS hf
  refine co_q2_dials (j := v1.toNatClampNeg) cx hw (ib_in h1) rfl dX9_agree_5 ?_
  refine lv_iconst (v := 1) hx hb dX9_agree_6 (by decide) ?_
  refine cm_q2_dials (j := 1) cx hw (ib_lt h1) (ib_in (by decide)) (by decide) dX9_agree_7 ?_
  refine lv_aload_n hx hb dX9_agree_8 rfl (lv_at hl 0 rfl) ?_
  refine cg_X9_11_q2 cx hw dX9_agree_9 ?_
  refine lv_iload_n hx hb dX9_agree_12 rfl (lv_at hl 2 rfl) ?_
  obtain ⟨h2, hf⟩ := ckS hf
  refine co_q2_dials (j := v2.toNatClampNeg) cx hw (ib_in h2) rfl dX9_agree_13 ?_
  refine lv_iconst (v := 1) hx hb dX9_agree_14 (by decide) ?_
  refine cm_q2_dials (j := 1) cx hw (ib_lt h2) (ib_in (by decide)) (by decide) dX9_agree_15 ?_
  refine lv_isub hx hb dX9_agree_16 ?_
  refine va_mabs hx hb (cx.2.2.1.trans hl.1.symm) cx.2.2.2.1 (cx.2.2.2.2.1 _ q_517) (cx.2.2.2.2.1 _ q_518) (cx.2.2.2.2.1 _ q_15) (cx.2.2.2.2.1 _ q_519) (by show 1 ≤ _; exact Nat.le_of_ble_eq_true rfl) (by show _ ≤ 64 * _; exact Nat.le_of_ble_eq_true rfl) (Nat.le_refl _) (Nat.le_refl _) dX9_agree_17 ?_
  refine lv_iconst (v := 5) hx hb dX9_agree_20 (by decide) ?_
  refine lv_icmp_gt (tgt := 28) hx hb dX9_agree_21 (by decide) (fun hc => ?_) (fun hc => ?_)
  · have hf := ifT hf hc
    refine lv_iconst (v := 0) hx hb dX9_agree_28 (by decide) ?_
    have hf := Option.some.inj hf
    subst hf
    exact hR _ _ _ _ _ _ hw rfl ⟨rfl, rfl⟩ dX9_agree_29
  · have hf := ifF hf hc
    refine lv_iconst (v := 1) hx hb dX9_agree_24 (by decide) ?_
    refine lv_goto (tgt := 29) hx hb dX9_agree_25 (by decide) ?_
    have hf := Option.some.inj hf
    subst hf
    exact hR _ _ _ _ _ _ hw rfl ⟨rfl, rfl⟩ dX9_agree_29
theorem c_X9_pairs_q2 {res : Int32} (hf : X9_pairs_q2 n x_q2_dials x_q2_count = some res) : MC l E0 D t yX9_pairs cX9_pairs 4 (some .int) 2 0 0 [.ref (a 51)] (cW a ar t x_q0_dials x_q0_spots x_q0_skies x_q0_reports x_q0_count x_q0_chime x_q0_end x_q0_score x_q0_reportCount x_q0_z x_q0_rules x_q0_shades x_q0_facts x_q1_dials x_q1_spots x_q1_skies x_q1_reports x_q1_count x_q1_chime x_q1_end x_q1_score x_q1_reportCount x_q1_z x_q1_rules x_q1_shades x_q1_facts x_q2_dials x_q2_spots x_q2_skies x_q2_reports x_q2_count x_q2_chime x_q2_end x_q2_score x_q2_reportCount x_q2_z x_q2_rules x_q2_shades x_q2_facts x_isKept x_marks x_p_first x_p_steps x_p_most x_p_many x_p_fewest x_p_everRight x_p_opening x_p_rows x_p_rowCount x_p_acts x_p_marks x_p_deepest x_p_wanted x_t_length x_t_tape x_t_words x_t_places x_t_at x_t_kinds x_t_wills x_t_starts x_t_code x_t_count x_t_size x_h_sorts x_h_lengths x_h_items x_h_held x_h_things x_h_sizes x_h_bodies x_h_traced x_h_number x_h_spot x_h_parted x_g_count x_g_kinds x_g_wills x_g_starts x_g_code x_g_stack x_g_kl x_g_wl x_g_sl x_g_cl x_nr) (Qi res (cW a ar t x_q0_dials x_q0_spots x_q0_skies x_q0_reports x_q0_count x_q0_chime x_q0_end x_q0_score x_q0_reportCount x_q0_z x_q0_rules x_q0_shades x_q0_facts x_q1_dials x_q1_spots x_q1_skies x_q1_reports x_q1_count x_q1_chime x_q1_end x_q1_score x_q1_reportCount x_q1_z x_q1_rules x_q1_shades x_q1_facts x_q2_dials x_q2_spots x_q2_skies x_q2_reports x_q2_count x_q2_chime x_q2_end x_q2_score x_q2_reportCount x_q2_z x_q2_rules x_q2_shades x_q2_facts x_isKept x_marks x_p_first x_p_steps x_p_most x_p_many x_p_fewest x_p_everRight x_p_opening x_p_rows x_p_rowCount x_p_acts x_p_marks x_p_deepest x_p_wanted x_t_length x_t_tape x_t_words x_t_places x_t_at x_t_kinds x_t_wills x_t_starts x_t_code x_t_count x_t_size x_h_sorts x_h_lengths x_h_items x_h_held x_h_things x_h_sizes x_h_bodies x_h_traced x_h_number x_h_spot x_h_parted x_g_count x_g_kinds x_g_wills x_g_starts x_g_code x_g_stack x_g_kl x_g_wl x_g_sl x_g_cl x_nr)) := by
  unfold X9_pairs_q2 at hf
  refine MC.ofI pn_X9 (Nat.le_of_ble_eq_true rfl) ?_
  intro p e s m args below meth c A Q ls cx hR hw hl
  have hx := cx.1
  have hb := cx.2.1
  have hl : lv_has ls 4 [(0, .ref (a 51))] := hl
  refine lv_iconst (v := 0) hx hb dX9_pairs_0 (by decide) ?_
  refine lv_istore_n (lv' := [(1, .int (0 : Int32)), (0, .ref (a 51))]) hx hb dX9_pairs_1 rfl hl (by decide) rfl (fun ls hl => ?_)
  refine lv_iconst (v := 0) hx hb dX9_pairs_2 (by decide) ?_
  refine lv_istore_n (lv' := [(2, .int (0 : Int32)), (1, .int (0 : Int32)), (0, .ref (a 51))]) hx hb dX9_pairs_3 rfl hl (by decide) rfl (fun ls hl => ?_)
  obtain ⟨o5, ho5, hf⟩ := bnS hf
  have wL1 : ∀ (k : Nat) {v1 : Int32} {v2 : Int32} {H : Heap} {locs : List Loc} {ls : Array Slot} {o : Int32 × Int32}, X9_pairs_q2_L1 n x_q2_dials x_q2_count k v1 v2 = some o → Wd D A s (cW a ar t x_q0_dials x_q0_spots x_q0_skies x_q0_reports x_q0_count x_q0_chime x_q0_end x_q0_score x_q0_reportCount x_q0_z x_q0_rules x_q0_shades x_q0_facts x_q1_dials x_q1_spots x_q1_skies x_q1_reports x_q1_count x_q1_chime x_q1_end x_q1_score x_q1_reportCount x_q1_z x_q1_rules x_q1_shades x_q1_facts x_q2_dials x_q2_spots x_q2_skies x_q2_reports x_q2_count x_q2_chime x_q2_end x_q2_score x_q2_reportCount x_q2_z x_q2_rules x_q2_shades x_q2_facts x_isKept x_marks x_p_first x_p_steps x_p_most x_p_many x_p_fewest x_p_everRight x_p_opening x_p_rows x_p_rowCount x_p_acts x_p_marks x_p_deepest x_p_wanted x_t_length x_t_tape x_t_words x_t_places x_t_at x_t_kinds x_t_wills x_t_starts x_t_code x_t_count x_t_size x_h_sorts x_h_lengths x_h_items x_h_held x_h_things x_h_sizes x_h_bodies x_h_traced x_h_number x_h_spot x_h_parted x_g_count x_g_kinds x_g_wills x_g_starts x_g_code x_g_stack x_g_kl x_g_wl x_g_sl x_g_cl x_nr) H locs → lv_has ls 4 [(0, .ref (a 51)), (1, .int v1), (2, .int v2)] → (∀ (H : Heap) (locs : List Loc) (ls : Array Slot), Wd D A s (cW a ar t x_q0_dials x_q0_spots x_q0_skies x_q0_reports x_q0_count x_q0_chime x_q0_end x_q0_score x_q0_reportCount x_q0_z x_q0_rules x_q0_shades x_q0_facts x_q1_dials x_q1_spots x_q1_skies x_q1_reports x_q1_count x_q1_chime x_q1_end x_q1_score x_q1_reportCount x_q1_z x_q1_rules x_q1_shades x_q1_facts x_q2_dials x_q2_spots x_q2_skies x_q2_reports x_q2_count x_q2_chime x_q2_end x_q2_score x_q2_reportCount x_q2_z x_q2_rules x_q2_shades x_q2_facts x_isKept x_marks x_p_first x_p_steps x_p_most x_p_many x_p_fewest x_p_everRight x_p_opening x_p_rows x_p_rowCount x_p_acts x_p_marks x_p_deepest x_p_wanted x_t_length x_t_tape x_t_words x_t_places x_t_at x_t_kinds x_t_wills x_t_starts x_t_code x_t_count x_t_size x_h_sorts x_h_lengths x_h_items x_h_held x_h_things x_h_sizes x_h_bodies x_h_traced x_h_number x_h_spot x_h_parted x_g_count x_g_kinds x_g_wills x_g_starts x_g_code x_g_stack x_g_kl x_g_wl x_g_sl x_g_cl x_nr) H locs → lv_has ls 4 [(0, .ref (a 51)), (1, .int o.1), (2, .int o.2)] → W p l e (rmz 2 0 0) s m args below meth c H locs 0 0 Q (F0 m 48 ls [])) → W p l e (rmz 2 0 0) s m args below meth c H locs 0 0 Q (F0 m 4 ls []) := by
    clear hf ho5 hw hl
    intro k
    induction k with
    | zero => intro v1 v2 H locs ls o hf hw hl kx; simp [X9_pairs_q2_L1] at hf
    | succ k ih =>
      intro v1 v2 H locs ls o hf hw hl kx
      rw [X9_pairs_q2_L1] at hf
      refine lv_iload_n hx hb dX9_pairs_4 rfl (lv_at hl 2 rfl) ?_
      refine lv_aload_n hx hb dX9_pairs_5 rfl (lv_at hl 0 rfl) ?_
      refine cg_X9_59_q2 cx hw dX9_pairs_6 ?_
      refine lv_icmp_ge (tgt := 48) hx hb dX9_pairs_9 (by decide) (fun hc => ?_) (fun hc => ?_)
      · have hf := ifT hf hc
        have hf := Option.some.inj hf
        subst hf
        exact kx _ _ _ hw (lv_sub hl [0, 1, 2] rfl)
      · have hf := ifF hf hc
        refine lv_iload_n hx hb dX9_pairs_12 rfl (lv_at hl 2 rfl) ?_
        refine lv_iconst (v := 1) hx hb dX9_pairs_13 (by decide) ?_
        refine lv_iadd hx hb dX9_pairs_14 ?_
        refine lv_istore_n (lv' := [(3, .int (v2 + (1 : Int32))), (0, .ref (a 51)), (1, .int v1), (2, .int v2)]) hx hb dX9_pairs_15 rfl hl (by decide) rfl (fun ls hl => ?_)
        obtain ⟨o4, ho4, hf⟩ := bnS hf
        have wL2 : ∀ (k : Nat) {v1 : Int32} {v2 : Int32} {v3 : Int32} {H : Heap} {locs : List Loc} {ls : Array Slot} {o : Int32 × Int32}, X9_pairs_q2_L2 n x_q2_dials x_q2_count v2 k v1 v3 = some o → Wd D A s (cW a ar t x_q0_dials x_q0_spots x_q0_skies x_q0_reports x_q0_count x_q0_chime x_q0_end x_q0_score x_q0_reportCount x_q0_z x_q0_rules x_q0_shades x_q0_facts x_q1_dials x_q1_spots x_q1_skies x_q1_reports x_q1_count x_q1_chime x_q1_end x_q1_score x_q1_reportCount x_q1_z x_q1_rules x_q1_shades x_q1_facts x_q2_dials x_q2_spots x_q2_skies x_q2_reports x_q2_count x_q2_chime x_q2_end x_q2_score x_q2_reportCount x_q2_z x_q2_rules x_q2_shades x_q2_facts x_isKept x_marks x_p_first x_p_steps x_p_most x_p_many x_p_fewest x_p_everRight x_p_opening x_p_rows x_p_rowCount x_p_acts x_p_marks x_p_deepest x_p_wanted x_t_length x_t_tape x_t_words x_t_places x_t_at x_t_kinds x_t_wills x_t_starts x_t_code x_t_count x_t_size x_h_sorts x_h_lengths x_h_items x_h_held x_h_things x_h_sizes x_h_bodies x_h_traced x_h_number x_h_spot x_h_parted x_g_count x_g_kinds x_g_wills x_g_starts x_g_code x_g_stack x_g_kl x_g_wl x_g_sl x_g_cl x_nr) H locs → lv_has ls 4 [(0, .ref (a 51)), (1, .int v1), (2, .int v2), (3, .int v3)] → (∀ (H : Heap) (locs : List Loc) (ls : Array Slot), Wd D A s (cW a ar t x_q0_dials x_q0_spots x_q0_skies x_q0_reports x_q0_count x_q0_chime x_q0_end x_q0_score x_q0_reportCount x_q0_z x_q0_rules x_q0_shades x_q0_facts x_q1_dials x_q1_spots x_q1_skies x_q1_reports x_q1_count x_q1_chime x_q1_end x_q1_score x_q1_reportCount x_q1_z x_q1_rules x_q1_shades x_q1_facts x_q2_dials x_q2_spots x_q2_skies x_q2_reports x_q2_count x_q2_chime x_q2_end x_q2_score x_q2_reportCount x_q2_z x_q2_rules x_q2_shades x_q2_facts x_isKept x_marks x_p_first x_p_steps x_p_most x_p_many x_p_fewest x_p_everRight x_p_opening x_p_rows x_p_rowCount x_p_acts x_p_marks x_p_deepest x_p_wanted x_t_length x_t_tape x_t_words x_t_places x_t_at x_t_kinds x_t_wills x_t_starts x_t_code x_t_count x_t_size x_h_sorts x_h_lengths x_h_items x_h_held x_h_things x_h_sizes x_h_bodies x_h_traced x_h_number x_h_spot x_h_parted x_g_count x_g_kinds x_g_wills x_g_starts x_g_code x_g_stack x_g_kl x_g_wl x_g_sl x_g_cl x_nr) H locs → lv_has ls 4 [(0, .ref (a 51)), (1, .int o.1), (2, .int v2), (3, .int o.2)] → W p l e (rmz 2 0 0) s m args below meth c H locs 0 0 Q (F0 m 42 ls [])) → W p l e (rmz 2 0 0) s m args below meth c H locs 0 0 Q (F0 m 16 ls []) := by
          clear hf ho4 hw hl
          intro k
          induction k with
          | zero => intro v1 v2 v3 H locs ls o hf hw hl kx; simp [X9_pairs_q2_L2] at hf
          | succ k ih =>
            intro v1 v2 v3 H locs ls o hf hw hl kx
            rw [X9_pairs_q2_L2] at hf
            refine lv_iload_n hx hb dX9_pairs_16 rfl (lv_at hl 3 rfl) ?_
            refine lv_aload_n hx hb dX9_pairs_17 rfl (lv_at hl 0 rfl) ?_
            refine cg_X9_59_q2 cx hw dX9_pairs_18 ?_
            refine lv_icmp_ge (tgt := 42) hx hb dX9_pairs_21 (by decide) (fun hc => ?_) (fun hc => ?_)
            · have hf := ifT hf hc
              have hf := Option.some.inj hf
              subst hf
              exact kx _ _ _ hw (lv_sub hl [0, 1, 2, 3] rfl)
            · have hf := ifF hf hc
              refine lv_aload_n hx hb dX9_pairs_24 rfl (lv_at hl 0 rfl) ?_
              refine lv_iload_n hx hb dX9_pairs_25 rfl (lv_at hl 2 rfl) ?_
              refine lv_iload_n hx hb dX9_pairs_26 rfl (lv_at hl 3 rfl) ?_
              obtain ⟨r1, h2, hf⟩ := bnS hf
              refine calVi cx hw hl.1 (c_X9_agree_q2 h2) q_513 k_X9_agree rfl rv_q2 rfl dX9_pairs_27 rfl (Nat.le_of_ble_eq_true rfl) ⟨Nat.le_of_ble_eq_true rfl, Nat.le_of_ble_eq_true rfl⟩ ⟨Nat.le_refl _, Nat.le_refl _⟩ (fun H locs hw => ?_)
              obtain ⟨j3, hj3, hf⟩ := pbS hf
              have wj3 : ∀ (H : Heap) (locs : List Loc) (ls : Array Slot), Wd D A s (cW a ar t x_q0_dials x_q0_spots x_q0_skies x_q0_reports x_q0_count x_q0_chime x_q0_end x_q0_score x_q0_reportCount x_q0_z x_q0_rules x_q0_shades x_q0_facts x_q1_dials x_q1_spots x_q1_skies x_q1_reports x_q1_count x_q1_chime x_q1_end x_q1_score x_q1_reportCount x_q1_z x_q1_rules x_q1_shades x_q1_facts x_q2_dials x_q2_spots x_q2_skies x_q2_reports x_q2_count x_q2_chime x_q2_end x_q2_score x_q2_reportCount x_q2_z x_q2_rules x_q2_shades x_q2_facts x_isKept x_marks x_p_first x_p_steps x_p_most x_p_many x_p_fewest x_p_everRight x_p_opening x_p_rows x_p_rowCount x_p_acts x_p_marks x_p_deepest x_p_wanted x_t_length x_t_tape x_t_words x_t_places x_t_at x_t_kinds x_t_wills x_t_starts x_t_code x_t_count x_t_size x_h_sorts x_h_lengths x_h_items x_h_held x_h_things x_h_sizes x_h_bodies x_h_traced x_h_number x_h_spot x_h_parted x_g_count x_g_kinds x_g_wills x_g_starts x_g_code x_g_stack x_g_kl x_g_wl x_g_sl x_g_cl x_nr) H locs → lv_has ls 4 [(0, .ref (a 51)), (1, .int j3), (2, .int v2), (3, .int v3)] → W p l e (rmz 2 0 0) s m args below meth c H locs 0 0 Q (F0 m 36 ls []) := by
                intro H locs ls hw hl
                refine lv_iinc (v := (v3 + (1 : Int32))) (lv' := [(3, .int (v3 + (1 : Int32))), (0, .ref (a 51)), (1, .int j3), (2, .int v2)]) hx hb dX9_pairs_36 hl (k := 3) rfl rfl (by decide) rfl (fun ls hl => ?_)
                refine lv_goto (tgt := 16) hx hb dX9_pairs_39 (by decide) ?_
                exact ih hf hw (lv_sub hl [1, 2, 3, 0] rfl) kx
              clear hf
              have hf := hj3
              clear hj3
              refine lv_if_eq (tgt := 36) hx hb dX9_pairs_30 (by decide) (fun hc => ?_) (fun hc => ?_)
              · have hf := ifT hf hc
                subst hf
                exact wj3 _ _ _ hw (lv_sub hl [0, 1, 2, 3] rfl)
              · have hf := ifF hf hc
                refine lv_iinc (v := (v1 + (1 : Int32))) (lv' := [(1, .int (v1 + (1 : Int32))), (0, .ref (a 51)), (2, .int v2), (3, .int v3)]) hx hb dX9_pairs_33 hl (k := 1) rfl rfl (by decide) rfl (fun ls hl => ?_)
                subst hf
                exact wj3 _ _ _ hw (lv_sub hl [1, 0, 2, 3] rfl)
        refine wL2 n ho4 hw (lv_sub hl [1, 2, 3, 0] rfl) (fun H locs ls hw hl => ?_)
        clear wL2 ho4
        refine lv_iinc (v := (v2 + (1 : Int32))) (lv' := [(2, .int (v2 + (1 : Int32))), (0, .ref (a 51)), (1, .int o4.1), (3, .int o4.2)]) hx hb dX9_pairs_42 hl (k := 2) rfl rfl (by decide) rfl (fun ls hl => ?_)
        refine lv_goto (tgt := 4) hx hb dX9_pairs_45 (by decide) ?_
        exact ih hf hw (lv_sub hl [1, 2, 0] rfl) kx
  refine wL1 n ho5 hw (lv_sub hl [2, 1, 0] rfl) (fun H locs ls hw hl => ?_)
  clear wL1 ho5
  refine lv_iload_n hx hb dX9_pairs_48 rfl (lv_at hl 1 rfl) ?_
  have hf := Option.some.inj hf
  subst hf
  exact hR _ _ _ _ _ _ hw rfl ⟨rfl, rfl⟩ dX9_pairs_49
theorem c_X9_kindOf_q2 {v1 : Int32} {res : Nat} (hf : X9_kindOf_q2 x_q2_dials v1 = some res) : MC l E0 D t yX9_kindOf cX9_kindOf 2 (some ((.object "DialSquare$Dial"))) 1 0 0 [.ref (a 51), .int v1] (cW a ar t x_q0_dials x_q0_spots x_q0_skies x_q0_reports x_q0_count x_q0_chime x_q0_end x_q0_score x_q0_reportCount x_q0_z x_q0_rules x_q0_shades x_q0_facts x_q1_dials x_q1_spots x_q1_skies x_q1_reports x_q1_count x_q1_chime x_q1_end x_q1_score x_q1_reportCount x_q1_z x_q1_rules x_q1_shades x_q1_facts x_q2_dials x_q2_spots x_q2_skies x_q2_reports x_q2_count x_q2_chime x_q2_end x_q2_score x_q2_reportCount x_q2_z x_q2_rules x_q2_shades x_q2_facts x_isKept x_marks x_p_first x_p_steps x_p_most x_p_many x_p_fewest x_p_everRight x_p_opening x_p_rows x_p_rowCount x_p_acts x_p_marks x_p_deepest x_p_wanted x_t_length x_t_tape x_t_words x_t_places x_t_at x_t_kinds x_t_wills x_t_starts x_t_code x_t_count x_t_size x_h_sorts x_h_lengths x_h_items x_h_held x_h_things x_h_sizes x_h_bodies x_h_traced x_h_number x_h_spot x_h_parted x_g_count x_g_kinds x_g_wills x_g_starts x_g_code x_g_stack x_g_kl x_g_wl x_g_sl x_g_cl x_nr) (Qa (a (78 + res)) (cW a ar t x_q0_dials x_q0_spots x_q0_skies x_q0_reports x_q0_count x_q0_chime x_q0_end x_q0_score x_q0_reportCount x_q0_z x_q0_rules x_q0_shades x_q0_facts x_q1_dials x_q1_spots x_q1_skies x_q1_reports x_q1_count x_q1_chime x_q1_end x_q1_score x_q1_reportCount x_q1_z x_q1_rules x_q1_shades x_q1_facts x_q2_dials x_q2_spots x_q2_skies x_q2_reports x_q2_count x_q2_chime x_q2_end x_q2_score x_q2_reportCount x_q2_z x_q2_rules x_q2_shades x_q2_facts x_isKept x_marks x_p_first x_p_steps x_p_most x_p_many x_p_fewest x_p_everRight x_p_opening x_p_rows x_p_rowCount x_p_acts x_p_marks x_p_deepest x_p_wanted x_t_length x_t_tape x_t_words x_t_places x_t_at x_t_kinds x_t_wills x_t_starts x_t_code x_t_count x_t_size x_h_sorts x_h_lengths x_h_items x_h_held x_h_things x_h_sizes x_h_bodies x_h_traced x_h_number x_h_spot x_h_parted x_g_count x_g_kinds x_g_wills x_g_starts x_g_code x_g_stack x_g_kl x_g_wl x_g_sl x_g_cl x_nr)) := by
  unfold X9_kindOf_q2 at hf
  refine MC.ofA (Or.inl ⟨_, rfl⟩) pn_X9 (Nat.le_of_ble_eq_true rfl) ?_
  intro p e s m args below meth c A Q ls cx hR hw hl
  have hx := cx.1
  have hb := cx.2.1
  have hl : lv_has ls 2 [(0, .ref (a 51)), (1, .int v1)] := hl
  refine lv_aload_n hx hb dX9_kindOf_0 rfl (lv_at hl 0 rfl) ?_
  refine cg_X9_39_q2 cx hw dX9_kindOf_1 ?_
  refine lv_aload_n hx hb dX9_kindOf_4 rfl (lv_at hl 0 rfl) ?_
  refine cg_X9_11_q2 cx hw dX9_kindOf_5 ?_
  refine lv_iload_n hx hb dX9_kindOf_8 rfl (lv_at hl 1 rfl) ?_
  obtain ⟨h1, hf⟩ := ckS hf
  refine co_q2_dials (j := v1.toNatClampNeg) cx hw (ib_in h1) rfl dX9_kindOf_9 ?_
  refine lv_iconst (v := 0) hx hb dX9_kindOf_10 (by decide) ?_
  refine cm_q2_dials (j := 0) cx hw (ib_lt h1) (ib_in (by decide)) (by decide) dX9_kindOf_11 ?_
  obtain ⟨h2, hf⟩ := ckS hf
  refine co_kinds (j := (x_q2_dials v1.toNatClampNeg 0).toNatClampNeg) cx hw (ib_in h2) rfl dX9_kindOf_12 ?_
  have hf := Option.some.inj hf
  subst hf
  exact hR _ _ _ _ _ _ hw ⟨rfl, rfl⟩ dX9_kindOf_13
theorem c_X9_measureShades_q2 {res : (Nat → Int32)} (hf : X9_measureShades_q2 n x_q2_dials x_q2_spots x_q2_skies x_q2_count x_q2_chime x_q2_shades = some res) : MC l E0 D t yX9_measureShades cX9_measureShades 4 none 4 0 0 [.ref (a 51)] (cW a ar t x_q0_dials x_q0_spots x_q0_skies x_q0_reports x_q0_count x_q0_chime x_q0_end x_q0_score x_q0_reportCount x_q0_z x_q0_rules x_q0_shades x_q0_facts x_q1_dials x_q1_spots x_q1_skies x_q1_reports x_q1_count x_q1_chime x_q1_end x_q1_score x_q1_reportCount x_q1_z x_q1_rules x_q1_shades x_q1_facts x_q2_dials x_q2_spots x_q2_skies x_q2_reports x_q2_count x_q2_chime x_q2_end x_q2_score x_q2_reportCount x_q2_z x_q2_rules x_q2_shades x_q2_facts x_isKept x_marks x_p_first x_p_steps x_p_most x_p_many x_p_fewest x_p_everRight x_p_opening x_p_rows x_p_rowCount x_p_acts x_p_marks x_p_deepest x_p_wanted x_t_length x_t_tape x_t_words x_t_places x_t_at x_t_kinds x_t_wills x_t_starts x_t_code x_t_count x_t_size x_h_sorts x_h_lengths x_h_items x_h_held x_h_things x_h_sizes x_h_bodies x_h_traced x_h_number x_h_spot x_h_parted x_g_count x_g_kinds x_g_wills x_g_starts x_g_code x_g_stack x_g_kl x_g_wl x_g_sl x_g_cl x_nr) (Qn (cW a ar t x_q0_dials x_q0_spots x_q0_skies x_q0_reports x_q0_count x_q0_chime x_q0_end x_q0_score x_q0_reportCount x_q0_z x_q0_rules x_q0_shades x_q0_facts x_q1_dials x_q1_spots x_q1_skies x_q1_reports x_q1_count x_q1_chime x_q1_end x_q1_score x_q1_reportCount x_q1_z x_q1_rules x_q1_shades x_q1_facts x_q2_dials x_q2_spots x_q2_skies x_q2_reports x_q2_count x_q2_chime x_q2_end x_q2_score x_q2_reportCount x_q2_z x_q2_rules res x_q2_facts x_isKept x_marks x_p_first x_p_steps x_p_most x_p_many x_p_fewest x_p_everRight x_p_opening x_p_rows x_p_rowCount x_p_acts x_p_marks x_p_deepest x_p_wanted x_t_length x_t_tape x_t_words x_t_places x_t_at x_t_kinds x_t_wills x_t_starts x_t_code x_t_count x_t_size x_h_sorts x_h_lengths x_h_items x_h_held x_h_things x_h_sizes x_h_bodies x_h_traced x_h_number x_h_spot x_h_parted x_g_count x_g_kinds x_g_wills x_g_starts x_g_code x_g_stack x_g_kl x_g_wl x_g_sl x_g_cl x_nr)) := by
  unfold X9_measureShades_q2 at hf
  refine MC.ofV pn_X9 (Nat.le_of_ble_eq_true rfl) ?_
  intro p e s m args below meth c A Q ls cx hR hw hl
  have hx := cx.1
  have hb := cx.2.1
  have hl : lv_has ls 4 [(0, .ref (a 51))] := hl
  refine lv_iconst (v := 0) hx hb dX9_measureShades_0 (by decide) ?_
  refine lv_istore_n (lv' := [(1, .int (0 : Int32)), (0, .ref (a 51))]) hx hb dX9_measureShades_1 rfl hl (by decide) rfl (fun ls hl => ?_)
  obtain ⟨o3, ho3, hf⟩ := bnS hf
  have wL1 : ∀ (k : Nat) {v1 : Int32} {x_q2_shades : Nat → Int32} {H : Heap} {locs : List Loc} {ls : Array Slot} {o : Int32 × (Nat → Int32)}, X9_measureShades_q2_L1 n x_q2_spots k v1 x_q2_shades = some o → Wd D A s (cW a ar t x_q0_dials x_q0_spots x_q0_skies x_q0_reports x_q0_count x_q0_chime x_q0_end x_q0_score x_q0_reportCount x_q0_z x_q0_rules x_q0_shades x_q0_facts x_q1_dials x_q1_spots x_q1_skies x_q1_reports x_q1_count x_q1_chime x_q1_end x_q1_score x_q1_reportCount x_q1_z x_q1_rules x_q1_shades x_q1_facts x_q2_dials x_q2_spots x_q2_skies x_q2_reports x_q2_count x_q2_chime x_q2_end x_q2_score x_q2_reportCount x_q2_z x_q2_rules x_q2_shades x_q2_facts x_isKept x_marks x_p_first x_p_steps x_p_most x_p_many x_p_fewest x_p_everRight x_p_opening x_p_rows x_p_rowCount x_p_acts x_p_marks x_p_deepest x_p_wanted x_t_length x_t_tape x_t_words x_t_places x_t_at x_t_kinds x_t_wills x_t_starts x_t_code x_t_count x_t_size x_h_sorts x_h_lengths x_h_items x_h_held x_h_things x_h_sizes x_h_bodies x_h_traced x_h_number x_h_spot x_h_parted x_g_count x_g_kinds x_g_wills x_g_starts x_g_code x_g_stack x_g_kl x_g_wl x_g_sl x_g_cl x_nr) H locs → lv_has ls 4 [(0, .ref (a 51)), (1, .int v1)] → (∀ (H : Heap) (locs : List Loc) (ls : Array Slot), Wd D A s (cW a ar t x_q0_dials x_q0_spots x_q0_skies x_q0_reports x_q0_count x_q0_chime x_q0_end x_q0_score x_q0_reportCount x_q0_z x_q0_rules x_q0_shades x_q0_facts x_q1_dials x_q1_spots x_q1_skies x_q1_reports x_q1_count x_q1_chime x_q1_end x_q1_score x_q1_reportCount x_q1_z x_q1_rules x_q1_shades x_q1_facts x_q2_dials x_q2_spots x_q2_skies x_q2_reports x_q2_count x_q2_chime x_q2_end x_q2_score x_q2_reportCount x_q2_z x_q2_rules o.2 x_q2_facts x_isKept x_marks x_p_first x_p_steps x_p_most x_p_many x_p_fewest x_p_everRight x_p_opening x_p_rows x_p_rowCount x_p_acts x_p_marks x_p_deepest x_p_wanted x_t_length x_t_tape x_t_words x_t_places x_t_at x_t_kinds x_t_wills x_t_starts x_t_code x_t_count x_t_size x_h_sorts x_h_lengths x_h_items x_h_held x_h_things x_h_sizes x_h_bodies x_h_traced x_h_number x_h_spot x_h_parted x_g_count x_g_kinds x_g_wills x_g_starts x_g_code x_g_stack x_g_kl x_g_wl x_g_sl x_g_cl x_nr) H locs → lv_has ls 4 [(0, .ref (a 51)), (1, .int o.1)] → W p l e (rmz 4 0 0) s m args below meth c H locs 0 0 Q (F0 m 28 ls [])) → W p l e (rmz 4 0 0) s m args below meth c H locs 0 0 Q (F0 m 2 ls []) := by
    clear hf ho3 hw hl
    intro k
    induction k with
    | zero => intro v1 x_q2_shades H locs ls o hf hw hl kx; simp [X9_measureShades_q2_L1] at hf
    | succ k ih =>
      intro v1 x_q2_shades H locs ls o hf hw hl kx
      rw [X9_measureShades_q2_L1] at hf
      refine lv_iload_n hx hb dX9_measureShades_2 rfl (lv_at hl 1 rfl) ?_
      refine lv_bipush (v := 6) hx hb dX9_measureShades_3 (by decide) ?_
      refine lv_icmp_ge (tgt := 28) hx hb dX9_measureShades_5 (by decide) (fun hc => ?_) (fun hc => ?_)
      · have hf := ifT hf hc
        have hf := Option.some.inj hf
        subst hf
        exact kx _ _ _ hw (lv_sub hl [0, 1] rfl)
      · have hf := ifF hf hc
        refine lv_aload_n hx hb dX9_measureShades_8 rfl (lv_at hl 0 rfl) ?_
        refine cg_X9_33_q2 cx hw dX9_measureShades_9 ?_
        refine lv_iload_n hx hb dX9_measureShades_12 rfl (lv_at hl 1 rfl) ?_
        refine lv_aload_n hx hb dX9_measureShades_13 rfl (lv_at hl 0 rfl) ?_
        refine cg_X9_16_q2 cx hw dX9_measureShades_14 ?_
        refine lv_iload_n hx hb dX9_measureShades_17 rfl (lv_at hl 1 rfl) ?_
        obtain ⟨h1, hf⟩ := ckS hf
        refine co_q2_spots (j := v1.toNatClampNeg) cx hw (ib_in h1) rfl dX9_measureShades_18 ?_
        refine lv_iconst (v := 0) hx hb dX9_measureShades_19 (by decide) ?_
        refine cm_q2_spots (j := 0) cx hw (ib_lt h1) (ib_in (by decide)) (by decide) dX9_measureShades_20 ?_
        obtain ⟨h2, hf⟩ := ckS hf
        refine cs_q2_shades (j := v1.toNatClampNeg) cx hw (ib_in h2) rfl dX9_measureShades_21 (fun H locs hw => ?_)
        refine lv_iinc (v := (v1 + (1 : Int32))) (lv' := [(1, .int (v1 + (1 : Int32))), (0, .ref (a 51))]) hx hb dX9_measureShades_22 hl (k := 1) rfl rfl (by decide) rfl (fun ls hl => ?_)
        refine lv_goto (tgt := 2) hx hb dX9_measureShades_25 (by decide) ?_
        exact ih hf hw (lv_sub hl [1, 0] rfl) kx
  refine wL1 n ho3 hw (lv_sub hl [1, 0] rfl) (fun H locs ls hw hl => ?_)
  clear wL1 ho3
  refine lv_aload_n hx hb dX9_measureShades_28 rfl (lv_at hl 0 rfl) ?_
  refine lv_aload_n hx hb dX9_measureShades_29 rfl (lv_at hl 0 rfl) ?_
  refine cg_X9_62_q2 cx hw dX9_measureShades_30 ?_
  obtain ⟨r4, h5, hf⟩ := bnS hf
  refine calVi cx hw hl.1 (c_X9_skyAt_q2 h5) q_376 k_X9_skyAt rfl rv_q2 rfl dX9_measureShades_33 rfl (Nat.le_of_ble_eq_true rfl) ⟨Nat.le_of_ble_eq_true rfl, Nat.le_of_ble_eq_true rfl⟩ ⟨Nat.le_refl _, Nat.le_refl _⟩ (fun H locs hw => ?_)
  refine lv_iconst (v := 4) hx hb dX9_measureShades_36 (by decide) ?_
  refine lv_idiv hx hb dX9_measureShades_37 (by decide) ?_
  refine lv_istore_n (lv' := [(1, .int (r4 / (4 : Int32))), (0, .ref (a 51))]) hx hb dX9_measureShades_38 rfl hl (by decide) rfl (fun ls hl => ?_)
  refine lv_iconst (v := 0) hx hb dX9_measureShades_39 (by decide) ?_
  refine lv_istore_n (lv' := [(2, .int (0 : Int32)), (1, .int (r4 / (4 : Int32))), (0, .ref (a 51))]) hx hb dX9_measureShades_40 rfl hl (by decide) rfl (fun ls hl => ?_)
  obtain ⟨o13, ho13, hf⟩ := bnS hf
  have wL2 : ∀ (k : Nat) {v1 : Int32} {v2 : Int32} {x_q2_shades : Nat → Int32} {H : Heap} {locs : List Loc} {ls : Array Slot} {o : Int32 × (Nat → Int32)}, X9_measureShades_q2_L2 n x_q2_dials x_q2_count x_q2_chime v1 k v2 x_q2_shades = some o → Wd D A s (cW a ar t x_q0_dials x_q0_spots x_q0_skies x_q0_reports x_q0_count x_q0_chime x_q0_end x_q0_score x_q0_reportCount x_q0_z x_q0_rules x_q0_shades x_q0_facts x_q1_dials x_q1_spots x_q1_skies x_q1_reports x_q1_count x_q1_chime x_q1_end x_q1_score x_q1_reportCount x_q1_z x_q1_rules x_q1_shades x_q1_facts x_q2_dials x_q2_spots x_q2_skies x_q2_reports x_q2_count x_q2_chime x_q2_end x_q2_score x_q2_reportCount x_q2_z x_q2_rules x_q2_shades x_q2_facts x_isKept x_marks x_p_first x_p_steps x_p_most x_p_many x_p_fewest x_p_everRight x_p_opening x_p_rows x_p_rowCount x_p_acts x_p_marks x_p_deepest x_p_wanted x_t_length x_t_tape x_t_words x_t_places x_t_at x_t_kinds x_t_wills x_t_starts x_t_code x_t_count x_t_size x_h_sorts x_h_lengths x_h_items x_h_held x_h_things x_h_sizes x_h_bodies x_h_traced x_h_number x_h_spot x_h_parted x_g_count x_g_kinds x_g_wills x_g_starts x_g_code x_g_stack x_g_kl x_g_wl x_g_sl x_g_cl x_nr) H locs → lv_has ls 4 [(0, .ref (a 51)), (1, .int v1), (2, .int v2)] → (∀ (H : Heap) (locs : List Loc) (ls : Array Slot), Wd D A s (cW a ar t x_q0_dials x_q0_spots x_q0_skies x_q0_reports x_q0_count x_q0_chime x_q0_end x_q0_score x_q0_reportCount x_q0_z x_q0_rules x_q0_shades x_q0_facts x_q1_dials x_q1_spots x_q1_skies x_q1_reports x_q1_count x_q1_chime x_q1_end x_q1_score x_q1_reportCount x_q1_z x_q1_rules x_q1_shades x_q1_facts x_q2_dials x_q2_spots x_q2_skies x_q2_reports x_q2_count x_q2_chime x_q2_end x_q2_score x_q2_reportCount x_q2_z x_q2_rules o.2 x_q2_facts x_isKept x_marks x_p_first x_p_steps x_p_most x_p_many x_p_fewest x_p_everRight x_p_opening x_p_rows x_p_rowCount x_p_acts x_p_marks x_p_deepest x_p_wanted x_t_length x_t_tape x_t_words x_t_places x_t_at x_t_kinds x_t_wills x_t_starts x_t_code x_t_count x_t_size x_h_sorts x_h_lengths x_h_items x_h_held x_h_things x_h_sizes x_h_bodies x_h_traced x_h_number x_h_spot x_h_parted x_g_count x_g_kinds x_g_wills x_g_starts x_g_code x_g_stack x_g_kl x_g_wl x_g_sl x_g_cl x_nr) H locs → lv_has ls 4 [(0, .ref (a 51)), (1, .int v1), (2, .int o.1)] → W p l e (rmz 4 0 0) s m args below meth c H locs 0 0 Q (F0 m 94 ls [])) → W p l e (rmz 4 0 0) s m args below meth c H locs 0 0 Q (F0 m 41 ls []) := by
    clear hf ho13 hw hl
    intro k
    induction k with
    | zero => intro v1 v2 x_q2_shades H locs ls o hf hw hl kx; simp [X9_measureShades_q2_L2] at hf
    | succ k ih =>
      intro v1 v2 x_q2_shades H locs ls o hf hw hl kx
      rw [X9_measureShades_q2_L2] at hf
      refine lv_iload_n hx hb dX9_measureShades_41 rfl (lv_at hl 2 rfl) ?_
      refine lv_aload_n hx hb dX9_measureShades_42 rfl (lv_at hl 0 rfl) ?_
      refine cg_X9_59_q2 cx hw dX9_measureShades_43 ?_
      refine lv_icmp_ge (tgt := 94) hx hb dX9_measureShades_46 (by decide) (fun hc => ?_) (fun hc => ?_)
      · have hf := ifT hf hc
        have hf := Option.some.inj hf
        subst hf
        exact kx _ _ _ hw (lv_sub hl [0, 1, 2] rfl)
      · have hf := ifF hf hc
        refine lv_aload_n hx hb dX9_measureShades_49 rfl (lv_at hl 0 rfl) ?_
        refine cg_X9_11_q2 cx hw dX9_measureShades_50 ?_
        refine lv_iload_n hx hb dX9_measureShades_53 rfl (lv_at hl 2 rfl) ?_
        obtain ⟨h6, hf⟩ := ckS hf
        refine co_q2_dials (j := v2.toNatClampNeg) cx hw (ib_in h6) rfl dX9_measureShades_54 ?_
        refine lv_iconst (v := 3) hx hb dX9_measureShades_55 (by decide) ?_
        refine cm_q2_dials (j := 3) cx hw (ib_lt h6) (ib_in (by decide)) (by decide) dX9_measureShades_56 ?_
        refine lv_iconst (v := 1) hx hb dX9_measureShades_57 (by decide) ?_
        refine lv_iadd hx hb dX9_measureShades_58 ?_
        refine lv_istore_n (lv' := [(3, .int ((x_q2_dials v2.toNatClampNeg 3) + (1 : Int32))), (0, .ref (a 51)), (1, .int v1), (2, .int v2)]) hx hb dX9_measureShades_59 rfl hl (by decide) rfl (fun ls hl => ?_)
        refine lv_iload_n hx hb dX9_measureShades_60 rfl (lv_at hl 0 rfl) ?_
        refine lv_bipush (v := 6) hx hb dX9_measureShades_61 (by decide) ?_
        obtain ⟨j12, hj12, hf⟩ := bnS hf
        have wj12 : ∀ (H : Heap) (locs : List Loc) (ls : Array Slot), Wd D A s (cW a ar t x_q0_dials x_q0_spots x_q0_skies x_q0_reports x_q0_count x_q0_chime x_q0_end x_q0_score x_q0_reportCount x_q0_z x_q0_rules x_q0_shades x_q0_facts x_q1_dials x_q1_spots x_q1_skies x_q1_reports x_q1_count x_q1_chime x_q1_end x_q1_score x_q1_reportCount x_q1_z x_q1_rules x_q1_shades x_q1_facts x_q2_dials x_q2_spots x_q2_skies x_q2_reports x_q2_count x_q2_chime x_q2_end x_q2_score x_q2_reportCount x_q2_z x_q2_rules j12 x_q2_facts x_isKept x_marks x_p_first x_p_steps x_p_most x_p_many x_p_fewest x_p_everRight x_p_opening x_p_rows x_p_rowCount x_p_acts x_p_marks x_p_deepest x_p_wanted x_t_length x_t_tape x_t_words x_t_places x_t_at x_t_kinds x_t_wills x_t_starts x_t_code x_t_count x_t_size x_h_sorts x_h_lengths x_h_items x_h_held x_h_things x_h_sizes x_h_bodies x_h_traced x_h_number x_h_spot x_h_parted x_g_count x_g_kinds x_g_wills x_g_starts x_g_code x_g_stack x_g_kl x_g_wl x_g_sl x_g_cl x_nr) H locs → lv_has ls 4 [(0, .ref (a 51)), (1, .int v1), (2, .int v2), (3, .int ((x_q2_dials v2.toNatClampNeg 3) + (1 : Int32)))] → W p l e (rmz 4 0 0) s m args below meth c H locs 0 0 Q (F0 m 88 ls []) := by
          intro H locs ls hw hl
          refine lv_iinc (v := (v2 + (1 : Int32))) (lv' := [(2, .int (v2 + (1 : Int32))), (0, .ref (a 51)), (1, .int v1), (3, .int ((x_q2_dials v2.toNatClampNeg 3) + (1 : Int32)))]) hx hb dX9_measureShades_88 hl (k := 2) rfl rfl (by decide) rfl (fun ls hl => ?_)
          refine lv_goto (tgt := 41) hx hb dX9_measureShades_91 (by decide) ?_
          exact ih hf hw (lv_sub hl [1, 2, 0] rfl) kx
        clear hf
        have hf := hj12
        clear hj12
        refine lv_icmp_ge (tgt := 88) hx hb dX9_measureShades_63 (by decide) (fun hc => ?_) (fun hc => ?_)
        · have hf := ifT hf hc
          have hf := Option.some.inj hf
          subst hf
          exact wj12 _ _ _ hw (lv_sub hl [1, 2, 3, 0] rfl)
        · have hf := ifF hf hc
          refine lv_aload_n hx hb dX9_measureShades_66 rfl (lv_at hl 1 rfl) ?_
          refine cg_X9_33_q2 cx hw dX9_measureShades_67 ?_
          refine lv_iload_n hx hb dX9_measureShades_70 rfl (lv_at hl 0 rfl) ?_
          refine lv_dup2_11 hx hb dX9_measureShades_71 rfl rfl ?_
          obtain ⟨h7, hf⟩ := ckS hf
          refine cl_q2_shades (j := ((x_q2_dials v2.toNatClampNeg 3) + (1 : Int32)).toNatClampNeg) cx hw (ib_in h7) rfl dX9_measureShades_72 ?_
          refine lv_aload_n hx hb dX9_measureShades_73 rfl (lv_at hl 1 rfl) ?_
          refine lv_iload_n hx hb dX9_measureShades_74 rfl (lv_at hl 3 rfl) ?_
          obtain ⟨r8, h9, hf⟩ := bnS hf
          refine calVa cx hw hl.1 (c_X9_kindOf_q2 h9) q_372 k_X9_kindOf rfl rv_q2 rfl dX9_measureShades_75 rfl (Nat.le_of_ble_eq_true rfl) ⟨Nat.le_of_ble_eq_true rfl, Nat.le_of_ble_eq_true rfl⟩ ⟨Nat.le_refl _, Nat.le_refl _⟩ (fun H locs hw => ?_)
          obtain ⟨h10, hf⟩ := ckS hf
          refine lv_iload_n hx hb dX9_measureShades_78 rfl (lv_at hl 2 rfl) ?_
          refine lv_aload_n hx hb dX9_measureShades_79 rfl (lv_at hl 1 rfl) ?_
          refine cg_X9_62_q2 cx hw dX9_measureShades_80 ?_
          refine vr_shades_X9_83 cx hw hl.1 (dc h10) dX9_measureShades_83 (Nat.le_of_ble_eq_true rfl) (Nat.le_of_ble_eq_true rfl) (Nat.le_of_ble_eq_true rfl) ⟨Nat.le_refl _, Nat.le_refl _⟩ (fun H locs hw => ?_)
          refine lv_iadd hx hb dX9_measureShades_86 ?_
          obtain ⟨h11, hf⟩ := ckS hf
          refine cs_q2_shades (j := ((x_q2_dials v2.toNatClampNeg 3) + (1 : Int32)).toNatClampNeg) cx hw (ib_in h11) rfl dX9_measureShades_87 (fun H locs hw => ?_)
          have hf := Option.some.inj hf
          subst hf
          exact wj12 _ _ _ hw (lv_sub hl [1, 2, 3, 0] rfl)
  refine wL2 n ho13 hw (lv_sub hl [2, 1, 0] rfl) (fun H locs ls hw hl => ?_)
  clear wL2 ho13
  have hf := Option.some.inj hf
  subst hf
  exact hR _ _ _ _ _ hw ⟨rfl, rfl⟩ dX9_measureShades_94
theorem c_X9_slipAll_q2 {res : (Nat → Nat → Int32)} (hf : X9_slipAll_q2 n x_q2_dials x_q2_skies x_q2_count x_q2_chime x_q2_shades = some res) : MC l E0 D t yX9_slipAll cX9_slipAll 4 none 4 0 0 [.ref (a 51)] (cW a ar t x_q0_dials x_q0_spots x_q0_skies x_q0_reports x_q0_count x_q0_chime x_q0_end x_q0_score x_q0_reportCount x_q0_z x_q0_rules x_q0_shades x_q0_facts x_q1_dials x_q1_spots x_q1_skies x_q1_reports x_q1_count x_q1_chime x_q1_end x_q1_score x_q1_reportCount x_q1_z x_q1_rules x_q1_shades x_q1_facts x_q2_dials x_q2_spots x_q2_skies x_q2_reports x_q2_count x_q2_chime x_q2_end x_q2_score x_q2_reportCount x_q2_z x_q2_rules x_q2_shades x_q2_facts x_isKept x_marks x_p_first x_p_steps x_p_most x_p_many x_p_fewest x_p_everRight x_p_opening x_p_rows x_p_rowCount x_p_acts x_p_marks x_p_deepest x_p_wanted x_t_length x_t_tape x_t_words x_t_places x_t_at x_t_kinds x_t_wills x_t_starts x_t_code x_t_count x_t_size x_h_sorts x_h_lengths x_h_items x_h_held x_h_things x_h_sizes x_h_bodies x_h_traced x_h_number x_h_spot x_h_parted x_g_count x_g_kinds x_g_wills x_g_starts x_g_code x_g_stack x_g_kl x_g_wl x_g_sl x_g_cl x_nr) (Qn (cW a ar t x_q0_dials x_q0_spots x_q0_skies x_q0_reports x_q0_count x_q0_chime x_q0_end x_q0_score x_q0_reportCount x_q0_z x_q0_rules x_q0_shades x_q0_facts x_q1_dials x_q1_spots x_q1_skies x_q1_reports x_q1_count x_q1_chime x_q1_end x_q1_score x_q1_reportCount x_q1_z x_q1_rules x_q1_shades x_q1_facts res x_q2_spots x_q2_skies x_q2_reports x_q2_count x_q2_chime x_q2_end x_q2_score x_q2_reportCount x_q2_z x_q2_rules x_q2_shades x_q2_facts x_isKept x_marks x_p_first x_p_steps x_p_most x_p_many x_p_fewest x_p_everRight x_p_opening x_p_rows x_p_rowCount x_p_acts x_p_marks x_p_deepest x_p_wanted x_t_length x_t_tape x_t_words x_t_places x_t_at x_t_kinds x_t_wills x_t_starts x_t_code x_t_count x_t_size x_h_sorts x_h_lengths x_h_items x_h_held x_h_things x_h_sizes x_h_bodies x_h_traced x_h_number x_h_spot x_h_parted x_g_count x_g_kinds x_g_wills x_g_starts x_g_code x_g_stack x_g_kl x_g_wl x_g_sl x_g_cl x_nr)) := by
  unfold X9_slipAll_q2 at hf
  refine MC.ofV pn_X9 (Nat.le_of_ble_eq_true rfl) ?_
  intro p e s m args below meth c A Q ls cx hR hw hl
  have hx := cx.1
  have hb := cx.2.1
  have hl : lv_has ls 4 [(0, .ref (a 51))] := hl
  refine lv_aload_n hx hb dX9_slipAll_0 rfl (lv_at hl 0 rfl) ?_
  refine lv_aload_n hx hb dX9_slipAll_1 rfl (lv_at hl 0 rfl) ?_
  refine cg_X9_62_q2 cx hw dX9_slipAll_2 ?_
  obtain ⟨r1, h2, hf⟩ := bnS hf
  refine calVi cx hw hl.1 (c_X9_skyAt_q2 h2) q_376 k_X9_skyAt rfl rv_q2 rfl dX9_slipAll_5 rfl (Nat.le_of_ble_eq_true rfl) ⟨Nat.le_of_ble_eq_true rfl, Nat.le_of_ble_eq_true rfl⟩ ⟨Nat.le_refl _, Nat.le_refl _⟩ (fun H locs hw => ?_)
  refine lv_iconst (v := 4) hx hb dX9_slipAll_8 (by decide) ?_
  refine lv_irem hx hb dX9_slipAll_9 (by decide) ?_
  refine lv_istore_n (lv' := [(1, .int (irm r1 (4 : Int32))), (0, .ref (a 51))]) hx hb dX9_slipAll_10 rfl hl (by decide) rfl (fun ls hl => ?_)
  refine lv_iconst (v := 0) hx hb dX9_slipAll_11 (by decide) ?_
  refine lv_istore_n (lv' := [(2, .int (0 : Int32)), (1, .int (irm r1 (4 : Int32))), (0, .ref (a 51))]) hx hb dX9_slipAll_12 rfl hl (by decide) rfl (fun ls hl => ?_)
  obtain ⟨o15, ho15, hf⟩ := bnS hf
  have wL1 : ∀ (k : Nat) {v1 : Int32} {v2 : Int32} {x_q2_dials : Nat → Nat → Int32} {H : Heap} {locs : List Loc} {ls : Array Slot} {o : Int32 × (Nat → Nat → Int32)}, X9_slipAll_q2_L1 n x_q2_count x_q2_shades v1 k v2 x_q2_dials = some o → Wd D A s (cW a ar t x_q0_dials x_q0_spots x_q0_skies x_q0_reports x_q0_count x_q0_chime x_q0_end x_q0_score x_q0_reportCount x_q0_z x_q0_rules x_q0_shades x_q0_facts x_q1_dials x_q1_spots x_q1_skies x_q1_reports x_q1_count x_q1_chime x_q1_end x_q1_score x_q1_reportCount x_q1_z x_q1_rules x_q1_shades x_q1_facts x_q2_dials x_q2_spots x_q2_skies x_q2_reports x_q2_count x_q2_chime x_q2_end x_q2_score x_q2_reportCount x_q2_z x_q2_rules x_q2_shades x_q2_facts x_isKept x_marks x_p_first x_p_steps x_p_most x_p_many x_p_fewest x_p_everRight x_p_opening x_p_rows x_p_rowCount x_p_acts x_p_marks x_p_deepest x_p_wanted x_t_length x_t_tape x_t_words x_t_places x_t_at x_t_kinds x_t_wills x_t_starts x_t_code x_t_count x_t_size x_h_sorts x_h_lengths x_h_items x_h_held x_h_things x_h_sizes x_h_bodies x_h_traced x_h_number x_h_spot x_h_parted x_g_count x_g_kinds x_g_wills x_g_starts x_g_code x_g_stack x_g_kl x_g_wl x_g_sl x_g_cl x_nr) H locs → lv_has ls 4 [(0, .ref (a 51)), (1, .int v1), (2, .int v2)] → (∀ (H : Heap) (locs : List Loc) (ls : Array Slot), Wd D A s (cW a ar t x_q0_dials x_q0_spots x_q0_skies x_q0_reports x_q0_count x_q0_chime x_q0_end x_q0_score x_q0_reportCount x_q0_z x_q0_rules x_q0_shades x_q0_facts x_q1_dials x_q1_spots x_q1_skies x_q1_reports x_q1_count x_q1_chime x_q1_end x_q1_score x_q1_reportCount x_q1_z x_q1_rules x_q1_shades x_q1_facts o.2 x_q2_spots x_q2_skies x_q2_reports x_q2_count x_q2_chime x_q2_end x_q2_score x_q2_reportCount x_q2_z x_q2_rules x_q2_shades x_q2_facts x_isKept x_marks x_p_first x_p_steps x_p_most x_p_many x_p_fewest x_p_everRight x_p_opening x_p_rows x_p_rowCount x_p_acts x_p_marks x_p_deepest x_p_wanted x_t_length x_t_tape x_t_words x_t_places x_t_at x_t_kinds x_t_wills x_t_starts x_t_code x_t_count x_t_size x_h_sorts x_h_lengths x_h_items x_h_held x_h_things x_h_sizes x_h_bodies x_h_traced x_h_number x_h_spot x_h_parted x_g_count x_g_kinds x_g_wills x_g_starts x_g_code x_g_stack x_g_kl x_g_wl x_g_sl x_g_cl x_nr) H locs → lv_has ls 4 [(0, .ref (a 51)), (1, .int v1), (2, .int o.1)] → W p l e (rmz 4 0 0) s m args below meth c H locs 0 0 Q (F0 m 90 ls [])) → W p l e (rmz 4 0 0) s m args below meth c H locs 0 0 Q (F0 m 13 ls []) := by
    clear hf ho15 hw hl
    intro k
    induction k with
    | zero => intro v1 v2 x_q2_dials H locs ls o hf hw hl kx; simp [X9_slipAll_q2_L1] at hf
    | succ k ih =>
      intro v1 v2 x_q2_dials H locs ls o hf hw hl kx
      rw [X9_slipAll_q2_L1] at hf
      refine lv_iload_n hx hb dX9_slipAll_13 rfl (lv_at hl 2 rfl) ?_
      refine lv_aload_n hx hb dX9_slipAll_14 rfl (lv_at hl 0 rfl) ?_
      refine cg_X9_59_q2 cx hw dX9_slipAll_15 ?_
      refine lv_icmp_ge (tgt := 90) hx hb dX9_slipAll_18 (by decide) (fun hc => ?_) (fun hc => ?_)
      · have hf := ifT hf hc
        have hf := Option.some.inj hf
        subst hf
        exact kx _ _ _ hw (lv_sub hl [0, 1, 2] rfl)
      · have hf := ifF hf hc
        refine lv_aload_n hx hb dX9_slipAll_21 rfl (lv_at hl 0 rfl) ?_
        refine lv_iload_n hx hb dX9_slipAll_22 rfl (lv_at hl 2 rfl) ?_
        obtain ⟨r3, h4, hf⟩ := bnS hf
        refine calVi cx hw hl.1 (c_X9_isRight_q2 h4) q_439 k_X9_isRight rfl rv_q2 rfl dX9_slipAll_23 rfl (Nat.le_of_ble_eq_true rfl) ⟨Nat.le_of_ble_eq_true rfl, Nat.le_of_ble_eq_true rfl⟩ ⟨Nat.le_refl _, Nat.le_refl _⟩ (fun H locs hw => ?_)
        obtain ⟨j14, hj14, hf⟩ := bnS hf
        have wj14 : ∀ (H : Heap) (locs : List Loc) (ls : Array Slot), Wd D A s (cW a ar t x_q0_dials x_q0_spots x_q0_skies x_q0_reports x_q0_count x_q0_chime x_q0_end x_q0_score x_q0_reportCount x_q0_z x_q0_rules x_q0_shades x_q0_facts x_q1_dials x_q1_spots x_q1_skies x_q1_reports x_q1_count x_q1_chime x_q1_end x_q1_score x_q1_reportCount x_q1_z x_q1_rules x_q1_shades x_q1_facts j14 x_q2_spots x_q2_skies x_q2_reports x_q2_count x_q2_chime x_q2_end x_q2_score x_q2_reportCount x_q2_z x_q2_rules x_q2_shades x_q2_facts x_isKept x_marks x_p_first x_p_steps x_p_most x_p_many x_p_fewest x_p_everRight x_p_opening x_p_rows x_p_rowCount x_p_acts x_p_marks x_p_deepest x_p_wanted x_t_length x_t_tape x_t_words x_t_places x_t_at x_t_kinds x_t_wills x_t_starts x_t_code x_t_count x_t_size x_h_sorts x_h_lengths x_h_items x_h_held x_h_things x_h_sizes x_h_bodies x_h_traced x_h_number x_h_spot x_h_parted x_g_count x_g_kinds x_g_wills x_g_starts x_g_code x_g_stack x_g_kl x_g_wl x_g_sl x_g_cl x_nr) H locs → lv_has ls 4 [(0, .ref (a 51)), (1, .int v1), (2, .int v2)] → W p l e (rmz 4 0 0) s m args below meth c H locs 0 0 Q (F0 m 84 ls []) := by
          intro H locs ls hw hl
          refine lv_iinc (v := (v2 + (1 : Int32))) (lv' := [(2, .int (v2 + (1 : Int32))), (0, .ref (a 51)), (1, .int v1)]) hx hb dX9_slipAll_84 hl (k := 2) rfl rfl (by decide) rfl (fun ls hl => ?_)
          refine lv_goto (tgt := 13) hx hb dX9_slipAll_87 (by decide) ?_
          exact ih hf hw (lv_sub hl [1, 2, 0] rfl) kx
        clear hf
        have hf := hj14
        clear hj14
        refine lv_if_eq (tgt := 32) hx hb dX9_slipAll_26 (by decide) (fun hc => ?_) (fun hc => ?_)
        · have hf := ifT hf hc
          refine lv_aload_n hx hb dX9_slipAll_32 rfl (lv_at hl 0 rfl) ?_
          refine cg_X9_11_q2 cx hw dX9_slipAll_33 ?_
          refine lv_iload_n hx hb dX9_slipAll_36 rfl (lv_at hl 2 rfl) ?_
          obtain ⟨h5, hf⟩ := ckS hf
          refine co_q2_dials (j := v2.toNatClampNeg) cx hw (ib_in h5) rfl dX9_slipAll_37 ?_
          refine lv_iconst (v := 1) hx hb dX9_slipAll_38 (by decide) ?_
          refine cm_q2_dials (j := 1) cx hw (ib_lt h5) (ib_in (by decide)) (by decide) dX9_slipAll_39 ?_
          refine lv_aload_n hx hb dX9_slipAll_40 rfl (lv_at hl 0 rfl) ?_
          refine lv_iload_n hx hb dX9_slipAll_41 rfl (lv_at hl 2 rfl) ?_
          obtain ⟨r6, h7, hf⟩ := bnS hf
          refine calVa cx hw hl.1 (c_X9_kindOf_q2 h7) q_372 k_X9_kindOf rfl rv_q2 rfl dX9_slipAll_42 rfl (Nat.le_of_ble_eq_true rfl) ⟨Nat.le_of_ble_eq_true rfl, Nat.le_of_ble_eq_true rfl⟩ ⟨Nat.le_refl _, Nat.le_refl _⟩ (fun H locs hw => ?_)
          obtain ⟨h8, hf⟩ := ckS hf
          refine lv_aload_n hx hb dX9_slipAll_45 rfl (lv_at hl 0 rfl) ?_
          refine cg_X9_33_q2 cx hw dX9_slipAll_46 ?_
          refine lv_aload_n hx hb dX9_slipAll_49 rfl (lv_at hl 0 rfl) ?_
          refine cg_X9_11_q2 cx hw dX9_slipAll_50 ?_
          refine lv_iload_n hx hb dX9_slipAll_53 rfl (lv_at hl 2 rfl) ?_
          obtain ⟨h9, hf⟩ := ckS hf
          refine co_q2_dials (j := v2.toNatClampNeg) cx hw (ib_in h9) rfl dX9_slipAll_54 ?_
          refine lv_iconst (v := 3) hx hb dX9_slipAll_55 (by decide) ?_
          refine cm_q2_dials (j := 3) cx hw (ib_lt h9) (ib_in (by decide)) (by decide) dX9_slipAll_56 ?_
          obtain ⟨h10, hf⟩ := ckS hf
          refine cl_q2_shades (j := (x_q2_dials v2.toNatClampNeg 3).toNatClampNeg) cx hw (ib_in h10) rfl dX9_slipAll_57 ?_
          refine lv_iload_n hx hb dX9_slipAll_58 rfl (lv_at hl 1 rfl) ?_
          refine vr_slips_X9_91 cx hw hl.1 (dc h8) dX9_slipAll_59 (Nat.le_of_ble_eq_true rfl) (Nat.le_of_ble_eq_true rfl) (Nat.le_of_ble_eq_true rfl) ⟨Nat.le_refl _, Nat.le_refl _⟩ (fun H locs hw => ?_)
          refine lv_iadd hx hb dX9_slipAll_62 ?_
          obtain ⟨z11, hz, hf⟩ := pbS hf
          refine lv_topi (fun y ey => ?_)
          have ez : z11 = y := hz.symm.trans ey.symm
          subst ez
          refine lv_istore_n (lv' := [(3, .int z11), (0, .ref (a 51)), (1, .int v1), (2, .int v2)]) hx hb dX9_slipAll_63 rfl hl (by decide) rfl (fun ls hl => ?_)
          refine lv_aload_n hx hb dX9_slipAll_64 rfl (lv_at hl 1 rfl) ?_
          refine cg_X9_11_q2 cx hw dX9_slipAll_65 ?_
          refine lv_iload_n hx hb dX9_slipAll_68 rfl (lv_at hl 3 rfl) ?_
          obtain ⟨h12, hf⟩ := ckS hf
          refine co_q2_dials (j := v2.toNatClampNeg) cx hw (ib_in h12) rfl dX9_slipAll_69 ?_
          refine lv_iconst (v := 1) hx hb dX9_slipAll_70 (by decide) ?_
          refine lv_iload_n hx hb dX9_slipAll_71 rfl (lv_at hl 0 rfl) ?_
          refine lv_bipush (v := 99) hx hb dX9_slipAll_72 (by decide) ?_
          obtain ⟨j13, hj13, hf⟩ := pbS hf
          have wj13 : ∀ (H : Heap) (locs : List Loc) (ls : Array Slot), Wd D A s (cW a ar t x_q0_dials x_q0_spots x_q0_skies x_q0_reports x_q0_count x_q0_chime x_q0_end x_q0_score x_q0_reportCount x_q0_z x_q0_rules x_q0_shades x_q0_facts x_q1_dials x_q1_spots x_q1_skies x_q1_reports x_q1_count x_q1_chime x_q1_end x_q1_score x_q1_reportCount x_q1_z x_q1_rules x_q1_shades x_q1_facts x_q2_dials x_q2_spots x_q2_skies x_q2_reports x_q2_count x_q2_chime x_q2_end x_q2_score x_q2_reportCount x_q2_z x_q2_rules x_q2_shades x_q2_facts x_isKept x_marks x_p_first x_p_steps x_p_most x_p_many x_p_fewest x_p_everRight x_p_opening x_p_rows x_p_rowCount x_p_acts x_p_marks x_p_deepest x_p_wanted x_t_length x_t_tape x_t_words x_t_places x_t_at x_t_kinds x_t_wills x_t_starts x_t_code x_t_count x_t_size x_h_sorts x_h_lengths x_h_items x_h_held x_h_things x_h_sizes x_h_bodies x_h_traced x_h_number x_h_spot x_h_parted x_g_count x_g_kinds x_g_wills x_g_starts x_g_code x_g_stack x_g_kl x_g_wl x_g_sl x_g_cl x_nr) H locs → lv_has ls 4 [(0, .ref (a 51)), (1, .int v1), (2, .int v2), (3, .int z11)] → W p l e (rmz 4 0 0) s m args below meth c H locs 0 0 Q (F0 m 83 ls [.int j13, .int (1 : Int32), .ref (a (53 + v2.toNatClampNeg))]) := by
            intro H locs ls hw hl
            refine ct_q2_dials (j := 1) cx hw (ib_lt h12) (ib_in (by decide)) (by decide) dX9_slipAll_83 (fun H locs hw => ?_)
            have hf := Option.some.inj hf
            subst hf
            exact wj14 _ _ _ hw (lv_sub hl [0, 1, 2] rfl)
          clear hf
          have hf := hj13
          clear hj13
          refine lv_icmp_ge (tgt := 81) hx hb dX9_slipAll_74 (by decide) (fun hc => ?_) (fun hc => ?_)
          · have hf := ifT hf hc
            refine lv_bipush (v := 99) hx hb dX9_slipAll_81 (by decide) ?_
            subst hf
            exact wj13 _ _ _ hw (lv_sub hl [1, 2, 3, 0] rfl)
          · have hf := ifF hf hc
            refine lv_iload_n hx hb dX9_slipAll_77 rfl (lv_at hl 0 rfl) ?_
            refine lv_goto (tgt := 83) hx hb dX9_slipAll_78 (by decide) ?_
            subst hf
            exact wj13 _ _ _ hw (lv_sub hl [1, 2, 3, 0] rfl)
        · have hf := ifF hf hc
          refine lv_goto (tgt := 84) hx hb dX9_slipAll_29 (by decide) ?_
          have hf := Option.some.inj hf
          subst hf
          exact wj14 _ _ _ hw (lv_sub hl [0, 1, 2] rfl)
  refine wL1 n ho15 hw (lv_sub hl [2, 1, 0] rfl) (fun H locs ls hw hl => ?_)
  clear wL1 ho15
  have hf := Option.some.inj hf
  subst hf
  exact hR _ _ _ _ _ hw ⟨rfl, rfl⟩ dX9_slipAll_90
theorem c_X9_goBy_q2 {v1 : Int32} {res : Int32 × (Nat → Nat → Int32) × Int32 × Int32 × (Nat → Int32) × (Nat → Int32) × (Nat → Nat → Int32)} (hf : X9_goBy_q2 n x_q2_dials x_q2_spots x_q2_skies x_q2_count x_q2_chime x_q2_score x_q2_rules x_q2_shades x_q2_facts x_g_count x_g_kinds x_g_wills x_g_starts x_g_code x_g_stack x_g_kl x_g_wl x_g_sl x_g_cl x_nr v1 = some res) : MC l E0 D t yX9_goBy cX9_goBy 4 (some .int) 5 0 0 [.ref (a 51), .int v1] (cW a ar t x_q0_dials x_q0_spots x_q0_skies x_q0_reports x_q0_count x_q0_chime x_q0_end x_q0_score x_q0_reportCount x_q0_z x_q0_rules x_q0_shades x_q0_facts x_q1_dials x_q1_spots x_q1_skies x_q1_reports x_q1_count x_q1_chime x_q1_end x_q1_score x_q1_reportCount x_q1_z x_q1_rules x_q1_shades x_q1_facts x_q2_dials x_q2_spots x_q2_skies x_q2_reports x_q2_count x_q2_chime x_q2_end x_q2_score x_q2_reportCount x_q2_z x_q2_rules x_q2_shades x_q2_facts x_isKept x_marks x_p_first x_p_steps x_p_most x_p_many x_p_fewest x_p_everRight x_p_opening x_p_rows x_p_rowCount x_p_acts x_p_marks x_p_deepest x_p_wanted x_t_length x_t_tape x_t_words x_t_places x_t_at x_t_kinds x_t_wills x_t_starts x_t_code x_t_count x_t_size x_h_sorts x_h_lengths x_h_items x_h_held x_h_things x_h_sizes x_h_bodies x_h_traced x_h_number x_h_spot x_h_parted x_g_count x_g_kinds x_g_wills x_g_starts x_g_code x_g_stack x_g_kl x_g_wl x_g_sl x_g_cl x_nr) (Qi res.1 (cW a ar t x_q0_dials x_q0_spots x_q0_skies x_q0_reports x_q0_count x_q0_chime x_q0_end x_q0_score x_q0_reportCount x_q0_z x_q0_rules x_q0_shades x_q0_facts x_q1_dials x_q1_spots x_q1_skies x_q1_reports x_q1_count x_q1_chime x_q1_end x_q1_score x_q1_reportCount x_q1_z x_q1_rules x_q1_shades x_q1_facts res.2.1 x_q2_spots x_q2_skies x_q2_reports x_q2_count res.2.2.1 x_q2_end res.2.2.2.1 x_q2_reportCount x_q2_z x_q2_rules res.2.2.2.2.1 res.2.2.2.2.2.1 x_isKept x_marks x_p_first x_p_steps x_p_most x_p_many x_p_fewest x_p_everRight x_p_opening x_p_rows x_p_rowCount x_p_acts x_p_marks x_p_deepest x_p_wanted x_t_length x_t_tape x_t_words x_t_places x_t_at x_t_kinds x_t_wills x_t_starts x_t_code x_t_count x_t_size x_h_sorts x_h_lengths x_h_items x_h_held x_h_things x_h_sizes x_h_bodies x_h_traced x_h_number x_h_spot x_h_parted x_g_count x_g_kinds x_g_wills x_g_starts x_g_code res.2.2.2.2.2.2 x_g_kl x_g_wl x_g_sl x_g_cl x_nr)) := by
  unfold X9_goBy_q2 at hf
  refine MC.ofI pn_X9 (Nat.le_of_ble_eq_true rfl) ?_
  intro p e s m args below meth c A Q ls cx hR hw hl
  have hx := cx.1
  have hb := cx.2.1
  have hl : lv_has ls 4 [(0, .ref (a 51)), (1, .int v1)] := hl
  refine lv_iconst (v := 0) hx hb dX9_goBy_0 (by decide) ?_
  refine lv_istore_n (lv' := [(2, .int (0 : Int32)), (0, .ref (a 51)), (1, .int v1)]) hx hb dX9_goBy_1 rfl hl (by decide) rfl (fun ls hl => ?_)
  refine lv_iload_n hx hb dX9_goBy_2 rfl (lv_at hl 2 rfl) ?_
  refine lv_iconst (v := 1) hx hb dX9_goBy_3 (by decide) ?_
  obtain ⟨j8, hj8, hf⟩ := bnS hf
  have wj8 : ∀ (H : Heap) (locs : List Loc) (ls : Array Slot), Wd D A s (cW a ar t x_q0_dials x_q0_spots x_q0_skies x_q0_reports x_q0_count x_q0_chime x_q0_end x_q0_score x_q0_reportCount x_q0_z x_q0_rules x_q0_shades x_q0_facts x_q1_dials x_q1_spots x_q1_skies x_q1_reports x_q1_count x_q1_chime x_q1_end x_q1_score x_q1_reportCount x_q1_z x_q1_rules x_q1_shades x_q1_facts j8.2.1 x_q2_spots x_q2_skies x_q2_reports x_q2_count x_q2_chime x_q2_end x_q2_score x_q2_reportCount x_q2_z x_q2_rules x_q2_shades j8.2.2.1 x_isKept x_marks x_p_first x_p_steps x_p_most x_p_many x_p_fewest x_p_everRight x_p_opening x_p_rows x_p_rowCount x_p_acts x_p_marks x_p_deepest x_p_wanted x_t_length x_t_tape x_t_words x_t_places x_t_at x_t_kinds x_t_wills x_t_starts x_t_code x_t_count x_t_size x_h_sorts x_h_lengths x_h_items x_h_held x_h_things x_h_sizes x_h_bodies x_h_traced x_h_number x_h_spot x_h_parted x_g_count x_g_kinds x_g_wills x_g_starts x_g_code j8.2.2.2 x_g_kl x_g_wl x_g_sl x_g_cl x_nr) H locs → lv_has ls 4 [(0, .ref (a 51)), (1, .int v1), (2, .int j8.1)] → W p l e (rmz 5 0 0) s m args below meth c H locs 0 0 Q (F0 m 48 ls []) := by
    intro H locs ls hw hl
    refine lv_iload_n hx hb dX9_goBy_48 rfl (lv_at hl 2 rfl) ?_
    refine lv_aload_n hx hb dX9_goBy_49 rfl (lv_at hl 0 rfl) ?_
    obtain ⟨r9, h10, hf⟩ := bnS hf
    refine calVi cx hw hl.1 (c_X9_pairs_q2 h10) q_693 k_X9_pairs rfl rv_q2 rfl dX9_goBy_50 rfl (Nat.le_of_ble_eq_true rfl) ⟨Nat.le_of_ble_eq_true rfl, Nat.le_of_ble_eq_true rfl⟩ ⟨Nat.le_refl _, Nat.le_refl _⟩ (fun H locs hw => ?_)
    refine lv_iconst (v := 2) hx hb dX9_goBy_53 (by decide) ?_
    refine lv_idiv hx hb dX9_goBy_54 (by decide) ?_
    refine lv_iadd hx hb dX9_goBy_55 ?_
    refine lv_istore_n (lv' := [(2, .int (j8.1 + (r9 / (2 : Int32)))), (0, .ref (a 51)), (1, .int v1)]) hx hb dX9_goBy_56 rfl hl (by decide) rfl (fun ls hl => ?_)
    refine lv_aload_n hx hb dX9_goBy_57 rfl (lv_at hl 1 rfl) ?_
    obtain ⟨r11, h12, hf⟩ := bnS hf
    refine calVv cx hw hl.1 (c_X9_measureShades_q2 h12) q_407 k_X9_measureShades rfl rv_q2 rfl dX9_goBy_58 rfl (Nat.le_of_ble_eq_true rfl) ⟨Nat.le_of_ble_eq_true rfl, Nat.le_of_ble_eq_true rfl⟩ ⟨Nat.le_refl _, Nat.le_refl _⟩ (fun H locs hw => ?_)
    refine lv_aload_n hx hb dX9_goBy_61 rfl (lv_at hl 1 rfl) ?_
    obtain ⟨r13, h14, hf⟩ := bnS hf
    refine calVv cx hw hl.1 (c_X9_slipAll_q2 h14) q_694 k_X9_slipAll rfl rv_q2 rfl dX9_goBy_62 rfl (Nat.le_of_ble_eq_true rfl) ⟨Nat.le_of_ble_eq_true rfl, Nat.le_of_ble_eq_true rfl⟩ ⟨Nat.le_refl _, Nat.le_refl _⟩ (fun H locs hw => ?_)
    refine lv_aload_n hx hb dX9_goBy_65 rfl (lv_at hl 1 rfl) ?_
    refine lv_dup hx hb dX9_goBy_66 rfl ?_
    refine cg_X9_62_q2 cx hw dX9_goBy_67 ?_
    refine lv_iconst (v := 1) hx hb dX9_goBy_70 (by decide) ?_
    refine lv_iadd hx hb dX9_goBy_71 ?_
    refine cp_X9_62_q2 cx hw dX9_goBy_72 (fun H locs hw => ?_)
    refine lv_aload_n hx hb dX9_goBy_75 rfl (lv_at hl 1 rfl) ?_
    refine lv_dup hx hb dX9_goBy_76 rfl ?_
    refine cg_X9_65_q2 cx hw dX9_goBy_77 ?_
    refine lv_iload_n hx hb dX9_goBy_80 rfl (lv_at hl 0 rfl) ?_
    refine lv_iadd hx hb dX9_goBy_81 ?_
    refine cp_X9_65_q2 cx hw dX9_goBy_82 (fun H locs hw => ?_)
    refine lv_iload_n hx hb dX9_goBy_85 rfl (lv_at hl 0 rfl) ?_
    have hf := Option.some.inj hf
    subst hf
    exact hR _ _ _ _ _ _ hw rfl ⟨rfl, rfl⟩ dX9_goBy_86
  clear hf
  have hf := hj8
  clear hj8
  refine lv_icmp_lt (tgt := 48) hx hb dX9_goBy_4 (by decide) (fun hc => ?_) (fun hc => ?_)
  · have hf := ifT hf hc
    have hf := Option.some.inj hf
    subst hf
    exact wj8 _ _ _ hw (lv_sub hl [1, 2, 0] rfl)
  · have hf := ifF hf hc
    refine lv_iload_n hx hb dX9_goBy_7 rfl (lv_at hl 2 rfl) ?_
    refine lv_aload_n hx hb dX9_goBy_8 rfl (lv_at hl 1 rfl) ?_
    refine cg_X9_59_q2 cx hw dX9_goBy_9 ?_
    refine lv_icmp_gt (tgt := 48) hx hb dX9_goBy_12 (by decide) (fun hc => ?_) (fun hc => ?_)
    · have hf := ifT hf hc
      have hf := Option.some.inj hf
      subst hf
      exact wj8 _ _ _ hw (lv_sub hl [1, 2, 0] rfl)
    · have hf := ifF hf hc
      refine lv_aload_n hx hb dX9_goBy_15 rfl (lv_at hl 1 rfl) ?_
      refine lv_iload_n hx hb dX9_goBy_16 rfl (lv_at hl 2 rfl) ?_
      refine lv_iconst (v := 1) hx hb dX9_goBy_17 (by decide) ?_
      refine lv_isub hx hb dX9_goBy_18 ?_
      obtain ⟨r1, h2, hf⟩ := bnS hf
      refine calVi cx hw hl.1 (c_X9_willOf_q2 h2) q_448 k_X9_willOf rfl rv_q2 rfl dX9_goBy_19 rfl (Nat.le_of_ble_eq_true rfl) ⟨Nat.le_of_ble_eq_true rfl, Nat.le_of_ble_eq_true rfl⟩ ⟨Nat.le_refl _, Nat.le_refl _⟩ (fun H locs hw => ?_)
      refine lv_istore_n (lv' := [(3, .int r1.1), (2, .int (0 : Int32)), (0, .ref (a 51)), (1, .int v1)]) hx hb dX9_goBy_22 rfl hl (by decide) rfl (fun ls hl => ?_)
      refine lv_iload_n hx hb dX9_goBy_23 rfl (lv_at hl 0 rfl) ?_
      obtain ⟨j5, hj5, hf⟩ := bnS hf
      have wj5 : ∀ (H : Heap) (locs : List Loc) (ls : Array Slot), Wd D A s (cW a ar t x_q0_dials x_q0_spots x_q0_skies x_q0_reports x_q0_count x_q0_chime x_q0_end x_q0_score x_q0_reportCount x_q0_z x_q0_rules x_q0_shades x_q0_facts x_q1_dials x_q1_spots x_q1_skies x_q1_reports x_q1_count x_q1_chime x_q1_end x_q1_score x_q1_reportCount x_q1_z x_q1_rules x_q1_shades x_q1_facts j5.2 x_q2_spots x_q2_skies x_q2_reports x_q2_count x_q2_chime x_q2_end x_q2_score x_q2_reportCount x_q2_z x_q2_rules x_q2_shades r1.2.1 x_isKept x_marks x_p_first x_p_steps x_p_most x_p_many x_p_fewest x_p_everRight x_p_opening x_p_rows x_p_rowCount x_p_acts x_p_marks x_p_deepest x_p_wanted x_t_length x_t_tape x_t_words x_t_places x_t_at x_t_kinds x_t_wills x_t_starts x_t_code x_t_count x_t_size x_h_sorts x_h_lengths x_h_items x_h_held x_h_things x_h_sizes x_h_bodies x_h_traced x_h_number x_h_spot x_h_parted x_g_count x_g_kinds x_g_wills x_g_starts x_g_code r1.2.2 x_g_kl x_g_wl x_g_sl x_g_cl x_nr) H locs → lv_has ls 4 [(0, .ref (a 51)), (1, .int v1), (2, .int j5.1), (3, .int r1.1)] → W p l e (rmz 5 0 0) s m args below meth c H locs 0 0 Q (F0 m 35 ls []) := by
        intro H locs ls hw hl
        refine lv_iload_n hx hb dX9_goBy_35 rfl (lv_at hl 3 rfl) ?_
        refine lv_iconst (v := 2) hx hb dX9_goBy_36 (by decide) ?_
        refine lv_icmp_ne (tgt := 48) hx hb dX9_goBy_37 (by decide) (fun hc => ?_) (fun hc => ?_)
        · have hf := ifF hf hc
          have hf := Option.some.inj hf
          subst hf
          exact wj8 _ _ _ hw (lv_sub hl [0, 1, 2] rfl)
        · have hf := ifT hf hc
          refine lv_aload_n hx hb dX9_goBy_40 rfl (lv_at hl 0 rfl) ?_
          refine lv_iload_n hx hb dX9_goBy_41 rfl (lv_at hl 1 rfl) ?_
          refine lv_iconst (v := 1) hx hb dX9_goBy_42 (by decide) ?_
          refine lv_isub hx hb dX9_goBy_43 ?_
          obtain ⟨r6, h7, hf⟩ := bnS hf
          refine calVi cx hw hl.1 (c_X9_arguedBy_q2 h7) q_689 k_X9_arguedBy rfl rv_q2 rfl dX9_goBy_44 rfl (Nat.le_of_ble_eq_true rfl) ⟨Nat.le_of_ble_eq_true rfl, Nat.le_of_ble_eq_true rfl⟩ ⟨Nat.le_refl _, Nat.le_refl _⟩ (fun H locs hw => ?_)
          refine lv_istore_n (lv' := [(2, .int r6.1), (0, .ref (a 51)), (1, .int v1), (3, .int r1.1)]) hx hb dX9_goBy_47 rfl hl (by decide) rfl (fun ls hl => ?_)
          have hf := Option.some.inj hf
          subst hf
          exact wj8 _ _ _ hw (lv_sub hl [1, 2, 0] rfl)
      clear hf
      have hf := hj5
      clear hj5
      refine lv_if_ne (tgt := 35) hx hb dX9_goBy_24 (by decide) (fun hc => ?_) (fun hc => ?_)
      · have hf := ifF hf hc
        have hf := Option.some.inj hf
        subst hf
        exact wj5 _ _ _ hw (lv_sub hl [2, 3, 1, 0] rfl)
      · have hf := ifT hf hc
        refine lv_aload_n hx hb dX9_goBy_27 rfl (lv_at hl 2 rfl) ?_
        refine lv_iload_n hx hb dX9_goBy_28 rfl (lv_at hl 3 rfl) ?_
        refine lv_iconst (v := 1) hx hb dX9_goBy_29 (by decide) ?_
        refine lv_isub hx hb dX9_goBy_30 ?_
        obtain ⟨r3, h4, hf⟩ := bnS hf
        refine calVi cx hw hl.1 (c_X9_setRight_q2 h4) q_685 k_X9_setRight rfl rv_q2 rfl dX9_goBy_31 rfl (Nat.le_of_ble_eq_true rfl) ⟨Nat.le_of_ble_eq_true rfl, Nat.le_of_ble_eq_true rfl⟩ ⟨Nat.le_refl _, Nat.le_refl _⟩ (fun H locs hw => ?_)
        refine lv_istore_n (lv' := [(2, .int r3.1), (3, .int r1.1), (0, .ref (a 51)), (1, .int v1)]) hx hb dX9_goBy_34 rfl hl (by decide) rfl (fun ls hl => ?_)
        have hf := Option.some.inj hf
        subst hf
        exact wj5 _ _ _ hw (lv_sub hl [2, 3, 0, 1] rfl)
theorem c_X9_rest_q2 {v1 : Int32} {res : Int32 × (Nat → Nat → Int32) × Int32 × Int32 × (Nat → Int32) × (Nat → Int32) × (Nat → Nat → Int32)} (hf : X9_rest_q2 n x_q2_dials x_q2_spots x_q2_skies x_q2_count x_q2_chime x_q2_end x_q2_score x_q2_rules x_q2_shades x_q2_facts x_g_count x_g_kinds x_g_wills x_g_starts x_g_code x_g_stack x_g_kl x_g_wl x_g_sl x_g_cl x_nr v1 = some res) : MC l E0 D t yX9_rest cX9_rest 4 (some .int) 6 0 0 [.ref (a 51), .int v1] (cW a ar t x_q0_dials x_q0_spots x_q0_skies x_q0_reports x_q0_count x_q0_chime x_q0_end x_q0_score x_q0_reportCount x_q0_z x_q0_rules x_q0_shades x_q0_facts x_q1_dials x_q1_spots x_q1_skies x_q1_reports x_q1_count x_q1_chime x_q1_end x_q1_score x_q1_reportCount x_q1_z x_q1_rules x_q1_shades x_q1_facts x_q2_dials x_q2_spots x_q2_skies x_q2_reports x_q2_count x_q2_chime x_q2_end x_q2_score x_q2_reportCount x_q2_z x_q2_rules x_q2_shades x_q2_facts x_isKept x_marks x_p_first x_p_steps x_p_most x_p_many x_p_fewest x_p_everRight x_p_opening x_p_rows x_p_rowCount x_p_acts x_p_marks x_p_deepest x_p_wanted x_t_length x_t_tape x_t_words x_t_places x_t_at x_t_kinds x_t_wills x_t_starts x_t_code x_t_count x_t_size x_h_sorts x_h_lengths x_h_items x_h_held x_h_things x_h_sizes x_h_bodies x_h_traced x_h_number x_h_spot x_h_parted x_g_count x_g_kinds x_g_wills x_g_starts x_g_code x_g_stack x_g_kl x_g_wl x_g_sl x_g_cl x_nr) (Qi res.1 (cW a ar t x_q0_dials x_q0_spots x_q0_skies x_q0_reports x_q0_count x_q0_chime x_q0_end x_q0_score x_q0_reportCount x_q0_z x_q0_rules x_q0_shades x_q0_facts x_q1_dials x_q1_spots x_q1_skies x_q1_reports x_q1_count x_q1_chime x_q1_end x_q1_score x_q1_reportCount x_q1_z x_q1_rules x_q1_shades x_q1_facts res.2.1 x_q2_spots x_q2_skies x_q2_reports x_q2_count res.2.2.1 x_q2_end res.2.2.2.1 x_q2_reportCount x_q2_z x_q2_rules res.2.2.2.2.1 res.2.2.2.2.2.1 x_isKept x_marks x_p_first x_p_steps x_p_most x_p_many x_p_fewest x_p_everRight x_p_opening x_p_rows x_p_rowCount x_p_acts x_p_marks x_p_deepest x_p_wanted x_t_length x_t_tape x_t_words x_t_places x_t_at x_t_kinds x_t_wills x_t_starts x_t_code x_t_count x_t_size x_h_sorts x_h_lengths x_h_items x_h_held x_h_things x_h_sizes x_h_bodies x_h_traced x_h_number x_h_spot x_h_parted x_g_count x_g_kinds x_g_wills x_g_starts x_g_code res.2.2.2.2.2.2 x_g_kl x_g_wl x_g_sl x_g_cl x_nr)) := by
  unfold X9_rest_q2 at hf
  refine MC.ofI pn_X9 (Nat.le_of_ble_eq_true rfl) ?_
  intro p e s m args below meth c A Q ls cx hR hw hl
  have hx := cx.1
  have hb := cx.2.1
  have hl : lv_has ls 4 [(0, .ref (a 51)), (1, .int v1)] := hl
  refine lv_iconst (v := 0) hx hb dX9_rest_0 (by decide) ?_
  refine lv_istore_n (lv' := [(2, .int (0 : Int32)), (0, .ref (a 51)), (1, .int v1)]) hx hb dX9_rest_1 rfl hl (by decide) rfl (fun ls hl => ?_)
  refine lv_iconst (v := 0) hx hb dX9_rest_2 (by decide) ?_
  refine lv_istore_n (lv' := [(3, .int (0 : Int32)), (2, .int (0 : Int32)), (0, .ref (a 51)), (1, .int v1)]) hx hb dX9_rest_3 rfl hl (by decide) rfl (fun ls hl => ?_)
  obtain ⟨o5, ho5, hf⟩ := bnS hf
  have wL1 : ∀ (k : Nat) {v1 : Int32} {v2 : Int32} {v3 : Int32} {x_q2_dials : Nat → Nat → Int32} {x_q2_chime : Int32} {x_q2_score : Int32} {x_q2_shades : Nat → Int32} {x_q2_facts : Nat → Int32} {x_g_stack : Nat → Nat → Int32} {H : Heap} {locs : List Loc} {ls : Array Slot} {o : Int32 × Int32 × (Nat → Nat → Int32) × Int32 × Int32 × (Nat → Int32) × (Nat → Int32) × (Nat → Nat → Int32)}, X9_rest_q2_L1 n x_q2_spots x_q2_skies x_q2_count x_q2_end x_q2_rules x_g_count x_g_kinds x_g_wills x_g_starts x_g_code x_g_kl x_g_wl x_g_sl x_g_cl x_nr v1 k v2 v3 x_q2_dials x_q2_chime x_q2_score x_q2_shades x_q2_facts x_g_stack = some o → Wd D A s (cW a ar t x_q0_dials x_q0_spots x_q0_skies x_q0_reports x_q0_count x_q0_chime x_q0_end x_q0_score x_q0_reportCount x_q0_z x_q0_rules x_q0_shades x_q0_facts x_q1_dials x_q1_spots x_q1_skies x_q1_reports x_q1_count x_q1_chime x_q1_end x_q1_score x_q1_reportCount x_q1_z x_q1_rules x_q1_shades x_q1_facts x_q2_dials x_q2_spots x_q2_skies x_q2_reports x_q2_count x_q2_chime x_q2_end x_q2_score x_q2_reportCount x_q2_z x_q2_rules x_q2_shades x_q2_facts x_isKept x_marks x_p_first x_p_steps x_p_most x_p_many x_p_fewest x_p_everRight x_p_opening x_p_rows x_p_rowCount x_p_acts x_p_marks x_p_deepest x_p_wanted x_t_length x_t_tape x_t_words x_t_places x_t_at x_t_kinds x_t_wills x_t_starts x_t_code x_t_count x_t_size x_h_sorts x_h_lengths x_h_items x_h_held x_h_things x_h_sizes x_h_bodies x_h_traced x_h_number x_h_spot x_h_parted x_g_count x_g_kinds x_g_wills x_g_starts x_g_code x_g_stack x_g_kl x_g_wl x_g_sl x_g_cl x_nr) H locs → lv_has ls 4 [(0, .ref (a 51)), (1, .int v1), (2, .int v2), (3, .int v3)] → (∀ (H : Heap) (locs : List Loc) (ls : Array Slot), Wd D A s (cW a ar t x_q0_dials x_q0_spots x_q0_skies x_q0_reports x_q0_count x_q0_chime x_q0_end x_q0_score x_q0_reportCount x_q0_z x_q0_rules x_q0_shades x_q0_facts x_q1_dials x_q1_spots x_q1_skies x_q1_reports x_q1_count x_q1_chime x_q1_end x_q1_score x_q1_reportCount x_q1_z x_q1_rules x_q1_shades x_q1_facts o.2.2.1 x_q2_spots x_q2_skies x_q2_reports x_q2_count o.2.2.2.1 x_q2_end o.2.2.2.2.1 x_q2_reportCount x_q2_z x_q2_rules o.2.2.2.2.2.1 o.2.2.2.2.2.2.1 x_isKept x_marks x_p_first x_p_steps x_p_most x_p_many x_p_fewest x_p_everRight x_p_opening x_p_rows x_p_rowCount x_p_acts x_p_marks x_p_deepest x_p_wanted x_t_length x_t_tape x_t_words x_t_places x_t_at x_t_kinds x_t_wills x_t_starts x_t_code x_t_count x_t_size x_h_sorts x_h_lengths x_h_items x_h_held x_h_things x_h_sizes x_h_bodies x_h_traced x_h_number x_h_spot x_h_parted x_g_count x_g_kinds x_g_wills x_g_starts x_g_code o.2.2.2.2.2.2.2 x_g_kl x_g_wl x_g_sl x_g_cl x_nr) H locs → lv_has ls 4 [(0, .ref (a 51)), (1, .int v1), (2, .int o.1), (3, .int o.2.1)] → W p l e (rmz 6 0 0) s m args below meth c H locs 0 0 Q (F0 m 33 ls [])) → W p l e (rmz 6 0 0) s m args below meth c H locs 0 0 Q (F0 m 4 ls []) := by
    clear hf ho5 hw hl
    intro k
    induction k with
    | zero => intro v1 v2 v3 x_q2_dials x_q2_chime x_q2_score x_q2_shades x_q2_facts x_g_stack H locs ls o hf hw hl kx; simp [X9_rest_q2_L1] at hf
    | succ k ih =>
      intro v1 v2 v3 x_q2_dials x_q2_chime x_q2_score x_q2_shades x_q2_facts x_g_stack H locs ls o hf hw hl kx
      rw [X9_rest_q2_L1] at hf
      refine lv_iload_n hx hb dX9_rest_4 rfl (lv_at hl 3 rfl) ?_
      refine lv_iload_n hx hb dX9_rest_5 rfl (lv_at hl 1 rfl) ?_
      refine lv_icmp_ge (tgt := 33) hx hb dX9_rest_6 (by decide) (fun hc => ?_) (fun hc => ?_)
      · have hf := ifT hf hc
        have hf := Option.some.inj hf
        subst hf
        exact kx _ _ _ hw (lv_sub hl [0, 1, 2, 3] rfl)
      · have hf := ifF hf hc
        refine lv_aload_n hx hb dX9_rest_9 rfl (lv_at hl 0 rfl) ?_
        refine calVi cx hw hl.1 (c_X9_isOver_q2 rfl) q_675 k_X9_isOver rfl rv_q2 rfl dX9_rest_10 rfl (Nat.le_of_ble_eq_true rfl) ⟨Nat.le_of_ble_eq_true rfl, Nat.le_of_ble_eq_true rfl⟩ ⟨Nat.le_refl _, Nat.le_refl _⟩ (fun H locs hw => ?_)
        refine lv_if_ne (tgt := 33) hx hb dX9_rest_13 (by decide) (fun hc => ?_) (fun hc => ?_)
        · have hf := ifF hf hc
          have hf := Option.some.inj hf
          subst hf
          exact kx _ _ _ hw (lv_sub hl [0, 1, 2, 3] rfl)
        · have hf := ifT hf hc
          refine lv_iload_n hx hb dX9_rest_16 rfl (lv_at hl 2 rfl) ?_
          refine lv_aload_n hx hb dX9_rest_17 rfl (lv_at hl 0 rfl) ?_
          refine lv_aload_n hx hb dX9_rest_18 rfl (lv_at hl 0 rfl) ?_
          obtain ⟨r1, h2, hf⟩ := bnS hf
          refine calVi cx hw hl.1 (c_X9_restAct_q2 h2) q_676 k_X9_restAct rfl rv_q2 rfl dX9_rest_19 rfl (Nat.le_of_ble_eq_true rfl) ⟨Nat.le_of_ble_eq_true rfl, Nat.le_of_ble_eq_true rfl⟩ ⟨Nat.le_refl _, Nat.le_refl _⟩ (fun H locs hw => ?_)
          obtain ⟨r3, h4, hf⟩ := bnS hf
          refine calVi cx hw hl.1 (c_X9_goBy_q2 h4) q_681 k_X9_goBy rfl rv_q2 rfl dX9_rest_22 rfl (Nat.le_of_ble_eq_true rfl) ⟨Nat.le_of_ble_eq_true rfl, Nat.le_of_ble_eq_true rfl⟩ ⟨Nat.le_refl _, Nat.le_refl _⟩ (fun H locs hw => ?_)
          refine lv_iadd hx hb dX9_rest_25 ?_
          refine lv_istore_n (lv' := [(2, .int (v2 + r3.1)), (0, .ref (a 51)), (1, .int v1), (3, .int v3)]) hx hb dX9_rest_26 rfl hl (by decide) rfl (fun ls hl => ?_)
          refine lv_iinc (v := (v3 + (1 : Int32))) (lv' := [(3, .int (v3 + (1 : Int32))), (2, .int (v2 + r3.1)), (0, .ref (a 51)), (1, .int v1)]) hx hb dX9_rest_27 hl (k := 3) rfl rfl (by decide) rfl (fun ls hl => ?_)
          refine lv_goto (tgt := 4) hx hb dX9_rest_30 (by decide) ?_
          exact ih hf hw (lv_sub hl [2, 3, 1, 0] rfl) kx
  refine wL1 n ho5 hw (lv_sub hl [2, 3, 1, 0] rfl) (fun H locs ls hw hl => ?_)
  clear wL1 ho5
  refine lv_iload_n hx hb dX9_rest_33 rfl (lv_at hl 2 rfl) ?_
  have hf := Option.some.inj hf
  subst hf
  exact hR _ _ _ _ _ _ hw rfl ⟨rfl, rfl⟩ dX9_rest_34
theorem dX11_on_0 : decode cX11_on 0 = .ok (.iload_n 1, 1) := by decide +kernel
theorem dX11_on_1 : decode cX11_on 1 = .ok (.iconst 0, 1) := by decide +kernel
theorem dX11_on_2 : decode cX11_on 2 = .ok (.bipush 16, 2) := by decide +kernel
theorem dX11_on_4 : decode cX11_on 4 = .ok (.invokestatic 74, 3) := by decide +kernel
theorem dX11_on_7 : decode cX11_on 7 = .ok (.ifCond .ne 5, 3) := by decide +kernel
theorem dX11_on_10 : decode cX11_on 10 = .ok (.iconst (-1), 1) := by decide +kernel
theorem dX11_on_11 : decode cX11_on 11 = .ok (.ireturn, 1) := by decide +kernel
theorem dX11_on_12 : decode cX11_on 12 = .ok (.aload_n 0, 1) := by decide +kernel
theorem dX11_on_13 : decode cX11_on 13 = .ok (.getfield 62, 3) := by decide +kernel
theorem dX11_on_16 : decode cX11_on 16 = .ok (.aload_n 0, 1) := by decide +kernel
theorem dX11_on_17 : decode cX11_on 17 = .ok (.getfield 55, 3) := by decide +kernel
theorem dX11_on_20 : decode cX11_on 20 = .ok (.invokevirtual 176, 3) := by decide +kernel
theorem dX11_on_23 : decode cX11_on 23 = .ok (.aload_n 0, 1) := by decide +kernel
theorem dX11_on_24 : decode cX11_on 24 = .ok (.getfield 62, 3) := by decide +kernel
theorem dX11_on_27 : decode cX11_on 27 = .ok (.iload_n 1, 1) := by decide +kernel
theorem dX11_on_28 : decode cX11_on 28 = .ok (.invokevirtual 173, 3) := by decide +kernel
theorem dX11_on_31 : decode cX11_on 31 = .ok (.ireturn, 1) := by decide +kernel
theorem k_X11_on : MV yX11_on cX11_on 2 (some .int) 1 := ⟨q_699, q_700, q_1, q_701, ⟨by decide, by decide, by decide +kernel⟩⟩
theorem c_X11_on {v1 : Int32} {res : Int32 × (Nat → Nat → Int32) × (Nat → Nat → Int32) × (Nat → Int32) × (Nat → Nat → Int32) × Int32 × Int32 × Int32 × Int32 × Int32 × Int32 × Nat × (Nat → Int32) × (Nat → Int32) × (Nat → Nat → Int32)} (hf : X11_on n x_q0_dials x_q0_spots x_q0_skies x_q0_reports x_q0_count x_q0_chime x_q0_end x_q0_score x_q0_reportCount x_q0_z x_q0_rules x_q2_dials x_q2_spots x_q2_skies x_q2_reports x_q2_count x_q2_chime x_q2_end x_q2_score x_q2_reportCount x_q2_z x_q2_rules x_q2_shades x_q2_facts x_g_count x_g_kinds x_g_wills x_g_starts x_g_code x_g_stack x_g_kl x_g_wl x_g_sl x_g_cl x_nr v1 = some res) : MC l E0 D t yX11_on cX11_on 2 (some .int) 7 0 0 [.ref (a 0), .int v1] (cW a ar t x_q0_dials x_q0_spots x_q0_skies x_q0_reports x_q0_count x_q0_chime x_q0_end x_q0_score x_q0_reportCount x_q0_z x_q0_rules x_q0_shades x_q0_facts x_q1_dials x_q1_spots x_q1_skies x_q1_reports x_q1_count x_q1_chime x_q1_end x_q1_score x_q1_reportCount x_q1_z x_q1_rules x_q1_shades x_q1_facts x_q2_dials x_q2_spots x_q2_skies x_q2_reports x_q2_count x_q2_chime x_q2_end x_q2_score x_q2_reportCount x_q2_z x_q2_rules x_q2_shades x_q2_facts x_isKept x_marks x_p_first x_p_steps x_p_most x_p_many x_p_fewest x_p_everRight x_p_opening x_p_rows x_p_rowCount x_p_acts x_p_marks x_p_deepest x_p_wanted x_t_length x_t_tape x_t_words x_t_places x_t_at x_t_kinds x_t_wills x_t_starts x_t_code x_t_count x_t_size x_h_sorts x_h_lengths x_h_items x_h_held x_h_things x_h_sizes x_h_bodies x_h_traced x_h_number x_h_spot x_h_parted x_g_count x_g_kinds x_g_wills x_g_starts x_g_code x_g_stack x_g_kl x_g_wl x_g_sl x_g_cl x_nr) (Qi res.1 (cW a ar t x_q0_dials x_q0_spots x_q0_skies x_q0_reports x_q0_count x_q0_chime x_q0_end x_q0_score x_q0_reportCount x_q0_z x_q0_rules x_q0_shades x_q0_facts x_q1_dials x_q1_spots x_q1_skies x_q1_reports x_q1_count x_q1_chime x_q1_end x_q1_score x_q1_reportCount x_q1_z x_q1_rules x_q1_shades x_q1_facts res.2.1 res.2.2.1 res.2.2.2.1 res.2.2.2.2.1 res.2.2.2.2.2.1 res.2.2.2.2.2.2.1 res.2.2.2.2.2.2.2.1 res.2.2.2.2.2.2.2.2.1 res.2.2.2.2.2.2.2.2.2.1 res.2.2.2.2.2.2.2.2.2.2.1 res.2.2.2.2.2.2.2.2.2.2.2.1 res.2.2.2.2.2.2.2.2.2.2.2.2.1 res.2.2.2.2.2.2.2.2.2.2.2.2.2.1 x_isKept x_marks x_p_first x_p_steps x_p_most x_p_many x_p_fewest x_p_everRight x_p_opening x_p_rows x_p_rowCount x_p_acts x_p_marks x_p_deepest x_p_wanted x_t_length x_t_tape x_t_words x_t_places x_t_at x_t_kinds x_t_wills x_t_starts x_t_code x_t_count x_t_size x_h_sorts x_h_lengths x_h_items x_h_held x_h_things x_h_sizes x_h_bodies x_h_traced x_h_number x_h_spot x_h_parted x_g_count x_g_kinds x_g_wills x_g_starts x_g_code res.2.2.2.2.2.2.2.2.2.2.2.2.2.2 x_g_kl x_g_wl x_g_sl x_g_cl x_nr)) := by
  unfold X11_on at hf
  refine MC.ofI pn_X11 (Nat.le_of_ble_eq_true rfl) ?_
  intro p e s m args below meth c A Q ls cx hR hw hl
  have hx := cx.1
  have hb := cx.2.1
  have hl : lv_has ls 2 [(0, .ref (a 0)), (1, .int v1)] := hl
  refine lv_iload_n hx hb dX11_on_0 rfl (lv_at hl 1 rfl) ?_
  refine lv_iconst (v := 0) hx hb dX11_on_1 (by decide) ?_
  refine lv_bipush (v := 16) hx hb dX11_on_2 (by decide) ?_
  refine calSi cx hw hl.1 (c_X11_isIn rfl) q_350 k_X11_isIn rfl dX11_on_4 rfl (Nat.le_of_ble_eq_true rfl) ⟨Nat.le_of_ble_eq_true rfl, Nat.le_of_ble_eq_true rfl⟩ ⟨Nat.le_refl _, Nat.le_refl _⟩ (fun H locs hw => ?_)
  refine lv_if_ne (tgt := 12) hx hb dX11_on_7 (by decide) (fun hc => ?_) (fun hc => ?_)
  · have hf := ifF hf hc
    refine lv_aload_n hx hb dX11_on_12 rfl (lv_at hl 0 rfl) ?_
    refine cg_X11_62_ds cx hw dX11_on_13 ?_
    refine lv_aload_n hx hb dX11_on_16 rfl (lv_at hl 0 rfl) ?_
    refine cg_X11_55_ds cx hw dX11_on_17 ?_
    obtain ⟨r1, h2, hf⟩ := bnS hf
    refine calVv cx hw hl.1 (c_X9_copyFrom_q2_oq0 h2) q_702 k_X9_copyFrom rfl rv_q2 rfl dX11_on_20 rfl (Nat.le_of_ble_eq_true rfl) ⟨Nat.le_of_ble_eq_true rfl, Nat.le_of_ble_eq_true rfl⟩ ⟨Nat.le_refl _, Nat.le_refl _⟩ (fun H locs hw => ?_)
    refine lv_aload_n hx hb dX11_on_23 rfl (lv_at hl 0 rfl) ?_
    refine cg_X11_62_ds cx hw dX11_on_24 ?_
    refine lv_iload_n hx hb dX11_on_27 rfl (lv_at hl 1 rfl) ?_
    obtain ⟨r3, h4, hf⟩ := bnS hf
    refine calVi cx hw hl.1 (c_X9_rest_q2 h4) q_671 k_X9_rest rfl rv_q2 rfl dX11_on_28 rfl (Nat.le_of_ble_eq_true rfl) ⟨Nat.le_of_ble_eq_true rfl, Nat.le_of_ble_eq_true rfl⟩ ⟨Nat.le_refl _, Nat.le_refl _⟩ (fun H locs hw => ?_)
    have hf := Option.some.inj hf
    subst hf
    exact hR _ _ _ _ _ _ hw rfl ⟨rfl, rfl⟩ dX11_on_31
  · have hf := ifT hf hc
    refine lv_iconst (v := (-1)) hx hb dX11_on_10 (by decide) ?_
    have hf := Option.some.inj hf
    subst hf
    exact hR _ _ _ _ _ _ hw rfl ⟨rfl, rfl⟩ dX11_on_11
theorem dX11_when_0 : decode cX11_when 0 = .ok (.aload_n 0, 1) := by decide +kernel
theorem dX11_when_1 : decode cX11_when 1 = .ok (.getfield 55, 3) := by decide +kernel
theorem dX11_when_4 : decode cX11_when 4 = .ok (.iload_n 1, 1) := by decide +kernel
theorem dX11_when_5 : decode cX11_when 5 = .ok (.invokevirtual 90, 3) := by decide +kernel
theorem dX11_when_8 : decode cX11_when 8 = .ok (.ifCond .ne 5, 3) := by decide +kernel
theorem dX11_when_11 : decode cX11_when 11 = .ok (.iconst (-1), 1) := by decide +kernel
theorem dX11_when_12 : decode cX11_when 12 = .ok (.ireturn, 1) := by decide +kernel
theorem dX11_when_13 : decode cX11_when 13 = .ok (.aload_n 0, 1) := by decide +kernel
theorem dX11_when_14 : decode cX11_when 14 = .ok (.getfield 55, 3) := by decide +kernel
theorem dX11_when_17 : decode cX11_when 17 = .ok (.iload_n 1, 1) := by decide +kernel
theorem dX11_when_18 : decode cX11_when 18 = .ok (.invokevirtual 179, 3) := by decide +kernel
theorem dX11_when_21 : decode cX11_when 21 = .ok (.ifCond .eq 6, 3) := by decide +kernel
theorem dX11_when_24 : decode cX11_when 24 = .ok (.bipush (-3), 2) := by decide +kernel
theorem dX11_when_26 : decode cX11_when 26 = .ok (.ireturn, 1) := by decide +kernel
theorem dX11_when_27 : decode cX11_when 27 = .ok (.aload_n 0, 1) := by decide +kernel
theorem dX11_when_28 : decode cX11_when 28 = .ok (.getfield 62, 3) := by decide +kernel
theorem dX11_when_31 : decode cX11_when 31 = .ok (.aload_n 0, 1) := by decide +kernel
theorem dX11_when_32 : decode cX11_when 32 = .ok (.getfield 55, 3) := by decide +kernel
theorem dX11_when_35 : decode cX11_when 35 = .ok (.invokevirtual 176, 3) := by decide +kernel
theorem dX11_when_38 : decode cX11_when 38 = .ok (.aload_n 0, 1) := by decide +kernel
theorem dX11_when_39 : decode cX11_when 39 = .ok (.getfield 55, 3) := by decide +kernel
theorem dX11_when_42 : decode cX11_when 42 = .ok (.getfield 128, 3) := by decide +kernel
theorem dX11_when_45 : decode cX11_when 45 = .ok (.istore_n 2, 1) := by decide +kernel
theorem dX11_when_46 : decode cX11_when 46 = .ok (.iload_n 2, 1) := by decide +kernel
theorem dX11_when_47 : decode cX11_when 47 = .ok (.aload_n 0, 1) := by decide +kernel
theorem dX11_when_48 : decode cX11_when 48 = .ok (.getfield 55, 3) := by decide +kernel
theorem dX11_when_51 : decode cX11_when 51 = .ok (.getfield 131, 3) := by decide +kernel
theorem dX11_when_54 : decode cX11_when 54 = .ok (.if_icmp .ge 31, 3) := by decide +kernel
theorem dX11_when_57 : decode cX11_when 57 = .ok (.aload_n 0, 1) := by decide +kernel
theorem dX11_when_58 : decode cX11_when 58 = .ok (.getfield 62, 3) := by decide +kernel
theorem dX11_when_61 : decode cX11_when 61 = .ok (.iconst 1, 1) := by decide +kernel
theorem dX11_when_62 : decode cX11_when 62 = .ok (.invokevirtual 173, 3) := by decide +kernel
theorem dX11_when_65 : decode cX11_when 65 = .ok (.pop, 1) := by decide +kernel
theorem dX11_when_66 : decode cX11_when 66 = .ok (.aload_n 0, 1) := by decide +kernel
theorem dX11_when_67 : decode cX11_when 67 = .ok (.getfield 62, 3) := by decide +kernel
theorem dX11_when_70 : decode cX11_when 70 = .ok (.iload_n 1, 1) := by decide +kernel
theorem dX11_when_71 : decode cX11_when 71 = .ok (.invokevirtual 179, 3) := by decide +kernel
theorem dX11_when_74 : decode cX11_when 74 = .ok (.ifCond .eq 5, 3) := by decide +kernel
theorem dX11_when_77 : decode cX11_when 77 = .ok (.iload_n 2, 1) := by decide +kernel
theorem dX11_when_78 : decode cX11_when 78 = .ok (.ireturn, 1) := by decide +kernel
theorem dX11_when_79 : decode cX11_when 79 = .ok (.iinc 2 1, 3) := by decide +kernel
theorem dX11_when_82 : decode cX11_when 82 = .ok (.goto (-36), 3) := by decide +kernel
theorem dX11_when_85 : decode cX11_when 85 = .ok (.bipush (-3), 2) := by decide +kernel
theorem dX11_when_87 : decode cX11_when 87 = .ok (.ireturn, 1) := by decide +kernel
theorem k_X11_when : MV yX11_when cX11_when 3 (some .int) 1 := ⟨q_708, q_709, q_1, q_710, ⟨by decide, by decide, by decide +kernel⟩⟩
theorem c_X11_when {v1 : Int32} {res : Int32 × (Nat → Nat → Int32) × (Nat → Nat → Int32) × (Nat → Int32) × (Nat → Nat → Int32) × Int32 × Int32 × Int32 × Int32 × Int32 × Int32 × Nat × (Nat → Int32) × (Nat → Int32) × (Nat → Nat → Int32)} (hf : X11_when n x_q0_dials x_q0_spots x_q0_skies x_q0_reports x_q0_count x_q0_chime x_q0_end x_q0_score x_q0_reportCount x_q0_z x_q0_rules x_q2_dials x_q2_spots x_q2_skies x_q2_reports x_q2_count x_q2_chime x_q2_end x_q2_score x_q2_reportCount x_q2_z x_q2_rules x_q2_shades x_q2_facts x_g_count x_g_kinds x_g_wills x_g_starts x_g_code x_g_stack x_g_kl x_g_wl x_g_sl x_g_cl x_nr v1 = some res) : MC l E0 D t yX11_when cX11_when 3 (some .int) 7 0 0 [.ref (a 0), .int v1] (cW a ar t x_q0_dials x_q0_spots x_q0_skies x_q0_reports x_q0_count x_q0_chime x_q0_end x_q0_score x_q0_reportCount x_q0_z x_q0_rules x_q0_shades x_q0_facts x_q1_dials x_q1_spots x_q1_skies x_q1_reports x_q1_count x_q1_chime x_q1_end x_q1_score x_q1_reportCount x_q1_z x_q1_rules x_q1_shades x_q1_facts x_q2_dials x_q2_spots x_q2_skies x_q2_reports x_q2_count x_q2_chime x_q2_end x_q2_score x_q2_reportCount x_q2_z x_q2_rules x_q2_shades x_q2_facts x_isKept x_marks x_p_first x_p_steps x_p_most x_p_many x_p_fewest x_p_everRight x_p_opening x_p_rows x_p_rowCount x_p_acts x_p_marks x_p_deepest x_p_wanted x_t_length x_t_tape x_t_words x_t_places x_t_at x_t_kinds x_t_wills x_t_starts x_t_code x_t_count x_t_size x_h_sorts x_h_lengths x_h_items x_h_held x_h_things x_h_sizes x_h_bodies x_h_traced x_h_number x_h_spot x_h_parted x_g_count x_g_kinds x_g_wills x_g_starts x_g_code x_g_stack x_g_kl x_g_wl x_g_sl x_g_cl x_nr) (Qi res.1 (cW a ar t x_q0_dials x_q0_spots x_q0_skies x_q0_reports x_q0_count x_q0_chime x_q0_end x_q0_score x_q0_reportCount x_q0_z x_q0_rules x_q0_shades x_q0_facts x_q1_dials x_q1_spots x_q1_skies x_q1_reports x_q1_count x_q1_chime x_q1_end x_q1_score x_q1_reportCount x_q1_z x_q1_rules x_q1_shades x_q1_facts res.2.1 res.2.2.1 res.2.2.2.1 res.2.2.2.2.1 res.2.2.2.2.2.1 res.2.2.2.2.2.2.1 res.2.2.2.2.2.2.2.1 res.2.2.2.2.2.2.2.2.1 res.2.2.2.2.2.2.2.2.2.1 res.2.2.2.2.2.2.2.2.2.2.1 res.2.2.2.2.2.2.2.2.2.2.2.1 res.2.2.2.2.2.2.2.2.2.2.2.2.1 res.2.2.2.2.2.2.2.2.2.2.2.2.2.1 x_isKept x_marks x_p_first x_p_steps x_p_most x_p_many x_p_fewest x_p_everRight x_p_opening x_p_rows x_p_rowCount x_p_acts x_p_marks x_p_deepest x_p_wanted x_t_length x_t_tape x_t_words x_t_places x_t_at x_t_kinds x_t_wills x_t_starts x_t_code x_t_count x_t_size x_h_sorts x_h_lengths x_h_items x_h_held x_h_things x_h_sizes x_h_bodies x_h_traced x_h_number x_h_spot x_h_parted x_g_count x_g_kinds x_g_wills x_g_starts x_g_code res.2.2.2.2.2.2.2.2.2.2.2.2.2.2 x_g_kl x_g_wl x_g_sl x_g_cl x_nr)) := by
  unfold X11_when at hf
  refine MC.ofI pn_X11 (Nat.le_of_ble_eq_true rfl) ?_
  intro p e s m args below meth c A Q ls cx hR hw hl
  have hx := cx.1
  have hb := cx.2.1
  have hl : lv_has ls 3 [(0, .ref (a 0)), (1, .int v1)] := hl
  refine lv_aload_n hx hb dX11_when_0 rfl (lv_at hl 0 rfl) ?_
  refine cg_X11_55_ds cx hw dX11_when_1 ?_
  refine lv_iload_n hx hb dX11_when_4 rfl (lv_at hl 1 rfl) ?_
  refine calVi cx hw hl.1 (c_X9_has_q0 rfl) q_364 k_X9_has rfl rv_q0 rfl dX11_when_5 rfl (Nat.le_of_ble_eq_true rfl) ⟨Nat.le_of_ble_eq_true rfl, Nat.le_of_ble_eq_true rfl⟩ ⟨Nat.le_refl _, Nat.le_refl _⟩ (fun H locs hw => ?_)
  refine lv_if_ne (tgt := 13) hx hb dX11_when_8 (by decide) (fun hc => ?_) (fun hc => ?_)
  · have hf := ifF hf hc
    refine lv_aload_n hx hb dX11_when_13 rfl (lv_at hl 0 rfl) ?_
    refine cg_X11_55_ds cx hw dX11_when_14 ?_
    refine lv_iload_n hx hb dX11_when_17 rfl (lv_at hl 1 rfl) ?_
    obtain ⟨r1, h2, hf⟩ := bnS hf
    refine calVi cx hw hl.1 (c_X9_isRight_q0 h2) q_711 k_X9_isRight rfl rv_q0 rfl dX11_when_18 rfl (Nat.le_of_ble_eq_true rfl) ⟨Nat.le_of_ble_eq_true rfl, Nat.le_of_ble_eq_true rfl⟩ ⟨Nat.le_refl _, Nat.le_refl _⟩ (fun H locs hw => ?_)
    refine lv_if_eq (tgt := 27) hx hb dX11_when_21 (by decide) (fun hc => ?_) (fun hc => ?_)
    · have hf := ifT hf hc
      refine lv_aload_n hx hb dX11_when_27 rfl (lv_at hl 0 rfl) ?_
      refine cg_X11_62_ds cx hw dX11_when_28 ?_
      refine lv_aload_n hx hb dX11_when_31 rfl (lv_at hl 0 rfl) ?_
      refine cg_X11_55_ds cx hw dX11_when_32 ?_
      obtain ⟨r3, h4, hf⟩ := bnS hf
      refine calVv cx hw hl.1 (c_X9_copyFrom_q2_oq0 h4) q_702 k_X9_copyFrom rfl rv_q2 rfl dX11_when_35 rfl (Nat.le_of_ble_eq_true rfl) ⟨Nat.le_of_ble_eq_true rfl, Nat.le_of_ble_eq_true rfl⟩ ⟨Nat.le_refl _, Nat.le_refl _⟩ (fun H locs hw => ?_)
      refine lv_aload_n hx hb dX11_when_38 rfl (lv_at hl 0 rfl) ?_
      refine cg_X11_55_ds cx hw dX11_when_39 ?_
      refine cg_X11_128_q0 cx hw dX11_when_42 ?_
      refine lv_istore_n (lv' := [(2, .int x_q0_chime), (0, .ref (a 0)), (1, .int v1)]) hx hb dX11_when_45 rfl hl (by decide) rfl (fun ls hl => ?_)
      obtain ⟨K1, hK1, hf⟩ := jnS hf
      have kx1 : ∀ (o9 : Int32 × (Nat → Nat → Int32) × Int32 × Int32 × (Nat → Int32) × (Nat → Int32) × (Nat → Nat → Int32)) (H : Heap) (locs : List Loc) (ls : Array Slot), K1 o9 = some res → Wd D A s (cW a ar t x_q0_dials x_q0_spots x_q0_skies x_q0_reports x_q0_count x_q0_chime x_q0_end x_q0_score x_q0_reportCount x_q0_z x_q0_rules x_q0_shades x_q0_facts x_q1_dials x_q1_spots x_q1_skies x_q1_reports x_q1_count x_q1_chime x_q1_end x_q1_score x_q1_reportCount x_q1_z x_q1_rules x_q1_shades x_q1_facts o9.2.1 r3.2.1 r3.2.2.1 r3.2.2.2.1 r3.2.2.2.2.1 o9.2.2.1 r3.2.2.2.2.2.2.1 o9.2.2.2.1 r3.2.2.2.2.2.2.2.2.1 r3.2.2.2.2.2.2.2.2.2.1 r3.2.2.2.2.2.2.2.2.2.2 o9.2.2.2.2.1 o9.2.2.2.2.2.1 x_isKept x_marks x_p_first x_p_steps x_p_most x_p_many x_p_fewest x_p_everRight x_p_opening x_p_rows x_p_rowCount x_p_acts x_p_marks x_p_deepest x_p_wanted x_t_length x_t_tape x_t_words x_t_places x_t_at x_t_kinds x_t_wills x_t_starts x_t_code x_t_count x_t_size x_h_sorts x_h_lengths x_h_items x_h_held x_h_things x_h_sizes x_h_bodies x_h_traced x_h_number x_h_spot x_h_parted x_g_count x_g_kinds x_g_wills x_g_starts x_g_code o9.2.2.2.2.2.2 x_g_kl x_g_wl x_g_sl x_g_cl x_nr) H locs → lv_has ls 3 [(0, .ref (a 0)), (1, .int v1), (2, .int o9.1)] → W p l e (rmz 7 0 0) s m args below meth c H locs 0 0 Q (F0 m 85 ls []) := by
        intro o9 H locs ls hf hw hl
        have hf := hK1 _ hf
        refine lv_bipush (v := (-3)) hx hb dX11_when_85 (by decide) ?_
        have hf := Option.some.inj hf
        subst hf
        exact hR _ _ _ _ _ _ hw rfl ⟨rfl, rfl⟩ dX11_when_87
      have wL1 : ∀ (k : Nat) {v1 : Int32} {v2 : Int32} {x_q2_dials : Nat → Nat → Int32} {x_q2_spots : Nat → Nat → Int32} {x_q2_skies : Nat → Int32} {x_q2_reports : Nat → Nat → Int32} {x_q2_count : Int32} {x_q2_chime : Int32} {x_q2_end : Int32} {x_q2_score : Int32} {x_q2_reportCount : Int32} {x_q2_z : Int32} {x_q2_rules : Nat} {x_q2_shades : Nat → Int32} {x_q2_facts : Nat → Int32} {x_g_stack : Nat → Nat → Int32} {H : Heap} {locs : List Loc} {ls : Array Slot}, X11_when_L1 n x_q0_end x_q2_spots x_q2_skies x_q2_reports x_q2_count x_q2_end x_q2_reportCount x_q2_z x_q2_rules x_g_count x_g_kinds x_g_wills x_g_starts x_g_code x_g_kl x_g_wl x_g_sl x_g_cl x_nr v1 K1 k v2 x_q2_dials x_q2_chime x_q2_score x_q2_shades x_q2_facts x_g_stack = some res → Wd D A s (cW a ar t x_q0_dials x_q0_spots x_q0_skies x_q0_reports x_q0_count x_q0_chime x_q0_end x_q0_score x_q0_reportCount x_q0_z x_q0_rules x_q0_shades x_q0_facts x_q1_dials x_q1_spots x_q1_skies x_q1_reports x_q1_count x_q1_chime x_q1_end x_q1_score x_q1_reportCount x_q1_z x_q1_rules x_q1_shades x_q1_facts x_q2_dials x_q2_spots x_q2_skies x_q2_reports x_q2_count x_q2_chime x_q2_end x_q2_score x_q2_reportCount x_q2_z x_q2_rules x_q2_shades x_q2_facts x_isKept x_marks x_p_first x_p_steps x_p_most x_p_many x_p_fewest x_p_everRight x_p_opening x_p_rows x_p_rowCount x_p_acts x_p_marks x_p_deepest x_p_wanted x_t_length x_t_tape x_t_words x_t_places x_t_at x_t_kinds x_t_wills x_t_starts x_t_code x_t_count x_t_size x_h_sorts x_h_lengths x_h_items x_h_held x_h_things x_h_sizes x_h_bodies x_h_traced x_h_number x_h_spot x_h_parted x_g_count x_g_kinds x_g_wills x_g_starts x_g_code x_g_stack x_g_kl x_g_wl x_g_sl x_g_cl x_nr) H locs → lv_has ls 3 [(0, .ref (a 0)), (1, .int v1), (2, .int v2)] → (∀ (o : Int32 × (Nat → Nat → Int32) × Int32 × Int32 × (Nat → Int32) × (Nat → Int32) × (Nat → Nat → Int32)) (H : Heap) (locs : List Loc) (ls : Array Slot), K1 o = some res → Wd D A s (cW a ar t x_q0_dials x_q0_spots x_q0_skies x_q0_reports x_q0_count x_q0_chime x_q0_end x_q0_score x_q0_reportCount x_q0_z x_q0_rules x_q0_shades x_q0_facts x_q1_dials x_q1_spots x_q1_skies x_q1_reports x_q1_count x_q1_chime x_q1_end x_q1_score x_q1_reportCount x_q1_z x_q1_rules x_q1_shades x_q1_facts o.2.1 x_q2_spots x_q2_skies x_q2_reports x_q2_count o.2.2.1 x_q2_end o.2.2.2.1 x_q2_reportCount x_q2_z x_q2_rules o.2.2.2.2.1 o.2.2.2.2.2.1 x_isKept x_marks x_p_first x_p_steps x_p_most x_p_many x_p_fewest x_p_everRight x_p_opening x_p_rows x_p_rowCount x_p_acts x_p_marks x_p_deepest x_p_wanted x_t_length x_t_tape x_t_words x_t_places x_t_at x_t_kinds x_t_wills x_t_starts x_t_code x_t_count x_t_size x_h_sorts x_h_lengths x_h_items x_h_held x_h_things x_h_sizes x_h_bodies x_h_traced x_h_number x_h_spot x_h_parted x_g_count x_g_kinds x_g_wills x_g_starts x_g_code o.2.2.2.2.2.2 x_g_kl x_g_wl x_g_sl x_g_cl x_nr) H locs → lv_has ls 3 [(0, .ref (a 0)), (1, .int v1), (2, .int o.1)] → W p l e (rmz 7 0 0) s m args below meth c H locs 0 0 Q (F0 m 85 ls [])) → W p l e (rmz 7 0 0) s m args below meth c H locs 0 0 Q (F0 m 46 ls []) := by
        clear hf hw hl hK1 kx1
        intro k
        induction k with
        | zero => intro v1 v2 x_q2_dials x_q2_spots x_q2_skies x_q2_reports x_q2_count x_q2_chime x_q2_end x_q2_score x_q2_reportCount x_q2_z x_q2_rules x_q2_shades x_q2_facts x_g_stack H locs ls hf hw hl kx; simp [X11_when_L1] at hf
        | succ k ih =>
          intro v1 v2 x_q2_dials x_q2_spots x_q2_skies x_q2_reports x_q2_count x_q2_chime x_q2_end x_q2_score x_q2_reportCount x_q2_z x_q2_rules x_q2_shades x_q2_facts x_g_stack H locs ls hf hw hl kx
          rw [X11_when_L1] at hf
          refine lv_iload_n hx hb dX11_when_46 rfl (lv_at hl 2 rfl) ?_
          refine lv_aload_n hx hb dX11_when_47 rfl (lv_at hl 0 rfl) ?_
          refine cg_X11_55_ds cx hw dX11_when_48 ?_
          refine cg_X11_131_q0 cx hw dX11_when_51 ?_
          refine lv_icmp_ge (tgt := 85) hx hb dX11_when_54 (by decide) (fun hc => ?_) (fun hc => ?_)
          · have hf := ifT hf hc
            exact kx _ _ _ _ hf hw (lv_sub hl [0, 1, 2] rfl)
          · have hf := ifF hf hc
            refine lv_aload_n hx hb dX11_when_57 rfl (lv_at hl 0 rfl) ?_
            refine cg_X11_62_ds cx hw dX11_when_58 ?_
            refine lv_iconst (v := 1) hx hb dX11_when_61 (by decide) ?_
            obtain ⟨r5, h6, hf⟩ := bnS hf
            refine calVi cx hw hl.1 (c_X9_rest_q2 h6) q_671 k_X9_rest rfl rv_q2 rfl dX11_when_62 rfl (Nat.le_of_ble_eq_true rfl) ⟨Nat.le_of_ble_eq_true rfl, Nat.le_of_ble_eq_true rfl⟩ ⟨Nat.le_refl _, Nat.le_refl _⟩ (fun H locs hw => ?_)
            refine lv_pop hx hb dX11_when_65 rfl ?_
            refine lv_aload_n hx hb dX11_when_66 rfl (lv_at hl 0 rfl) ?_
            refine cg_X11_62_ds cx hw dX11_when_67 ?_
            refine lv_iload_n hx hb dX11_when_70 rfl (lv_at hl 1 rfl) ?_
            obtain ⟨r7, h8, hf⟩ := bnS hf
            refine calVi cx hw hl.1 (c_X9_isRight_q2 h8) q_711 k_X9_isRight rfl rv_q2 rfl dX11_when_71 rfl (Nat.le_of_ble_eq_true rfl) ⟨Nat.le_of_ble_eq_true rfl, Nat.le_of_ble_eq_true rfl⟩ ⟨Nat.le_refl _, Nat.le_refl _⟩ (fun H locs hw => ?_)
            refine lv_if_eq (tgt := 79) hx hb dX11_when_74 (by decide) (fun hc => ?_) (fun hc => ?_)
            · have hf := ifT hf hc
              refine lv_iinc (v := (v2 + (1 : Int32))) (lv' := [(2, .int (v2 + (1 : Int32))), (0, .ref (a 0)), (1, .int v1)]) hx hb dX11_when_79 hl (k := 2) rfl rfl (by decide) rfl (fun ls hl => ?_)
              refine lv_goto (tgt := 46) hx hb dX11_when_82 (by decide) ?_
              exact ih hf hw (lv_sub hl [1, 2, 0] rfl) kx
            · have hf := ifF hf hc
              refine lv_iload_n hx hb dX11_when_77 rfl (lv_at hl 2 rfl) ?_
              have hf := Option.some.inj hf
              subst hf
              exact hR _ _ _ _ _ _ hw rfl ⟨rfl, rfl⟩ dX11_when_78
      exact wL1 n hf hw (lv_sub hl [1, 2, 0] rfl) kx1
    · have hf := ifF hf hc
      refine lv_bipush (v := (-3)) hx hb dX11_when_24 (by decide) ?_
      have hf := Option.some.inj hf
      subst hf
      exact hR _ _ _ _ _ _ hw rfl ⟨rfl, rfl⟩ dX11_when_26
  · have hf := ifT hf hc
    refine lv_iconst (v := (-1)) hx hb dX11_when_11 (by decide) ?_
    have hf := Option.some.inj hf
    subst hf
    exact hR _ _ _ _ _ _ hw rfl ⟨rfl, rfl⟩ dX11_when_12
theorem dX9_mark_0 : decode cX9_mark 0 = .ok (.aload_n 1, 1) := by decide +kernel
theorem dX9_mark_1 : decode cX9_mark 1 = .ok (.iconst 0, 1) := by decide +kernel
theorem dX9_mark_2 : decode cX9_mark 2 = .ok (.aload_n 0, 1) := by decide +kernel
theorem dX9_mark_3 : decode cX9_mark 3 = .ok (.getfield 62, 3) := by decide +kernel
theorem dX9_mark_6 : decode cX9_mark 6 = .ok (.iastore, 1) := by decide +kernel
theorem dX9_mark_7 : decode cX9_mark 7 = .ok (.iconst 0, 1) := by decide +kernel
theorem dX9_mark_8 : decode cX9_mark 8 = .ok (.istore_n 2, 1) := by decide +kernel
theorem dX9_mark_9 : decode cX9_mark 9 = .ok (.iload_n 2, 1) := by decide +kernel
theorem dX9_mark_10 : decode cX9_mark 10 = .ok (.aload_n 0, 1) := by decide +kernel
theorem dX9_mark_11 : decode cX9_mark 11 = .ok (.getfield 59, 3) := by decide +kernel
theorem dX9_mark_14 : decode cX9_mark 14 = .ok (.if_icmp .ge 36, 3) := by decide +kernel
theorem dX9_mark_17 : decode cX9_mark 17 = .ok (.aload_n 1, 1) := by decide +kernel
theorem dX9_mark_18 : decode cX9_mark 18 = .ok (.iconst 1, 1) := by decide +kernel
theorem dX9_mark_19 : decode cX9_mark 19 = .ok (.iload_n 2, 1) := by decide +kernel
theorem dX9_mark_20 : decode cX9_mark 20 = .ok (.iadd, 1) := by decide +kernel
theorem dX9_mark_21 : decode cX9_mark 21 = .ok (.aload_n 0, 1) := by decide +kernel
theorem dX9_mark_22 : decode cX9_mark 22 = .ok (.getfield 11, 3) := by decide +kernel
theorem dX9_mark_25 : decode cX9_mark 25 = .ok (.iload_n 2, 1) := by decide +kernel
theorem dX9_mark_26 : decode cX9_mark 26 = .ok (.aaload, 1) := by decide +kernel
theorem dX9_mark_27 : decode cX9_mark 27 = .ok (.iconst 1, 1) := by decide +kernel
theorem dX9_mark_28 : decode cX9_mark 28 = .ok (.iaload, 1) := by decide +kernel
theorem dX9_mark_29 : decode cX9_mark 29 = .ok (.iastore, 1) := by decide +kernel
theorem dX9_mark_30 : decode cX9_mark 30 = .ok (.aload_n 1, 1) := by decide +kernel
theorem dX9_mark_31 : decode cX9_mark 31 = .ok (.bipush 7, 2) := by decide +kernel
theorem dX9_mark_33 : decode cX9_mark 33 = .ok (.iload_n 2, 1) := by decide +kernel
theorem dX9_mark_34 : decode cX9_mark 34 = .ok (.iadd, 1) := by decide +kernel
theorem dX9_mark_35 : decode cX9_mark 35 = .ok (.aload_n 0, 1) := by decide +kernel
theorem dX9_mark_36 : decode cX9_mark 36 = .ok (.getfield 11, 3) := by decide +kernel
theorem dX9_mark_39 : decode cX9_mark 39 = .ok (.iload_n 2, 1) := by decide +kernel
theorem dX9_mark_40 : decode cX9_mark 40 = .ok (.aaload, 1) := by decide +kernel
theorem dX9_mark_41 : decode cX9_mark 41 = .ok (.iconst 4, 1) := by decide +kernel
theorem dX9_mark_42 : decode cX9_mark 42 = .ok (.iaload, 1) := by decide +kernel
theorem dX9_mark_43 : decode cX9_mark 43 = .ok (.iastore, 1) := by decide +kernel
theorem dX9_mark_44 : decode cX9_mark 44 = .ok (.iinc 2 1, 3) := by decide +kernel
theorem dX9_mark_47 : decode cX9_mark 47 = .ok (.goto (-38), 3) := by decide +kernel
theorem dX9_mark_50 : decode cX9_mark 50 = .ok (.return_, 1) := by decide +kernel
theorem k_X9_mark : MV yX9_mark cX9_mark 3 none 1 := ⟨q_721, q_722, q_11, q_723, ⟨by decide, by decide, by decide +kernel⟩⟩
theorem c_X9_mark_q2_mk {res : (Nat → Int32)} (hf : X9_mark_q2_mk n x_q2_dials x_q2_count x_q2_chime x_marks = some res) : MC l E0 D t yX9_mark cX9_mark 3 none 1 0 0 [.ref (a 51), .ref (a 76)] (cW a ar t x_q0_dials x_q0_spots x_q0_skies x_q0_reports x_q0_count x_q0_chime x_q0_end x_q0_score x_q0_reportCount x_q0_z x_q0_rules x_q0_shades x_q0_facts x_q1_dials x_q1_spots x_q1_skies x_q1_reports x_q1_count x_q1_chime x_q1_end x_q1_score x_q1_reportCount x_q1_z x_q1_rules x_q1_shades x_q1_facts x_q2_dials x_q2_spots x_q2_skies x_q2_reports x_q2_count x_q2_chime x_q2_end x_q2_score x_q2_reportCount x_q2_z x_q2_rules x_q2_shades x_q2_facts x_isKept x_marks x_p_first x_p_steps x_p_most x_p_many x_p_fewest x_p_everRight x_p_opening x_p_rows x_p_rowCount x_p_acts x_p_marks x_p_deepest x_p_wanted x_t_length x_t_tape x_t_words x_t_places x_t_at x_t_kinds x_t_wills x_t_starts x_t_code x_t_count x_t_size x_h_sorts x_h_lengths x_h_items x_h_held x_h_things x_h_sizes x_h_bodies x_h_traced x_h_number x_h_spot x_h_parted x_g_count x_g_kinds x_g_wills x_g_starts x_g_code x_g_stack x_g_kl x_g_wl x_g_sl x_g_cl x_nr) (Qn (cW a ar t x_q0_dials x_q0_spots x_q0_skies x_q0_reports x_q0_count x_q0_chime x_q0_end x_q0_score x_q0_reportCount x_q0_z x_q0_rules x_q0_shades x_q0_facts x_q1_dials x_q1_spots x_q1_skies x_q1_reports x_q1_count x_q1_chime x_q1_end x_q1_score x_q1_reportCount x_q1_z x_q1_rules x_q1_shades x_q1_facts x_q2_dials x_q2_spots x_q2_skies x_q2_reports x_q2_count x_q2_chime x_q2_end x_q2_score x_q2_reportCount x_q2_z x_q2_rules x_q2_shades x_q2_facts x_isKept res x_p_first x_p_steps x_p_most x_p_many x_p_fewest x_p_everRight x_p_opening x_p_rows x_p_rowCount x_p_acts x_p_marks x_p_deepest x_p_wanted x_t_length x_t_tape x_t_words x_t_places x_t_at x_t_kinds x_t_wills x_t_starts x_t_code x_t_count x_t_size x_h_sorts x_h_lengths x_h_items x_h_held x_h_things x_h_sizes x_h_bodies x_h_traced x_h_number x_h_spot x_h_parted x_g_count x_g_kinds x_g_wills x_g_starts x_g_code x_g_stack x_g_kl x_g_wl x_g_sl x_g_cl x_nr)) := by
  unfold X9_mark_q2_mk at hf
  refine MC.ofV pn_X9 (Nat.le_of_ble_eq_true rfl) ?_
  intro p e s m args below meth c A Q ls cx hR hw hl
  have hx := cx.1
  have hb := cx.2.1
  have hl : lv_has ls 3 [(0, .ref (a 51)), (1, .ref (a 76))] := hl
  refine lv_aload_n hx hb dX9_mark_0 rfl (lv_at hl 1 rfl) ?_
  refine lv_iconst (v := 0) hx hb dX9_mark_1 (by decide) ?_
  refine lv_aload_n hx hb dX9_mark_2 rfl (lv_at hl 0 rfl) ?_
  refine cg_X9_62_q2 cx hw dX9_mark_3 ?_
  refine cs_marks (j := 0) cx hw (ib_in (by decide)) (by decide) dX9_mark_6 (fun H locs hw => ?_)
  refine lv_iconst (v := 0) hx hb dX9_mark_7 (by decide) ?_
  refine lv_istore_n (lv' := [(2, .int (0 : Int32)), (0, .ref (a 51)), (1, .ref (a 76))]) hx hb dX9_mark_8 rfl hl (by decide) rfl (fun ls hl => ?_)
  obtain ⟨o5, ho5, hf⟩ := bnS hf
  have wL1 : ∀ (k : Nat) {v2 : Int32} {x_marks : Nat → Int32} {H : Heap} {locs : List Loc} {ls : Array Slot} {o : Int32 × (Nat → Int32)}, X9_mark_q2_mk_L1 n x_q2_dials x_q2_count k v2 x_marks = some o → Wd D A s (cW a ar t x_q0_dials x_q0_spots x_q0_skies x_q0_reports x_q0_count x_q0_chime x_q0_end x_q0_score x_q0_reportCount x_q0_z x_q0_rules x_q0_shades x_q0_facts x_q1_dials x_q1_spots x_q1_skies x_q1_reports x_q1_count x_q1_chime x_q1_end x_q1_score x_q1_reportCount x_q1_z x_q1_rules x_q1_shades x_q1_facts x_q2_dials x_q2_spots x_q2_skies x_q2_reports x_q2_count x_q2_chime x_q2_end x_q2_score x_q2_reportCount x_q2_z x_q2_rules x_q2_shades x_q2_facts x_isKept x_marks x_p_first x_p_steps x_p_most x_p_many x_p_fewest x_p_everRight x_p_opening x_p_rows x_p_rowCount x_p_acts x_p_marks x_p_deepest x_p_wanted x_t_length x_t_tape x_t_words x_t_places x_t_at x_t_kinds x_t_wills x_t_starts x_t_code x_t_count x_t_size x_h_sorts x_h_lengths x_h_items x_h_held x_h_things x_h_sizes x_h_bodies x_h_traced x_h_number x_h_spot x_h_parted x_g_count x_g_kinds x_g_wills x_g_starts x_g_code x_g_stack x_g_kl x_g_wl x_g_sl x_g_cl x_nr) H locs → lv_has ls 3 [(0, .ref (a 51)), (1, .ref (a 76)), (2, .int v2)] → (∀ (H : Heap) (locs : List Loc) (ls : Array Slot), Wd D A s (cW a ar t x_q0_dials x_q0_spots x_q0_skies x_q0_reports x_q0_count x_q0_chime x_q0_end x_q0_score x_q0_reportCount x_q0_z x_q0_rules x_q0_shades x_q0_facts x_q1_dials x_q1_spots x_q1_skies x_q1_reports x_q1_count x_q1_chime x_q1_end x_q1_score x_q1_reportCount x_q1_z x_q1_rules x_q1_shades x_q1_facts x_q2_dials x_q2_spots x_q2_skies x_q2_reports x_q2_count x_q2_chime x_q2_end x_q2_score x_q2_reportCount x_q2_z x_q2_rules x_q2_shades x_q2_facts x_isKept o.2 x_p_first x_p_steps x_p_most x_p_many x_p_fewest x_p_everRight x_p_opening x_p_rows x_p_rowCount x_p_acts x_p_marks x_p_deepest x_p_wanted x_t_length x_t_tape x_t_words x_t_places x_t_at x_t_kinds x_t_wills x_t_starts x_t_code x_t_count x_t_size x_h_sorts x_h_lengths x_h_items x_h_held x_h_things x_h_sizes x_h_bodies x_h_traced x_h_number x_h_spot x_h_parted x_g_count x_g_kinds x_g_wills x_g_starts x_g_code x_g_stack x_g_kl x_g_wl x_g_sl x_g_cl x_nr) H locs → lv_has ls 3 [(0, .ref (a 51)), (1, .ref (a 76)), (2, .int o.1)] → W p l e (rmz 1 0 0) s m args below meth c H locs 0 0 Q (F0 m 50 ls [])) → W p l e (rmz 1 0 0) s m args below meth c H locs 0 0 Q (F0 m 9 ls []) := by
    clear hf ho5 hw hl
    intro k
    induction k with
    | zero => intro v2 x_marks H locs ls o hf hw hl kx; simp [X9_mark_q2_mk_L1] at hf
    | succ k ih =>
      intro v2 x_marks H locs ls o hf hw hl kx
      rw [X9_mark_q2_mk_L1] at hf
      refine lv_iload_n hx hb dX9_mark_9 rfl (lv_at hl 2 rfl) ?_
      refine lv_aload_n hx hb dX9_mark_10 rfl (lv_at hl 0 rfl) ?_
      refine cg_X9_59_q2 cx hw dX9_mark_11 ?_
      refine lv_icmp_ge (tgt := 50) hx hb dX9_mark_14 (by decide) (fun hc => ?_) (fun hc => ?_)
      · have hf := ifT hf hc
        have hf := Option.some.inj hf
        subst hf
        exact kx _ _ _ hw (lv_sub hl [0, 1, 2] rfl)
      · have hf := ifF hf hc
        refine lv_aload_n hx hb dX9_mark_17 rfl (lv_at hl 1 rfl) ?_
        refine lv_iconst (v := 1) hx hb dX9_mark_18 (by decide) ?_
        refine lv_iload_n hx hb dX9_mark_19 rfl (lv_at hl 2 rfl) ?_
        refine lv_iadd hx hb dX9_mark_20 ?_
        refine lv_aload_n hx hb dX9_mark_21 rfl (lv_at hl 0 rfl) ?_
        refine cg_X9_11_q2 cx hw dX9_mark_22 ?_
        refine lv_iload_n hx hb dX9_mark_25 rfl (lv_at hl 2 rfl) ?_
        obtain ⟨h1, hf⟩ := ckS hf
        refine co_q2_dials (j := v2.toNatClampNeg) cx hw (ib_in h1) rfl dX9_mark_26 ?_
        refine lv_iconst (v := 1) hx hb dX9_mark_27 (by decide) ?_
        refine cm_q2_dials (j := 1) cx hw (ib_lt h1) (ib_in (by decide)) (by decide) dX9_mark_28 ?_
        obtain ⟨h2, hf⟩ := ckS hf
        refine cs_marks (j := ((1 : Int32) + v2).toNatClampNeg) cx hw (ib_in h2) rfl dX9_mark_29 (fun H locs hw => ?_)
        refine lv_aload_n hx hb dX9_mark_30 rfl (lv_at hl 1 rfl) ?_
        refine lv_bipush (v := 7) hx hb dX9_mark_31 (by decide) ?_
        refine lv_iload_n hx hb dX9_mark_33 rfl (lv_at hl 2 rfl) ?_
        refine lv_iadd hx hb dX9_mark_34 ?_
        refine lv_aload_n hx hb dX9_mark_35 rfl (lv_at hl 0 rfl) ?_
        refine cg_X9_11_q2 cx hw dX9_mark_36 ?_
        refine lv_iload_n hx hb dX9_mark_39 rfl (lv_at hl 2 rfl) ?_
        obtain ⟨h3, hf⟩ := ckS hf
        refine co_q2_dials (j := v2.toNatClampNeg) cx hw (ib_in h3) rfl dX9_mark_40 ?_
        refine lv_iconst (v := 4) hx hb dX9_mark_41 (by decide) ?_
        refine cm_q2_dials (j := 4) cx hw (ib_lt h3) (ib_in (by decide)) (by decide) dX9_mark_42 ?_
        obtain ⟨h4, hf⟩ := ckS hf
        refine cs_marks (j := ((7 : Int32) + v2).toNatClampNeg) cx hw (ib_in h4) rfl dX9_mark_43 (fun H locs hw => ?_)
        refine lv_iinc (v := (v2 + (1 : Int32))) (lv' := [(2, .int (v2 + (1 : Int32))), (0, .ref (a 51)), (1, .ref (a 76))]) hx hb dX9_mark_44 hl (k := 2) rfl rfl (by decide) rfl (fun ls hl => ?_)
        refine lv_goto (tgt := 9) hx hb dX9_mark_47 (by decide) ?_
        exact ih hf hw (lv_sub hl [1, 2, 0] rfl) kx
  refine wL1 n ho5 hw (lv_sub hl [1, 2, 0] rfl) (fun H locs ls hw hl => ?_)
  clear wL1 ho5
  have hf := Option.some.inj hf
  subst hf
  exact hR _ _ _ _ _ hw ⟨rfl, rfl⟩ dX9_mark_50
theorem dX9_back_0 : decode cX9_back 0 = .ok (.aload_n 0, 1) := by decide +kernel
theorem dX9_back_1 : decode cX9_back 1 = .ok (.aload_n 1, 1) := by decide +kernel
theorem dX9_back_2 : decode cX9_back 2 = .ok (.iconst 0, 1) := by decide +kernel
theorem dX9_back_3 : decode cX9_back 3 = .ok (.iaload, 1) := by decide +kernel
theorem dX9_back_4 : decode cX9_back 4 = .ok (.putfield 62, 3) := by decide +kernel
theorem dX9_back_7 : decode cX9_back 7 = .ok (.iconst 0, 1) := by decide +kernel
theorem dX9_back_8 : decode cX9_back 8 = .ok (.istore_n 2, 1) := by decide +kernel
theorem dX9_back_9 : decode cX9_back 9 = .ok (.iload_n 2, 1) := by decide +kernel
theorem dX9_back_10 : decode cX9_back 10 = .ok (.aload_n 0, 1) := by decide +kernel
theorem dX9_back_11 : decode cX9_back 11 = .ok (.getfield 59, 3) := by decide +kernel
theorem dX9_back_14 : decode cX9_back 14 = .ok (.if_icmp .ge 36, 3) := by decide +kernel
theorem dX9_back_17 : decode cX9_back 17 = .ok (.aload_n 0, 1) := by decide +kernel
theorem dX9_back_18 : decode cX9_back 18 = .ok (.getfield 11, 3) := by decide +kernel
theorem dX9_back_21 : decode cX9_back 21 = .ok (.iload_n 2, 1) := by decide +kernel
theorem dX9_back_22 : decode cX9_back 22 = .ok (.aaload, 1) := by decide +kernel
theorem dX9_back_23 : decode cX9_back 23 = .ok (.iconst 1, 1) := by decide +kernel
theorem dX9_back_24 : decode cX9_back 24 = .ok (.aload_n 1, 1) := by decide +kernel
theorem dX9_back_25 : decode cX9_back 25 = .ok (.iconst 1, 1) := by decide +kernel
theorem dX9_back_26 : decode cX9_back 26 = .ok (.iload_n 2, 1) := by decide +kernel
theorem dX9_back_27 : decode cX9_back 27 = .ok (.iadd, 1) := by decide +kernel
theorem dX9_back_28 : decode cX9_back 28 = .ok (.iaload, 1) := by decide +kernel
theorem dX9_back_29 : decode cX9_back 29 = .ok (.iastore, 1) := by decide +kernel
theorem dX9_back_30 : decode cX9_back 30 = .ok (.aload_n 0, 1) := by decide +kernel
theorem dX9_back_31 : decode cX9_back 31 = .ok (.getfield 11, 3) := by decide +kernel
theorem dX9_back_34 : decode cX9_back 34 = .ok (.iload_n 2, 1) := by decide +kernel
theorem dX9_back_35 : decode cX9_back 35 = .ok (.aaload, 1) := by decide +kernel
theorem dX9_back_36 : decode cX9_back 36 = .ok (.iconst 4, 1) := by decide +kernel
theorem dX9_back_37 : decode cX9_back 37 = .ok (.aload_n 1, 1) := by decide +kernel
theorem dX9_back_38 : decode cX9_back 38 = .ok (.bipush 7, 2) := by decide +kernel
theorem dX9_back_40 : decode cX9_back 40 = .ok (.iload_n 2, 1) := by decide +kernel
theorem dX9_back_41 : decode cX9_back 41 = .ok (.iadd, 1) := by decide +kernel
theorem dX9_back_42 : decode cX9_back 42 = .ok (.iaload, 1) := by decide +kernel
theorem dX9_back_43 : decode cX9_back 43 = .ok (.iastore, 1) := by decide +kernel
theorem dX9_back_44 : decode cX9_back 44 = .ok (.iinc 2 1, 3) := by decide +kernel
theorem dX9_back_47 : decode cX9_back 47 = .ok (.goto (-38), 3) := by decide +kernel
theorem dX9_back_50 : decode cX9_back 50 = .ok (.return_, 1) := by decide +kernel
theorem k_X9_back : MV yX9_back cX9_back 3 none 1 := ⟨q_725, q_726, q_11, q_727, ⟨by decide, by decide, by decide +kernel⟩⟩
theorem c_X9_back_q2_mk {res : (Nat → Nat → Int32) × Int32} (hf : X9_back_q2_mk n x_q2_dials x_q2_count x_marks = some res) : MC l E0 D t yX9_back cX9_back 3 none 1 0 0 [.ref (a 51), .ref (a 76)] (cW a ar t x_q0_dials x_q0_spots x_q0_skies x_q0_reports x_q0_count x_q0_chime x_q0_end x_q0_score x_q0_reportCount x_q0_z x_q0_rules x_q0_shades x_q0_facts x_q1_dials x_q1_spots x_q1_skies x_q1_reports x_q1_count x_q1_chime x_q1_end x_q1_score x_q1_reportCount x_q1_z x_q1_rules x_q1_shades x_q1_facts x_q2_dials x_q2_spots x_q2_skies x_q2_reports x_q2_count x_q2_chime x_q2_end x_q2_score x_q2_reportCount x_q2_z x_q2_rules x_q2_shades x_q2_facts x_isKept x_marks x_p_first x_p_steps x_p_most x_p_many x_p_fewest x_p_everRight x_p_opening x_p_rows x_p_rowCount x_p_acts x_p_marks x_p_deepest x_p_wanted x_t_length x_t_tape x_t_words x_t_places x_t_at x_t_kinds x_t_wills x_t_starts x_t_code x_t_count x_t_size x_h_sorts x_h_lengths x_h_items x_h_held x_h_things x_h_sizes x_h_bodies x_h_traced x_h_number x_h_spot x_h_parted x_g_count x_g_kinds x_g_wills x_g_starts x_g_code x_g_stack x_g_kl x_g_wl x_g_sl x_g_cl x_nr) (Qn (cW a ar t x_q0_dials x_q0_spots x_q0_skies x_q0_reports x_q0_count x_q0_chime x_q0_end x_q0_score x_q0_reportCount x_q0_z x_q0_rules x_q0_shades x_q0_facts x_q1_dials x_q1_spots x_q1_skies x_q1_reports x_q1_count x_q1_chime x_q1_end x_q1_score x_q1_reportCount x_q1_z x_q1_rules x_q1_shades x_q1_facts res.1 x_q2_spots x_q2_skies x_q2_reports x_q2_count res.2 x_q2_end x_q2_score x_q2_reportCount x_q2_z x_q2_rules x_q2_shades x_q2_facts x_isKept x_marks x_p_first x_p_steps x_p_most x_p_many x_p_fewest x_p_everRight x_p_opening x_p_rows x_p_rowCount x_p_acts x_p_marks x_p_deepest x_p_wanted x_t_length x_t_tape x_t_words x_t_places x_t_at x_t_kinds x_t_wills x_t_starts x_t_code x_t_count x_t_size x_h_sorts x_h_lengths x_h_items x_h_held x_h_things x_h_sizes x_h_bodies x_h_traced x_h_number x_h_spot x_h_parted x_g_count x_g_kinds x_g_wills x_g_starts x_g_code x_g_stack x_g_kl x_g_wl x_g_sl x_g_cl x_nr)) := by
  unfold X9_back_q2_mk at hf
  refine MC.ofV pn_X9 (Nat.le_of_ble_eq_true rfl) ?_
  intro p e s m args below meth c A Q ls cx hR hw hl
  have hx := cx.1
  have hb := cx.2.1
  have hl : lv_has ls 3 [(0, .ref (a 51)), (1, .ref (a 76))] := hl
  refine lv_aload_n hx hb dX9_back_0 rfl (lv_at hl 0 rfl) ?_
  refine lv_aload_n hx hb dX9_back_1 rfl (lv_at hl 1 rfl) ?_
  refine lv_iconst (v := 0) hx hb dX9_back_2 (by decide) ?_
  refine cl_marks (j := 0) cx hw (ib_in (by decide)) (by decide) dX9_back_3 ?_
  refine cp_X9_62_q2 cx hw dX9_back_4 (fun H locs hw => ?_)
  refine lv_iconst (v := 0) hx hb dX9_back_7 (by decide) ?_
  refine lv_istore_n (lv' := [(2, .int (0 : Int32)), (0, .ref (a 51)), (1, .ref (a 76))]) hx hb dX9_back_8 rfl hl (by decide) rfl (fun ls hl => ?_)
  obtain ⟨o5, ho5, hf⟩ := bnS hf
  have wL1 : ∀ (k : Nat) {v2 : Int32} {x_q2_dials : Nat → Nat → Int32} {x_q2_chime : Int32} {H : Heap} {locs : List Loc} {ls : Array Slot} {o : Int32 × (Nat → Nat → Int32)}, X9_back_q2_mk_L1 n x_q2_count x_marks k v2 x_q2_dials = some o → Wd D A s (cW a ar t x_q0_dials x_q0_spots x_q0_skies x_q0_reports x_q0_count x_q0_chime x_q0_end x_q0_score x_q0_reportCount x_q0_z x_q0_rules x_q0_shades x_q0_facts x_q1_dials x_q1_spots x_q1_skies x_q1_reports x_q1_count x_q1_chime x_q1_end x_q1_score x_q1_reportCount x_q1_z x_q1_rules x_q1_shades x_q1_facts x_q2_dials x_q2_spots x_q2_skies x_q2_reports x_q2_count x_q2_chime x_q2_end x_q2_score x_q2_reportCount x_q2_z x_q2_rules x_q2_shades x_q2_facts x_isKept x_marks x_p_first x_p_steps x_p_most x_p_many x_p_fewest x_p_everRight x_p_opening x_p_rows x_p_rowCount x_p_acts x_p_marks x_p_deepest x_p_wanted x_t_length x_t_tape x_t_words x_t_places x_t_at x_t_kinds x_t_wills x_t_starts x_t_code x_t_count x_t_size x_h_sorts x_h_lengths x_h_items x_h_held x_h_things x_h_sizes x_h_bodies x_h_traced x_h_number x_h_spot x_h_parted x_g_count x_g_kinds x_g_wills x_g_starts x_g_code x_g_stack x_g_kl x_g_wl x_g_sl x_g_cl x_nr) H locs → lv_has ls 3 [(0, .ref (a 51)), (1, .ref (a 76)), (2, .int v2)] → (∀ (H : Heap) (locs : List Loc) (ls : Array Slot), Wd D A s (cW a ar t x_q0_dials x_q0_spots x_q0_skies x_q0_reports x_q0_count x_q0_chime x_q0_end x_q0_score x_q0_reportCount x_q0_z x_q0_rules x_q0_shades x_q0_facts x_q1_dials x_q1_spots x_q1_skies x_q1_reports x_q1_count x_q1_chime x_q1_end x_q1_score x_q1_reportCount x_q1_z x_q1_rules x_q1_shades x_q1_facts o.2 x_q2_spots x_q2_skies x_q2_reports x_q2_count x_q2_chime x_q2_end x_q2_score x_q2_reportCount x_q2_z x_q2_rules x_q2_shades x_q2_facts x_isKept x_marks x_p_first x_p_steps x_p_most x_p_many x_p_fewest x_p_everRight x_p_opening x_p_rows x_p_rowCount x_p_acts x_p_marks x_p_deepest x_p_wanted x_t_length x_t_tape x_t_words x_t_places x_t_at x_t_kinds x_t_wills x_t_starts x_t_code x_t_count x_t_size x_h_sorts x_h_lengths x_h_items x_h_held x_h_things x_h_sizes x_h_bodies x_h_traced x_h_number x_h_spot x_h_parted x_g_count x_g_kinds x_g_wills x_g_starts x_g_code x_g_stack x_g_kl x_g_wl x_g_sl x_g_cl x_nr) H locs → lv_has ls 3 [(0, .ref (a 51)), (1, .ref (a 76)), (2, .int o.1)] → W p l e (rmz 1 0 0) s m args below meth c H locs 0 0 Q (F0 m 50 ls [])) → W p l e (rmz 1 0 0) s m args below meth c H locs 0 0 Q (F0 m 9 ls []) := by
    clear hf ho5 hw hl
    intro k
    induction k with
    | zero => intro v2 x_q2_dials x_q2_chime H locs ls o hf hw hl kx; simp [X9_back_q2_mk_L1] at hf
    | succ k ih =>
      intro v2 x_q2_dials x_q2_chime H locs ls o hf hw hl kx
      rw [X9_back_q2_mk_L1] at hf
      refine lv_iload_n hx hb dX9_back_9 rfl (lv_at hl 2 rfl) ?_
      refine lv_aload_n hx hb dX9_back_10 rfl (lv_at hl 0 rfl) ?_
      refine cg_X9_59_q2 cx hw dX9_back_11 ?_
      refine lv_icmp_ge (tgt := 50) hx hb dX9_back_14 (by decide) (fun hc => ?_) (fun hc => ?_)
      · have hf := ifT hf hc
        have hf := Option.some.inj hf
        subst hf
        exact kx _ _ _ hw (lv_sub hl [0, 1, 2] rfl)
      · have hf := ifF hf hc
        refine lv_aload_n hx hb dX9_back_17 rfl (lv_at hl 0 rfl) ?_
        refine cg_X9_11_q2 cx hw dX9_back_18 ?_
        refine lv_iload_n hx hb dX9_back_21 rfl (lv_at hl 2 rfl) ?_
        obtain ⟨h1, hf⟩ := ckS hf
        refine co_q2_dials (j := v2.toNatClampNeg) cx hw (ib_in h1) rfl dX9_back_22 ?_
        refine lv_iconst (v := 1) hx hb dX9_back_23 (by decide) ?_
        refine lv_aload_n hx hb dX9_back_24 rfl (lv_at hl 1 rfl) ?_
        refine lv_iconst (v := 1) hx hb dX9_back_25 (by decide) ?_
        refine lv_iload_n hx hb dX9_back_26 rfl (lv_at hl 2 rfl) ?_
        refine lv_iadd hx hb dX9_back_27 ?_
        obtain ⟨h2, hf⟩ := ckS hf
        refine cl_marks (j := ((1 : Int32) + v2).toNatClampNeg) cx hw (ib_in h2) rfl dX9_back_28 ?_
        refine ct_q2_dials (j := 1) cx hw (ib_lt h1) (ib_in (by decide)) (by decide) dX9_back_29 (fun H locs hw => ?_)
        refine lv_aload_n hx hb dX9_back_30 rfl (lv_at hl 0 rfl) ?_
        refine cg_X9_11_q2 cx hw dX9_back_31 ?_
        refine lv_iload_n hx hb dX9_back_34 rfl (lv_at hl 2 rfl) ?_
        obtain ⟨h3, hf⟩ := ckS hf
        refine co_q2_dials (j := v2.toNatClampNeg) cx hw (ib_in h3) rfl dX9_back_35 ?_
        refine lv_iconst (v := 4) hx hb dX9_back_36 (by decide) ?_
        refine lv_aload_n hx hb dX9_back_37 rfl (lv_at hl 1 rfl) ?_
        refine lv_bipush (v := 7) hx hb dX9_back_38 (by decide) ?_
        refine lv_iload_n hx hb dX9_back_40 rfl (lv_at hl 2 rfl) ?_
        refine lv_iadd hx hb dX9_back_41 ?_
        obtain ⟨h4, hf⟩ := ckS hf
        refine cl_marks (j := ((7 : Int32) + v2).toNatClampNeg) cx hw (ib_in h4) rfl dX9_back_42 ?_
        refine ct_q2_dials (j := 4) cx hw (ib_lt h3) (ib_in (by decide)) (by decide) dX9_back_43 (fun H locs hw => ?_)
        refine lv_iinc (v := (v2 + (1 : Int32))) (lv' := [(2, .int (v2 + (1 : Int32))), (0, .ref (a 51)), (1, .ref (a 76))]) hx hb dX9_back_44 hl (k := 2) rfl rfl (by decide) rfl (fun ls hl => ?_)
        refine lv_goto (tgt := 9) hx hb dX9_back_47 (by decide) ?_
        exact ih hf hw (lv_sub hl [1, 2, 0] rfl) kx
  refine wL1 n ho5 hw (lv_sub hl [1, 2, 0] rfl) (fun H locs ls hw hl => ?_)
  clear wL1 ho5
  have hf := Option.some.inj hf
  subst hf
  exact hR _ _ _ _ _ hw ⟨rfl, rfl⟩ dX9_back_50
theorem dX11_dearest_0 : decode cX11_dearest 0 = .ok (.aload_n 0, 1) := by decide +kernel
theorem dX11_dearest_1 : decode cX11_dearest 1 = .ok (.getfield 62, 3) := by decide +kernel
theorem dX11_dearest_4 : decode cX11_dearest 4 = .ok (.aload_n 0, 1) := by decide +kernel
theorem dX11_dearest_5 : decode cX11_dearest 5 = .ok (.getfield 55, 3) := by decide +kernel
theorem dX11_dearest_8 : decode cX11_dearest 8 = .ok (.invokevirtual 176, 3) := by decide +kernel
theorem dX11_dearest_11 : decode cX11_dearest 11 = .ok (.aload_n 0, 1) := by decide +kernel
theorem dX11_dearest_12 : decode cX11_dearest 12 = .ok (.getfield 62, 3) := by decide +kernel
theorem dX11_dearest_15 : decode cX11_dearest 15 = .ok (.aload_n 0, 1) := by decide +kernel
theorem dX11_dearest_16 : decode cX11_dearest 16 = .ok (.getfield 9, 3) := by decide +kernel
theorem dX11_dearest_19 : decode cX11_dearest 19 = .ok (.invokevirtual 186, 3) := by decide +kernel
theorem dX11_dearest_22 : decode cX11_dearest 22 = .ok (.iconst 0, 1) := by decide +kernel
theorem dX11_dearest_23 : decode cX11_dearest 23 = .ok (.istore_n 3, 1) := by decide +kernel
theorem dX11_dearest_24 : decode cX11_dearest 24 = .ok (.iconst (-1), 1) := by decide +kernel
theorem dX11_dearest_25 : decode cX11_dearest 25 = .ok (.istore 4, 2) := by decide +kernel
theorem dX11_dearest_27 : decode cX11_dearest 27 = .ok (.iconst 0, 1) := by decide +kernel
theorem dX11_dearest_28 : decode cX11_dearest 28 = .ok (.istore 5, 2) := by decide +kernel
theorem dX11_dearest_30 : decode cX11_dearest 30 = .ok (.iload 5, 2) := by decide +kernel
theorem dX11_dearest_32 : decode cX11_dearest 32 = .ok (.iload_n 2, 1) := by decide +kernel
theorem dX11_dearest_33 : decode cX11_dearest 33 = .ok (.invokestatic 113, 3) := by decide +kernel
theorem dX11_dearest_36 : decode cX11_dearest 36 = .ok (.if_icmp .gt 58, 3) := by decide +kernel
theorem dX11_dearest_39 : decode cX11_dearest 39 = .ok (.aload_n 0, 1) := by decide +kernel
theorem dX11_dearest_40 : decode cX11_dearest 40 = .ok (.getfield 62, 3) := by decide +kernel
theorem dX11_dearest_43 : decode cX11_dearest 43 = .ok (.aload_n 0, 1) := by decide +kernel
theorem dX11_dearest_44 : decode cX11_dearest 44 = .ok (.getfield 9, 3) := by decide +kernel
theorem dX11_dearest_47 : decode cX11_dearest 47 = .ok (.invokevirtual 190, 3) := by decide +kernel
theorem dX11_dearest_50 : decode cX11_dearest 50 = .ok (.aload_n 0, 1) := by decide +kernel
theorem dX11_dearest_51 : decode cX11_dearest 51 = .ok (.getfield 62, 3) := by decide +kernel
theorem dX11_dearest_54 : decode cX11_dearest 54 = .ok (.getfield 93, 3) := by decide +kernel
theorem dX11_dearest_57 : decode cX11_dearest 57 = .ok (.iload_n 1, 1) := by decide +kernel
theorem dX11_dearest_58 : decode cX11_dearest 58 = .ok (.aaload, 1) := by decide +kernel
theorem dX11_dearest_59 : decode cX11_dearest 59 = .ok (.iload_n 2, 1) := by decide +kernel
theorem dX11_dearest_60 : decode cX11_dearest 60 = .ok (.iload 5, 2) := by decide +kernel
theorem dX11_dearest_62 : decode cX11_dearest 62 = .ok (.iastore, 1) := by decide +kernel
theorem dX11_dearest_63 : decode cX11_dearest 63 = .ok (.aload_n 0, 1) := by decide +kernel
theorem dX11_dearest_64 : decode cX11_dearest 64 = .ok (.getfield 62, 3) := by decide +kernel
theorem dX11_dearest_67 : decode cX11_dearest 67 = .ok (.bipush 16, 2) := by decide +kernel
theorem dX11_dearest_69 : decode cX11_dearest 69 = .ok (.invokevirtual 173, 3) := by decide +kernel
theorem dX11_dearest_72 : decode cX11_dearest 72 = .ok (.istore 6, 2) := by decide +kernel
theorem dX11_dearest_74 : decode cX11_dearest 74 = .ok (.iload 6, 2) := by decide +kernel
theorem dX11_dearest_76 : decode cX11_dearest 76 = .ok (.iload 4, 2) := by decide +kernel
theorem dX11_dearest_78 : decode cX11_dearest 78 = .ok (.if_icmp .le 10, 3) := by decide +kernel
theorem dX11_dearest_81 : decode cX11_dearest 81 = .ok (.iload 6, 2) := by decide +kernel
theorem dX11_dearest_83 : decode cX11_dearest 83 = .ok (.istore 4, 2) := by decide +kernel
theorem dX11_dearest_85 : decode cX11_dearest 85 = .ok (.iload 5, 2) := by decide +kernel
theorem dX11_dearest_87 : decode cX11_dearest 87 = .ok (.istore_n 3, 1) := by decide +kernel
theorem dX11_dearest_88 : decode cX11_dearest 88 = .ok (.iinc 5 1, 3) := by decide +kernel
theorem dX11_dearest_91 : decode cX11_dearest 91 = .ok (.goto (-61), 3) := by decide +kernel
theorem dX11_dearest_94 : decode cX11_dearest 94 = .ok (.iload_n 3, 1) := by decide +kernel
theorem dX11_dearest_95 : decode cX11_dearest 95 = .ok (.ireturn, 1) := by decide +kernel
theorem k_X11_dearest : MV yX11_dearest cX11_dearest 7 (some .int) 2 := ⟨q_718, qs_18, q_1, q_719, ⟨by decide, by decide, by decide +kernel⟩⟩
theorem c_X11_dearest {v1 : Int32} {v2 : Int32} {res : Int32 × (Nat → Nat → Int32) × (Nat → Nat → Int32) × (Nat → Int32) × (Nat → Nat → Int32) × Int32 × Int32 × Int32 × Int32 × Int32 × Int32 × Nat × (Nat → Int32) × (Nat → Int32) × (Nat → Int32) × (Nat → Nat → Int32)} (hf : X11_dearest n x_q0_dials x_q0_spots x_q0_skies x_q0_reports x_q0_count x_q0_chime x_q0_end x_q0_score x_q0_reportCount x_q0_z x_q0_rules x_q2_dials x_q2_spots x_q2_skies x_q2_reports x_q2_shades x_q2_facts x_marks x_g_count x_g_kinds x_g_wills x_g_starts x_g_code x_g_stack x_g_kl x_g_wl x_g_sl x_g_cl x_nr v1 v2 = some res) : MC l E0 D t yX11_dearest cX11_dearest 7 (some .int) 7 0 0 [.ref (a 0), .int v1, .int v2] (cW a ar t x_q0_dials x_q0_spots x_q0_skies x_q0_reports x_q0_count x_q0_chime x_q0_end x_q0_score x_q0_reportCount x_q0_z x_q0_rules x_q0_shades x_q0_facts x_q1_dials x_q1_spots x_q1_skies x_q1_reports x_q1_count x_q1_chime x_q1_end x_q1_score x_q1_reportCount x_q1_z x_q1_rules x_q1_shades x_q1_facts x_q2_dials x_q2_spots x_q2_skies x_q2_reports x_q2_count x_q2_chime x_q2_end x_q2_score x_q2_reportCount x_q2_z x_q2_rules x_q2_shades x_q2_facts x_isKept x_marks x_p_first x_p_steps x_p_most x_p_many x_p_fewest x_p_everRight x_p_opening x_p_rows x_p_rowCount x_p_acts x_p_marks x_p_deepest x_p_wanted x_t_length x_t_tape x_t_words x_t_places x_t_at x_t_kinds x_t_wills x_t_starts x_t_code x_t_count x_t_size x_h_sorts x_h_lengths x_h_items x_h_held x_h_things x_h_sizes x_h_bodies x_h_traced x_h_number x_h_spot x_h_parted x_g_count x_g_kinds x_g_wills x_g_starts x_g_code x_g_stack x_g_kl x_g_wl x_g_sl x_g_cl x_nr) (Qi res.1 (cW a ar t x_q0_dials x_q0_spots x_q0_skies x_q0_reports x_q0_count x_q0_chime x_q0_end x_q0_score x_q0_reportCount x_q0_z x_q0_rules x_q0_shades x_q0_facts x_q1_dials x_q1_spots x_q1_skies x_q1_reports x_q1_count x_q1_chime x_q1_end x_q1_score x_q1_reportCount x_q1_z x_q1_rules x_q1_shades x_q1_facts res.2.1 res.2.2.1 res.2.2.2.1 res.2.2.2.2.1 res.2.2.2.2.2.1 res.2.2.2.2.2.2.1 res.2.2.2.2.2.2.2.1 res.2.2.2.2.2.2.2.2.1 res.2.2.2.2.2.2.2.2.2.1 res.2.2.2.2.2.2.2.2.2.2.1 res.2.2.2.2.2.2.2.2.2.2.2.1 res.2.2.2.2.2.2.2.2.2.2.2.2.1 res.2.2.2.2.2.2.2.2.2.2.2.2.2.1 x_isKept res.2.2.2.2.2.2.2.2.2.2.2.2.2.2.1 x_p_first x_p_steps x_p_most x_p_many x_p_fewest x_p_everRight x_p_opening x_p_rows x_p_rowCount x_p_acts x_p_marks x_p_deepest x_p_wanted x_t_length x_t_tape x_t_words x_t_places x_t_at x_t_kinds x_t_wills x_t_starts x_t_code x_t_count x_t_size x_h_sorts x_h_lengths x_h_items x_h_held x_h_things x_h_sizes x_h_bodies x_h_traced x_h_number x_h_spot x_h_parted x_g_count x_g_kinds x_g_wills x_g_starts x_g_code res.2.2.2.2.2.2.2.2.2.2.2.2.2.2.2 x_g_kl x_g_wl x_g_sl x_g_cl x_nr)) := by
  unfold X11_dearest at hf
  refine MC.ofI pn_X11 (Nat.le_of_ble_eq_true rfl) ?_
  intro p e s m args below meth c A Q ls cx hR hw hl
  have hx := cx.1
  have hb := cx.2.1
  have hl : lv_has ls 7 [(0, .ref (a 0)), (1, .int v1), (2, .int v2)] := hl
  refine lv_aload_n hx hb dX11_dearest_0 rfl (lv_at hl 0 rfl) ?_
  refine cg_X11_62_ds cx hw dX11_dearest_1 ?_
  refine lv_aload_n hx hb dX11_dearest_4 rfl (lv_at hl 0 rfl) ?_
  refine cg_X11_55_ds cx hw dX11_dearest_5 ?_
  obtain ⟨r1, h2, hf⟩ := bnS hf
  refine calVv cx hw hl.1 (c_X9_copyFrom_q2_oq0 h2) q_702 k_X9_copyFrom rfl rv_q2 rfl dX11_dearest_8 rfl (Nat.le_of_ble_eq_true rfl) ⟨Nat.le_of_ble_eq_true rfl, Nat.le_of_ble_eq_true rfl⟩ ⟨Nat.le_refl _, Nat.le_refl _⟩ (fun H locs hw => ?_)
  refine lv_aload_n hx hb dX11_dearest_11 rfl (lv_at hl 0 rfl) ?_
  refine cg_X11_62_ds cx hw dX11_dearest_12 ?_
  refine lv_aload_n hx hb dX11_dearest_15 rfl (lv_at hl 0 rfl) ?_
  refine cg_X11_9_ds cx hw dX11_dearest_16 ?_
  obtain ⟨r3, h4, hf⟩ := bnS hf
  refine calVv cx hw hl.1 (c_X9_mark_q2_mk h4) q_720 k_X9_mark rfl rv_q2 rfl dX11_dearest_19 rfl (Nat.le_of_ble_eq_true rfl) ⟨Nat.le_of_ble_eq_true rfl, Nat.le_of_ble_eq_true rfl⟩ ⟨Nat.le_refl _, Nat.le_refl _⟩ (fun H locs hw => ?_)
  refine lv_iconst (v := 0) hx hb dX11_dearest_22 (by decide) ?_
  refine lv_istore_n (lv' := [(3, .int (0 : Int32)), (0, .ref (a 0)), (1, .int v1), (2, .int v2)]) hx hb dX11_dearest_23 rfl hl (by decide) rfl (fun ls hl => ?_)
  refine lv_iconst (v := (-1)) hx hb dX11_dearest_24 (by decide) ?_
  refine lv_istore (lv' := [(4, .int (-1 : Int32)), (3, .int (0 : Int32)), (0, .ref (a 0)), (1, .int v1), (2, .int v2)]) hx hb dX11_dearest_25 hl (by decide) rfl (fun ls hl => ?_)
  refine lv_iconst (v := 0) hx hb dX11_dearest_27 (by decide) ?_
  refine lv_istore (lv' := [(5, .int (0 : Int32)), (4, .int (-1 : Int32)), (3, .int (0 : Int32)), (0, .ref (a 0)), (1, .int v1), (2, .int v2)]) hx hb dX11_dearest_28 hl (by decide) rfl (fun ls hl => ?_)
  obtain ⟨o12, ho12, hf⟩ := bnS hf
  have wL1 : ∀ (k : Nat) {v1 : Int32} {v2 : Int32} {v3 : Int32} {v4 : Int32} {v5 : Int32} {x_q2_dials : Nat → Nat → Int32} {x_q2_spots : Nat → Nat → Int32} {x_q2_skies : Nat → Int32} {x_q2_reports : Nat → Nat → Int32} {x_q2_count : Int32} {x_q2_chime : Int32} {x_q2_end : Int32} {x_q2_score : Int32} {x_q2_reportCount : Int32} {x_q2_z : Int32} {x_q2_rules : Nat} {x_q2_shades : Nat → Int32} {x_q2_facts : Nat → Int32} {x_marks : Nat → Int32} {x_g_stack : Nat → Nat → Int32} {H : Heap} {locs : List Loc} {ls : Array Slot} {o : Int32 × Int32 × Int32 × (Nat → Nat → Int32) × Int32 × Int32 × (Nat → Int32) × (Nat → Int32) × (Nat → Nat → Int32)}, X11_dearest_L1 n x_q2_spots x_q2_skies x_q2_count x_q2_end x_q2_rules x_marks x_g_count x_g_kinds x_g_wills x_g_starts x_g_code x_g_kl x_g_wl x_g_sl x_g_cl x_nr v1 v2 k v3 v4 v5 x_q2_dials x_q2_chime x_q2_score x_q2_shades x_q2_facts x_g_stack = some o → Wd D A s (cW a ar t x_q0_dials x_q0_spots x_q0_skies x_q0_reports x_q0_count x_q0_chime x_q0_end x_q0_score x_q0_reportCount x_q0_z x_q0_rules x_q0_shades x_q0_facts x_q1_dials x_q1_spots x_q1_skies x_q1_reports x_q1_count x_q1_chime x_q1_end x_q1_score x_q1_reportCount x_q1_z x_q1_rules x_q1_shades x_q1_facts x_q2_dials x_q2_spots x_q2_skies x_q2_reports x_q2_count x_q2_chime x_q2_end x_q2_score x_q2_reportCount x_q2_z x_q2_rules x_q2_shades x_q2_facts x_isKept x_marks x_p_first x_p_steps x_p_most x_p_many x_p_fewest x_p_everRight x_p_opening x_p_rows x_p_rowCount x_p_acts x_p_marks x_p_deepest x_p_wanted x_t_length x_t_tape x_t_words x_t_places x_t_at x_t_kinds x_t_wills x_t_starts x_t_code x_t_count x_t_size x_h_sorts x_h_lengths x_h_items x_h_held x_h_things x_h_sizes x_h_bodies x_h_traced x_h_number x_h_spot x_h_parted x_g_count x_g_kinds x_g_wills x_g_starts x_g_code x_g_stack x_g_kl x_g_wl x_g_sl x_g_cl x_nr) H locs → lv_has ls 7 [(0, .ref (a 0)), (1, .int v1), (2, .int v2), (3, .int v3), (4, .int v4), (5, .int v5)] → (∀ (H : Heap) (locs : List Loc) (ls : Array Slot), Wd D A s (cW a ar t x_q0_dials x_q0_spots x_q0_skies x_q0_reports x_q0_count x_q0_chime x_q0_end x_q0_score x_q0_reportCount x_q0_z x_q0_rules x_q0_shades x_q0_facts x_q1_dials x_q1_spots x_q1_skies x_q1_reports x_q1_count x_q1_chime x_q1_end x_q1_score x_q1_reportCount x_q1_z x_q1_rules x_q1_shades x_q1_facts o.2.2.2.1 x_q2_spots x_q2_skies x_q2_reports x_q2_count o.2.2.2.2.1 x_q2_end o.2.2.2.2.2.1 x_q2_reportCount x_q2_z x_q2_rules o.2.2.2.2.2.2.1 o.2.2.2.2.2.2.2.1 x_isKept x_marks x_p_first x_p_steps x_p_most x_p_many x_p_fewest x_p_everRight x_p_opening x_p_rows x_p_rowCount x_p_acts x_p_marks x_p_deepest x_p_wanted x_t_length x_t_tape x_t_words x_t_places x_t_at x_t_kinds x_t_wills x_t_starts x_t_code x_t_count x_t_size x_h_sorts x_h_lengths x_h_items x_h_held x_h_things x_h_sizes x_h_bodies x_h_traced x_h_number x_h_spot x_h_parted x_g_count x_g_kinds x_g_wills x_g_starts x_g_code o.2.2.2.2.2.2.2.2 x_g_kl x_g_wl x_g_sl x_g_cl x_nr) H locs → lv_has ls 7 [(0, .ref (a 0)), (1, .int v1), (2, .int v2), (3, .int o.1), (4, .int o.2.1), (5, .int o.2.2.1)] → W p l e (rmz 7 0 0) s m args below meth c H locs 0 0 Q (F0 m 94 ls [])) → W p l e (rmz 7 0 0) s m args below meth c H locs 0 0 Q (F0 m 30 ls []) := by
    clear hf ho12 hw hl
    intro k
    induction k with
    | zero => intro v1 v2 v3 v4 v5 x_q2_dials x_q2_spots x_q2_skies x_q2_reports x_q2_count x_q2_chime x_q2_end x_q2_score x_q2_reportCount x_q2_z x_q2_rules x_q2_shades x_q2_facts x_marks x_g_stack H locs ls o hf hw hl kx; simp [X11_dearest_L1] at hf
    | succ k ih =>
      intro v1 v2 v3 v4 v5 x_q2_dials x_q2_spots x_q2_skies x_q2_reports x_q2_count x_q2_chime x_q2_end x_q2_score x_q2_reportCount x_q2_z x_q2_rules x_q2_shades x_q2_facts x_marks x_g_stack H locs ls o hf hw hl kx
      rw [X11_dearest_L1] at hf
      refine lv_iload hx hb dX11_dearest_30 (lv_at hl 5 rfl) ?_
      refine lv_iload_n hx hb dX11_dearest_32 rfl (lv_at hl 2 rfl) ?_
      refine calSi cx hw hl.1 (c_X11_mostOf rfl) q_468 k_X11_mostOf rfl dX11_dearest_33 rfl (Nat.le_of_ble_eq_true rfl) ⟨Nat.le_of_ble_eq_true rfl, Nat.le_of_ble_eq_true rfl⟩ ⟨Nat.le_refl _, Nat.le_refl _⟩ (fun H locs hw => ?_)
      refine lv_icmp_gt (tgt := 94) hx hb dX11_dearest_36 (by decide) (fun hc => ?_) (fun hc => ?_)
      · have hf := ifT hf hc
        have hf := Option.some.inj hf
        subst hf
        exact kx _ _ _ hw (lv_sub hl [0, 1, 2, 3, 4, 5] rfl)
      · have hf := ifF hf hc
        refine lv_aload_n hx hb dX11_dearest_39 rfl (lv_at hl 0 rfl) ?_
        refine cg_X11_62_ds cx hw dX11_dearest_40 ?_
        refine lv_aload_n hx hb dX11_dearest_43 rfl (lv_at hl 0 rfl) ?_
        refine cg_X11_9_ds cx hw dX11_dearest_44 ?_
        obtain ⟨r5, h6, hf⟩ := bnS hf
        refine calVv cx hw hl.1 (c_X9_back_q2_mk h6) q_724 k_X9_back rfl rv_q2 rfl dX11_dearest_47 rfl (Nat.le_of_ble_eq_true rfl) ⟨Nat.le_of_ble_eq_true rfl, Nat.le_of_ble_eq_true rfl⟩ ⟨Nat.le_refl _, Nat.le_refl _⟩ (fun H locs hw => ?_)
        refine lv_aload_n hx hb dX11_dearest_50 rfl (lv_at hl 0 rfl) ?_
        refine cg_X11_62_ds cx hw dX11_dearest_51 ?_
        refine cg_X11_93_q2 cx hw dX11_dearest_54 ?_
        refine lv_iload_n hx hb dX11_dearest_57 rfl (lv_at hl 1 rfl) ?_
        obtain ⟨h7, hf⟩ := ckS hf
        refine co_q2_dials (j := v1.toNatClampNeg) cx hw (ib_in h7) rfl dX11_dearest_58 ?_
        refine lv_iload_n hx hb dX11_dearest_59 rfl (lv_at hl 2 rfl) ?_
        refine lv_iload hx hb dX11_dearest_60 (lv_at hl 5 rfl) ?_
        obtain ⟨h8, hf⟩ := ckS hf
        refine ct_q2_dials (j := v2.toNatClampNeg) cx hw (ib_lt h7) (ib_in h8) rfl dX11_dearest_62 (fun H locs hw => ?_)
        refine lv_aload_n hx hb dX11_dearest_63 rfl (lv_at hl 0 rfl) ?_
        refine cg_X11_62_ds cx hw dX11_dearest_64 ?_
        refine lv_bipush (v := 16) hx hb dX11_dearest_67 (by decide) ?_
        obtain ⟨r9, h10, hf⟩ := bnS hf
        refine calVi cx hw hl.1 (c_X9_rest_q2 h10) q_671 k_X9_rest rfl rv_q2 rfl dX11_dearest_69 rfl (Nat.le_of_ble_eq_true rfl) ⟨Nat.le_of_ble_eq_true rfl, Nat.le_of_ble_eq_true rfl⟩ ⟨Nat.le_refl _, Nat.le_refl _⟩ (fun H locs hw => ?_)
        refine lv_istore (lv' := [(6, .int r9.1), (0, .ref (a 0)), (1, .int v1), (2, .int v2), (3, .int v3), (4, .int v4), (5, .int v5)]) hx hb dX11_dearest_72 hl (by decide) rfl (fun ls hl => ?_)
        refine lv_iload hx hb dX11_dearest_74 (lv_at hl 0 rfl) ?_
        refine lv_iload hx hb dX11_dearest_76 (lv_at hl 5 rfl) ?_
        obtain ⟨j11, hj11, hf⟩ := pbS hf
        have wj11 : ∀ (H : Heap) (locs : List Loc) (ls : Array Slot), Wd D A s (cW a ar t x_q0_dials x_q0_spots x_q0_skies x_q0_reports x_q0_count x_q0_chime x_q0_end x_q0_score x_q0_reportCount x_q0_z x_q0_rules x_q0_shades x_q0_facts x_q1_dials x_q1_spots x_q1_skies x_q1_reports x_q1_count x_q1_chime x_q1_end x_q1_score x_q1_reportCount x_q1_z x_q1_rules x_q1_shades x_q1_facts r9.2.1 x_q2_spots x_q2_skies x_q2_reports x_q2_count r9.2.2.1 x_q2_end r9.2.2.2.1 x_q2_reportCount x_q2_z x_q2_rules r9.2.2.2.2.1 r9.2.2.2.2.2.1 x_isKept x_marks x_p_first x_p_steps x_p_most x_p_many x_p_fewest x_p_everRight x_p_opening x_p_rows x_p_rowCount x_p_acts x_p_marks x_p_deepest x_p_wanted x_t_length x_t_tape x_t_words x_t_places x_t_at x_t_kinds x_t_wills x_t_starts x_t_code x_t_count x_t_size x_h_sorts x_h_lengths x_h_items x_h_held x_h_things x_h_sizes x_h_bodies x_h_traced x_h_number x_h_spot x_h_parted x_g_count x_g_kinds x_g_wills x_g_starts x_g_code r9.2.2.2.2.2.2 x_g_kl x_g_wl x_g_sl x_g_cl x_nr) H locs → lv_has ls 7 [(0, .ref (a 0)), (1, .int v1), (2, .int v2), (3, .int j11.1), (4, .int j11.2), (5, .int v5), (6, .int r9.1)] → W p l e (rmz 7 0 0) s m args below meth c H locs 0 0 Q (F0 m 88 ls []) := by
          intro H locs ls hw hl
          refine lv_iinc (v := (v5 + (1 : Int32))) (lv' := [(5, .int (v5 + (1 : Int32))), (0, .ref (a 0)), (1, .int v1), (2, .int v2), (3, .int j11.1), (4, .int j11.2), (6, .int r9.1)]) hx hb dX11_dearest_88 hl (k := 5) rfl rfl (by decide) rfl (fun ls hl => ?_)
          refine lv_goto (tgt := 30) hx hb dX11_dearest_91 (by decide) ?_
          exact ih hf hw (lv_sub hl [1, 2, 3, 4, 5, 0] rfl) kx
        clear hf
        have hf := hj11
        clear hj11
        refine lv_icmp_le (tgt := 88) hx hb dX11_dearest_78 (by decide) (fun hc => ?_) (fun hc => ?_)
        · have hf := ifT hf hc
          subst hf
          exact wj11 _ _ _ hw (lv_sub hl [1, 2, 3, 4, 5, 6, 0] rfl)
        · have hf := ifF hf hc
          refine lv_iload hx hb dX11_dearest_81 (lv_at hl 0 rfl) ?_
          refine lv_istore (lv' := [(4, .int r9.1), (6, .int r9.1), (0, .ref (a 0)), (1, .int v1), (2, .int v2), (3, .int v3), (5, .int v5)]) hx hb dX11_dearest_83 hl (by decide) rfl (fun ls hl => ?_)
          refine lv_iload hx hb dX11_dearest_85 (lv_at hl 6 rfl) ?_
          refine lv_istore_n (lv' := [(3, .int v5), (4, .int r9.1), (6, .int r9.1), (0, .ref (a 0)), (1, .int v1), (2, .int v2), (5, .int v5)]) hx hb dX11_dearest_87 rfl hl (by decide) rfl (fun ls hl => ?_)
          subst hf
          exact wj11 _ _ _ hw (lv_sub hl [3, 4, 5, 0, 1, 6, 2] rfl)
  refine wL1 n ho12 hw (lv_sub hl [3, 4, 5, 2, 1, 0] rfl) (fun H locs ls hw hl => ?_)
  clear wL1 ho12
  refine lv_iload_n hx hb dX11_dearest_94 rfl (lv_at hl 3 rfl) ?_
  have hf := Option.some.inj hf
  subst hf
  exact hR _ _ _ _ _ _ hw rfl ⟨rfl, rfl⟩ dX11_dearest_95
theorem dX11_prideFor_0 : decode cX11_prideFor 0 = .ok (.aload_n 0, 1) := by decide +kernel
theorem dX11_prideFor_1 : decode cX11_prideFor 1 = .ok (.getfield 55, 3) := by decide +kernel
theorem dX11_prideFor_4 : decode cX11_prideFor 4 = .ok (.iload_n 1, 1) := by decide +kernel
theorem dX11_prideFor_5 : decode cX11_prideFor 5 = .ok (.invokevirtual 90, 3) := by decide +kernel
theorem dX11_prideFor_8 : decode cX11_prideFor 8 = .ok (.ifCond .eq 12, 3) := by decide +kernel
theorem dX11_prideFor_11 : decode cX11_prideFor 11 = .ok (.aload_n 0, 1) := by decide +kernel
theorem dX11_prideFor_12 : decode cX11_prideFor 12 = .ok (.iload_n 1, 1) := by decide +kernel
theorem dX11_prideFor_13 : decode cX11_prideFor 13 = .ok (.iconst 2, 1) := by decide +kernel
theorem dX11_prideFor_14 : decode cX11_prideFor 14 = .ok (.invokevirtual 182, 3) := by decide +kernel
theorem dX11_prideFor_17 : decode cX11_prideFor 17 = .ok (.goto 4, 3) := by decide +kernel
theorem dX11_prideFor_20 : decode cX11_prideFor 20 = .ok (.iconst (-1), 1) := by decide +kernel
theorem dX11_prideFor_21 : decode cX11_prideFor 21 = .ok (.ireturn, 1) := by decide +kernel
theorem k_X11_prideFor : MV yX11_prideFor cX11_prideFor 2 (some .int) 1 := ⟨q_713, q_714, q_1, q_715, ⟨by decide, by decide, by decide +kernel⟩⟩
theorem c_X11_prideFor {v1 : Int32} {res : Int32 × (Nat → Nat → Int32) × (Nat → Nat → Int32) × (Nat → Int32) × (Nat → Nat → Int32) × Int32 × Int32 × Int32 × Int32 × Int32 × Int32 × Nat × (Nat → Int32) × (Nat → Int32) × (Nat → Int32) × (Nat → Nat → Int32)} (hf : X11_prideFor n x_q0_dials x_q0_spots x_q0_skies x_q0_reports x_q0_count x_q0_chime x_q0_end x_q0_score x_q0_reportCount x_q0_z x_q0_rules x_q2_dials x_q2_spots x_q2_skies x_q2_reports x_q2_count x_q2_chime x_q2_end x_q2_score x_q2_reportCount x_q2_z x_q2_rules x_q2_shades x_q2_facts x_marks x_g_count x_g_kinds x_g_wills x_g_starts x_g_code x_g_stack x_g_kl x_g_wl x_g_sl x_g_cl x_nr v1 = some res) : MC l E0 D t yX11_prideFor cX11_prideFor 2 (some .int) 8 0 0 [.ref (a 0), .int v1] (cW a ar t x_q0_dials x_q0_spots x_q0_skies x_q0_reports x_q0_count x_q0_chime x_q0_end x_q0_score x_q0_reportCount x_q0_z x_q0_rules x_q0_shades x_q0_facts x_q1_dials x_q1_spots x_q1_skies x_q1_reports x_q1_count x_q1_chime x_q1_end x_q1_score x_q1_reportCount x_q1_z x_q1_rules x_q1_shades x_q1_facts x_q2_dials x_q2_spots x_q2_skies x_q2_reports x_q2_count x_q2_chime x_q2_end x_q2_score x_q2_reportCount x_q2_z x_q2_rules x_q2_shades x_q2_facts x_isKept x_marks x_p_first x_p_steps x_p_most x_p_many x_p_fewest x_p_everRight x_p_opening x_p_rows x_p_rowCount x_p_acts x_p_marks x_p_deepest x_p_wanted x_t_length x_t_tape x_t_words x_t_places x_t_at x_t_kinds x_t_wills x_t_starts x_t_code x_t_count x_t_size x_h_sorts x_h_lengths x_h_items x_h_held x_h_things x_h_sizes x_h_bodies x_h_traced x_h_number x_h_spot x_h_parted x_g_count x_g_kinds x_g_wills x_g_starts x_g_code x_g_stack x_g_kl x_g_wl x_g_sl x_g_cl x_nr) (Qi res.1 (cW a ar t x_q0_dials x_q0_spots x_q0_skies x_q0_reports x_q0_count x_q0_chime x_q0_end x_q0_score x_q0_reportCount x_q0_z x_q0_rules x_q0_shades x_q0_facts x_q1_dials x_q1_spots x_q1_skies x_q1_reports x_q1_count x_q1_chime x_q1_end x_q1_score x_q1_reportCount x_q1_z x_q1_rules x_q1_shades x_q1_facts res.2.1 res.2.2.1 res.2.2.2.1 res.2.2.2.2.1 res.2.2.2.2.2.1 res.2.2.2.2.2.2.1 res.2.2.2.2.2.2.2.1 res.2.2.2.2.2.2.2.2.1 res.2.2.2.2.2.2.2.2.2.1 res.2.2.2.2.2.2.2.2.2.2.1 res.2.2.2.2.2.2.2.2.2.2.2.1 res.2.2.2.2.2.2.2.2.2.2.2.2.1 res.2.2.2.2.2.2.2.2.2.2.2.2.2.1 x_isKept res.2.2.2.2.2.2.2.2.2.2.2.2.2.2.1 x_p_first x_p_steps x_p_most x_p_many x_p_fewest x_p_everRight x_p_opening x_p_rows x_p_rowCount x_p_acts x_p_marks x_p_deepest x_p_wanted x_t_length x_t_tape x_t_words x_t_places x_t_at x_t_kinds x_t_wills x_t_starts x_t_code x_t_count x_t_size x_h_sorts x_h_lengths x_h_items x_h_held x_h_things x_h_sizes x_h_bodies x_h_traced x_h_number x_h_spot x_h_parted x_g_count x_g_kinds x_g_wills x_g_starts x_g_code res.2.2.2.2.2.2.2.2.2.2.2.2.2.2.2 x_g_kl x_g_wl x_g_sl x_g_cl x_nr)) := by
  unfold X11_prideFor at hf
  refine MC.ofI pn_X11 (Nat.le_of_ble_eq_true rfl) ?_
  intro p e s m args below meth c A Q ls cx hR hw hl
  have hx := cx.1
  have hb := cx.2.1
  have hl : lv_has ls 2 [(0, .ref (a 0)), (1, .int v1)] := hl
  refine lv_aload_n hx hb dX11_prideFor_0 rfl (lv_at hl 0 rfl) ?_
  refine cg_X11_55_ds cx hw dX11_prideFor_1 ?_
  refine lv_iload_n hx hb dX11_prideFor_4 rfl (lv_at hl 1 rfl) ?_
  refine calVi cx hw hl.1 (c_X9_has_q0 rfl) q_364 k_X9_has rfl rv_q0 rfl dX11_prideFor_5 rfl (Nat.le_of_ble_eq_true rfl) ⟨Nat.le_of_ble_eq_true rfl, Nat.le_of_ble_eq_true rfl⟩ ⟨Nat.le_refl _, Nat.le_refl _⟩ (fun H locs hw => ?_)
  refine lv_if_eq (tgt := 20) hx hb dX11_prideFor_8 (by decide) (fun hc => ?_) (fun hc => ?_)
  · have hf := ifT hf hc
    refine lv_iconst (v := (-1)) hx hb dX11_prideFor_20 (by decide) ?_
    have hf := Option.some.inj hf
    subst hf
    exact hR _ _ _ _ _ _ hw rfl ⟨rfl, rfl⟩ dX11_prideFor_21
  · have hf := ifF hf hc
    refine lv_aload_n hx hb dX11_prideFor_11 rfl (lv_at hl 0 rfl) ?_
    refine lv_iload_n hx hb dX11_prideFor_12 rfl (lv_at hl 1 rfl) ?_
    refine lv_iconst (v := 2) hx hb dX11_prideFor_13 (by decide) ?_
    obtain ⟨r1, h2, hf⟩ := bnS hf
    refine calVi cx hw hl.1 (c_X11_dearest h2) q_716 k_X11_dearest rfl rv_ds rfl dX11_prideFor_14 rfl (Nat.le_of_ble_eq_true rfl) ⟨Nat.le_of_ble_eq_true rfl, Nat.le_of_ble_eq_true rfl⟩ ⟨Nat.le_refl _, Nat.le_refl _⟩ (fun H locs hw => ?_)
    refine lv_goto (tgt := 21) hx hb dX11_prideFor_17 (by decide) ?_
    have hf := Option.some.inj hf
    subst hf
    exact hR _ _ _ _ _ _ hw rfl ⟨rfl, rfl⟩ dX11_prideFor_21
theorem dX11_spotFor_0 : decode cX11_spotFor 0 = .ok (.aload_n 0, 1) := by decide +kernel
theorem dX11_spotFor_1 : decode cX11_spotFor 1 = .ok (.getfield 55, 3) := by decide +kernel
theorem dX11_spotFor_4 : decode cX11_spotFor 4 = .ok (.iload_n 1, 1) := by decide +kernel
theorem dX11_spotFor_5 : decode cX11_spotFor 5 = .ok (.invokevirtual 90, 3) := by decide +kernel
theorem dX11_spotFor_8 : decode cX11_spotFor 8 = .ok (.ifCond .eq 12, 3) := by decide +kernel
theorem dX11_spotFor_11 : decode cX11_spotFor 11 = .ok (.aload_n 0, 1) := by decide +kernel
theorem dX11_spotFor_12 : decode cX11_spotFor 12 = .ok (.iload_n 1, 1) := by decide +kernel
theorem dX11_spotFor_13 : decode cX11_spotFor 13 = .ok (.iconst 3, 1) := by decide +kernel
theorem dX11_spotFor_14 : decode cX11_spotFor 14 = .ok (.invokevirtual 182, 3) := by decide +kernel
theorem dX11_spotFor_17 : decode cX11_spotFor 17 = .ok (.goto 4, 3) := by decide +kernel
theorem dX11_spotFor_20 : decode cX11_spotFor 20 = .ok (.iconst (-1), 1) := by decide +kernel
theorem dX11_spotFor_21 : decode cX11_spotFor 21 = .ok (.ireturn, 1) := by decide +kernel
theorem k_X11_spotFor : MV yX11_spotFor cX11_spotFor 2 (some .int) 1 := ⟨q_729, q_730, q_1, q_731, ⟨by decide, by decide, by decide +kernel⟩⟩
theorem c_X11_spotFor {v1 : Int32} {res : Int32 × (Nat → Nat → Int32) × (Nat → Nat → Int32) × (Nat → Int32) × (Nat → Nat → Int32) × Int32 × Int32 × Int32 × Int32 × Int32 × Int32 × Nat × (Nat → Int32) × (Nat → Int32) × (Nat → Int32) × (Nat → Nat → Int32)} (hf : X11_spotFor n x_q0_dials x_q0_spots x_q0_skies x_q0_reports x_q0_count x_q0_chime x_q0_end x_q0_score x_q0_reportCount x_q0_z x_q0_rules x_q2_dials x_q2_spots x_q2_skies x_q2_reports x_q2_count x_q2_chime x_q2_end x_q2_score x_q2_reportCount x_q2_z x_q2_rules x_q2_shades x_q2_facts x_marks x_g_count x_g_kinds x_g_wills x_g_starts x_g_code x_g_stack x_g_kl x_g_wl x_g_sl x_g_cl x_nr v1 = some res) : MC l E0 D t yX11_spotFor cX11_spotFor 2 (some .int) 8 0 0 [.ref (a 0), .int v1] (cW a ar t x_q0_dials x_q0_spots x_q0_skies x_q0_reports x_q0_count x_q0_chime x_q0_end x_q0_score x_q0_reportCount x_q0_z x_q0_rules x_q0_shades x_q0_facts x_q1_dials x_q1_spots x_q1_skies x_q1_reports x_q1_count x_q1_chime x_q1_end x_q1_score x_q1_reportCount x_q1_z x_q1_rules x_q1_shades x_q1_facts x_q2_dials x_q2_spots x_q2_skies x_q2_reports x_q2_count x_q2_chime x_q2_end x_q2_score x_q2_reportCount x_q2_z x_q2_rules x_q2_shades x_q2_facts x_isKept x_marks x_p_first x_p_steps x_p_most x_p_many x_p_fewest x_p_everRight x_p_opening x_p_rows x_p_rowCount x_p_acts x_p_marks x_p_deepest x_p_wanted x_t_length x_t_tape x_t_words x_t_places x_t_at x_t_kinds x_t_wills x_t_starts x_t_code x_t_count x_t_size x_h_sorts x_h_lengths x_h_items x_h_held x_h_things x_h_sizes x_h_bodies x_h_traced x_h_number x_h_spot x_h_parted x_g_count x_g_kinds x_g_wills x_g_starts x_g_code x_g_stack x_g_kl x_g_wl x_g_sl x_g_cl x_nr) (Qi res.1 (cW a ar t x_q0_dials x_q0_spots x_q0_skies x_q0_reports x_q0_count x_q0_chime x_q0_end x_q0_score x_q0_reportCount x_q0_z x_q0_rules x_q0_shades x_q0_facts x_q1_dials x_q1_spots x_q1_skies x_q1_reports x_q1_count x_q1_chime x_q1_end x_q1_score x_q1_reportCount x_q1_z x_q1_rules x_q1_shades x_q1_facts res.2.1 res.2.2.1 res.2.2.2.1 res.2.2.2.2.1 res.2.2.2.2.2.1 res.2.2.2.2.2.2.1 res.2.2.2.2.2.2.2.1 res.2.2.2.2.2.2.2.2.1 res.2.2.2.2.2.2.2.2.2.1 res.2.2.2.2.2.2.2.2.2.2.1 res.2.2.2.2.2.2.2.2.2.2.2.1 res.2.2.2.2.2.2.2.2.2.2.2.2.1 res.2.2.2.2.2.2.2.2.2.2.2.2.2.1 x_isKept res.2.2.2.2.2.2.2.2.2.2.2.2.2.2.1 x_p_first x_p_steps x_p_most x_p_many x_p_fewest x_p_everRight x_p_opening x_p_rows x_p_rowCount x_p_acts x_p_marks x_p_deepest x_p_wanted x_t_length x_t_tape x_t_words x_t_places x_t_at x_t_kinds x_t_wills x_t_starts x_t_code x_t_count x_t_size x_h_sorts x_h_lengths x_h_items x_h_held x_h_things x_h_sizes x_h_bodies x_h_traced x_h_number x_h_spot x_h_parted x_g_count x_g_kinds x_g_wills x_g_starts x_g_code res.2.2.2.2.2.2.2.2.2.2.2.2.2.2.2 x_g_kl x_g_wl x_g_sl x_g_cl x_nr)) := by
  unfold X11_spotFor at hf
  refine MC.ofI pn_X11 (Nat.le_of_ble_eq_true rfl) ?_
  intro p e s m args below meth c A Q ls cx hR hw hl
  have hx := cx.1
  have hb := cx.2.1
  have hl : lv_has ls 2 [(0, .ref (a 0)), (1, .int v1)] := hl
  refine lv_aload_n hx hb dX11_spotFor_0 rfl (lv_at hl 0 rfl) ?_
  refine cg_X11_55_ds cx hw dX11_spotFor_1 ?_
  refine lv_iload_n hx hb dX11_spotFor_4 rfl (lv_at hl 1 rfl) ?_
  refine calVi cx hw hl.1 (c_X9_has_q0 rfl) q_364 k_X9_has rfl rv_q0 rfl dX11_spotFor_5 rfl (Nat.le_of_ble_eq_true rfl) ⟨Nat.le_of_ble_eq_true rfl, Nat.le_of_ble_eq_true rfl⟩ ⟨Nat.le_refl _, Nat.le_refl _⟩ (fun H locs hw => ?_)
  refine lv_if_eq (tgt := 20) hx hb dX11_spotFor_8 (by decide) (fun hc => ?_) (fun hc => ?_)
  · have hf := ifT hf hc
    refine lv_iconst (v := (-1)) hx hb dX11_spotFor_20 (by decide) ?_
    have hf := Option.some.inj hf
    subst hf
    exact hR _ _ _ _ _ _ hw rfl ⟨rfl, rfl⟩ dX11_spotFor_21
  · have hf := ifF hf hc
    refine lv_aload_n hx hb dX11_spotFor_11 rfl (lv_at hl 0 rfl) ?_
    refine lv_iload_n hx hb dX11_spotFor_12 rfl (lv_at hl 1 rfl) ?_
    refine lv_iconst (v := 3) hx hb dX11_spotFor_13 (by decide) ?_
    obtain ⟨r1, h2, hf⟩ := bnS hf
    refine calVi cx hw hl.1 (c_X11_dearest h2) q_716 k_X11_dearest rfl rv_ds rfl dX11_spotFor_14 rfl (Nat.le_of_ble_eq_true rfl) ⟨Nat.le_of_ble_eq_true rfl, Nat.le_of_ble_eq_true rfl⟩ ⟨Nat.le_refl _, Nat.le_refl _⟩ (fun H locs hw => ?_)
    refine lv_goto (tgt := 21) hx hb dX11_spotFor_17 (by decide) ?_
    have hf := Option.some.inj hf
    subst hf
    exact hR _ _ _ _ _ _ hw rfl ⟨rfl, rfl⟩ dX11_spotFor_21
theorem dX11_late_0 : decode cX11_late 0 = .ok (.aload_n 0, 1) := by decide +kernel
theorem dX11_late_1 : decode cX11_late 1 = .ok (.getfield 55, 3) := by decide +kernel
theorem dX11_late_4 : decode cX11_late 4 = .ok (.iload_n 1, 1) := by decide +kernel
theorem dX11_late_5 : decode cX11_late 5 = .ok (.invokevirtual 90, 3) := by decide +kernel
theorem dX11_late_8 : decode cX11_late 8 = .ok (.ifCond .ne 5, 3) := by decide +kernel
theorem dX11_late_11 : decode cX11_late 11 = .ok (.iconst (-1), 1) := by decide +kernel
theorem dX11_late_12 : decode cX11_late 12 = .ok (.ireturn, 1) := by decide +kernel
theorem dX11_late_13 : decode cX11_late 13 = .ok (.aload_n 0, 1) := by decide +kernel
theorem dX11_late_14 : decode cX11_late 14 = .ok (.getfield 62, 3) := by decide +kernel
theorem dX11_late_17 : decode cX11_late 17 = .ok (.aload_n 0, 1) := by decide +kernel
theorem dX11_late_18 : decode cX11_late 18 = .ok (.getfield 55, 3) := by decide +kernel
theorem dX11_late_21 : decode cX11_late 21 = .ok (.invokevirtual 176, 3) := by decide +kernel
theorem dX11_late_24 : decode cX11_late 24 = .ok (.aload_n 0, 1) := by decide +kernel
theorem dX11_late_25 : decode cX11_late 25 = .ok (.getfield 55, 3) := by decide +kernel
theorem dX11_late_28 : decode cX11_late 28 = .ok (.getfield 128, 3) := by decide +kernel
theorem dX11_late_31 : decode cX11_late 31 = .ok (.istore_n 2, 1) := by decide +kernel
theorem dX11_late_32 : decode cX11_late 32 = .ok (.iload_n 2, 1) := by decide +kernel
theorem dX11_late_33 : decode cX11_late 33 = .ok (.bipush 16, 2) := by decide +kernel
theorem dX11_late_35 : decode cX11_late 35 = .ok (.if_icmp .gt 49, 3) := by decide +kernel
theorem dX11_late_38 : decode cX11_late 38 = .ok (.aload_n 0, 1) := by decide +kernel
theorem dX11_late_39 : decode cX11_late 39 = .ok (.getfield 62, 3) := by decide +kernel
theorem dX11_late_42 : decode cX11_late 42 = .ok (.getfield 93, 3) := by decide +kernel
theorem dX11_late_45 : decode cX11_late 45 = .ok (.iload_n 1, 1) := by decide +kernel
theorem dX11_late_46 : decode cX11_late 46 = .ok (.aaload, 1) := by decide +kernel
theorem dX11_late_47 : decode cX11_late 47 = .ok (.iconst 1, 1) := by decide +kernel
theorem dX11_late_48 : decode cX11_late 48 = .ok (.iaload, 1) := by decide +kernel
theorem dX11_late_49 : decode cX11_late 49 = .ok (.bipush 50, 2) := by decide +kernel
theorem dX11_late_51 : decode cX11_late 51 = .ok (.if_icmp .lt 5, 3) := by decide +kernel
theorem dX11_late_54 : decode cX11_late 54 = .ok (.iload_n 2, 1) := by decide +kernel
theorem dX11_late_55 : decode cX11_late 55 = .ok (.ireturn, 1) := by decide +kernel
theorem dX11_late_56 : decode cX11_late 56 = .ok (.aload_n 0, 1) := by decide +kernel
theorem dX11_late_57 : decode cX11_late 57 = .ok (.getfield 62, 3) := by decide +kernel
theorem dX11_late_60 : decode cX11_late 60 = .ok (.invokevirtual 137, 3) := by decide +kernel
theorem dX11_late_63 : decode cX11_late 63 = .ok (.ifCond .eq 6, 3) := by decide +kernel
theorem dX11_late_66 : decode cX11_late 66 = .ok (.bipush (-3), 2) := by decide +kernel
theorem dX11_late_68 : decode cX11_late 68 = .ok (.ireturn, 1) := by decide +kernel
theorem dX11_late_69 : decode cX11_late 69 = .ok (.aload_n 0, 1) := by decide +kernel
theorem dX11_late_70 : decode cX11_late 70 = .ok (.getfield 62, 3) := by decide +kernel
theorem dX11_late_73 : decode cX11_late 73 = .ok (.iconst 1, 1) := by decide +kernel
theorem dX11_late_74 : decode cX11_late 74 = .ok (.invokevirtual 173, 3) := by decide +kernel
theorem dX11_late_77 : decode cX11_late 77 = .ok (.pop, 1) := by decide +kernel
theorem dX11_late_78 : decode cX11_late 78 = .ok (.iinc 2 1, 3) := by decide +kernel
theorem dX11_late_81 : decode cX11_late 81 = .ok (.goto (-49), 3) := by decide +kernel
theorem dX11_late_84 : decode cX11_late 84 = .ok (.bipush (-3), 2) := by decide +kernel
theorem dX11_late_86 : decode cX11_late 86 = .ok (.ireturn, 1) := by decide +kernel
theorem k_X11_late : MV yX11_late cX11_late 3 (some .int) 1 := ⟨q_733, q_734, q_1, q_735, ⟨by decide, by decide, by decide +kernel⟩⟩
theorem c_X11_late {v1 : Int32} {res : Int32 × (Nat → Nat → Int32) × (Nat → Nat → Int32) × (Nat → Int32) × (Nat → Nat → Int32) × Int32 × Int32 × Int32 × Int32 × Int32 × Int32 × Nat × (Nat → Int32) × (Nat → Int32) × (Nat → Nat → Int32)} (hf : X11_late n x_q0_dials x_q0_spots x_q0_skies x_q0_reports x_q0_count x_q0_chime x_q0_end x_q0_score x_q0_reportCount x_q0_z x_q0_rules x_q2_dials x_q2_spots x_q2_skies x_q2_reports x_q2_count x_q2_chime x_q2_end x_q2_score x_q2_reportCount x_q2_z x_q2_rules x_q2_shades x_q2_facts x_g_count x_g_kinds x_g_wills x_g_starts x_g_code x_g_stack x_g_kl x_g_wl x_g_sl x_g_cl x_nr v1 = some res) : MC l E0 D t yX11_late cX11_late 3 (some .int) 7 0 0 [.ref (a 0), .int v1] (cW a ar t x_q0_dials x_q0_spots x_q0_skies x_q0_reports x_q0_count x_q0_chime x_q0_end x_q0_score x_q0_reportCount x_q0_z x_q0_rules x_q0_shades x_q0_facts x_q1_dials x_q1_spots x_q1_skies x_q1_reports x_q1_count x_q1_chime x_q1_end x_q1_score x_q1_reportCount x_q1_z x_q1_rules x_q1_shades x_q1_facts x_q2_dials x_q2_spots x_q2_skies x_q2_reports x_q2_count x_q2_chime x_q2_end x_q2_score x_q2_reportCount x_q2_z x_q2_rules x_q2_shades x_q2_facts x_isKept x_marks x_p_first x_p_steps x_p_most x_p_many x_p_fewest x_p_everRight x_p_opening x_p_rows x_p_rowCount x_p_acts x_p_marks x_p_deepest x_p_wanted x_t_length x_t_tape x_t_words x_t_places x_t_at x_t_kinds x_t_wills x_t_starts x_t_code x_t_count x_t_size x_h_sorts x_h_lengths x_h_items x_h_held x_h_things x_h_sizes x_h_bodies x_h_traced x_h_number x_h_spot x_h_parted x_g_count x_g_kinds x_g_wills x_g_starts x_g_code x_g_stack x_g_kl x_g_wl x_g_sl x_g_cl x_nr) (Qi res.1 (cW a ar t x_q0_dials x_q0_spots x_q0_skies x_q0_reports x_q0_count x_q0_chime x_q0_end x_q0_score x_q0_reportCount x_q0_z x_q0_rules x_q0_shades x_q0_facts x_q1_dials x_q1_spots x_q1_skies x_q1_reports x_q1_count x_q1_chime x_q1_end x_q1_score x_q1_reportCount x_q1_z x_q1_rules x_q1_shades x_q1_facts res.2.1 res.2.2.1 res.2.2.2.1 res.2.2.2.2.1 res.2.2.2.2.2.1 res.2.2.2.2.2.2.1 res.2.2.2.2.2.2.2.1 res.2.2.2.2.2.2.2.2.1 res.2.2.2.2.2.2.2.2.2.1 res.2.2.2.2.2.2.2.2.2.2.1 res.2.2.2.2.2.2.2.2.2.2.2.1 res.2.2.2.2.2.2.2.2.2.2.2.2.1 res.2.2.2.2.2.2.2.2.2.2.2.2.2.1 x_isKept x_marks x_p_first x_p_steps x_p_most x_p_many x_p_fewest x_p_everRight x_p_opening x_p_rows x_p_rowCount x_p_acts x_p_marks x_p_deepest x_p_wanted x_t_length x_t_tape x_t_words x_t_places x_t_at x_t_kinds x_t_wills x_t_starts x_t_code x_t_count x_t_size x_h_sorts x_h_lengths x_h_items x_h_held x_h_things x_h_sizes x_h_bodies x_h_traced x_h_number x_h_spot x_h_parted x_g_count x_g_kinds x_g_wills x_g_starts x_g_code res.2.2.2.2.2.2.2.2.2.2.2.2.2.2 x_g_kl x_g_wl x_g_sl x_g_cl x_nr)) := by
  unfold X11_late at hf
  refine MC.ofI pn_X11 (Nat.le_of_ble_eq_true rfl) ?_
  intro p e s m args below meth c A Q ls cx hR hw hl
  have hx := cx.1
  have hb := cx.2.1
  have hl : lv_has ls 3 [(0, .ref (a 0)), (1, .int v1)] := hl
  refine lv_aload_n hx hb dX11_late_0 rfl (lv_at hl 0 rfl) ?_
  refine cg_X11_55_ds cx hw dX11_late_1 ?_
  refine lv_iload_n hx hb dX11_late_4 rfl (lv_at hl 1 rfl) ?_
  refine calVi cx hw hl.1 (c_X9_has_q0 rfl) q_364 k_X9_has rfl rv_q0 rfl dX11_late_5 rfl (Nat.le_of_ble_eq_true rfl) ⟨Nat.le_of_ble_eq_true rfl, Nat.le_of_ble_eq_true rfl⟩ ⟨Nat.le_refl _, Nat.le_refl _⟩ (fun H locs hw => ?_)
  refine lv_if_ne (tgt := 13) hx hb dX11_late_8 (by decide) (fun hc => ?_) (fun hc => ?_)
  · have hf := ifF hf hc
    refine lv_aload_n hx hb dX11_late_13 rfl (lv_at hl 0 rfl) ?_
    refine cg_X11_62_ds cx hw dX11_late_14 ?_
    refine lv_aload_n hx hb dX11_late_17 rfl (lv_at hl 0 rfl) ?_
    refine cg_X11_55_ds cx hw dX11_late_18 ?_
    obtain ⟨r1, h2, hf⟩ := bnS hf
    refine calVv cx hw hl.1 (c_X9_copyFrom_q2_oq0 h2) q_702 k_X9_copyFrom rfl rv_q2 rfl dX11_late_21 rfl (Nat.le_of_ble_eq_true rfl) ⟨Nat.le_of_ble_eq_true rfl, Nat.le_of_ble_eq_true rfl⟩ ⟨Nat.le_refl _, Nat.le_refl _⟩ (fun H locs hw => ?_)
    refine lv_aload_n hx hb dX11_late_24 rfl (lv_at hl 0 rfl) ?_
    refine cg_X11_55_ds cx hw dX11_late_25 ?_
    refine cg_X11_128_q0 cx hw dX11_late_28 ?_
    refine lv_istore_n (lv' := [(2, .int x_q0_chime), (0, .ref (a 0)), (1, .int v1)]) hx hb dX11_late_31 rfl hl (by decide) rfl (fun ls hl => ?_)
    obtain ⟨K1, hK1, hf⟩ := jnS hf
    have kx1 : ∀ (o6 : Int32 × (Nat → Nat → Int32) × Int32 × Int32 × (Nat → Int32) × (Nat → Int32) × (Nat → Nat → Int32)) (H : Heap) (locs : List Loc) (ls : Array Slot), K1 o6 = some res → Wd D A s (cW a ar t x_q0_dials x_q0_spots x_q0_skies x_q0_reports x_q0_count x_q0_chime x_q0_end x_q0_score x_q0_reportCount x_q0_z x_q0_rules x_q0_shades x_q0_facts x_q1_dials x_q1_spots x_q1_skies x_q1_reports x_q1_count x_q1_chime x_q1_end x_q1_score x_q1_reportCount x_q1_z x_q1_rules x_q1_shades x_q1_facts o6.2.1 r1.2.1 r1.2.2.1 r1.2.2.2.1 r1.2.2.2.2.1 o6.2.2.1 r1.2.2.2.2.2.2.1 o6.2.2.2.1 r1.2.2.2.2.2.2.2.2.1 r1.2.2.2.2.2.2.2.2.2.1 r1.2.2.2.2.2.2.2.2.2.2 o6.2.2.2.2.1 o6.2.2.2.2.2.1 x_isKept x_marks x_p_first x_p_steps x_p_most x_p_many x_p_fewest x_p_everRight x_p_opening x_p_rows x_p_rowCount x_p_acts x_p_marks x_p_deepest x_p_wanted x_t_length x_t_tape x_t_words x_t_places x_t_at x_t_kinds x_t_wills x_t_starts x_t_code x_t_count x_t_size x_h_sorts x_h_lengths x_h_items x_h_held x_h_things x_h_sizes x_h_bodies x_h_traced x_h_number x_h_spot x_h_parted x_g_count x_g_kinds x_g_wills x_g_starts x_g_code o6.2.2.2.2.2.2 x_g_kl x_g_wl x_g_sl x_g_cl x_nr) H locs → lv_has ls 3 [(0, .ref (a 0)), (1, .int v1), (2, .int o6.1)] → W p l e (rmz 7 0 0) s m args below meth c H locs 0 0 Q (F0 m 84 ls []) := by
      intro o6 H locs ls hf hw hl
      have hf := hK1 _ hf
      refine lv_bipush (v := (-3)) hx hb dX11_late_84 (by decide) ?_
      have hf := Option.some.inj hf
      subst hf
      exact hR _ _ _ _ _ _ hw rfl ⟨rfl, rfl⟩ dX11_late_86
    have wL1 : ∀ (k : Nat) {v1 : Int32} {v2 : Int32} {x_q2_dials : Nat → Nat → Int32} {x_q2_spots : Nat → Nat → Int32} {x_q2_skies : Nat → Int32} {x_q2_reports : Nat → Nat → Int32} {x_q2_count : Int32} {x_q2_chime : Int32} {x_q2_end : Int32} {x_q2_score : Int32} {x_q2_reportCount : Int32} {x_q2_z : Int32} {x_q2_rules : Nat} {x_q2_shades : Nat → Int32} {x_q2_facts : Nat → Int32} {x_g_stack : Nat → Nat → Int32} {H : Heap} {locs : List Loc} {ls : Array Slot}, X11_late_L1 n x_q2_spots x_q2_skies x_q2_reports x_q2_count x_q2_end x_q2_reportCount x_q2_z x_q2_rules x_g_count x_g_kinds x_g_wills x_g_starts x_g_code x_g_kl x_g_wl x_g_sl x_g_cl x_nr v1 K1 k v2 x_q2_dials x_q2_chime x_q2_score x_q2_shades x_q2_facts x_g_stack = some res → Wd D A s (cW a ar t x_q0_dials x_q0_spots x_q0_skies x_q0_reports x_q0_count x_q0_chime x_q0_end x_q0_score x_q0_reportCount x_q0_z x_q0_rules x_q0_shades x_q0_facts x_q1_dials x_q1_spots x_q1_skies x_q1_reports x_q1_count x_q1_chime x_q1_end x_q1_score x_q1_reportCount x_q1_z x_q1_rules x_q1_shades x_q1_facts x_q2_dials x_q2_spots x_q2_skies x_q2_reports x_q2_count x_q2_chime x_q2_end x_q2_score x_q2_reportCount x_q2_z x_q2_rules x_q2_shades x_q2_facts x_isKept x_marks x_p_first x_p_steps x_p_most x_p_many x_p_fewest x_p_everRight x_p_opening x_p_rows x_p_rowCount x_p_acts x_p_marks x_p_deepest x_p_wanted x_t_length x_t_tape x_t_words x_t_places x_t_at x_t_kinds x_t_wills x_t_starts x_t_code x_t_count x_t_size x_h_sorts x_h_lengths x_h_items x_h_held x_h_things x_h_sizes x_h_bodies x_h_traced x_h_number x_h_spot x_h_parted x_g_count x_g_kinds x_g_wills x_g_starts x_g_code x_g_stack x_g_kl x_g_wl x_g_sl x_g_cl x_nr) H locs → lv_has ls 3 [(0, .ref (a 0)), (1, .int v1), (2, .int v2)] → (∀ (o : Int32 × (Nat → Nat → Int32) × Int32 × Int32 × (Nat → Int32) × (Nat → Int32) × (Nat → Nat → Int32)) (H : Heap) (locs : List Loc) (ls : Array Slot), K1 o = some res → Wd D A s (cW a ar t x_q0_dials x_q0_spots x_q0_skies x_q0_reports x_q0_count x_q0_chime x_q0_end x_q0_score x_q0_reportCount x_q0_z x_q0_rules x_q0_shades x_q0_facts x_q1_dials x_q1_spots x_q1_skies x_q1_reports x_q1_count x_q1_chime x_q1_end x_q1_score x_q1_reportCount x_q1_z x_q1_rules x_q1_shades x_q1_facts o.2.1 x_q2_spots x_q2_skies x_q2_reports x_q2_count o.2.2.1 x_q2_end o.2.2.2.1 x_q2_reportCount x_q2_z x_q2_rules o.2.2.2.2.1 o.2.2.2.2.2.1 x_isKept x_marks x_p_first x_p_steps x_p_most x_p_many x_p_fewest x_p_everRight x_p_opening x_p_rows x_p_rowCount x_p_acts x_p_marks x_p_deepest x_p_wanted x_t_length x_t_tape x_t_words x_t_places x_t_at x_t_kinds x_t_wills x_t_starts x_t_code x_t_count x_t_size x_h_sorts x_h_lengths x_h_items x_h_held x_h_things x_h_sizes x_h_bodies x_h_traced x_h_number x_h_spot x_h_parted x_g_count x_g_kinds x_g_wills x_g_starts x_g_code o.2.2.2.2.2.2 x_g_kl x_g_wl x_g_sl x_g_cl x_nr) H locs → lv_has ls 3 [(0, .ref (a 0)), (1, .int v1), (2, .int o.1)] → W p l e (rmz 7 0 0) s m args below meth c H locs 0 0 Q (F0 m 84 ls [])) → W p l e (rmz 7 0 0) s m args below meth c H locs 0 0 Q (F0 m 32 ls []) := by
      clear hf hw hl hK1 kx1
      intro k
      induction k with
      | zero => intro v1 v2 x_q2_dials x_q2_spots x_q2_skies x_q2_reports x_q2_count x_q2_chime x_q2_end x_q2_score x_q2_reportCount x_q2_z x_q2_rules x_q2_shades x_q2_facts x_g_stack H locs ls hf hw hl kx; simp [X11_late_L1] at hf
      | succ k ih =>
        intro v1 v2 x_q2_dials x_q2_spots x_q2_skies x_q2_reports x_q2_count x_q2_chime x_q2_end x_q2_score x_q2_reportCount x_q2_z x_q2_rules x_q2_shades x_q2_facts x_g_stack H locs ls hf hw hl kx
        rw [X11_late_L1] at hf
        refine lv_iload_n hx hb dX11_late_32 rfl (lv_at hl 2 rfl) ?_
        refine lv_bipush (v := 16) hx hb dX11_late_33 (by decide) ?_
        refine lv_icmp_gt (tgt := 84) hx hb dX11_late_35 (by decide) (fun hc => ?_) (fun hc => ?_)
        · have hf := ifT hf hc
          exact kx _ _ _ _ hf hw (lv_sub hl [0, 1, 2] rfl)
        · have hf := ifF hf hc
          refine lv_aload_n hx hb dX11_late_38 rfl (lv_at hl 0 rfl) ?_
          refine cg_X11_62_ds cx hw dX11_late_39 ?_
          refine cg_X11_93_q2 cx hw dX11_late_42 ?_
          refine lv_iload_n hx hb dX11_late_45 rfl (lv_at hl 1 rfl) ?_
          obtain ⟨h3, hf⟩ := ckS hf
          refine co_q2_dials (j := v1.toNatClampNeg) cx hw (ib_in h3) rfl dX11_late_46 ?_
          refine lv_iconst (v := 1) hx hb dX11_late_47 (by decide) ?_
          refine cm_q2_dials (j := 1) cx hw (ib_lt h3) (ib_in (by decide)) (by decide) dX11_late_48 ?_
          refine lv_bipush (v := 50) hx hb dX11_late_49 (by decide) ?_
          refine lv_icmp_lt (tgt := 56) hx hb dX11_late_51 (by decide) (fun hc => ?_) (fun hc => ?_)
          · have hf := ifT hf hc
            refine lv_aload_n hx hb dX11_late_56 rfl (lv_at hl 0 rfl) ?_
            refine cg_X11_62_ds cx hw dX11_late_57 ?_
            refine calVi cx hw hl.1 (c_X9_isOver_q2 rfl) q_500 k_X9_isOver rfl rv_q2 rfl dX11_late_60 rfl (Nat.le_of_ble_eq_true rfl) ⟨Nat.le_of_ble_eq_true rfl, Nat.le_of_ble_eq_true rfl⟩ ⟨Nat.le_refl _, Nat.le_refl _⟩ (fun H locs hw => ?_)
            refine lv_if_eq (tgt := 69) hx hb dX11_late_63 (by decide) (fun hc => ?_) (fun hc => ?_)
            · have hf := ifT hf hc
              refine lv_aload_n hx hb dX11_late_69 rfl (lv_at hl 0 rfl) ?_
              refine cg_X11_62_ds cx hw dX11_late_70 ?_
              refine lv_iconst (v := 1) hx hb dX11_late_73 (by decide) ?_
              obtain ⟨r4, h5, hf⟩ := bnS hf
              refine calVi cx hw hl.1 (c_X9_rest_q2 h5) q_671 k_X9_rest rfl rv_q2 rfl dX11_late_74 rfl (Nat.le_of_ble_eq_true rfl) ⟨Nat.le_of_ble_eq_true rfl, Nat.le_of_ble_eq_true rfl⟩ ⟨Nat.le_refl _, Nat.le_refl _⟩ (fun H locs hw => ?_)
              refine lv_pop hx hb dX11_late_77 rfl ?_
              refine lv_iinc (v := (v2 + (1 : Int32))) (lv' := [(2, .int (v2 + (1 : Int32))), (0, .ref (a 0)), (1, .int v1)]) hx hb dX11_late_78 hl (k := 2) rfl rfl (by decide) rfl (fun ls hl => ?_)
              refine lv_goto (tgt := 32) hx hb dX11_late_81 (by decide) ?_
              exact ih hf hw (lv_sub hl [1, 2, 0] rfl) kx
            · have hf := ifF hf hc
              refine lv_bipush (v := (-3)) hx hb dX11_late_66 (by decide) ?_
              have hf := Option.some.inj hf
              subst hf
              exact hR _ _ _ _ _ _ hw rfl ⟨rfl, rfl⟩ dX11_late_68
          · have hf := ifF hf hc
            refine lv_iload_n hx hb dX11_late_54 rfl (lv_at hl 2 rfl) ?_
            have hf := Option.some.inj hf
            subst hf
            exact hR _ _ _ _ _ _ hw rfl ⟨rfl, rfl⟩ dX11_late_55
    exact wL1 n hf hw (lv_sub hl [1, 2, 0] rfl) kx1
  · have hf := ifT hf hc
    refine lv_iconst (v := (-1)) hx hb dX11_late_11 (by decide) ?_
    have hf := Option.some.inj hf
    subst hf
    exact hR _ _ _ _ _ _ hw rfl ⟨rfl, rfl⟩ dX11_late_12
end CW5
