section CW12
variable {l : Launch} {D : va_G} {t : Nat → ClassId} {a : Nat → Nat} {ar : Nat → Nat → Nat} {n : Nat} {x_q0_dials : Nat → Nat → Int32} {x_q0_spots : Nat → Nat → Int32} {x_q0_skies : Nat → Int32} {x_q0_reports : Nat → Nat → Int32} {x_q0_count : Int32} {x_q0_chime : Int32} {x_q0_end : Int32} {x_q0_score : Int32} {x_q0_reportCount : Int32} {x_q0_z : Int32} {x_q0_rules : Nat} {x_q0_shades : Nat → Int32} {x_q0_facts : Nat → Int32} {x_q1_dials : Nat → Nat → Int32} {x_q1_spots : Nat → Nat → Int32} {x_q1_skies : Nat → Int32} {x_q1_reports : Nat → Nat → Int32} {x_q1_count : Int32} {x_q1_chime : Int32} {x_q1_end : Int32} {x_q1_score : Int32} {x_q1_reportCount : Int32} {x_q1_z : Int32} {x_q1_rules : Nat} {x_q1_shades : Nat → Int32} {x_q1_facts : Nat → Int32} {x_q2_dials : Nat → Nat → Int32} {x_q2_spots : Nat → Nat → Int32} {x_q2_skies : Nat → Int32} {x_q2_reports : Nat → Nat → Int32} {x_q2_count : Int32} {x_q2_chime : Int32} {x_q2_end : Int32} {x_q2_score : Int32} {x_q2_reportCount : Int32} {x_q2_z : Int32} {x_q2_rules : Nat} {x_q2_shades : Nat → Int32} {x_q2_facts : Nat → Int32} {x_isKept : Int32} {x_marks : Nat → Int32} {x_p_first : Nat → Int32} {x_p_steps : Int32} {x_p_most : Int32} {x_p_many : Int32} {x_p_fewest : Int32} {x_p_everRight : Int32} {x_p_opening : Int32} {x_p_rows : Nat → Nat → Int32} {x_p_rowCount : Int32} {x_p_acts : Nat → Int32} {x_p_marks : Nat → Nat → Int32} {x_p_deepest : Int32} {x_p_wanted : Int32} {x_t_length : Int32} {x_t_tape : Nat → Int32} {x_t_words : Nat → Int32} {x_t_places : Nat → Int32} {x_t_at : Int32} {x_t_kinds : Nat → Int32} {x_t_wills : Nat → Int32} {x_t_starts : Nat → Int32} {x_t_code : Nat → Int32} {x_t_count : Int32} {x_t_size : Int32} {x_h_sorts : Nat → Int32} {x_h_lengths : Nat → Int32} {x_h_items : Nat → Nat → Int32} {x_h_held : Nat → Int32} {x_h_things : Nat → Int32} {x_h_sizes : Nat → Int32} {x_h_bodies : Nat → Int32} {x_h_traced : Int32} {x_h_number : Int32} {x_h_spot : Int32} {x_h_parted : Int32} {x_g_count : Nat → Int32} {x_g_kinds : Nat → Nat → Int32} {x_g_wills : Nat → Nat → Int32} {x_g_starts : Nat → Nat → Int32} {x_g_code : Nat → Nat → Int32} {x_g_stack : Nat → Nat → Int32} {x_g_kl : Nat → Nat} {x_g_wl : Nat → Nat} {x_g_sl : Nat → Nat} {x_g_cl : Nat → Nat} {x_nr : Nat}
theorem c_X9_copyFrom_q1_oq0 {res : (Nat → Nat → Int32) × (Nat → Nat → Int32) × (Nat → Int32) × (Nat → Nat → Int32) × Int32 × Int32 × Int32 × Int32 × Int32 × Int32 × Nat} (hf : X9_copyFrom_q1_oq0 n x_q0_dials x_q0_spots x_q0_skies x_q0_reports x_q0_count x_q0_chime x_q0_end x_q0_score x_q0_reportCount x_q0_z x_q0_rules x_q1_dials x_q1_spots x_q1_skies x_q1_reports x_nr = some res) : MC l E0 D t yX9_copyFrom cX9_copyFrom 3 none 1 0 0 [.ref (a 26), .ref (a 1)] (cW a ar t x_q0_dials x_q0_spots x_q0_skies x_q0_reports x_q0_count x_q0_chime x_q0_end x_q0_score x_q0_reportCount x_q0_z x_q0_rules x_q0_shades x_q0_facts x_q1_dials x_q1_spots x_q1_skies x_q1_reports x_q1_count x_q1_chime x_q1_end x_q1_score x_q1_reportCount x_q1_z x_q1_rules x_q1_shades x_q1_facts x_q2_dials x_q2_spots x_q2_skies x_q2_reports x_q2_count x_q2_chime x_q2_end x_q2_score x_q2_reportCount x_q2_z x_q2_rules x_q2_shades x_q2_facts x_isKept x_marks x_p_first x_p_steps x_p_most x_p_many x_p_fewest x_p_everRight x_p_opening x_p_rows x_p_rowCount x_p_acts x_p_marks x_p_deepest x_p_wanted x_t_length x_t_tape x_t_words x_t_places x_t_at x_t_kinds x_t_wills x_t_starts x_t_code x_t_count x_t_size x_h_sorts x_h_lengths x_h_items x_h_held x_h_things x_h_sizes x_h_bodies x_h_traced x_h_number x_h_spot x_h_parted x_g_count x_g_kinds x_g_wills x_g_starts x_g_code x_g_stack x_g_kl x_g_wl x_g_sl x_g_cl x_nr) (Qn (cW a ar t x_q0_dials x_q0_spots x_q0_skies x_q0_reports x_q0_count x_q0_chime x_q0_end x_q0_score x_q0_reportCount x_q0_z x_q0_rules x_q0_shades x_q0_facts res.1 res.2.1 res.2.2.1 res.2.2.2.1 res.2.2.2.2.1 res.2.2.2.2.2.1 res.2.2.2.2.2.2.1 res.2.2.2.2.2.2.2.1 res.2.2.2.2.2.2.2.2.1 res.2.2.2.2.2.2.2.2.2.1 res.2.2.2.2.2.2.2.2.2.2 x_q1_shades x_q1_facts x_q2_dials x_q2_spots x_q2_skies x_q2_reports x_q2_count x_q2_chime x_q2_end x_q2_score x_q2_reportCount x_q2_z x_q2_rules x_q2_shades x_q2_facts x_isKept x_marks x_p_first x_p_steps x_p_most x_p_many x_p_fewest x_p_everRight x_p_opening x_p_rows x_p_rowCount x_p_acts x_p_marks x_p_deepest x_p_wanted x_t_length x_t_tape x_t_words x_t_places x_t_at x_t_kinds x_t_wills x_t_starts x_t_code x_t_count x_t_size x_h_sorts x_h_lengths x_h_items x_h_held x_h_things x_h_sizes x_h_bodies x_h_traced x_h_number x_h_spot x_h_parted x_g_count x_g_kinds x_g_wills x_g_starts x_g_code x_g_stack x_g_kl x_g_wl x_g_sl x_g_cl x_nr)) := by
  unfold X9_copyFrom_q1_oq0 at hf
  refine MC.ofV pn_X9 (Nat.le_of_ble_eq_true rfl) ?_
  intro p e s m args below meth c A Q ls cx hR hw hl
  have hx := cx.1
  have hb := cx.2.1
  have hl : lv_has ls 3 [(0, .ref (a 26)), (1, .ref (a 1))] := hl
  refine lv_iconst (v := 0) hx hb dX9_copyFrom_0 (by decide) ?_
  refine lv_istore_n (lv' := [(2, .int (0 : Int32)), (0, .ref (a 26)), (1, .ref (a 1))]) hx hb dX9_copyFrom_1 rfl hl (by decide) rfl (fun ls hl => ?_)
  obtain ⟨o3, ho3, hf⟩ := bnS hf
  have wL1 : ∀ (k : Nat) {v2 : Int32} {x_q1_dials : Nat → Nat → Int32} {H : Heap} {locs : List Loc} {ls : Array Slot} {o : Int32 × (Nat → Nat → Int32)}, X9_copyFrom_q1_oq0_L1 n x_q0_dials k v2 x_q1_dials = some o → Wd D A s (cW a ar t x_q0_dials x_q0_spots x_q0_skies x_q0_reports x_q0_count x_q0_chime x_q0_end x_q0_score x_q0_reportCount x_q0_z x_q0_rules x_q0_shades x_q0_facts x_q1_dials x_q1_spots x_q1_skies x_q1_reports x_q1_count x_q1_chime x_q1_end x_q1_score x_q1_reportCount x_q1_z x_q1_rules x_q1_shades x_q1_facts x_q2_dials x_q2_spots x_q2_skies x_q2_reports x_q2_count x_q2_chime x_q2_end x_q2_score x_q2_reportCount x_q2_z x_q2_rules x_q2_shades x_q2_facts x_isKept x_marks x_p_first x_p_steps x_p_most x_p_many x_p_fewest x_p_everRight x_p_opening x_p_rows x_p_rowCount x_p_acts x_p_marks x_p_deepest x_p_wanted x_t_length x_t_tape x_t_words x_t_places x_t_at x_t_kinds x_t_wills x_t_starts x_t_code x_t_count x_t_size x_h_sorts x_h_lengths x_h_items x_h_held x_h_things x_h_sizes x_h_bodies x_h_traced x_h_number x_h_spot x_h_parted x_g_count x_g_kinds x_g_wills x_g_starts x_g_code x_g_stack x_g_kl x_g_wl x_g_sl x_g_cl x_nr) H locs → lv_has ls 3 [(0, .ref (a 26)), (1, .ref (a 1)), (2, .int v2)] → (∀ (H : Heap) (locs : List Loc) (ls : Array Slot), Wd D A s (cW a ar t x_q0_dials x_q0_spots x_q0_skies x_q0_reports x_q0_count x_q0_chime x_q0_end x_q0_score x_q0_reportCount x_q0_z x_q0_rules x_q0_shades x_q0_facts o.2 x_q1_spots x_q1_skies x_q1_reports x_q1_count x_q1_chime x_q1_end x_q1_score x_q1_reportCount x_q1_z x_q1_rules x_q1_shades x_q1_facts x_q2_dials x_q2_spots x_q2_skies x_q2_reports x_q2_count x_q2_chime x_q2_end x_q2_score x_q2_reportCount x_q2_z x_q2_rules x_q2_shades x_q2_facts x_isKept x_marks x_p_first x_p_steps x_p_most x_p_many x_p_fewest x_p_everRight x_p_opening x_p_rows x_p_rowCount x_p_acts x_p_marks x_p_deepest x_p_wanted x_t_length x_t_tape x_t_words x_t_places x_t_at x_t_kinds x_t_wills x_t_starts x_t_code x_t_count x_t_size x_h_sorts x_h_lengths x_h_items x_h_held x_h_things x_h_sizes x_h_bodies x_h_traced x_h_number x_h_spot x_h_parted x_g_count x_g_kinds x_g_wills x_g_starts x_g_code x_g_stack x_g_kl x_g_wl x_g_sl x_g_cl x_nr) H locs → lv_has ls 3 [(0, .ref (a 26)), (1, .ref (a 1)), (2, .int o.1)] → W p l e (rmz 1 0 0) s m args below meth c H locs 0 0 Q (F0 m 32 ls [])) → W p l e (rmz 1 0 0) s m args below meth c H locs 0 0 Q (F0 m 2 ls []) := by
    clear hf ho3 hw hl
    intro k
    induction k with
    | zero => intro v2 x_q1_dials H locs ls o hf hw hl kx; simp [X9_copyFrom_q1_oq0_L1] at hf
    | succ k ih =>
      intro v2 x_q1_dials H locs ls o hf hw hl kx
      rw [X9_copyFrom_q1_oq0_L1] at hf
      refine lv_iload_n hx hb dX9_copyFrom_2 rfl (lv_at hl 2 rfl) ?_
      refine lv_bipush (v := 6) hx hb dX9_copyFrom_3 (by decide) ?_
      refine lv_icmp_ge (tgt := 32) hx hb dX9_copyFrom_5 (by decide) (fun hc => ?_) (fun hc => ?_)
      · have hf := ifT hf hc
        have hf := Option.some.inj hf
        subst hf
        exact kx _ _ _ hw (lv_sub hl [0, 1, 2] rfl)
      · have hf := ifF hf hc
        refine lv_aload_n hx hb dX9_copyFrom_8 rfl (lv_at hl 1 rfl) ?_
        refine cg_X9_11_q0 cx hw dX9_copyFrom_9 ?_
        refine lv_iload_n hx hb dX9_copyFrom_12 rfl (lv_at hl 2 rfl) ?_
        obtain ⟨h1, hf⟩ := ckS hf
        refine co_q0_dials (j := v2.toNatClampNeg) cx hw (ib_in h1) rfl dX9_copyFrom_13 ?_
        refine lv_iconst (v := 0) hx hb dX9_copyFrom_14 (by decide) ?_
        refine lv_aload_n hx hb dX9_copyFrom_15 rfl (lv_at hl 0 rfl) ?_
        refine cg_X9_11_q1 cx hw dX9_copyFrom_16 ?_
        refine lv_iload_n hx hb dX9_copyFrom_19 rfl (lv_at hl 2 rfl) ?_
        obtain ⟨h2, hf⟩ := ckS hf
        refine co_q1_dials (j := v2.toNatClampNeg) cx hw (ib_in h2) rfl dX9_copyFrom_20 ?_
        refine lv_iconst (v := 0) hx hb dX9_copyFrom_21 (by decide) ?_
        refine lv_iconst (v := 5) hx hb dX9_copyFrom_22 (by decide) ?_
        refine ca_q0_dials_q1_dials_X9_53 cx hw (ib_lt h2) hl.1 (by decide) dX9_copyFrom_23 (Nat.le_of_ble_eq_true rfl) (Nat.le_of_ble_eq_true rfl) (fun H locs hw => ?_)
        refine lv_iinc (v := (v2 + (1 : Int32))) (lv' := [(2, .int (v2 + (1 : Int32))), (0, .ref (a 26)), (1, .ref (a 1))]) hx hb dX9_copyFrom_26 hl (k := 2) rfl rfl (by decide) rfl (fun ls hl => ?_)
        refine lv_goto (tgt := 2) hx hb dX9_copyFrom_29 (by decide) ?_
        exact ih hf hw (lv_sub hl [1, 2, 0] rfl) kx
  refine wL1 n ho3 hw (lv_sub hl [1, 2, 0] rfl) (fun H locs ls hw hl => ?_)
  clear wL1 ho3
  refine lv_iconst (v := 0) hx hb dX9_copyFrom_32 (by decide) ?_
  refine lv_istore_n (lv' := [(2, .int (0 : Int32)), (0, .ref (a 26)), (1, .ref (a 1))]) hx hb dX9_copyFrom_33 rfl hl (by decide) rfl (fun ls hl => ?_)
  obtain ⟨o6, ho6, hf⟩ := bnS hf
  have wL2 : ∀ (k : Nat) {v2 : Int32} {x_q1_dials : Nat → Nat → Int32} {x_q1_spots : Nat → Nat → Int32} {H : Heap} {locs : List Loc} {ls : Array Slot} {o : Int32 × (Nat → Nat → Int32)}, X9_copyFrom_q1_oq0_L2 n x_q0_spots k v2 x_q1_spots = some o → Wd D A s (cW a ar t x_q0_dials x_q0_spots x_q0_skies x_q0_reports x_q0_count x_q0_chime x_q0_end x_q0_score x_q0_reportCount x_q0_z x_q0_rules x_q0_shades x_q0_facts x_q1_dials x_q1_spots x_q1_skies x_q1_reports x_q1_count x_q1_chime x_q1_end x_q1_score x_q1_reportCount x_q1_z x_q1_rules x_q1_shades x_q1_facts x_q2_dials x_q2_spots x_q2_skies x_q2_reports x_q2_count x_q2_chime x_q2_end x_q2_score x_q2_reportCount x_q2_z x_q2_rules x_q2_shades x_q2_facts x_isKept x_marks x_p_first x_p_steps x_p_most x_p_many x_p_fewest x_p_everRight x_p_opening x_p_rows x_p_rowCount x_p_acts x_p_marks x_p_deepest x_p_wanted x_t_length x_t_tape x_t_words x_t_places x_t_at x_t_kinds x_t_wills x_t_starts x_t_code x_t_count x_t_size x_h_sorts x_h_lengths x_h_items x_h_held x_h_things x_h_sizes x_h_bodies x_h_traced x_h_number x_h_spot x_h_parted x_g_count x_g_kinds x_g_wills x_g_starts x_g_code x_g_stack x_g_kl x_g_wl x_g_sl x_g_cl x_nr) H locs → lv_has ls 3 [(0, .ref (a 26)), (1, .ref (a 1)), (2, .int v2)] → (∀ (H : Heap) (locs : List Loc) (ls : Array Slot), Wd D A s (cW a ar t x_q0_dials x_q0_spots x_q0_skies x_q0_reports x_q0_count x_q0_chime x_q0_end x_q0_score x_q0_reportCount x_q0_z x_q0_rules x_q0_shades x_q0_facts x_q1_dials o.2 x_q1_skies x_q1_reports x_q1_count x_q1_chime x_q1_end x_q1_score x_q1_reportCount x_q1_z x_q1_rules x_q1_shades x_q1_facts x_q2_dials x_q2_spots x_q2_skies x_q2_reports x_q2_count x_q2_chime x_q2_end x_q2_score x_q2_reportCount x_q2_z x_q2_rules x_q2_shades x_q2_facts x_isKept x_marks x_p_first x_p_steps x_p_most x_p_many x_p_fewest x_p_everRight x_p_opening x_p_rows x_p_rowCount x_p_acts x_p_marks x_p_deepest x_p_wanted x_t_length x_t_tape x_t_words x_t_places x_t_at x_t_kinds x_t_wills x_t_starts x_t_code x_t_count x_t_size x_h_sorts x_h_lengths x_h_items x_h_held x_h_things x_h_sizes x_h_bodies x_h_traced x_h_number x_h_spot x_h_parted x_g_count x_g_kinds x_g_wills x_g_starts x_g_code x_g_stack x_g_kl x_g_wl x_g_sl x_g_cl x_nr) H locs → lv_has ls 3 [(0, .ref (a 26)), (1, .ref (a 1)), (2, .int o.1)] → W p l e (rmz 1 0 0) s m args below meth c H locs 0 0 Q (F0 m 64 ls [])) → W p l e (rmz 1 0 0) s m args below meth c H locs 0 0 Q (F0 m 34 ls []) := by
    clear hf ho6 hw hl
    intro k
    induction k with
    | zero => intro v2 x_q1_dials x_q1_spots H locs ls o hf hw hl kx; simp [X9_copyFrom_q1_oq0_L2] at hf
    | succ k ih =>
      intro v2 x_q1_dials x_q1_spots H locs ls o hf hw hl kx
      rw [X9_copyFrom_q1_oq0_L2] at hf
      refine lv_iload_n hx hb dX9_copyFrom_34 rfl (lv_at hl 2 rfl) ?_
      refine lv_bipush (v := 6) hx hb dX9_copyFrom_35 (by decide) ?_
      refine lv_icmp_ge (tgt := 64) hx hb dX9_copyFrom_37 (by decide) (fun hc => ?_) (fun hc => ?_)
      · have hf := ifT hf hc
        have hf := Option.some.inj hf
        subst hf
        exact kx _ _ _ hw (lv_sub hl [0, 1, 2] rfl)
      · have hf := ifF hf hc
        refine lv_aload_n hx hb dX9_copyFrom_40 rfl (lv_at hl 1 rfl) ?_
        refine cg_X9_16_q0 cx hw dX9_copyFrom_41 ?_
        refine lv_iload_n hx hb dX9_copyFrom_44 rfl (lv_at hl 2 rfl) ?_
        obtain ⟨h4, hf⟩ := ckS hf
        refine co_q0_spots (j := v2.toNatClampNeg) cx hw (ib_in h4) rfl dX9_copyFrom_45 ?_
        refine lv_iconst (v := 0) hx hb dX9_copyFrom_46 (by decide) ?_
        refine lv_aload_n hx hb dX9_copyFrom_47 rfl (lv_at hl 0 rfl) ?_
        refine cg_X9_16_q1 cx hw dX9_copyFrom_48 ?_
        refine lv_iload_n hx hb dX9_copyFrom_51 rfl (lv_at hl 2 rfl) ?_
        obtain ⟨h5, hf⟩ := ckS hf
        refine co_q1_spots (j := v2.toNatClampNeg) cx hw (ib_in h5) rfl dX9_copyFrom_52 ?_
        refine lv_iconst (v := 0) hx hb dX9_copyFrom_53 (by decide) ?_
        refine lv_iconst (v := 2) hx hb dX9_copyFrom_54 (by decide) ?_
        refine ca_q0_spots_q1_spots_X9_53 cx hw (ib_lt h5) hl.1 (by decide) dX9_copyFrom_55 (Nat.le_of_ble_eq_true rfl) (Nat.le_of_ble_eq_true rfl) (fun H locs hw => ?_)
        refine lv_iinc (v := (v2 + (1 : Int32))) (lv' := [(2, .int (v2 + (1 : Int32))), (0, .ref (a 26)), (1, .ref (a 1))]) hx hb dX9_copyFrom_58 hl (k := 2) rfl rfl (by decide) rfl (fun ls hl => ?_)
        refine lv_goto (tgt := 34) hx hb dX9_copyFrom_61 (by decide) ?_
        exact ih hf hw (lv_sub hl [1, 2, 0] rfl) kx
  refine wL2 n ho6 hw (lv_sub hl [1, 2, 0] rfl) (fun H locs ls hw hl => ?_)
  clear wL2 ho6
  refine lv_iconst (v := 0) hx hb dX9_copyFrom_64 (by decide) ?_
  refine lv_istore_n (lv' := [(2, .int (0 : Int32)), (0, .ref (a 26)), (1, .ref (a 1))]) hx hb dX9_copyFrom_65 rfl hl (by decide) rfl (fun ls hl => ?_)
  obtain ⟨o9, ho9, hf⟩ := bnS hf
  have wL3 : ∀ (k : Nat) {v2 : Int32} {x_q1_dials : Nat → Nat → Int32} {x_q1_spots : Nat → Nat → Int32} {x_q1_reports : Nat → Nat → Int32} {H : Heap} {locs : List Loc} {ls : Array Slot} {o : Int32 × (Nat → Nat → Int32)}, X9_copyFrom_q1_oq0_L3 n x_q0_reports k v2 x_q1_reports = some o → Wd D A s (cW a ar t x_q0_dials x_q0_spots x_q0_skies x_q0_reports x_q0_count x_q0_chime x_q0_end x_q0_score x_q0_reportCount x_q0_z x_q0_rules x_q0_shades x_q0_facts x_q1_dials x_q1_spots x_q1_skies x_q1_reports x_q1_count x_q1_chime x_q1_end x_q1_score x_q1_reportCount x_q1_z x_q1_rules x_q1_shades x_q1_facts x_q2_dials x_q2_spots x_q2_skies x_q2_reports x_q2_count x_q2_chime x_q2_end x_q2_score x_q2_reportCount x_q2_z x_q2_rules x_q2_shades x_q2_facts x_isKept x_marks x_p_first x_p_steps x_p_most x_p_many x_p_fewest x_p_everRight x_p_opening x_p_rows x_p_rowCount x_p_acts x_p_marks x_p_deepest x_p_wanted x_t_length x_t_tape x_t_words x_t_places x_t_at x_t_kinds x_t_wills x_t_starts x_t_code x_t_count x_t_size x_h_sorts x_h_lengths x_h_items x_h_held x_h_things x_h_sizes x_h_bodies x_h_traced x_h_number x_h_spot x_h_parted x_g_count x_g_kinds x_g_wills x_g_starts x_g_code x_g_stack x_g_kl x_g_wl x_g_sl x_g_cl x_nr) H locs → lv_has ls 3 [(0, .ref (a 26)), (1, .ref (a 1)), (2, .int v2)] → (∀ (H : Heap) (locs : List Loc) (ls : Array Slot), Wd D A s (cW a ar t x_q0_dials x_q0_spots x_q0_skies x_q0_reports x_q0_count x_q0_chime x_q0_end x_q0_score x_q0_reportCount x_q0_z x_q0_rules x_q0_shades x_q0_facts x_q1_dials x_q1_spots x_q1_skies o.2 x_q1_count x_q1_chime x_q1_end x_q1_score x_q1_reportCount x_q1_z x_q1_rules x_q1_shades x_q1_facts x_q2_dials x_q2_spots x_q2_skies x_q2_reports x_q2_count x_q2_chime x_q2_end x_q2_score x_q2_reportCount x_q2_z x_q2_rules x_q2_shades x_q2_facts x_isKept x_marks x_p_first x_p_steps x_p_most x_p_many x_p_fewest x_p_everRight x_p_opening x_p_rows x_p_rowCount x_p_acts x_p_marks x_p_deepest x_p_wanted x_t_length x_t_tape x_t_words x_t_places x_t_at x_t_kinds x_t_wills x_t_starts x_t_code x_t_count x_t_size x_h_sorts x_h_lengths x_h_items x_h_held x_h_things x_h_sizes x_h_bodies x_h_traced x_h_number x_h_spot x_h_parted x_g_count x_g_kinds x_g_wills x_g_starts x_g_code x_g_stack x_g_kl x_g_wl x_g_sl x_g_cl x_nr) H locs → lv_has ls 3 [(0, .ref (a 26)), (1, .ref (a 1)), (2, .int o.1)] → W p l e (rmz 1 0 0) s m args below meth c H locs 0 0 Q (F0 m 96 ls [])) → W p l e (rmz 1 0 0) s m args below meth c H locs 0 0 Q (F0 m 66 ls []) := by
    clear hf ho9 hw hl
    intro k
    induction k with
    | zero => intro v2 x_q1_dials x_q1_spots x_q1_reports H locs ls o hf hw hl kx; simp [X9_copyFrom_q1_oq0_L3] at hf
    | succ k ih =>
      intro v2 x_q1_dials x_q1_spots x_q1_reports H locs ls o hf hw hl kx
      rw [X9_copyFrom_q1_oq0_L3] at hf
      refine lv_iload_n hx hb dX9_copyFrom_66 rfl (lv_at hl 2 rfl) ?_
      refine lv_bipush (v := 6) hx hb dX9_copyFrom_67 (by decide) ?_
      refine lv_icmp_ge (tgt := 96) hx hb dX9_copyFrom_69 (by decide) (fun hc => ?_) (fun hc => ?_)
      · have hf := ifT hf hc
        have hf := Option.some.inj hf
        subst hf
        exact kx _ _ _ hw (lv_sub hl [0, 1, 2] rfl)
      · have hf := ifF hf hc
        refine lv_aload_n hx hb dX9_copyFrom_72 rfl (lv_at hl 1 rfl) ?_
        refine cg_X9_23_q0 cx hw dX9_copyFrom_73 ?_
        refine lv_iload_n hx hb dX9_copyFrom_76 rfl (lv_at hl 2 rfl) ?_
        obtain ⟨h7, hf⟩ := ckS hf
        refine co_q0_reports (j := v2.toNatClampNeg) cx hw (ib_in h7) rfl dX9_copyFrom_77 ?_
        refine lv_iconst (v := 0) hx hb dX9_copyFrom_78 (by decide) ?_
        refine lv_aload_n hx hb dX9_copyFrom_79 rfl (lv_at hl 0 rfl) ?_
        refine cg_X9_23_q1 cx hw dX9_copyFrom_80 ?_
        refine lv_iload_n hx hb dX9_copyFrom_83 rfl (lv_at hl 2 rfl) ?_
        obtain ⟨h8, hf⟩ := ckS hf
        refine co_q1_reports (j := v2.toNatClampNeg) cx hw (ib_in h8) rfl dX9_copyFrom_84 ?_
        refine lv_iconst (v := 0) hx hb dX9_copyFrom_85 (by decide) ?_
        refine lv_iconst (v := 4) hx hb dX9_copyFrom_86 (by decide) ?_
        refine ca_q0_reports_q1_reports_X9_53 cx hw (ib_lt h8) hl.1 (by decide) dX9_copyFrom_87 (Nat.le_of_ble_eq_true rfl) (Nat.le_of_ble_eq_true rfl) (fun H locs hw => ?_)
        refine lv_iinc (v := (v2 + (1 : Int32))) (lv' := [(2, .int (v2 + (1 : Int32))), (0, .ref (a 26)), (1, .ref (a 1))]) hx hb dX9_copyFrom_90 hl (k := 2) rfl rfl (by decide) rfl (fun ls hl => ?_)
        refine lv_goto (tgt := 66) hx hb dX9_copyFrom_93 (by decide) ?_
        exact ih hf hw (lv_sub hl [1, 2, 0] rfl) kx
  refine wL3 n ho9 hw (lv_sub hl [1, 2, 0] rfl) (fun H locs ls hw hl => ?_)
  clear wL3 ho9
  refine lv_aload_n hx hb dX9_copyFrom_96 rfl (lv_at hl 1 rfl) ?_
  refine cg_X9_19_q0 cx hw dX9_copyFrom_97 ?_
  refine lv_iconst (v := 0) hx hb dX9_copyFrom_100 (by decide) ?_
  refine lv_aload_n hx hb dX9_copyFrom_101 rfl (lv_at hl 0 rfl) ?_
  refine cg_X9_19_q1 cx hw dX9_copyFrom_102 ?_
  refine lv_iconst (v := 0) hx hb dX9_copyFrom_105 (by decide) ?_
  refine lv_bipush (v := 16) hx hb dX9_copyFrom_106 (by decide) ?_
  refine ca_q0_skies_q1_skies_X9_53 cx hw hl.1 (by decide) dX9_copyFrom_108 (Nat.le_of_ble_eq_true rfl) (Nat.le_of_ble_eq_true rfl) (fun H locs hw => ?_)
  refine lv_aload_n hx hb dX9_copyFrom_111 rfl (lv_at hl 0 rfl) ?_
  refine lv_aload_n hx hb dX9_copyFrom_112 rfl (lv_at hl 1 rfl) ?_
  refine cg_X9_59_q0 cx hw dX9_copyFrom_113 ?_
  refine cp_X9_59_q1 cx hw dX9_copyFrom_116 (fun H locs hw => ?_)
  refine lv_aload_n hx hb dX9_copyFrom_119 rfl (lv_at hl 0 rfl) ?_
  refine lv_aload_n hx hb dX9_copyFrom_120 rfl (lv_at hl 1 rfl) ?_
  refine cg_X9_62_q0 cx hw dX9_copyFrom_121 ?_
  refine cp_X9_62_q1 cx hw dX9_copyFrom_124 (fun H locs hw => ?_)
  refine lv_aload_n hx hb dX9_copyFrom_127 rfl (lv_at hl 0 rfl) ?_
  refine lv_aload_n hx hb dX9_copyFrom_128 rfl (lv_at hl 1 rfl) ?_
  refine cg_X9_26_q0 cx hw dX9_copyFrom_129 ?_
  refine cp_X9_26_q1 cx hw dX9_copyFrom_132 (fun H locs hw => ?_)
  refine lv_aload_n hx hb dX9_copyFrom_135 rfl (lv_at hl 0 rfl) ?_
  refine lv_aload_n hx hb dX9_copyFrom_136 rfl (lv_at hl 1 rfl) ?_
  refine cg_X9_65_q0 cx hw dX9_copyFrom_137 ?_
  refine cp_X9_65_q1 cx hw dX9_copyFrom_140 (fun H locs hw => ?_)
  refine lv_aload_n hx hb dX9_copyFrom_143 rfl (lv_at hl 0 rfl) ?_
  refine lv_aload_n hx hb dX9_copyFrom_144 rfl (lv_at hl 1 rfl) ?_
  refine cg_X9_68_q0 cx hw dX9_copyFrom_145 ?_
  refine cp_X9_68_q1 cx hw dX9_copyFrom_148 (fun H locs hw => ?_)
  refine lv_aload_n hx hb dX9_copyFrom_151 rfl (lv_at hl 0 rfl) ?_
  refine lv_aload_n hx hb dX9_copyFrom_152 rfl (lv_at hl 1 rfl) ?_
  refine cg_X9_30_q0 cx hw dX9_copyFrom_153 ?_
  refine cp_X9_30_q1 cx hw dX9_copyFrom_156 (fun H locs hw => ?_)
  refine lv_aload_n hx hb dX9_copyFrom_159 rfl (lv_at hl 0 rfl) ?_
  refine lv_aload_n hx hb dX9_copyFrom_160 rfl (lv_at hl 1 rfl) ?_
  obtain ⟨h10, hf⟩ := ckS hf
  refine cg_X9_43_q0 cx hw dX9_copyFrom_161 ?_
  refine cp_X9_43_q1 cx hw dX9_copyFrom_164 (fun H locs hw => ?_)
  have hf := Option.some.inj hf
  subst hf
  exact hR _ _ _ _ _ hw ⟨rfl, rfl⟩ dX9_copyFrom_167
theorem dX11_keep_0 : decode cX11_keep 0 = .ok (.aload_n 0, 1) := by decide +kernel
theorem dX11_keep_1 : decode cX11_keep 1 = .ok (.getfield 59, 3) := by decide +kernel
theorem dX11_keep_4 : decode cX11_keep 4 = .ok (.aload_n 0, 1) := by decide +kernel
theorem dX11_keep_5 : decode cX11_keep 5 = .ok (.getfield 55, 3) := by decide +kernel
theorem dX11_keep_8 : decode cX11_keep 8 = .ok (.invokevirtual 176, 3) := by decide +kernel
theorem dX11_keep_11 : decode cX11_keep 11 = .ok (.aload_n 0, 1) := by decide +kernel
theorem dX11_keep_12 : decode cX11_keep 12 = .ok (.iconst 1, 1) := by decide +kernel
theorem dX11_keep_13 : decode cX11_keep 13 = .ok (.putfield 365, 3) := by decide +kernel
theorem dX11_keep_16 : decode cX11_keep 16 = .ok (.iconst 1, 1) := by decide +kernel
theorem dX11_keep_17 : decode cX11_keep 17 = .ok (.ireturn, 1) := by decide +kernel
theorem k_X11_keep : MV yX11_keep cX11_keep 1 (some .int) 0 := ⟨q_1084, q_1085, q_1, q_1086, ⟨by decide, by decide, by decide +kernel⟩⟩
theorem c_X11_keep {res : Int32 × (Nat → Nat → Int32) × (Nat → Nat → Int32) × (Nat → Int32) × (Nat → Nat → Int32) × Int32 × Int32 × Int32 × Int32 × Int32 × Int32 × Nat × Int32} (hf : X11_keep n x_q0_dials x_q0_spots x_q0_skies x_q0_reports x_q0_count x_q0_chime x_q0_end x_q0_score x_q0_reportCount x_q0_z x_q0_rules x_q1_dials x_q1_spots x_q1_skies x_q1_reports x_nr = some res) : MC l E0 D t yX11_keep cX11_keep 1 (some .int) 2 0 0 [.ref (a 0)] (cW a ar t x_q0_dials x_q0_spots x_q0_skies x_q0_reports x_q0_count x_q0_chime x_q0_end x_q0_score x_q0_reportCount x_q0_z x_q0_rules x_q0_shades x_q0_facts x_q1_dials x_q1_spots x_q1_skies x_q1_reports x_q1_count x_q1_chime x_q1_end x_q1_score x_q1_reportCount x_q1_z x_q1_rules x_q1_shades x_q1_facts x_q2_dials x_q2_spots x_q2_skies x_q2_reports x_q2_count x_q2_chime x_q2_end x_q2_score x_q2_reportCount x_q2_z x_q2_rules x_q2_shades x_q2_facts x_isKept x_marks x_p_first x_p_steps x_p_most x_p_many x_p_fewest x_p_everRight x_p_opening x_p_rows x_p_rowCount x_p_acts x_p_marks x_p_deepest x_p_wanted x_t_length x_t_tape x_t_words x_t_places x_t_at x_t_kinds x_t_wills x_t_starts x_t_code x_t_count x_t_size x_h_sorts x_h_lengths x_h_items x_h_held x_h_things x_h_sizes x_h_bodies x_h_traced x_h_number x_h_spot x_h_parted x_g_count x_g_kinds x_g_wills x_g_starts x_g_code x_g_stack x_g_kl x_g_wl x_g_sl x_g_cl x_nr) (Qi res.1 (cW a ar t x_q0_dials x_q0_spots x_q0_skies x_q0_reports x_q0_count x_q0_chime x_q0_end x_q0_score x_q0_reportCount x_q0_z x_q0_rules x_q0_shades x_q0_facts res.2.1 res.2.2.1 res.2.2.2.1 res.2.2.2.2.1 res.2.2.2.2.2.1 res.2.2.2.2.2.2.1 res.2.2.2.2.2.2.2.1 res.2.2.2.2.2.2.2.2.1 res.2.2.2.2.2.2.2.2.2.1 res.2.2.2.2.2.2.2.2.2.2.1 res.2.2.2.2.2.2.2.2.2.2.2.1 x_q1_shades x_q1_facts x_q2_dials x_q2_spots x_q2_skies x_q2_reports x_q2_count x_q2_chime x_q2_end x_q2_score x_q2_reportCount x_q2_z x_q2_rules x_q2_shades x_q2_facts res.2.2.2.2.2.2.2.2.2.2.2.2 x_marks x_p_first x_p_steps x_p_most x_p_many x_p_fewest x_p_everRight x_p_opening x_p_rows x_p_rowCount x_p_acts x_p_marks x_p_deepest x_p_wanted x_t_length x_t_tape x_t_words x_t_places x_t_at x_t_kinds x_t_wills x_t_starts x_t_code x_t_count x_t_size x_h_sorts x_h_lengths x_h_items x_h_held x_h_things x_h_sizes x_h_bodies x_h_traced x_h_number x_h_spot x_h_parted x_g_count x_g_kinds x_g_wills x_g_starts x_g_code x_g_stack x_g_kl x_g_wl x_g_sl x_g_cl x_nr)) := by
  unfold X11_keep at hf
  refine MC.ofI pn_X11 (Nat.le_of_ble_eq_true rfl) ?_
  intro p e s m args below meth c A Q ls cx hR hw hl
  have hx := cx.1
  have hb := cx.2.1
  have hl : lv_has ls 1 [(0, .ref (a 0))] := hl
  refine lv_aload_n hx hb dX11_keep_0 rfl (lv_at hl 0 rfl) ?_
  refine cg_X11_59_ds cx hw dX11_keep_1 ?_
  refine lv_aload_n hx hb dX11_keep_4 rfl (lv_at hl 0 rfl) ?_
  refine cg_X11_55_ds cx hw dX11_keep_5 ?_
  obtain ⟨r1, h2, hf⟩ := bnS hf
  refine calVv cx hw hl.1 (c_X9_copyFrom_q1_oq0 h2) q_702 k_X9_copyFrom rfl rv_q1 rfl dX11_keep_8 rfl (Nat.le_of_ble_eq_true rfl) ⟨Nat.le_of_ble_eq_true rfl, Nat.le_of_ble_eq_true rfl⟩ ⟨Nat.le_refl _, Nat.le_refl _⟩ (fun H locs hw => ?_)
  refine lv_aload_n hx hb dX11_keep_11 rfl (lv_at hl 0 rfl) ?_
  refine lv_iconst (v := 1) hx hb dX11_keep_12 (by decide) ?_
  refine cp_X11_365_ds cx hw (by decide) dX11_keep_13 (fun H locs hw => ?_)
  refine lv_iconst (v := 1) hx hb dX11_keep_16 (by decide) ?_
  have hf := Option.some.inj hf
  subst hf
  exact hR _ _ _ _ _ _ hw rfl ⟨rfl, rfl⟩ dX11_keep_17
theorem c_X9_copyFrom_q0_oq1 {res : (Nat → Nat → Int32) × (Nat → Nat → Int32) × (Nat → Int32) × (Nat → Nat → Int32) × Int32 × Int32 × Int32 × Int32 × Int32 × Int32 × Nat} (hf : X9_copyFrom_q0_oq1 n x_q0_dials x_q0_spots x_q0_skies x_q0_reports x_q1_dials x_q1_spots x_q1_skies x_q1_reports x_q1_count x_q1_chime x_q1_end x_q1_score x_q1_reportCount x_q1_z x_q1_rules x_nr = some res) : MC l E0 D t yX9_copyFrom cX9_copyFrom 3 none 1 0 0 [.ref (a 1), .ref (a 26)] (cW a ar t x_q0_dials x_q0_spots x_q0_skies x_q0_reports x_q0_count x_q0_chime x_q0_end x_q0_score x_q0_reportCount x_q0_z x_q0_rules x_q0_shades x_q0_facts x_q1_dials x_q1_spots x_q1_skies x_q1_reports x_q1_count x_q1_chime x_q1_end x_q1_score x_q1_reportCount x_q1_z x_q1_rules x_q1_shades x_q1_facts x_q2_dials x_q2_spots x_q2_skies x_q2_reports x_q2_count x_q2_chime x_q2_end x_q2_score x_q2_reportCount x_q2_z x_q2_rules x_q2_shades x_q2_facts x_isKept x_marks x_p_first x_p_steps x_p_most x_p_many x_p_fewest x_p_everRight x_p_opening x_p_rows x_p_rowCount x_p_acts x_p_marks x_p_deepest x_p_wanted x_t_length x_t_tape x_t_words x_t_places x_t_at x_t_kinds x_t_wills x_t_starts x_t_code x_t_count x_t_size x_h_sorts x_h_lengths x_h_items x_h_held x_h_things x_h_sizes x_h_bodies x_h_traced x_h_number x_h_spot x_h_parted x_g_count x_g_kinds x_g_wills x_g_starts x_g_code x_g_stack x_g_kl x_g_wl x_g_sl x_g_cl x_nr) (Qn (cW a ar t res.1 res.2.1 res.2.2.1 res.2.2.2.1 res.2.2.2.2.1 res.2.2.2.2.2.1 res.2.2.2.2.2.2.1 res.2.2.2.2.2.2.2.1 res.2.2.2.2.2.2.2.2.1 res.2.2.2.2.2.2.2.2.2.1 res.2.2.2.2.2.2.2.2.2.2 x_q0_shades x_q0_facts x_q1_dials x_q1_spots x_q1_skies x_q1_reports x_q1_count x_q1_chime x_q1_end x_q1_score x_q1_reportCount x_q1_z x_q1_rules x_q1_shades x_q1_facts x_q2_dials x_q2_spots x_q2_skies x_q2_reports x_q2_count x_q2_chime x_q2_end x_q2_score x_q2_reportCount x_q2_z x_q2_rules x_q2_shades x_q2_facts x_isKept x_marks x_p_first x_p_steps x_p_most x_p_many x_p_fewest x_p_everRight x_p_opening x_p_rows x_p_rowCount x_p_acts x_p_marks x_p_deepest x_p_wanted x_t_length x_t_tape x_t_words x_t_places x_t_at x_t_kinds x_t_wills x_t_starts x_t_code x_t_count x_t_size x_h_sorts x_h_lengths x_h_items x_h_held x_h_things x_h_sizes x_h_bodies x_h_traced x_h_number x_h_spot x_h_parted x_g_count x_g_kinds x_g_wills x_g_starts x_g_code x_g_stack x_g_kl x_g_wl x_g_sl x_g_cl x_nr)) := by
  unfold X9_copyFrom_q0_oq1 at hf
  refine MC.ofV pn_X9 (Nat.le_of_ble_eq_true rfl) ?_
  intro p e s m args below meth c A Q ls cx hR hw hl
  have hx := cx.1
  have hb := cx.2.1
  have hl : lv_has ls 3 [(0, .ref (a 1)), (1, .ref (a 26))] := hl
  refine lv_iconst (v := 0) hx hb dX9_copyFrom_0 (by decide) ?_
  refine lv_istore_n (lv' := [(2, .int (0 : Int32)), (0, .ref (a 1)), (1, .ref (a 26))]) hx hb dX9_copyFrom_1 rfl hl (by decide) rfl (fun ls hl => ?_)
  obtain ⟨o3, ho3, hf⟩ := bnS hf
  have wL1 : ∀ (k : Nat) {v2 : Int32} {x_q0_dials : Nat → Nat → Int32} {H : Heap} {locs : List Loc} {ls : Array Slot} {o : Int32 × (Nat → Nat → Int32)}, X9_copyFrom_q0_oq1_L1 n x_q1_dials k v2 x_q0_dials = some o → Wd D A s (cW a ar t x_q0_dials x_q0_spots x_q0_skies x_q0_reports x_q0_count x_q0_chime x_q0_end x_q0_score x_q0_reportCount x_q0_z x_q0_rules x_q0_shades x_q0_facts x_q1_dials x_q1_spots x_q1_skies x_q1_reports x_q1_count x_q1_chime x_q1_end x_q1_score x_q1_reportCount x_q1_z x_q1_rules x_q1_shades x_q1_facts x_q2_dials x_q2_spots x_q2_skies x_q2_reports x_q2_count x_q2_chime x_q2_end x_q2_score x_q2_reportCount x_q2_z x_q2_rules x_q2_shades x_q2_facts x_isKept x_marks x_p_first x_p_steps x_p_most x_p_many x_p_fewest x_p_everRight x_p_opening x_p_rows x_p_rowCount x_p_acts x_p_marks x_p_deepest x_p_wanted x_t_length x_t_tape x_t_words x_t_places x_t_at x_t_kinds x_t_wills x_t_starts x_t_code x_t_count x_t_size x_h_sorts x_h_lengths x_h_items x_h_held x_h_things x_h_sizes x_h_bodies x_h_traced x_h_number x_h_spot x_h_parted x_g_count x_g_kinds x_g_wills x_g_starts x_g_code x_g_stack x_g_kl x_g_wl x_g_sl x_g_cl x_nr) H locs → lv_has ls 3 [(0, .ref (a 1)), (1, .ref (a 26)), (2, .int v2)] → (∀ (H : Heap) (locs : List Loc) (ls : Array Slot), Wd D A s (cW a ar t o.2 x_q0_spots x_q0_skies x_q0_reports x_q0_count x_q0_chime x_q0_end x_q0_score x_q0_reportCount x_q0_z x_q0_rules x_q0_shades x_q0_facts x_q1_dials x_q1_spots x_q1_skies x_q1_reports x_q1_count x_q1_chime x_q1_end x_q1_score x_q1_reportCount x_q1_z x_q1_rules x_q1_shades x_q1_facts x_q2_dials x_q2_spots x_q2_skies x_q2_reports x_q2_count x_q2_chime x_q2_end x_q2_score x_q2_reportCount x_q2_z x_q2_rules x_q2_shades x_q2_facts x_isKept x_marks x_p_first x_p_steps x_p_most x_p_many x_p_fewest x_p_everRight x_p_opening x_p_rows x_p_rowCount x_p_acts x_p_marks x_p_deepest x_p_wanted x_t_length x_t_tape x_t_words x_t_places x_t_at x_t_kinds x_t_wills x_t_starts x_t_code x_t_count x_t_size x_h_sorts x_h_lengths x_h_items x_h_held x_h_things x_h_sizes x_h_bodies x_h_traced x_h_number x_h_spot x_h_parted x_g_count x_g_kinds x_g_wills x_g_starts x_g_code x_g_stack x_g_kl x_g_wl x_g_sl x_g_cl x_nr) H locs → lv_has ls 3 [(0, .ref (a 1)), (1, .ref (a 26)), (2, .int o.1)] → W p l e (rmz 1 0 0) s m args below meth c H locs 0 0 Q (F0 m 32 ls [])) → W p l e (rmz 1 0 0) s m args below meth c H locs 0 0 Q (F0 m 2 ls []) := by
    clear hf ho3 hw hl
    intro k
    induction k with
    | zero => intro v2 x_q0_dials H locs ls o hf hw hl kx; simp [X9_copyFrom_q0_oq1_L1] at hf
    | succ k ih =>
      intro v2 x_q0_dials H locs ls o hf hw hl kx
      rw [X9_copyFrom_q0_oq1_L1] at hf
      refine lv_iload_n hx hb dX9_copyFrom_2 rfl (lv_at hl 2 rfl) ?_
      refine lv_bipush (v := 6) hx hb dX9_copyFrom_3 (by decide) ?_
      refine lv_icmp_ge (tgt := 32) hx hb dX9_copyFrom_5 (by decide) (fun hc => ?_) (fun hc => ?_)
      · have hf := ifT hf hc
        have hf := Option.some.inj hf
        subst hf
        exact kx _ _ _ hw (lv_sub hl [0, 1, 2] rfl)
      · have hf := ifF hf hc
        refine lv_aload_n hx hb dX9_copyFrom_8 rfl (lv_at hl 1 rfl) ?_
        refine cg_X9_11_q1 cx hw dX9_copyFrom_9 ?_
        refine lv_iload_n hx hb dX9_copyFrom_12 rfl (lv_at hl 2 rfl) ?_
        obtain ⟨h1, hf⟩ := ckS hf
        refine co_q1_dials (j := v2.toNatClampNeg) cx hw (ib_in h1) rfl dX9_copyFrom_13 ?_
        refine lv_iconst (v := 0) hx hb dX9_copyFrom_14 (by decide) ?_
        refine lv_aload_n hx hb dX9_copyFrom_15 rfl (lv_at hl 0 rfl) ?_
        refine cg_X9_11_q0 cx hw dX9_copyFrom_16 ?_
        refine lv_iload_n hx hb dX9_copyFrom_19 rfl (lv_at hl 2 rfl) ?_
        obtain ⟨h2, hf⟩ := ckS hf
        refine co_q0_dials (j := v2.toNatClampNeg) cx hw (ib_in h2) rfl dX9_copyFrom_20 ?_
        refine lv_iconst (v := 0) hx hb dX9_copyFrom_21 (by decide) ?_
        refine lv_iconst (v := 5) hx hb dX9_copyFrom_22 (by decide) ?_
        refine ca_q1_dials_q0_dials_X9_53 cx hw (ib_lt h2) hl.1 (by decide) dX9_copyFrom_23 (Nat.le_of_ble_eq_true rfl) (Nat.le_of_ble_eq_true rfl) (fun H locs hw => ?_)
        refine lv_iinc (v := (v2 + (1 : Int32))) (lv' := [(2, .int (v2 + (1 : Int32))), (0, .ref (a 1)), (1, .ref (a 26))]) hx hb dX9_copyFrom_26 hl (k := 2) rfl rfl (by decide) rfl (fun ls hl => ?_)
        refine lv_goto (tgt := 2) hx hb dX9_copyFrom_29 (by decide) ?_
        exact ih hf hw (lv_sub hl [1, 2, 0] rfl) kx
  refine wL1 n ho3 hw (lv_sub hl [1, 2, 0] rfl) (fun H locs ls hw hl => ?_)
  clear wL1 ho3
  refine lv_iconst (v := 0) hx hb dX9_copyFrom_32 (by decide) ?_
  refine lv_istore_n (lv' := [(2, .int (0 : Int32)), (0, .ref (a 1)), (1, .ref (a 26))]) hx hb dX9_copyFrom_33 rfl hl (by decide) rfl (fun ls hl => ?_)
  obtain ⟨o6, ho6, hf⟩ := bnS hf
  have wL2 : ∀ (k : Nat) {v2 : Int32} {x_q0_dials : Nat → Nat → Int32} {x_q0_spots : Nat → Nat → Int32} {H : Heap} {locs : List Loc} {ls : Array Slot} {o : Int32 × (Nat → Nat → Int32)}, X9_copyFrom_q0_oq1_L2 n x_q1_spots k v2 x_q0_spots = some o → Wd D A s (cW a ar t x_q0_dials x_q0_spots x_q0_skies x_q0_reports x_q0_count x_q0_chime x_q0_end x_q0_score x_q0_reportCount x_q0_z x_q0_rules x_q0_shades x_q0_facts x_q1_dials x_q1_spots x_q1_skies x_q1_reports x_q1_count x_q1_chime x_q1_end x_q1_score x_q1_reportCount x_q1_z x_q1_rules x_q1_shades x_q1_facts x_q2_dials x_q2_spots x_q2_skies x_q2_reports x_q2_count x_q2_chime x_q2_end x_q2_score x_q2_reportCount x_q2_z x_q2_rules x_q2_shades x_q2_facts x_isKept x_marks x_p_first x_p_steps x_p_most x_p_many x_p_fewest x_p_everRight x_p_opening x_p_rows x_p_rowCount x_p_acts x_p_marks x_p_deepest x_p_wanted x_t_length x_t_tape x_t_words x_t_places x_t_at x_t_kinds x_t_wills x_t_starts x_t_code x_t_count x_t_size x_h_sorts x_h_lengths x_h_items x_h_held x_h_things x_h_sizes x_h_bodies x_h_traced x_h_number x_h_spot x_h_parted x_g_count x_g_kinds x_g_wills x_g_starts x_g_code x_g_stack x_g_kl x_g_wl x_g_sl x_g_cl x_nr) H locs → lv_has ls 3 [(0, .ref (a 1)), (1, .ref (a 26)), (2, .int v2)] → (∀ (H : Heap) (locs : List Loc) (ls : Array Slot), Wd D A s (cW a ar t x_q0_dials o.2 x_q0_skies x_q0_reports x_q0_count x_q0_chime x_q0_end x_q0_score x_q0_reportCount x_q0_z x_q0_rules x_q0_shades x_q0_facts x_q1_dials x_q1_spots x_q1_skies x_q1_reports x_q1_count x_q1_chime x_q1_end x_q1_score x_q1_reportCount x_q1_z x_q1_rules x_q1_shades x_q1_facts x_q2_dials x_q2_spots x_q2_skies x_q2_reports x_q2_count x_q2_chime x_q2_end x_q2_score x_q2_reportCount x_q2_z x_q2_rules x_q2_shades x_q2_facts x_isKept x_marks x_p_first x_p_steps x_p_most x_p_many x_p_fewest x_p_everRight x_p_opening x_p_rows x_p_rowCount x_p_acts x_p_marks x_p_deepest x_p_wanted x_t_length x_t_tape x_t_words x_t_places x_t_at x_t_kinds x_t_wills x_t_starts x_t_code x_t_count x_t_size x_h_sorts x_h_lengths x_h_items x_h_held x_h_things x_h_sizes x_h_bodies x_h_traced x_h_number x_h_spot x_h_parted x_g_count x_g_kinds x_g_wills x_g_starts x_g_code x_g_stack x_g_kl x_g_wl x_g_sl x_g_cl x_nr) H locs → lv_has ls 3 [(0, .ref (a 1)), (1, .ref (a 26)), (2, .int o.1)] → W p l e (rmz 1 0 0) s m args below meth c H locs 0 0 Q (F0 m 64 ls [])) → W p l e (rmz 1 0 0) s m args below meth c H locs 0 0 Q (F0 m 34 ls []) := by
    clear hf ho6 hw hl
    intro k
    induction k with
    | zero => intro v2 x_q0_dials x_q0_spots H locs ls o hf hw hl kx; simp [X9_copyFrom_q0_oq1_L2] at hf
    | succ k ih =>
      intro v2 x_q0_dials x_q0_spots H locs ls o hf hw hl kx
      rw [X9_copyFrom_q0_oq1_L2] at hf
      refine lv_iload_n hx hb dX9_copyFrom_34 rfl (lv_at hl 2 rfl) ?_
      refine lv_bipush (v := 6) hx hb dX9_copyFrom_35 (by decide) ?_
      refine lv_icmp_ge (tgt := 64) hx hb dX9_copyFrom_37 (by decide) (fun hc => ?_) (fun hc => ?_)
      · have hf := ifT hf hc
        have hf := Option.some.inj hf
        subst hf
        exact kx _ _ _ hw (lv_sub hl [0, 1, 2] rfl)
      · have hf := ifF hf hc
        refine lv_aload_n hx hb dX9_copyFrom_40 rfl (lv_at hl 1 rfl) ?_
        refine cg_X9_16_q1 cx hw dX9_copyFrom_41 ?_
        refine lv_iload_n hx hb dX9_copyFrom_44 rfl (lv_at hl 2 rfl) ?_
        obtain ⟨h4, hf⟩ := ckS hf
        refine co_q1_spots (j := v2.toNatClampNeg) cx hw (ib_in h4) rfl dX9_copyFrom_45 ?_
        refine lv_iconst (v := 0) hx hb dX9_copyFrom_46 (by decide) ?_
        refine lv_aload_n hx hb dX9_copyFrom_47 rfl (lv_at hl 0 rfl) ?_
        refine cg_X9_16_q0 cx hw dX9_copyFrom_48 ?_
        refine lv_iload_n hx hb dX9_copyFrom_51 rfl (lv_at hl 2 rfl) ?_
        obtain ⟨h5, hf⟩ := ckS hf
        refine co_q0_spots (j := v2.toNatClampNeg) cx hw (ib_in h5) rfl dX9_copyFrom_52 ?_
        refine lv_iconst (v := 0) hx hb dX9_copyFrom_53 (by decide) ?_
        refine lv_iconst (v := 2) hx hb dX9_copyFrom_54 (by decide) ?_
        refine ca_q1_spots_q0_spots_X9_53 cx hw (ib_lt h5) hl.1 (by decide) dX9_copyFrom_55 (Nat.le_of_ble_eq_true rfl) (Nat.le_of_ble_eq_true rfl) (fun H locs hw => ?_)
        refine lv_iinc (v := (v2 + (1 : Int32))) (lv' := [(2, .int (v2 + (1 : Int32))), (0, .ref (a 1)), (1, .ref (a 26))]) hx hb dX9_copyFrom_58 hl (k := 2) rfl rfl (by decide) rfl (fun ls hl => ?_)
        refine lv_goto (tgt := 34) hx hb dX9_copyFrom_61 (by decide) ?_
        exact ih hf hw (lv_sub hl [1, 2, 0] rfl) kx
  refine wL2 n ho6 hw (lv_sub hl [1, 2, 0] rfl) (fun H locs ls hw hl => ?_)
  clear wL2 ho6
  refine lv_iconst (v := 0) hx hb dX9_copyFrom_64 (by decide) ?_
  refine lv_istore_n (lv' := [(2, .int (0 : Int32)), (0, .ref (a 1)), (1, .ref (a 26))]) hx hb dX9_copyFrom_65 rfl hl (by decide) rfl (fun ls hl => ?_)
  obtain ⟨o9, ho9, hf⟩ := bnS hf
  have wL3 : ∀ (k : Nat) {v2 : Int32} {x_q0_dials : Nat → Nat → Int32} {x_q0_spots : Nat → Nat → Int32} {x_q0_reports : Nat → Nat → Int32} {H : Heap} {locs : List Loc} {ls : Array Slot} {o : Int32 × (Nat → Nat → Int32)}, X9_copyFrom_q0_oq1_L3 n x_q1_reports k v2 x_q0_reports = some o → Wd D A s (cW a ar t x_q0_dials x_q0_spots x_q0_skies x_q0_reports x_q0_count x_q0_chime x_q0_end x_q0_score x_q0_reportCount x_q0_z x_q0_rules x_q0_shades x_q0_facts x_q1_dials x_q1_spots x_q1_skies x_q1_reports x_q1_count x_q1_chime x_q1_end x_q1_score x_q1_reportCount x_q1_z x_q1_rules x_q1_shades x_q1_facts x_q2_dials x_q2_spots x_q2_skies x_q2_reports x_q2_count x_q2_chime x_q2_end x_q2_score x_q2_reportCount x_q2_z x_q2_rules x_q2_shades x_q2_facts x_isKept x_marks x_p_first x_p_steps x_p_most x_p_many x_p_fewest x_p_everRight x_p_opening x_p_rows x_p_rowCount x_p_acts x_p_marks x_p_deepest x_p_wanted x_t_length x_t_tape x_t_words x_t_places x_t_at x_t_kinds x_t_wills x_t_starts x_t_code x_t_count x_t_size x_h_sorts x_h_lengths x_h_items x_h_held x_h_things x_h_sizes x_h_bodies x_h_traced x_h_number x_h_spot x_h_parted x_g_count x_g_kinds x_g_wills x_g_starts x_g_code x_g_stack x_g_kl x_g_wl x_g_sl x_g_cl x_nr) H locs → lv_has ls 3 [(0, .ref (a 1)), (1, .ref (a 26)), (2, .int v2)] → (∀ (H : Heap) (locs : List Loc) (ls : Array Slot), Wd D A s (cW a ar t x_q0_dials x_q0_spots x_q0_skies o.2 x_q0_count x_q0_chime x_q0_end x_q0_score x_q0_reportCount x_q0_z x_q0_rules x_q0_shades x_q0_facts x_q1_dials x_q1_spots x_q1_skies x_q1_reports x_q1_count x_q1_chime x_q1_end x_q1_score x_q1_reportCount x_q1_z x_q1_rules x_q1_shades x_q1_facts x_q2_dials x_q2_spots x_q2_skies x_q2_reports x_q2_count x_q2_chime x_q2_end x_q2_score x_q2_reportCount x_q2_z x_q2_rules x_q2_shades x_q2_facts x_isKept x_marks x_p_first x_p_steps x_p_most x_p_many x_p_fewest x_p_everRight x_p_opening x_p_rows x_p_rowCount x_p_acts x_p_marks x_p_deepest x_p_wanted x_t_length x_t_tape x_t_words x_t_places x_t_at x_t_kinds x_t_wills x_t_starts x_t_code x_t_count x_t_size x_h_sorts x_h_lengths x_h_items x_h_held x_h_things x_h_sizes x_h_bodies x_h_traced x_h_number x_h_spot x_h_parted x_g_count x_g_kinds x_g_wills x_g_starts x_g_code x_g_stack x_g_kl x_g_wl x_g_sl x_g_cl x_nr) H locs → lv_has ls 3 [(0, .ref (a 1)), (1, .ref (a 26)), (2, .int o.1)] → W p l e (rmz 1 0 0) s m args below meth c H locs 0 0 Q (F0 m 96 ls [])) → W p l e (rmz 1 0 0) s m args below meth c H locs 0 0 Q (F0 m 66 ls []) := by
    clear hf ho9 hw hl
    intro k
    induction k with
    | zero => intro v2 x_q0_dials x_q0_spots x_q0_reports H locs ls o hf hw hl kx; simp [X9_copyFrom_q0_oq1_L3] at hf
    | succ k ih =>
      intro v2 x_q0_dials x_q0_spots x_q0_reports H locs ls o hf hw hl kx
      rw [X9_copyFrom_q0_oq1_L3] at hf
      refine lv_iload_n hx hb dX9_copyFrom_66 rfl (lv_at hl 2 rfl) ?_
      refine lv_bipush (v := 6) hx hb dX9_copyFrom_67 (by decide) ?_
      refine lv_icmp_ge (tgt := 96) hx hb dX9_copyFrom_69 (by decide) (fun hc => ?_) (fun hc => ?_)
      · have hf := ifT hf hc
        have hf := Option.some.inj hf
        subst hf
        exact kx _ _ _ hw (lv_sub hl [0, 1, 2] rfl)
      · have hf := ifF hf hc
        refine lv_aload_n hx hb dX9_copyFrom_72 rfl (lv_at hl 1 rfl) ?_
        refine cg_X9_23_q1 cx hw dX9_copyFrom_73 ?_
        refine lv_iload_n hx hb dX9_copyFrom_76 rfl (lv_at hl 2 rfl) ?_
        obtain ⟨h7, hf⟩ := ckS hf
        refine co_q1_reports (j := v2.toNatClampNeg) cx hw (ib_in h7) rfl dX9_copyFrom_77 ?_
        refine lv_iconst (v := 0) hx hb dX9_copyFrom_78 (by decide) ?_
        refine lv_aload_n hx hb dX9_copyFrom_79 rfl (lv_at hl 0 rfl) ?_
        refine cg_X9_23_q0 cx hw dX9_copyFrom_80 ?_
        refine lv_iload_n hx hb dX9_copyFrom_83 rfl (lv_at hl 2 rfl) ?_
        obtain ⟨h8, hf⟩ := ckS hf
        refine co_q0_reports (j := v2.toNatClampNeg) cx hw (ib_in h8) rfl dX9_copyFrom_84 ?_
        refine lv_iconst (v := 0) hx hb dX9_copyFrom_85 (by decide) ?_
        refine lv_iconst (v := 4) hx hb dX9_copyFrom_86 (by decide) ?_
        refine ca_q1_reports_q0_reports_X9_53 cx hw (ib_lt h8) hl.1 (by decide) dX9_copyFrom_87 (Nat.le_of_ble_eq_true rfl) (Nat.le_of_ble_eq_true rfl) (fun H locs hw => ?_)
        refine lv_iinc (v := (v2 + (1 : Int32))) (lv' := [(2, .int (v2 + (1 : Int32))), (0, .ref (a 1)), (1, .ref (a 26))]) hx hb dX9_copyFrom_90 hl (k := 2) rfl rfl (by decide) rfl (fun ls hl => ?_)
        refine lv_goto (tgt := 66) hx hb dX9_copyFrom_93 (by decide) ?_
        exact ih hf hw (lv_sub hl [1, 2, 0] rfl) kx
  refine wL3 n ho9 hw (lv_sub hl [1, 2, 0] rfl) (fun H locs ls hw hl => ?_)
  clear wL3 ho9
  refine lv_aload_n hx hb dX9_copyFrom_96 rfl (lv_at hl 1 rfl) ?_
  refine cg_X9_19_q1 cx hw dX9_copyFrom_97 ?_
  refine lv_iconst (v := 0) hx hb dX9_copyFrom_100 (by decide) ?_
  refine lv_aload_n hx hb dX9_copyFrom_101 rfl (lv_at hl 0 rfl) ?_
  refine cg_X9_19_q0 cx hw dX9_copyFrom_102 ?_
  refine lv_iconst (v := 0) hx hb dX9_copyFrom_105 (by decide) ?_
  refine lv_bipush (v := 16) hx hb dX9_copyFrom_106 (by decide) ?_
  refine ca_q1_skies_q0_skies_X9_53 cx hw hl.1 (by decide) dX9_copyFrom_108 (Nat.le_of_ble_eq_true rfl) (Nat.le_of_ble_eq_true rfl) (fun H locs hw => ?_)
  refine lv_aload_n hx hb dX9_copyFrom_111 rfl (lv_at hl 0 rfl) ?_
  refine lv_aload_n hx hb dX9_copyFrom_112 rfl (lv_at hl 1 rfl) ?_
  refine cg_X9_59_q1 cx hw dX9_copyFrom_113 ?_
  refine cp_X9_59_q0 cx hw dX9_copyFrom_116 (fun H locs hw => ?_)
  refine lv_aload_n hx hb dX9_copyFrom_119 rfl (lv_at hl 0 rfl) ?_
  refine lv_aload_n hx hb dX9_copyFrom_120 rfl (lv_at hl 1 rfl) ?_
  refine cg_X9_62_q1 cx hw dX9_copyFrom_121 ?_
  refine cp_X9_62_q0 cx hw dX9_copyFrom_124 (fun H locs hw => ?_)
  refine lv_aload_n hx hb dX9_copyFrom_127 rfl (lv_at hl 0 rfl) ?_
  refine lv_aload_n hx hb dX9_copyFrom_128 rfl (lv_at hl 1 rfl) ?_
  refine cg_X9_26_q1 cx hw dX9_copyFrom_129 ?_
  refine cp_X9_26_q0 cx hw dX9_copyFrom_132 (fun H locs hw => ?_)
  refine lv_aload_n hx hb dX9_copyFrom_135 rfl (lv_at hl 0 rfl) ?_
  refine lv_aload_n hx hb dX9_copyFrom_136 rfl (lv_at hl 1 rfl) ?_
  refine cg_X9_65_q1 cx hw dX9_copyFrom_137 ?_
  refine cp_X9_65_q0 cx hw dX9_copyFrom_140 (fun H locs hw => ?_)
  refine lv_aload_n hx hb dX9_copyFrom_143 rfl (lv_at hl 0 rfl) ?_
  refine lv_aload_n hx hb dX9_copyFrom_144 rfl (lv_at hl 1 rfl) ?_
  refine cg_X9_68_q1 cx hw dX9_copyFrom_145 ?_
  refine cp_X9_68_q0 cx hw dX9_copyFrom_148 (fun H locs hw => ?_)
  refine lv_aload_n hx hb dX9_copyFrom_151 rfl (lv_at hl 0 rfl) ?_
  refine lv_aload_n hx hb dX9_copyFrom_152 rfl (lv_at hl 1 rfl) ?_
  refine cg_X9_30_q1 cx hw dX9_copyFrom_153 ?_
  refine cp_X9_30_q0 cx hw dX9_copyFrom_156 (fun H locs hw => ?_)
  refine lv_aload_n hx hb dX9_copyFrom_159 rfl (lv_at hl 0 rfl) ?_
  refine lv_aload_n hx hb dX9_copyFrom_160 rfl (lv_at hl 1 rfl) ?_
  obtain ⟨h10, hf⟩ := ckS hf
  refine cg_X9_43_q1 cx hw dX9_copyFrom_161 ?_
  refine cp_X9_43_q0 cx hw dX9_copyFrom_164 (fun H locs hw => ?_)
  have hf := Option.some.inj hf
  subst hf
  exact hR _ _ _ _ _ hw ⟨rfl, rfl⟩ dX9_copyFrom_167
theorem dX11_again_0 : decode cX11_again 0 = .ok (.aload_n 0, 1) := by decide +kernel
theorem dX11_again_1 : decode cX11_again 1 = .ok (.getfield 365, 3) := by decide +kernel
theorem dX11_again_4 : decode cX11_again 4 = .ok (.ifCond .ne 6, 3) := by decide +kernel
theorem dX11_again_7 : decode cX11_again 7 = .ok (.bipush (-3), 2) := by decide +kernel
theorem dX11_again_9 : decode cX11_again 9 = .ok (.ireturn, 1) := by decide +kernel
theorem dX11_again_10 : decode cX11_again 10 = .ok (.aload_n 0, 1) := by decide +kernel
theorem dX11_again_11 : decode cX11_again 11 = .ok (.getfield 55, 3) := by decide +kernel
theorem dX11_again_14 : decode cX11_again 14 = .ok (.aload_n 0, 1) := by decide +kernel
theorem dX11_again_15 : decode cX11_again 15 = .ok (.getfield 59, 3) := by decide +kernel
theorem dX11_again_18 : decode cX11_again 18 = .ok (.invokevirtual 176, 3) := by decide +kernel
theorem dX11_again_21 : decode cX11_again 21 = .ok (.aload_n 0, 1) := by decide +kernel
theorem dX11_again_22 : decode cX11_again 22 = .ok (.getfield 55, 3) := by decide +kernel
theorem dX11_again_25 : decode cX11_again 25 = .ok (.getfield 82, 3) := by decide +kernel
theorem dX11_again_28 : decode cX11_again 28 = .ok (.ireturn, 1) := by decide +kernel
theorem k_X11_again : MV yX11_again cX11_again 1 (some .int) 0 := ⟨q_1088, q_1089, q_1, q_1090, ⟨by decide, by decide, by decide +kernel⟩⟩
theorem c_X11_again {res : Int32 × (Nat → Nat → Int32) × (Nat → Nat → Int32) × (Nat → Int32) × (Nat → Nat → Int32) × Int32 × Int32 × Int32 × Int32 × Int32 × Int32 × Nat} (hf : X11_again n x_q0_dials x_q0_spots x_q0_skies x_q0_reports x_q0_count x_q0_chime x_q0_end x_q0_score x_q0_reportCount x_q0_z x_q0_rules x_q1_dials x_q1_spots x_q1_skies x_q1_reports x_q1_count x_q1_chime x_q1_end x_q1_score x_q1_reportCount x_q1_z x_q1_rules x_isKept x_nr = some res) : MC l E0 D t yX11_again cX11_again 1 (some .int) 2 0 0 [.ref (a 0)] (cW a ar t x_q0_dials x_q0_spots x_q0_skies x_q0_reports x_q0_count x_q0_chime x_q0_end x_q0_score x_q0_reportCount x_q0_z x_q0_rules x_q0_shades x_q0_facts x_q1_dials x_q1_spots x_q1_skies x_q1_reports x_q1_count x_q1_chime x_q1_end x_q1_score x_q1_reportCount x_q1_z x_q1_rules x_q1_shades x_q1_facts x_q2_dials x_q2_spots x_q2_skies x_q2_reports x_q2_count x_q2_chime x_q2_end x_q2_score x_q2_reportCount x_q2_z x_q2_rules x_q2_shades x_q2_facts x_isKept x_marks x_p_first x_p_steps x_p_most x_p_many x_p_fewest x_p_everRight x_p_opening x_p_rows x_p_rowCount x_p_acts x_p_marks x_p_deepest x_p_wanted x_t_length x_t_tape x_t_words x_t_places x_t_at x_t_kinds x_t_wills x_t_starts x_t_code x_t_count x_t_size x_h_sorts x_h_lengths x_h_items x_h_held x_h_things x_h_sizes x_h_bodies x_h_traced x_h_number x_h_spot x_h_parted x_g_count x_g_kinds x_g_wills x_g_starts x_g_code x_g_stack x_g_kl x_g_wl x_g_sl x_g_cl x_nr) (Qi res.1 (cW a ar t res.2.1 res.2.2.1 res.2.2.2.1 res.2.2.2.2.1 res.2.2.2.2.2.1 res.2.2.2.2.2.2.1 res.2.2.2.2.2.2.2.1 res.2.2.2.2.2.2.2.2.1 res.2.2.2.2.2.2.2.2.2.1 res.2.2.2.2.2.2.2.2.2.2.1 res.2.2.2.2.2.2.2.2.2.2.2 x_q0_shades x_q0_facts x_q1_dials x_q1_spots x_q1_skies x_q1_reports x_q1_count x_q1_chime x_q1_end x_q1_score x_q1_reportCount x_q1_z x_q1_rules x_q1_shades x_q1_facts x_q2_dials x_q2_spots x_q2_skies x_q2_reports x_q2_count x_q2_chime x_q2_end x_q2_score x_q2_reportCount x_q2_z x_q2_rules x_q2_shades x_q2_facts x_isKept x_marks x_p_first x_p_steps x_p_most x_p_many x_p_fewest x_p_everRight x_p_opening x_p_rows x_p_rowCount x_p_acts x_p_marks x_p_deepest x_p_wanted x_t_length x_t_tape x_t_words x_t_places x_t_at x_t_kinds x_t_wills x_t_starts x_t_code x_t_count x_t_size x_h_sorts x_h_lengths x_h_items x_h_held x_h_things x_h_sizes x_h_bodies x_h_traced x_h_number x_h_spot x_h_parted x_g_count x_g_kinds x_g_wills x_g_starts x_g_code x_g_stack x_g_kl x_g_wl x_g_sl x_g_cl x_nr)) := by
  unfold X11_again at hf
  refine MC.ofI pn_X11 (Nat.le_of_ble_eq_true rfl) ?_
  intro p e s m args below meth c A Q ls cx hR hw hl
  have hx := cx.1
  have hb := cx.2.1
  have hl : lv_has ls 1 [(0, .ref (a 0))] := hl
  refine lv_aload_n hx hb dX11_again_0 rfl (lv_at hl 0 rfl) ?_
  refine cg_X11_365_ds cx hw dX11_again_1 ?_
  refine lv_if_ne (tgt := 10) hx hb dX11_again_4 (by decide) (fun hc => ?_) (fun hc => ?_)
  · have hf := ifF hf hc
    refine lv_aload_n hx hb dX11_again_10 rfl (lv_at hl 0 rfl) ?_
    refine cg_X11_55_ds cx hw dX11_again_11 ?_
    refine lv_aload_n hx hb dX11_again_14 rfl (lv_at hl 0 rfl) ?_
    refine cg_X11_59_ds cx hw dX11_again_15 ?_
    obtain ⟨r1, h2, hf⟩ := bnS hf
    refine calVv cx hw hl.1 (c_X9_copyFrom_q0_oq1 h2) q_702 k_X9_copyFrom rfl rv_q0 rfl dX11_again_18 rfl (Nat.le_of_ble_eq_true rfl) ⟨Nat.le_of_ble_eq_true rfl, Nat.le_of_ble_eq_true rfl⟩ ⟨Nat.le_refl _, Nat.le_refl _⟩ (fun H locs hw => ?_)
    refine lv_aload_n hx hb dX11_again_21 rfl (lv_at hl 0 rfl) ?_
    refine cg_X11_55_ds cx hw dX11_again_22 ?_
    refine cg_X11_82_q0 cx hw dX11_again_25 ?_
    have hf := Option.some.inj hf
    subst hf
    exact hR _ _ _ _ _ _ hw rfl ⟨rfl, rfl⟩ dX11_again_28
  · have hf := ifT hf hc
    refine lv_bipush (v := (-3)) hx hb dX11_again_7 (by decide) ?_
    have hf := Option.some.inj hf
    subst hf
    exact hR _ _ _ _ _ _ hw rfl ⟨rfl, rfl⟩ dX11_again_9
end CW12
