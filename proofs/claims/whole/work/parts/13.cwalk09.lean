section CW9
variable {l : Launch} {D : va_G} {t : Nat → ClassId} {a : Nat → Nat} {ar : Nat → Nat → Nat} {n : Nat} {x_q0_dials : Nat → Nat → Int32} {x_q0_spots : Nat → Nat → Int32} {x_q0_skies : Nat → Int32} {x_q0_reports : Nat → Nat → Int32} {x_q0_count : Int32} {x_q0_chime : Int32} {x_q0_end : Int32} {x_q0_score : Int32} {x_q0_reportCount : Int32} {x_q0_z : Int32} {x_q0_rules : Nat} {x_q0_shades : Nat → Int32} {x_q0_facts : Nat → Int32} {x_q1_dials : Nat → Nat → Int32} {x_q1_spots : Nat → Nat → Int32} {x_q1_skies : Nat → Int32} {x_q1_reports : Nat → Nat → Int32} {x_q1_count : Int32} {x_q1_chime : Int32} {x_q1_end : Int32} {x_q1_score : Int32} {x_q1_reportCount : Int32} {x_q1_z : Int32} {x_q1_rules : Nat} {x_q1_shades : Nat → Int32} {x_q1_facts : Nat → Int32} {x_q2_dials : Nat → Nat → Int32} {x_q2_spots : Nat → Nat → Int32} {x_q2_skies : Nat → Int32} {x_q2_reports : Nat → Nat → Int32} {x_q2_count : Int32} {x_q2_chime : Int32} {x_q2_end : Int32} {x_q2_score : Int32} {x_q2_reportCount : Int32} {x_q2_z : Int32} {x_q2_rules : Nat} {x_q2_shades : Nat → Int32} {x_q2_facts : Nat → Int32} {x_isKept : Int32} {x_marks : Nat → Int32} {x_p_first : Nat → Int32} {x_p_steps : Int32} {x_p_most : Int32} {x_p_many : Int32} {x_p_fewest : Int32} {x_p_everRight : Int32} {x_p_opening : Int32} {x_p_rows : Nat → Nat → Int32} {x_p_rowCount : Int32} {x_p_acts : Nat → Int32} {x_p_marks : Nat → Nat → Int32} {x_p_deepest : Int32} {x_p_wanted : Int32} {x_t_length : Int32} {x_t_tape : Nat → Int32} {x_t_words : Nat → Int32} {x_t_places : Nat → Int32} {x_t_at : Int32} {x_t_kinds : Nat → Int32} {x_t_wills : Nat → Int32} {x_t_starts : Nat → Int32} {x_t_code : Nat → Int32} {x_t_count : Int32} {x_t_size : Int32} {x_h_sorts : Nat → Int32} {x_h_lengths : Nat → Int32} {x_h_items : Nat → Nat → Int32} {x_h_held : Nat → Int32} {x_h_things : Nat → Int32} {x_h_sizes : Nat → Int32} {x_h_bodies : Nat → Int32} {x_h_traced : Int32} {x_h_number : Int32} {x_h_spot : Int32} {x_h_parted : Int32} {x_g_count : Nat → Int32} {x_g_kinds : Nat → Nat → Int32} {x_g_wills : Nat → Nat → Int32} {x_g_starts : Nat → Nat → Int32} {x_g_code : Nat → Nat → Int32} {x_g_stack : Nat → Nat → Int32} {x_g_kl : Nat → Nat} {x_g_wl : Nat → Nat} {x_g_sl : Nat → Nat} {x_g_cl : Nat → Nat} {x_nr : Nat}
theorem dX5_writeRows_0 : decode cX5_writeRows 0 = .ok (.aload_n 0, 1) := by decide +kernel
theorem dX5_writeRows_1 : decode cX5_writeRows 1 = .ok (.getfield 26, 3) := by decide +kernel
theorem dX5_writeRows_4 : decode cX5_writeRows 4 = .ok (.aload_n 1, 1) := by decide +kernel
theorem dX5_writeRows_5 : decode cX5_writeRows 5 = .ok (.invokevirtual 30, 3) := by decide +kernel
theorem dX5_writeRows_8 : decode cX5_writeRows 8 = .ok (.iconst 0, 1) := by decide +kernel
theorem dX5_writeRows_9 : decode cX5_writeRows 9 = .ok (.istore_n 2, 1) := by decide +kernel
theorem dX5_writeRows_10 : decode cX5_writeRows 10 = .ok (.iload_n 2, 1) := by decide +kernel
theorem dX5_writeRows_11 : decode cX5_writeRows 11 = .ok (.aload_n 0, 1) := by decide +kernel
theorem dX5_writeRows_12 : decode cX5_writeRows 12 = .ok (.getfield 43, 3) := by decide +kernel
theorem dX5_writeRows_15 : decode cX5_writeRows 15 = .ok (.if_icmp .ge 59, 3) := by decide +kernel
theorem dX5_writeRows_18 : decode cX5_writeRows 18 = .ok (.aload_n 0, 1) := by decide +kernel
theorem dX5_writeRows_19 : decode cX5_writeRows 19 = .ok (.getfield 17, 3) := by decide +kernel
theorem dX5_writeRows_22 : decode cX5_writeRows 22 = .ok (.iload_n 2, 1) := by decide +kernel
theorem dX5_writeRows_23 : decode cX5_writeRows 23 = .ok (.aaload, 1) := by decide +kernel
theorem dX5_writeRows_24 : decode cX5_writeRows 24 = .ok (.iconst 0, 1) := by decide +kernel
theorem dX5_writeRows_25 : decode cX5_writeRows 25 = .ok (.aload_n 0, 1) := by decide +kernel
theorem dX5_writeRows_26 : decode cX5_writeRows 26 = .ok (.getfield 9, 3) := by decide +kernel
theorem dX5_writeRows_29 : decode cX5_writeRows 29 = .ok (.iload_n 2, 1) := by decide +kernel
theorem dX5_writeRows_30 : decode cX5_writeRows 30 = .ok (.iaload, 1) := by decide +kernel
theorem dX5_writeRows_31 : decode cX5_writeRows 31 = .ok (.iastore, 1) := by decide +kernel
theorem dX5_writeRows_32 : decode cX5_writeRows 32 = .ok (.aload_n 0, 1) := by decide +kernel
theorem dX5_writeRows_33 : decode cX5_writeRows 33 = .ok (.getfield 17, 3) := by decide +kernel
theorem dX5_writeRows_36 : decode cX5_writeRows 36 = .ok (.iload_n 2, 1) := by decide +kernel
theorem dX5_writeRows_37 : decode cX5_writeRows 37 = .ok (.aaload, 1) := by decide +kernel
theorem dX5_writeRows_38 : decode cX5_writeRows 38 = .ok (.iconst 1, 1) := by decide +kernel
theorem dX5_writeRows_39 : decode cX5_writeRows 39 = .ok (.aload_n 0, 1) := by decide +kernel
theorem dX5_writeRows_40 : decode cX5_writeRows 40 = .ok (.getfield 26, 3) := by decide +kernel
theorem dX5_writeRows_43 : decode cX5_writeRows 43 = .ok (.aload_n 0, 1) := by decide +kernel
theorem dX5_writeRows_44 : decode cX5_writeRows 44 = .ok (.getfield 9, 3) := by decide +kernel
theorem dX5_writeRows_47 : decode cX5_writeRows 47 = .ok (.iload_n 2, 1) := by decide +kernel
theorem dX5_writeRows_48 : decode cX5_writeRows 48 = .ok (.iaload, 1) := by decide +kernel
theorem dX5_writeRows_49 : decode cX5_writeRows 49 = .ok (.invokevirtual 79, 3) := by decide +kernel
theorem dX5_writeRows_52 : decode cX5_writeRows 52 = .ok (.iastore, 1) := by decide +kernel
theorem dX5_writeRows_53 : decode cX5_writeRows 53 = .ok (.aload_n 0, 1) := by decide +kernel
theorem dX5_writeRows_54 : decode cX5_writeRows 54 = .ok (.getfield 17, 3) := by decide +kernel
theorem dX5_writeRows_57 : decode cX5_writeRows 57 = .ok (.iload_n 2, 1) := by decide +kernel
theorem dX5_writeRows_58 : decode cX5_writeRows 58 = .ok (.aaload, 1) := by decide +kernel
theorem dX5_writeRows_59 : decode cX5_writeRows 59 = .ok (.iconst 2, 1) := by decide +kernel
theorem dX5_writeRows_60 : decode cX5_writeRows 60 = .ok (.aload_n 0, 1) := by decide +kernel
theorem dX5_writeRows_61 : decode cX5_writeRows 61 = .ok (.getfield 26, 3) := by decide +kernel
theorem dX5_writeRows_64 : decode cX5_writeRows 64 = .ok (.invokevirtual 89, 3) := by decide +kernel
theorem dX5_writeRows_67 : decode cX5_writeRows 67 = .ok (.iastore, 1) := by decide +kernel
theorem dX5_writeRows_68 : decode cX5_writeRows 68 = .ok (.iinc 2 1, 3) := by decide +kernel
theorem dX5_writeRows_71 : decode cX5_writeRows 71 = .ok (.goto (-61), 3) := by decide +kernel
theorem dX5_writeRows_74 : decode cX5_writeRows 74 = .ok (.aload_n 0, 1) := by decide +kernel
theorem dX5_writeRows_75 : decode cX5_writeRows 75 = .ok (.aload_n 0, 1) := by decide +kernel
theorem dX5_writeRows_76 : decode cX5_writeRows 76 = .ok (.getfield 43, 3) := by decide +kernel
theorem dX5_writeRows_79 : decode cX5_writeRows 79 = .ok (.putfield 99, 3) := by decide +kernel
theorem dX5_writeRows_82 : decode cX5_writeRows 82 = .ok (.aload_n 0, 1) := by decide +kernel
theorem dX5_writeRows_83 : decode cX5_writeRows 83 = .ok (.getfield 99, 3) := by decide +kernel
theorem dX5_writeRows_86 : decode cX5_writeRows 86 = .ok (.ireturn, 1) := by decide +kernel
theorem k_X5_writeRows : MV yX5_writeRows cX5_writeRows 3 (some .int) 1 := ⟨q_895, q_896, q_13, q_897, ⟨by decide, by decide, by decide +kernel⟩⟩
theorem c_X5_writeRows_oq0 {res : Int32 × (Nat → Nat → Int32) × (Nat → Nat → Int32) × (Nat → Int32) × (Nat → Nat → Int32) × Int32 × Int32 × Int32 × Int32 × Int32 × Int32 × Nat × (Nat → Int32) × (Nat → Int32) × (Nat → Nat → Int32) × Int32 × (Nat → Nat → Int32)} (hf : X5_writeRows_oq0 n x_q0_dials x_q0_spots x_q0_skies x_q0_reports x_q0_count x_q0_chime x_q0_end x_q0_score x_q0_reportCount x_q0_z x_q0_rules x_q2_dials x_q2_spots x_q2_skies x_q2_reports x_q2_shades x_q2_facts x_p_first x_p_steps x_p_rows x_g_count x_g_kinds x_g_wills x_g_starts x_g_code x_g_stack x_g_kl x_g_wl x_g_sl x_g_cl x_nr = some res) : MC l E0 D t yX5_writeRows cX5_writeRows 3 (some .int) 6 0 0 [.ref (a 84), .ref (a 1)] (cW a ar t x_q0_dials x_q0_spots x_q0_skies x_q0_reports x_q0_count x_q0_chime x_q0_end x_q0_score x_q0_reportCount x_q0_z x_q0_rules x_q0_shades x_q0_facts x_q1_dials x_q1_spots x_q1_skies x_q1_reports x_q1_count x_q1_chime x_q1_end x_q1_score x_q1_reportCount x_q1_z x_q1_rules x_q1_shades x_q1_facts x_q2_dials x_q2_spots x_q2_skies x_q2_reports x_q2_count x_q2_chime x_q2_end x_q2_score x_q2_reportCount x_q2_z x_q2_rules x_q2_shades x_q2_facts x_isKept x_marks x_p_first x_p_steps x_p_most x_p_many x_p_fewest x_p_everRight x_p_opening x_p_rows x_p_rowCount x_p_acts x_p_marks x_p_deepest x_p_wanted x_t_length x_t_tape x_t_words x_t_places x_t_at x_t_kinds x_t_wills x_t_starts x_t_code x_t_count x_t_size x_h_sorts x_h_lengths x_h_items x_h_held x_h_things x_h_sizes x_h_bodies x_h_traced x_h_number x_h_spot x_h_parted x_g_count x_g_kinds x_g_wills x_g_starts x_g_code x_g_stack x_g_kl x_g_wl x_g_sl x_g_cl x_nr) (Qi res.1 (cW a ar t x_q0_dials x_q0_spots x_q0_skies x_q0_reports x_q0_count x_q0_chime x_q0_end x_q0_score x_q0_reportCount x_q0_z x_q0_rules x_q0_shades x_q0_facts x_q1_dials x_q1_spots x_q1_skies x_q1_reports x_q1_count x_q1_chime x_q1_end x_q1_score x_q1_reportCount x_q1_z x_q1_rules x_q1_shades x_q1_facts res.2.1 res.2.2.1 res.2.2.2.1 res.2.2.2.2.1 res.2.2.2.2.2.1 res.2.2.2.2.2.2.1 res.2.2.2.2.2.2.2.1 res.2.2.2.2.2.2.2.2.1 res.2.2.2.2.2.2.2.2.2.1 res.2.2.2.2.2.2.2.2.2.2.1 res.2.2.2.2.2.2.2.2.2.2.2.1 res.2.2.2.2.2.2.2.2.2.2.2.2.1 res.2.2.2.2.2.2.2.2.2.2.2.2.2.1 x_isKept x_marks x_p_first x_p_steps x_p_most x_p_many x_p_fewest x_p_everRight x_p_opening res.2.2.2.2.2.2.2.2.2.2.2.2.2.2.1 res.2.2.2.2.2.2.2.2.2.2.2.2.2.2.2.1 x_p_acts x_p_marks x_p_deepest x_p_wanted x_t_length x_t_tape x_t_words x_t_places x_t_at x_t_kinds x_t_wills x_t_starts x_t_code x_t_count x_t_size x_h_sorts x_h_lengths x_h_items x_h_held x_h_things x_h_sizes x_h_bodies x_h_traced x_h_number x_h_spot x_h_parted x_g_count x_g_kinds x_g_wills x_g_starts x_g_code res.2.2.2.2.2.2.2.2.2.2.2.2.2.2.2.2 x_g_kl x_g_wl x_g_sl x_g_cl x_nr)) := by
  unfold X5_writeRows_oq0 at hf
  refine MC.ofI pn_X5 (Nat.le_of_ble_eq_true rfl) ?_
  intro p e s m args below meth c A Q ls cx hR hw hl
  have hx := cx.1
  have hb := cx.2.1
  have hl : lv_has ls 3 [(0, .ref (a 84)), (1, .ref (a 1))] := hl
  refine lv_aload_n hx hb dX5_writeRows_0 rfl (lv_at hl 0 rfl) ?_
  refine cg_X5_26_plans cx hw dX5_writeRows_1 ?_
  refine lv_aload_n hx hb dX5_writeRows_4 rfl (lv_at hl 1 rfl) ?_
  obtain ⟨r1, h2, hf⟩ := bnS hf
  refine calVv cx hw hl.1 (c_X9_copyFrom_q2_oq0 h2) q_780 k_X9_copyFrom rfl rv_q2 rfl dX5_writeRows_5 rfl (Nat.le_of_ble_eq_true rfl) ⟨Nat.le_of_ble_eq_true rfl, Nat.le_of_ble_eq_true rfl⟩ ⟨Nat.le_refl _, Nat.le_refl _⟩ (fun H locs hw => ?_)
  refine lv_iconst (v := 0) hx hb dX5_writeRows_8 (by decide) ?_
  refine lv_istore_n (lv' := [(2, .int (0 : Int32)), (0, .ref (a 84)), (1, .ref (a 1))]) hx hb dX5_writeRows_9 rfl hl (by decide) rfl (fun ls hl => ?_)
  obtain ⟨o12, ho12, hf⟩ := bnS hf
  have wL1 : ∀ (k : Nat) {v2 : Int32} {x_q2_dials : Nat → Nat → Int32} {x_q2_spots : Nat → Nat → Int32} {x_q2_skies : Nat → Int32} {x_q2_reports : Nat → Nat → Int32} {x_q2_count : Int32} {x_q2_chime : Int32} {x_q2_end : Int32} {x_q2_score : Int32} {x_q2_reportCount : Int32} {x_q2_z : Int32} {x_q2_rules : Nat} {x_q2_shades : Nat → Int32} {x_q2_facts : Nat → Int32} {x_p_rows : Nat → Nat → Int32} {x_g_stack : Nat → Nat → Int32} {H : Heap} {locs : List Loc} {ls : Array Slot} {o : Int32 × (Nat → Nat → Int32) × Int32 × Int32 × (Nat → Int32) × (Nat → Int32) × (Nat → Nat → Int32) × (Nat → Nat → Int32)}, X5_writeRows_oq0_L1 n x_q2_spots x_q2_skies x_q2_count x_q2_rules x_p_first x_p_steps x_g_count x_g_kinds x_g_wills x_g_starts x_g_code x_g_kl x_g_wl x_g_sl x_g_cl x_nr k v2 x_q2_dials x_q2_chime x_q2_score x_q2_shades x_q2_facts x_p_rows x_g_stack = some o → Wd D A s (cW a ar t x_q0_dials x_q0_spots x_q0_skies x_q0_reports x_q0_count x_q0_chime x_q0_end x_q0_score x_q0_reportCount x_q0_z x_q0_rules x_q0_shades x_q0_facts x_q1_dials x_q1_spots x_q1_skies x_q1_reports x_q1_count x_q1_chime x_q1_end x_q1_score x_q1_reportCount x_q1_z x_q1_rules x_q1_shades x_q1_facts x_q2_dials x_q2_spots x_q2_skies x_q2_reports x_q2_count x_q2_chime x_q2_end x_q2_score x_q2_reportCount x_q2_z x_q2_rules x_q2_shades x_q2_facts x_isKept x_marks x_p_first x_p_steps x_p_most x_p_many x_p_fewest x_p_everRight x_p_opening x_p_rows x_p_rowCount x_p_acts x_p_marks x_p_deepest x_p_wanted x_t_length x_t_tape x_t_words x_t_places x_t_at x_t_kinds x_t_wills x_t_starts x_t_code x_t_count x_t_size x_h_sorts x_h_lengths x_h_items x_h_held x_h_things x_h_sizes x_h_bodies x_h_traced x_h_number x_h_spot x_h_parted x_g_count x_g_kinds x_g_wills x_g_starts x_g_code x_g_stack x_g_kl x_g_wl x_g_sl x_g_cl x_nr) H locs → lv_has ls 3 [(0, .ref (a 84)), (1, .ref (a 1)), (2, .int v2)] → (∀ (H : Heap) (locs : List Loc) (ls : Array Slot), Wd D A s (cW a ar t x_q0_dials x_q0_spots x_q0_skies x_q0_reports x_q0_count x_q0_chime x_q0_end x_q0_score x_q0_reportCount x_q0_z x_q0_rules x_q0_shades x_q0_facts x_q1_dials x_q1_spots x_q1_skies x_q1_reports x_q1_count x_q1_chime x_q1_end x_q1_score x_q1_reportCount x_q1_z x_q1_rules x_q1_shades x_q1_facts o.2.1 x_q2_spots x_q2_skies x_q2_reports x_q2_count o.2.2.1 x_q2_end o.2.2.2.1 x_q2_reportCount x_q2_z x_q2_rules o.2.2.2.2.1 o.2.2.2.2.2.1 x_isKept x_marks x_p_first x_p_steps x_p_most x_p_many x_p_fewest x_p_everRight x_p_opening o.2.2.2.2.2.2.1 x_p_rowCount x_p_acts x_p_marks x_p_deepest x_p_wanted x_t_length x_t_tape x_t_words x_t_places x_t_at x_t_kinds x_t_wills x_t_starts x_t_code x_t_count x_t_size x_h_sorts x_h_lengths x_h_items x_h_held x_h_things x_h_sizes x_h_bodies x_h_traced x_h_number x_h_spot x_h_parted x_g_count x_g_kinds x_g_wills x_g_starts x_g_code o.2.2.2.2.2.2.2 x_g_kl x_g_wl x_g_sl x_g_cl x_nr) H locs → lv_has ls 3 [(0, .ref (a 84)), (1, .ref (a 1)), (2, .int o.1)] → W p l e (rmz 6 0 0) s m args below meth c H locs 0 0 Q (F0 m 74 ls [])) → W p l e (rmz 6 0 0) s m args below meth c H locs 0 0 Q (F0 m 10 ls []) := by
    clear hf ho12 hw hl
    intro k
    induction k with
    | zero => intro v2 x_q2_dials x_q2_spots x_q2_skies x_q2_reports x_q2_count x_q2_chime x_q2_end x_q2_score x_q2_reportCount x_q2_z x_q2_rules x_q2_shades x_q2_facts x_p_rows x_g_stack H locs ls o hf hw hl kx; simp [X5_writeRows_oq0_L1] at hf
    | succ k ih =>
      intro v2 x_q2_dials x_q2_spots x_q2_skies x_q2_reports x_q2_count x_q2_chime x_q2_end x_q2_score x_q2_reportCount x_q2_z x_q2_rules x_q2_shades x_q2_facts x_p_rows x_g_stack H locs ls o hf hw hl kx
      rw [X5_writeRows_oq0_L1] at hf
      refine lv_iload_n hx hb dX5_writeRows_10 rfl (lv_at hl 2 rfl) ?_
      refine lv_aload_n hx hb dX5_writeRows_11 rfl (lv_at hl 0 rfl) ?_
      refine cg_X5_43_plans cx hw dX5_writeRows_12 ?_
      refine lv_icmp_ge (tgt := 74) hx hb dX5_writeRows_15 (by decide) (fun hc => ?_) (fun hc => ?_)
      · have hf := ifT hf hc
        have hf := Option.some.inj hf
        subst hf
        exact kx _ _ _ hw (lv_sub hl [0, 1, 2] rfl)
      · have hf := ifF hf hc
        refine lv_aload_n hx hb dX5_writeRows_18 rfl (lv_at hl 0 rfl) ?_
        refine cg_X5_17_plans cx hw dX5_writeRows_19 ?_
        refine lv_iload_n hx hb dX5_writeRows_22 rfl (lv_at hl 2 rfl) ?_
        obtain ⟨h3, hf⟩ := ckS hf
        refine co_p_rows (j := v2.toNatClampNeg) cx hw (ib_in h3) rfl dX5_writeRows_23 ?_
        refine lv_iconst (v := 0) hx hb dX5_writeRows_24 (by decide) ?_
        refine lv_aload_n hx hb dX5_writeRows_25 rfl (lv_at hl 0 rfl) ?_
        refine cg_X5_9_plans cx hw dX5_writeRows_26 ?_
        refine lv_iload_n hx hb dX5_writeRows_29 rfl (lv_at hl 2 rfl) ?_
        obtain ⟨h4, hf⟩ := ckS hf
        refine cl_p_first (j := v2.toNatClampNeg) cx hw (ib_in h4) rfl dX5_writeRows_30 ?_
        refine ct_p_rows (j := 0) cx hw (ib_lt h3) (ib_in (by decide)) (by decide) dX5_writeRows_31 (fun H locs hw => ?_)
        refine lv_aload_n hx hb dX5_writeRows_32 rfl (lv_at hl 0 rfl) ?_
        refine cg_X5_17_plans cx hw dX5_writeRows_33 ?_
        refine lv_iload_n hx hb dX5_writeRows_36 rfl (lv_at hl 2 rfl) ?_
        obtain ⟨h5, hf⟩ := ckS hf
        refine co_p_rows (j := v2.toNatClampNeg) cx hw (ib_in h5) rfl dX5_writeRows_37 ?_
        refine lv_iconst (v := 1) hx hb dX5_writeRows_38 (by decide) ?_
        refine lv_aload_n hx hb dX5_writeRows_39 rfl (lv_at hl 0 rfl) ?_
        refine cg_X5_26_plans cx hw dX5_writeRows_40 ?_
        refine lv_aload_n hx hb dX5_writeRows_43 rfl (lv_at hl 0 rfl) ?_
        refine cg_X5_9_plans cx hw dX5_writeRows_44 ?_
        refine lv_iload_n hx hb dX5_writeRows_47 rfl (lv_at hl 2 rfl) ?_
        obtain ⟨h6, hf⟩ := ckS hf
        refine cl_p_first (j := v2.toNatClampNeg) cx hw (ib_in h6) rfl dX5_writeRows_48 ?_
        obtain ⟨r7, h8, hf⟩ := bnS hf
        refine calVi cx hw hl.1 (c_X9_goBy_q2 h8) q_794 k_X9_goBy rfl rv_q2 rfl dX5_writeRows_49 rfl (Nat.le_of_ble_eq_true rfl) ⟨Nat.le_of_ble_eq_true rfl, Nat.le_of_ble_eq_true rfl⟩ ⟨Nat.le_refl _, Nat.le_refl _⟩ (fun H locs hw => ?_)
        refine ct_p_rows (j := 1) cx hw (ib_lt h5) (ib_in (by decide)) (by decide) dX5_writeRows_52 (fun H locs hw => ?_)
        refine lv_aload_n hx hb dX5_writeRows_53 rfl (lv_at hl 0 rfl) ?_
        refine cg_X5_17_plans cx hw dX5_writeRows_54 ?_
        refine lv_iload_n hx hb dX5_writeRows_57 rfl (lv_at hl 2 rfl) ?_
        obtain ⟨h9, hf⟩ := ckS hf
        refine co_p_rows (j := v2.toNatClampNeg) cx hw (ib_in h9) rfl dX5_writeRows_58 ?_
        refine lv_iconst (v := 2) hx hb dX5_writeRows_59 (by decide) ?_
        refine lv_aload_n hx hb dX5_writeRows_60 rfl (lv_at hl 0 rfl) ?_
        refine cg_X5_26_plans cx hw dX5_writeRows_61 ?_
        obtain ⟨r10, h11, hf⟩ := bnS hf
        refine calVi cx hw hl.1 (c_X9_rightSet_q2 h11) q_791 k_X9_rightSet rfl rv_q2 rfl dX5_writeRows_64 rfl (Nat.le_of_ble_eq_true rfl) ⟨Nat.le_of_ble_eq_true rfl, Nat.le_of_ble_eq_true rfl⟩ ⟨Nat.le_refl _, Nat.le_refl _⟩ (fun H locs hw => ?_)
        refine ct_p_rows (j := 2) cx hw (ib_lt h9) (ib_in (by decide)) (by decide) dX5_writeRows_67 (fun H locs hw => ?_)
        refine lv_iinc (v := (v2 + (1 : Int32))) (lv' := [(2, .int (v2 + (1 : Int32))), (0, .ref (a 84)), (1, .ref (a 1))]) hx hb dX5_writeRows_68 hl (k := 2) rfl rfl (by decide) rfl (fun ls hl => ?_)
        refine lv_goto (tgt := 10) hx hb dX5_writeRows_71 (by decide) ?_
        exact ih hf hw (lv_sub hl [1, 2, 0] rfl) kx
  refine wL1 n ho12 hw (lv_sub hl [1, 2, 0] rfl) (fun H locs ls hw hl => ?_)
  clear wL1 ho12
  refine lv_aload_n hx hb dX5_writeRows_74 rfl (lv_at hl 0 rfl) ?_
  refine lv_aload_n hx hb dX5_writeRows_75 rfl (lv_at hl 0 rfl) ?_
  refine cg_X5_43_plans cx hw dX5_writeRows_76 ?_
  refine cp_X5_99_plans cx hw dX5_writeRows_79 (fun H locs hw => ?_)
  refine lv_aload_n hx hb dX5_writeRows_82 rfl (lv_at hl 0 rfl) ?_
  refine cg_X5_99_plans cx hw dX5_writeRows_83 ?_
  have hf := Option.some.inj hf
  subst hf
  exact hR _ _ _ _ _ _ hw rfl ⟨rfl, rfl⟩ dX5_writeRows_86
theorem dX11_prove_0 : decode cX11_prove 0 = .ok (.iload_n 1, 1) := by decide +kernel
theorem dX11_prove_1 : decode cX11_prove 1 = .ok (.iconst 0, 1) := by decide +kernel
theorem dX11_prove_2 : decode cX11_prove 2 = .ok (.iconst 4, 1) := by decide +kernel
theorem dX11_prove_3 : decode cX11_prove 3 = .ok (.invokestatic 74, 3) := by decide +kernel
theorem dX11_prove_6 : decode cX11_prove 6 = .ok (.ifCond .ne 5, 3) := by decide +kernel
theorem dX11_prove_9 : decode cX11_prove 9 = .ok (.iconst (-1), 1) := by decide +kernel
theorem dX11_prove_10 : decode cX11_prove 10 = .ok (.ireturn, 1) := by decide +kernel
theorem dX11_prove_11 : decode cX11_prove 11 = .ok (.aload_n 0, 1) := by decide +kernel
theorem dX11_prove_12 : decode cX11_prove 12 = .ok (.getfield 70, 3) := by decide +kernel
theorem dX11_prove_15 : decode cX11_prove 15 = .ok (.aload_n 0, 1) := by decide +kernel
theorem dX11_prove_16 : decode cX11_prove 16 = .ok (.getfield 55, 3) := by decide +kernel
theorem dX11_prove_19 : decode cX11_prove 19 = .ok (.iload_n 1, 1) := by decide +kernel
theorem dX11_prove_20 : decode cX11_prove 20 = .ok (.iconst 0, 1) := by decide +kernel
theorem dX11_prove_21 : decode cX11_prove 21 = .ok (.invokevirtual 208, 3) := by decide +kernel
theorem dX11_prove_24 : decode cX11_prove 24 = .ok (.aload_n 0, 1) := by decide +kernel
theorem dX11_prove_25 : decode cX11_prove 25 = .ok (.getfield 70, 3) := by decide +kernel
theorem dX11_prove_28 : decode cX11_prove 28 = .ok (.aload_n 0, 1) := by decide +kernel
theorem dX11_prove_29 : decode cX11_prove 29 = .ok (.getfield 55, 3) := by decide +kernel
theorem dX11_prove_32 : decode cX11_prove 32 = .ok (.invokevirtual 266, 3) := by decide +kernel
theorem dX11_prove_35 : decode cX11_prove 35 = .ok (.ireturn, 1) := by decide +kernel
theorem k_X11_prove : MV yX11_prove cX11_prove 2 (some .int) 1 := ⟨q_891, q_892, q_1, q_893, ⟨by decide, by decide, by decide +kernel⟩⟩
theorem c_X11_prove {v1 : Int32} {res : Int32 × (Nat → Nat → Int32) × (Nat → Nat → Int32) × (Nat → Int32) × (Nat → Nat → Int32) × Int32 × Int32 × Int32 × Int32 × Int32 × Int32 × Nat × (Nat → Int32) × (Nat → Int32) × (Nat → Int32) × Int32 × Int32 × Int32 × Int32 × Int32 × (Nat → Nat → Int32) × Int32 × (Nat → Int32) × (Nat → Nat → Int32) × Int32 × Int32 × (Nat → Nat → Int32)} (hf : X11_prove n x_q0_dials x_q0_spots x_q0_skies x_q0_reports x_q0_count x_q0_chime x_q0_end x_q0_score x_q0_reportCount x_q0_z x_q0_rules x_q2_dials x_q2_spots x_q2_skies x_q2_reports x_q2_count x_q2_chime x_q2_end x_q2_score x_q2_reportCount x_q2_z x_q2_rules x_q2_shades x_q2_facts x_p_first x_p_steps x_p_most x_p_many x_p_fewest x_p_everRight x_p_rows x_p_rowCount x_p_acts x_p_marks x_p_deepest x_p_wanted x_g_count x_g_kinds x_g_wills x_g_starts x_g_code x_g_stack x_g_kl x_g_wl x_g_sl x_g_cl x_nr v1 = some res) : MC l E0 D t yX11_prove cX11_prove 2 (some .int) 32 0 0 [.ref (a 0), .int v1] (cW a ar t x_q0_dials x_q0_spots x_q0_skies x_q0_reports x_q0_count x_q0_chime x_q0_end x_q0_score x_q0_reportCount x_q0_z x_q0_rules x_q0_shades x_q0_facts x_q1_dials x_q1_spots x_q1_skies x_q1_reports x_q1_count x_q1_chime x_q1_end x_q1_score x_q1_reportCount x_q1_z x_q1_rules x_q1_shades x_q1_facts x_q2_dials x_q2_spots x_q2_skies x_q2_reports x_q2_count x_q2_chime x_q2_end x_q2_score x_q2_reportCount x_q2_z x_q2_rules x_q2_shades x_q2_facts x_isKept x_marks x_p_first x_p_steps x_p_most x_p_many x_p_fewest x_p_everRight x_p_opening x_p_rows x_p_rowCount x_p_acts x_p_marks x_p_deepest x_p_wanted x_t_length x_t_tape x_t_words x_t_places x_t_at x_t_kinds x_t_wills x_t_starts x_t_code x_t_count x_t_size x_h_sorts x_h_lengths x_h_items x_h_held x_h_things x_h_sizes x_h_bodies x_h_traced x_h_number x_h_spot x_h_parted x_g_count x_g_kinds x_g_wills x_g_starts x_g_code x_g_stack x_g_kl x_g_wl x_g_sl x_g_cl x_nr) (Qi res.1 (cW a ar t x_q0_dials x_q0_spots x_q0_skies x_q0_reports x_q0_count x_q0_chime x_q0_end x_q0_score x_q0_reportCount x_q0_z x_q0_rules x_q0_shades x_q0_facts x_q1_dials x_q1_spots x_q1_skies x_q1_reports x_q1_count x_q1_chime x_q1_end x_q1_score x_q1_reportCount x_q1_z x_q1_rules x_q1_shades x_q1_facts res.2.1 res.2.2.1 res.2.2.2.1 res.2.2.2.2.1 res.2.2.2.2.2.1 res.2.2.2.2.2.2.1 res.2.2.2.2.2.2.2.1 res.2.2.2.2.2.2.2.2.1 res.2.2.2.2.2.2.2.2.2.1 res.2.2.2.2.2.2.2.2.2.2.1 res.2.2.2.2.2.2.2.2.2.2.2.1 res.2.2.2.2.2.2.2.2.2.2.2.2.1 res.2.2.2.2.2.2.2.2.2.2.2.2.2.1 x_isKept x_marks res.2.2.2.2.2.2.2.2.2.2.2.2.2.2.1 res.2.2.2.2.2.2.2.2.2.2.2.2.2.2.2.1 res.2.2.2.2.2.2.2.2.2.2.2.2.2.2.2.2.1 res.2.2.2.2.2.2.2.2.2.2.2.2.2.2.2.2.2.1 res.2.2.2.2.2.2.2.2.2.2.2.2.2.2.2.2.2.2.1 res.2.2.2.2.2.2.2.2.2.2.2.2.2.2.2.2.2.2.2.1 x_p_opening res.2.2.2.2.2.2.2.2.2.2.2.2.2.2.2.2.2.2.2.2.1 res.2.2.2.2.2.2.2.2.2.2.2.2.2.2.2.2.2.2.2.2.2.1 res.2.2.2.2.2.2.2.2.2.2.2.2.2.2.2.2.2.2.2.2.2.2.1 res.2.2.2.2.2.2.2.2.2.2.2.2.2.2.2.2.2.2.2.2.2.2.2.1 res.2.2.2.2.2.2.2.2.2.2.2.2.2.2.2.2.2.2.2.2.2.2.2.2.1 res.2.2.2.2.2.2.2.2.2.2.2.2.2.2.2.2.2.2.2.2.2.2.2.2.2.1 x_t_length x_t_tape x_t_words x_t_places x_t_at x_t_kinds x_t_wills x_t_starts x_t_code x_t_count x_t_size x_h_sorts x_h_lengths x_h_items x_h_held x_h_things x_h_sizes x_h_bodies x_h_traced x_h_number x_h_spot x_h_parted x_g_count x_g_kinds x_g_wills x_g_starts x_g_code res.2.2.2.2.2.2.2.2.2.2.2.2.2.2.2.2.2.2.2.2.2.2.2.2.2.2 x_g_kl x_g_wl x_g_sl x_g_cl x_nr)) := by
  unfold X11_prove at hf
  refine MC.ofI pn_X11 (Nat.le_of_ble_eq_true rfl) ?_
  intro p e s m args below meth c A Q ls cx hR hw hl
  have hx := cx.1
  have hb := cx.2.1
  have hl : lv_has ls 2 [(0, .ref (a 0)), (1, .int v1)] := hl
  refine lv_iload_n hx hb dX11_prove_0 rfl (lv_at hl 1 rfl) ?_
  refine lv_iconst (v := 0) hx hb dX11_prove_1 (by decide) ?_
  refine lv_iconst (v := 4) hx hb dX11_prove_2 (by decide) ?_
  refine calSi cx hw hl.1 (c_X11_isIn rfl) q_350 k_X11_isIn rfl dX11_prove_3 rfl (Nat.le_of_ble_eq_true rfl) ⟨Nat.le_of_ble_eq_true rfl, Nat.le_of_ble_eq_true rfl⟩ ⟨Nat.le_refl _, Nat.le_refl _⟩ (fun H locs hw => ?_)
  refine lv_if_ne (tgt := 11) hx hb dX11_prove_6 (by decide) (fun hc => ?_) (fun hc => ?_)
  · have hf := ifF hf hc
    refine lv_aload_n hx hb dX11_prove_11 rfl (lv_at hl 0 rfl) ?_
    refine cg_X11_70_ds cx hw dX11_prove_12 ?_
    refine lv_aload_n hx hb dX11_prove_15 rfl (lv_at hl 0 rfl) ?_
    refine cg_X11_55_ds cx hw dX11_prove_16 ?_
    refine lv_iload_n hx hb dX11_prove_19 rfl (lv_at hl 1 rfl) ?_
    refine lv_iconst (v := 0) hx hb dX11_prove_20 (by decide) ?_
    obtain ⟨r1, h2, hf⟩ := bnS hf
    refine calVv cx hw hl.1 (c_X5_look_oq0 h2) q_776 k_X5_look rfl rv_plans rfl dX11_prove_21 rfl (Nat.le_of_ble_eq_true rfl) ⟨Nat.le_of_ble_eq_true rfl, Nat.le_of_ble_eq_true rfl⟩ ⟨Nat.le_refl _, Nat.le_refl _⟩ (fun H locs hw => ?_)
    refine lv_aload_n hx hb dX11_prove_24 rfl (lv_at hl 0 rfl) ?_
    refine cg_X11_70_ds cx hw dX11_prove_25 ?_
    refine lv_aload_n hx hb dX11_prove_28 rfl (lv_at hl 0 rfl) ?_
    refine cg_X11_55_ds cx hw dX11_prove_29 ?_
    obtain ⟨r3, h4, hf⟩ := bnS hf
    refine calVi cx hw hl.1 (c_X5_writeRows_oq0 h4) q_894 k_X5_writeRows rfl rv_plans rfl dX11_prove_32 rfl (Nat.le_of_ble_eq_true rfl) ⟨Nat.le_of_ble_eq_true rfl, Nat.le_of_ble_eq_true rfl⟩ ⟨Nat.le_refl _, Nat.le_refl _⟩ (fun H locs hw => ?_)
    have hf := Option.some.inj hf
    subst hf
    exact hR _ _ _ _ _ _ hw rfl ⟨rfl, rfl⟩ dX11_prove_35
  · have hf := ifT hf hc
    refine lv_iconst (v := (-1)) hx hb dX11_prove_9 (by decide) ?_
    have hf := Option.some.inj hf
    subst hf
    exact hR _ _ _ _ _ _ hw rfl ⟨rfl, rfl⟩ dX11_prove_10
theorem dX5_hasRow_0 : decode cX5_hasRow 0 = .ok (.iload_n 1, 1) := by decide +kernel
theorem dX5_hasRow_1 : decode cX5_hasRow 1 = .ok (.ifCond .lt 24, 3) := by decide +kernel
theorem dX5_hasRow_4 : decode cX5_hasRow 4 = .ok (.iload_n 1, 1) := by decide +kernel
theorem dX5_hasRow_5 : decode cX5_hasRow 5 = .ok (.aload_n 0, 1) := by decide +kernel
theorem dX5_hasRow_6 : decode cX5_hasRow 6 = .ok (.getfield 99, 3) := by decide +kernel
theorem dX5_hasRow_9 : decode cX5_hasRow 9 = .ok (.if_icmp .ge 16, 3) := by decide +kernel
theorem dX5_hasRow_12 : decode cX5_hasRow 12 = .ok (.iload_n 2, 1) := by decide +kernel
theorem dX5_hasRow_13 : decode cX5_hasRow 13 = .ok (.ifCond .lt 12, 3) := by decide +kernel
theorem dX5_hasRow_16 : decode cX5_hasRow 16 = .ok (.iload_n 2, 1) := by decide +kernel
theorem dX5_hasRow_17 : decode cX5_hasRow 17 = .ok (.iconst 3, 1) := by decide +kernel
theorem dX5_hasRow_18 : decode cX5_hasRow 18 = .ok (.if_icmp .ge 7, 3) := by decide +kernel
theorem dX5_hasRow_21 : decode cX5_hasRow 21 = .ok (.iconst 1, 1) := by decide +kernel
theorem dX5_hasRow_22 : decode cX5_hasRow 22 = .ok (.goto 4, 3) := by decide +kernel
theorem dX5_hasRow_25 : decode cX5_hasRow 25 = .ok (.iconst 0, 1) := by decide +kernel
theorem dX5_hasRow_26 : decode cX5_hasRow 26 = .ok (.ireturn, 1) := by decide +kernel
theorem k_X5_hasRow : MV yX5_hasRow cX5_hasRow 3 (some .boolean) 2 := ⟨q_903, q_904, q_13, q_905, ⟨by decide, by decide, by decide +kernel⟩⟩
theorem c_X5_hasRow {v1 : Int32} {v2 : Int32} {res : Int32} (hf : X5_hasRow x_p_rowCount v1 v2 = res) : MC l E0 D t yX5_hasRow cX5_hasRow 3 (some .boolean) 1 0 0 [.ref (a 84), .int v1, .int v2] (cW a ar t x_q0_dials x_q0_spots x_q0_skies x_q0_reports x_q0_count x_q0_chime x_q0_end x_q0_score x_q0_reportCount x_q0_z x_q0_rules x_q0_shades x_q0_facts x_q1_dials x_q1_spots x_q1_skies x_q1_reports x_q1_count x_q1_chime x_q1_end x_q1_score x_q1_reportCount x_q1_z x_q1_rules x_q1_shades x_q1_facts x_q2_dials x_q2_spots x_q2_skies x_q2_reports x_q2_count x_q2_chime x_q2_end x_q2_score x_q2_reportCount x_q2_z x_q2_rules x_q2_shades x_q2_facts x_isKept x_marks x_p_first x_p_steps x_p_most x_p_many x_p_fewest x_p_everRight x_p_opening x_p_rows x_p_rowCount x_p_acts x_p_marks x_p_deepest x_p_wanted x_t_length x_t_tape x_t_words x_t_places x_t_at x_t_kinds x_t_wills x_t_starts x_t_code x_t_count x_t_size x_h_sorts x_h_lengths x_h_items x_h_held x_h_things x_h_sizes x_h_bodies x_h_traced x_h_number x_h_spot x_h_parted x_g_count x_g_kinds x_g_wills x_g_starts x_g_code x_g_stack x_g_kl x_g_wl x_g_sl x_g_cl x_nr) (Qi res (cW a ar t x_q0_dials x_q0_spots x_q0_skies x_q0_reports x_q0_count x_q0_chime x_q0_end x_q0_score x_q0_reportCount x_q0_z x_q0_rules x_q0_shades x_q0_facts x_q1_dials x_q1_spots x_q1_skies x_q1_reports x_q1_count x_q1_chime x_q1_end x_q1_score x_q1_reportCount x_q1_z x_q1_rules x_q1_shades x_q1_facts x_q2_dials x_q2_spots x_q2_skies x_q2_reports x_q2_count x_q2_chime x_q2_end x_q2_score x_q2_reportCount x_q2_z x_q2_rules x_q2_shades x_q2_facts x_isKept x_marks x_p_first x_p_steps x_p_most x_p_many x_p_fewest x_p_everRight x_p_opening x_p_rows x_p_rowCount x_p_acts x_p_marks x_p_deepest x_p_wanted x_t_length x_t_tape x_t_words x_t_places x_t_at x_t_kinds x_t_wills x_t_starts x_t_code x_t_count x_t_size x_h_sorts x_h_lengths x_h_items x_h_held x_h_things x_h_sizes x_h_bodies x_h_traced x_h_number x_h_spot x_h_parted x_g_count x_g_kinds x_g_wills x_g_starts x_g_code x_g_stack x_g_kl x_g_wl x_g_sl x_g_cl x_nr)) := by
  unfold X5_hasRow at hf
  refine MC.ofI pn_X5 (Nat.le_of_ble_eq_true rfl) ?_
  intro p e s m args below meth c A Q ls cx hR hw hl
  have hx := cx.1
  have hb := cx.2.1
  have hl : lv_has ls 3 [(0, .ref (a 84)), (1, .int v1), (2, .int v2)] := hl
  refine lv_iload_n hx hb dX5_hasRow_0 rfl (lv_at hl 1 rfl) ?_
  refine lv_if_lt (tgt := 25) hx hb dX5_hasRow_1 (by decide) (fun hc => ?_) (fun hc => ?_)
  · have hf := ifT hf hc
    refine lv_iconst (v := 0) hx hb dX5_hasRow_25 (by decide) ?_
    subst hf
    exact hR _ _ _ _ _ _ hw rfl ⟨rfl, rfl⟩ dX5_hasRow_26
  · have hf := ifF hf hc
    refine lv_iload_n hx hb dX5_hasRow_4 rfl (lv_at hl 1 rfl) ?_
    refine lv_aload_n hx hb dX5_hasRow_5 rfl (lv_at hl 0 rfl) ?_
    refine cg_X5_99_plans cx hw dX5_hasRow_6 ?_
    refine lv_icmp_ge (tgt := 25) hx hb dX5_hasRow_9 (by decide) (fun hc => ?_) (fun hc => ?_)
    · have hf := ifT hf hc
      refine lv_iconst (v := 0) hx hb dX5_hasRow_25 (by decide) ?_
      subst hf
      exact hR _ _ _ _ _ _ hw rfl ⟨rfl, rfl⟩ dX5_hasRow_26
    · have hf := ifF hf hc
      refine lv_iload_n hx hb dX5_hasRow_12 rfl (lv_at hl 2 rfl) ?_
      refine lv_if_lt (tgt := 25) hx hb dX5_hasRow_13 (by decide) (fun hc => ?_) (fun hc => ?_)
      · have hf := ifT hf hc
        refine lv_iconst (v := 0) hx hb dX5_hasRow_25 (by decide) ?_
        subst hf
        exact hR _ _ _ _ _ _ hw rfl ⟨rfl, rfl⟩ dX5_hasRow_26
      · have hf := ifF hf hc
        refine lv_iload_n hx hb dX5_hasRow_16 rfl (lv_at hl 2 rfl) ?_
        refine lv_iconst (v := 3) hx hb dX5_hasRow_17 (by decide) ?_
        refine lv_icmp_ge (tgt := 25) hx hb dX5_hasRow_18 (by decide) (fun hc => ?_) (fun hc => ?_)
        · have hf := ifT hf hc
          refine lv_iconst (v := 0) hx hb dX5_hasRow_25 (by decide) ?_
          subst hf
          exact hR _ _ _ _ _ _ hw rfl ⟨rfl, rfl⟩ dX5_hasRow_26
        · have hf := ifF hf hc
          refine lv_iconst (v := 1) hx hb dX5_hasRow_21 (by decide) ?_
          refine lv_goto (tgt := 26) hx hb dX5_hasRow_22 (by decide) ?_
          subst hf
          exact hR _ _ _ _ _ _ hw rfl ⟨rfl, rfl⟩ dX5_hasRow_26
theorem b_X5_hasRow (x_p_rowCount : Int32) (v1 : Int32) (v2 : Int32) : X5_hasRow x_p_rowCount v1 v2 = 0 ∨ X5_hasRow x_p_rowCount v1 v2 = 1 := by unfold X5_hasRow; repeat (first | exact Or.inl rfl | exact Or.inr rfl | split)
theorem dX11_row_0 : decode cX11_row 0 = .ok (.aload_n 0, 1) := by decide +kernel
theorem dX11_row_1 : decode cX11_row 1 = .ok (.getfield 70, 3) := by decide +kernel
theorem dX11_row_4 : decode cX11_row 4 = .ok (.iload_n 1, 1) := by decide +kernel
theorem dX11_row_5 : decode cX11_row 5 = .ok (.iload_n 2, 1) := by decide +kernel
theorem dX11_row_6 : decode cX11_row 6 = .ok (.invokevirtual 270, 3) := by decide +kernel
theorem dX11_row_9 : decode cX11_row 9 = .ok (.ifCond .eq 17, 3) := by decide +kernel
theorem dX11_row_12 : decode cX11_row 12 = .ok (.aload_n 0, 1) := by decide +kernel
theorem dX11_row_13 : decode cX11_row 13 = .ok (.getfield 70, 3) := by decide +kernel
theorem dX11_row_16 : decode cX11_row 16 = .ok (.getfield 274, 3) := by decide +kernel
theorem dX11_row_19 : decode cX11_row 19 = .ok (.iload_n 1, 1) := by decide +kernel
theorem dX11_row_20 : decode cX11_row 20 = .ok (.aaload, 1) := by decide +kernel
theorem dX11_row_21 : decode cX11_row 21 = .ok (.iload_n 2, 1) := by decide +kernel
theorem dX11_row_22 : decode cX11_row 22 = .ok (.iaload, 1) := by decide +kernel
theorem dX11_row_23 : decode cX11_row 23 = .ok (.goto 5, 3) := by decide +kernel
theorem dX11_row_26 : decode cX11_row 26 = .ok (.bipush (-9), 2) := by decide +kernel
theorem dX11_row_28 : decode cX11_row 28 = .ok (.ireturn, 1) := by decide +kernel
theorem k_X11_row : MV yX11_row cX11_row 3 (some .int) 2 := ⟨q_899, q_900, q_1, q_901, ⟨by decide, by decide, by decide +kernel⟩⟩
theorem c_X11_row {v1 : Int32} {v2 : Int32} {res : Int32} (hf : X11_row x_p_rows x_p_rowCount v1 v2 = some res) : MC l E0 D t yX11_row cX11_row 3 (some .int) 2 0 0 [.ref (a 0), .int v1, .int v2] (cW a ar t x_q0_dials x_q0_spots x_q0_skies x_q0_reports x_q0_count x_q0_chime x_q0_end x_q0_score x_q0_reportCount x_q0_z x_q0_rules x_q0_shades x_q0_facts x_q1_dials x_q1_spots x_q1_skies x_q1_reports x_q1_count x_q1_chime x_q1_end x_q1_score x_q1_reportCount x_q1_z x_q1_rules x_q1_shades x_q1_facts x_q2_dials x_q2_spots x_q2_skies x_q2_reports x_q2_count x_q2_chime x_q2_end x_q2_score x_q2_reportCount x_q2_z x_q2_rules x_q2_shades x_q2_facts x_isKept x_marks x_p_first x_p_steps x_p_most x_p_many x_p_fewest x_p_everRight x_p_opening x_p_rows x_p_rowCount x_p_acts x_p_marks x_p_deepest x_p_wanted x_t_length x_t_tape x_t_words x_t_places x_t_at x_t_kinds x_t_wills x_t_starts x_t_code x_t_count x_t_size x_h_sorts x_h_lengths x_h_items x_h_held x_h_things x_h_sizes x_h_bodies x_h_traced x_h_number x_h_spot x_h_parted x_g_count x_g_kinds x_g_wills x_g_starts x_g_code x_g_stack x_g_kl x_g_wl x_g_sl x_g_cl x_nr) (Qi res (cW a ar t x_q0_dials x_q0_spots x_q0_skies x_q0_reports x_q0_count x_q0_chime x_q0_end x_q0_score x_q0_reportCount x_q0_z x_q0_rules x_q0_shades x_q0_facts x_q1_dials x_q1_spots x_q1_skies x_q1_reports x_q1_count x_q1_chime x_q1_end x_q1_score x_q1_reportCount x_q1_z x_q1_rules x_q1_shades x_q1_facts x_q2_dials x_q2_spots x_q2_skies x_q2_reports x_q2_count x_q2_chime x_q2_end x_q2_score x_q2_reportCount x_q2_z x_q2_rules x_q2_shades x_q2_facts x_isKept x_marks x_p_first x_p_steps x_p_most x_p_many x_p_fewest x_p_everRight x_p_opening x_p_rows x_p_rowCount x_p_acts x_p_marks x_p_deepest x_p_wanted x_t_length x_t_tape x_t_words x_t_places x_t_at x_t_kinds x_t_wills x_t_starts x_t_code x_t_count x_t_size x_h_sorts x_h_lengths x_h_items x_h_held x_h_things x_h_sizes x_h_bodies x_h_traced x_h_number x_h_spot x_h_parted x_g_count x_g_kinds x_g_wills x_g_starts x_g_code x_g_stack x_g_kl x_g_wl x_g_sl x_g_cl x_nr)) := by
  unfold X11_row at hf
  refine MC.ofI pn_X11 (Nat.le_of_ble_eq_true rfl) ?_
  intro p e s m args below meth c A Q ls cx hR hw hl
  have hx := cx.1
  have hb := cx.2.1
  have hl : lv_has ls 3 [(0, .ref (a 0)), (1, .int v1), (2, .int v2)] := hl
  refine lv_aload_n hx hb dX11_row_0 rfl (lv_at hl 0 rfl) ?_
  refine cg_X11_70_ds cx hw dX11_row_1 ?_
  refine lv_iload_n hx hb dX11_row_4 rfl (lv_at hl 1 rfl) ?_
  refine lv_iload_n hx hb dX11_row_5 rfl (lv_at hl 2 rfl) ?_
  refine calVi cx hw hl.1 (c_X5_hasRow rfl) q_902 k_X5_hasRow rfl rv_plans rfl dX11_row_6 rfl (Nat.le_of_ble_eq_true rfl) ⟨Nat.le_of_ble_eq_true rfl, Nat.le_of_ble_eq_true rfl⟩ ⟨Nat.le_refl _, Nat.le_refl _⟩ (fun H locs hw => ?_)
  refine lv_if_eq (tgt := 26) hx hb dX11_row_9 (by decide) (fun hc => ?_) (fun hc => ?_)
  · have hf := ifT hf hc
    refine lv_bipush (v := (-9)) hx hb dX11_row_26 (by decide) ?_
    have hf := Option.some.inj hf
    subst hf
    exact hR _ _ _ _ _ _ hw rfl ⟨rfl, rfl⟩ dX11_row_28
  · have hf := ifF hf hc
    refine lv_aload_n hx hb dX11_row_12 rfl (lv_at hl 0 rfl) ?_
    refine cg_X11_70_ds cx hw dX11_row_13 ?_
    refine cg_X11_274_plans cx hw dX11_row_16 ?_
    refine lv_iload_n hx hb dX11_row_19 rfl (lv_at hl 1 rfl) ?_
    obtain ⟨h1, hf⟩ := ckS hf
    refine co_p_rows (j := v1.toNatClampNeg) cx hw (ib_in h1) rfl dX11_row_20 ?_
    refine lv_iload_n hx hb dX11_row_21 rfl (lv_at hl 2 rfl) ?_
    obtain ⟨h2, hf⟩ := ckS hf
    refine cm_p_rows (j := v2.toNatClampNeg) cx hw (ib_lt h1) (ib_in h2) rfl dX11_row_22 ?_
    refine lv_goto (tgt := 28) hx hb dX11_row_23 (by decide) ?_
    have hf := Option.some.inj hf
    subst hf
    exact hR _ _ _ _ _ _ hw rfl ⟨rfl, rfl⟩ dX11_row_28
theorem dX11_alterRow_0 : decode cX11_alterRow 0 = .ok (.aload_n 0, 1) := by decide +kernel
theorem dX11_alterRow_1 : decode cX11_alterRow 1 = .ok (.getfield 70, 3) := by decide +kernel
theorem dX11_alterRow_4 : decode cX11_alterRow 4 = .ok (.iload_n 1, 1) := by decide +kernel
theorem dX11_alterRow_5 : decode cX11_alterRow 5 = .ok (.iload_n 2, 1) := by decide +kernel
theorem dX11_alterRow_6 : decode cX11_alterRow 6 = .ok (.invokevirtual 270, 3) := by decide +kernel
theorem dX11_alterRow_9 : decode cX11_alterRow 9 = .ok (.ifCond .ne 6, 3) := by decide +kernel
theorem dX11_alterRow_12 : decode cX11_alterRow 12 = .ok (.bipush (-9), 2) := by decide +kernel
theorem dX11_alterRow_14 : decode cX11_alterRow 14 = .ok (.ireturn, 1) := by decide +kernel
theorem dX11_alterRow_15 : decode cX11_alterRow 15 = .ok (.aload_n 0, 1) := by decide +kernel
theorem dX11_alterRow_16 : decode cX11_alterRow 16 = .ok (.getfield 70, 3) := by decide +kernel
theorem dX11_alterRow_19 : decode cX11_alterRow 19 = .ok (.getfield 274, 3) := by decide +kernel
theorem dX11_alterRow_22 : decode cX11_alterRow 22 = .ok (.iload_n 1, 1) := by decide +kernel
theorem dX11_alterRow_23 : decode cX11_alterRow 23 = .ok (.aaload, 1) := by decide +kernel
theorem dX11_alterRow_24 : decode cX11_alterRow 24 = .ok (.iload_n 2, 1) := by decide +kernel
theorem dX11_alterRow_25 : decode cX11_alterRow 25 = .ok (.iaload, 1) := by decide +kernel
theorem dX11_alterRow_26 : decode cX11_alterRow 26 = .ok (.istore 4, 2) := by decide +kernel
theorem dX11_alterRow_28 : decode cX11_alterRow 28 = .ok (.aload_n 0, 1) := by decide +kernel
theorem dX11_alterRow_29 : decode cX11_alterRow 29 = .ok (.getfield 70, 3) := by decide +kernel
theorem dX11_alterRow_32 : decode cX11_alterRow 32 = .ok (.getfield 274, 3) := by decide +kernel
theorem dX11_alterRow_35 : decode cX11_alterRow 35 = .ok (.iload_n 1, 1) := by decide +kernel
theorem dX11_alterRow_36 : decode cX11_alterRow 36 = .ok (.aaload, 1) := by decide +kernel
theorem dX11_alterRow_37 : decode cX11_alterRow 37 = .ok (.iload_n 2, 1) := by decide +kernel
theorem dX11_alterRow_38 : decode cX11_alterRow 38 = .ok (.iload_n 3, 1) := by decide +kernel
theorem dX11_alterRow_39 : decode cX11_alterRow 39 = .ok (.iastore, 1) := by decide +kernel
theorem dX11_alterRow_40 : decode cX11_alterRow 40 = .ok (.iload 4, 2) := by decide +kernel
theorem dX11_alterRow_42 : decode cX11_alterRow 42 = .ok (.ireturn, 1) := by decide +kernel
theorem k_X11_alterRow : MV yX11_alterRow cX11_alterRow 5 (some .int) 3 := ⟨q_907, q_908, q_1, q_909, ⟨by decide, by decide, by decide +kernel⟩⟩
theorem c_X11_alterRow {v1 : Int32} {v2 : Int32} {v3 : Int32} {res : Int32 × (Nat → Nat → Int32)} (hf : X11_alterRow x_p_rows x_p_rowCount v1 v2 v3 = some res) : MC l E0 D t yX11_alterRow cX11_alterRow 5 (some .int) 2 0 0 [.ref (a 0), .int v1, .int v2, .int v3] (cW a ar t x_q0_dials x_q0_spots x_q0_skies x_q0_reports x_q0_count x_q0_chime x_q0_end x_q0_score x_q0_reportCount x_q0_z x_q0_rules x_q0_shades x_q0_facts x_q1_dials x_q1_spots x_q1_skies x_q1_reports x_q1_count x_q1_chime x_q1_end x_q1_score x_q1_reportCount x_q1_z x_q1_rules x_q1_shades x_q1_facts x_q2_dials x_q2_spots x_q2_skies x_q2_reports x_q2_count x_q2_chime x_q2_end x_q2_score x_q2_reportCount x_q2_z x_q2_rules x_q2_shades x_q2_facts x_isKept x_marks x_p_first x_p_steps x_p_most x_p_many x_p_fewest x_p_everRight x_p_opening x_p_rows x_p_rowCount x_p_acts x_p_marks x_p_deepest x_p_wanted x_t_length x_t_tape x_t_words x_t_places x_t_at x_t_kinds x_t_wills x_t_starts x_t_code x_t_count x_t_size x_h_sorts x_h_lengths x_h_items x_h_held x_h_things x_h_sizes x_h_bodies x_h_traced x_h_number x_h_spot x_h_parted x_g_count x_g_kinds x_g_wills x_g_starts x_g_code x_g_stack x_g_kl x_g_wl x_g_sl x_g_cl x_nr) (Qi res.1 (cW a ar t x_q0_dials x_q0_spots x_q0_skies x_q0_reports x_q0_count x_q0_chime x_q0_end x_q0_score x_q0_reportCount x_q0_z x_q0_rules x_q0_shades x_q0_facts x_q1_dials x_q1_spots x_q1_skies x_q1_reports x_q1_count x_q1_chime x_q1_end x_q1_score x_q1_reportCount x_q1_z x_q1_rules x_q1_shades x_q1_facts x_q2_dials x_q2_spots x_q2_skies x_q2_reports x_q2_count x_q2_chime x_q2_end x_q2_score x_q2_reportCount x_q2_z x_q2_rules x_q2_shades x_q2_facts x_isKept x_marks x_p_first x_p_steps x_p_most x_p_many x_p_fewest x_p_everRight x_p_opening res.2 x_p_rowCount x_p_acts x_p_marks x_p_deepest x_p_wanted x_t_length x_t_tape x_t_words x_t_places x_t_at x_t_kinds x_t_wills x_t_starts x_t_code x_t_count x_t_size x_h_sorts x_h_lengths x_h_items x_h_held x_h_things x_h_sizes x_h_bodies x_h_traced x_h_number x_h_spot x_h_parted x_g_count x_g_kinds x_g_wills x_g_starts x_g_code x_g_stack x_g_kl x_g_wl x_g_sl x_g_cl x_nr)) := by
  unfold X11_alterRow at hf
  refine MC.ofI pn_X11 (Nat.le_of_ble_eq_true rfl) ?_
  intro p e s m args below meth c A Q ls cx hR hw hl
  have hx := cx.1
  have hb := cx.2.1
  have hl : lv_has ls 5 [(0, .ref (a 0)), (1, .int v1), (2, .int v2), (3, .int v3)] := hl
  refine lv_aload_n hx hb dX11_alterRow_0 rfl (lv_at hl 0 rfl) ?_
  refine cg_X11_70_ds cx hw dX11_alterRow_1 ?_
  refine lv_iload_n hx hb dX11_alterRow_4 rfl (lv_at hl 1 rfl) ?_
  refine lv_iload_n hx hb dX11_alterRow_5 rfl (lv_at hl 2 rfl) ?_
  refine calVi cx hw hl.1 (c_X5_hasRow rfl) q_902 k_X5_hasRow rfl rv_plans rfl dX11_alterRow_6 rfl (Nat.le_of_ble_eq_true rfl) ⟨Nat.le_of_ble_eq_true rfl, Nat.le_of_ble_eq_true rfl⟩ ⟨Nat.le_refl _, Nat.le_refl _⟩ (fun H locs hw => ?_)
  refine lv_if_ne (tgt := 15) hx hb dX11_alterRow_9 (by decide) (fun hc => ?_) (fun hc => ?_)
  · have hf := ifF hf hc
    refine lv_aload_n hx hb dX11_alterRow_15 rfl (lv_at hl 0 rfl) ?_
    refine cg_X11_70_ds cx hw dX11_alterRow_16 ?_
    refine cg_X11_274_plans cx hw dX11_alterRow_19 ?_
    refine lv_iload_n hx hb dX11_alterRow_22 rfl (lv_at hl 1 rfl) ?_
    obtain ⟨h1, hf⟩ := ckS hf
    refine co_p_rows (j := v1.toNatClampNeg) cx hw (ib_in h1) rfl dX11_alterRow_23 ?_
    refine lv_iload_n hx hb dX11_alterRow_24 rfl (lv_at hl 2 rfl) ?_
    obtain ⟨h2, hf⟩ := ckS hf
    refine cm_p_rows (j := v2.toNatClampNeg) cx hw (ib_lt h1) (ib_in h2) rfl dX11_alterRow_25 ?_
    refine lv_istore (lv' := [(4, .int (x_p_rows v1.toNatClampNeg v2.toNatClampNeg)), (0, .ref (a 0)), (1, .int v1), (2, .int v2), (3, .int v3)]) hx hb dX11_alterRow_26 hl (by decide) rfl (fun ls hl => ?_)
    refine lv_aload_n hx hb dX11_alterRow_28 rfl (lv_at hl 1 rfl) ?_
    refine cg_X11_70_ds cx hw dX11_alterRow_29 ?_
    refine cg_X11_274_plans cx hw dX11_alterRow_32 ?_
    refine lv_iload_n hx hb dX11_alterRow_35 rfl (lv_at hl 2 rfl) ?_
    obtain ⟨h3, hf⟩ := ckS hf
    refine co_p_rows (j := v1.toNatClampNeg) cx hw (ib_in h3) rfl dX11_alterRow_36 ?_
    refine lv_iload_n hx hb dX11_alterRow_37 rfl (lv_at hl 3 rfl) ?_
    refine lv_iload_n hx hb dX11_alterRow_38 rfl (lv_at hl 4 rfl) ?_
    obtain ⟨h4, hf⟩ := ckS hf
    refine ct_p_rows (j := v2.toNatClampNeg) cx hw (ib_lt h3) (ib_in h4) rfl dX11_alterRow_39 (fun H locs hw => ?_)
    refine lv_iload hx hb dX11_alterRow_40 (lv_at hl 0 rfl) ?_
    have hf := Option.some.inj hf
    subst hf
    exact hR _ _ _ _ _ _ hw rfl ⟨rfl, rfl⟩ dX11_alterRow_42
  · have hf := ifT hf hc
    refine lv_bipush (v := (-9)) hx hb dX11_alterRow_12 (by decide) ?_
    have hf := Option.some.inj hf
    subst hf
    exact hR _ _ _ _ _ _ hw rfl ⟨rfl, rfl⟩ dX11_alterRow_14
theorem dX9_isAct_0 : decode cX9_isAct 0 = .ok (.iload_n 1, 1) := by decide +kernel
theorem dX9_isAct_1 : decode cX9_isAct 1 = .ok (.ifCond .lt 15, 3) := by decide +kernel
theorem dX9_isAct_4 : decode cX9_isAct 4 = .ok (.iload_n 1, 1) := by decide +kernel
theorem dX9_isAct_5 : decode cX9_isAct 5 = .ok (.aload_n 0, 1) := by decide +kernel
theorem dX9_isAct_6 : decode cX9_isAct 6 = .ok (.getfield 59, 3) := by decide +kernel
theorem dX9_isAct_9 : decode cX9_isAct 9 = .ok (.if_icmp .gt 7, 3) := by decide +kernel
theorem dX9_isAct_12 : decode cX9_isAct 12 = .ok (.iconst 1, 1) := by decide +kernel
theorem dX9_isAct_13 : decode cX9_isAct 13 = .ok (.goto 4, 3) := by decide +kernel
theorem dX9_isAct_16 : decode cX9_isAct 16 = .ok (.iconst 0, 1) := by decide +kernel
theorem dX9_isAct_17 : decode cX9_isAct 17 = .ok (.ireturn, 1) := by decide +kernel
theorem k_X9_isAct : MV yX9_isAct cX9_isAct 2 (some .boolean) 1 := ⟨q_919, q_920, q_11, q_921, ⟨by decide, by decide, by decide +kernel⟩⟩
theorem c_X9_isAct_q2 {v1 : Int32} {res : Int32} (hf : X9_isAct_q2 x_q2_count v1 = res) : MC l E0 D t yX9_isAct cX9_isAct 2 (some .boolean) 1 0 0 [.ref (a 51), .int v1] (cW a ar t x_q0_dials x_q0_spots x_q0_skies x_q0_reports x_q0_count x_q0_chime x_q0_end x_q0_score x_q0_reportCount x_q0_z x_q0_rules x_q0_shades x_q0_facts x_q1_dials x_q1_spots x_q1_skies x_q1_reports x_q1_count x_q1_chime x_q1_end x_q1_score x_q1_reportCount x_q1_z x_q1_rules x_q1_shades x_q1_facts x_q2_dials x_q2_spots x_q2_skies x_q2_reports x_q2_count x_q2_chime x_q2_end x_q2_score x_q2_reportCount x_q2_z x_q2_rules x_q2_shades x_q2_facts x_isKept x_marks x_p_first x_p_steps x_p_most x_p_many x_p_fewest x_p_everRight x_p_opening x_p_rows x_p_rowCount x_p_acts x_p_marks x_p_deepest x_p_wanted x_t_length x_t_tape x_t_words x_t_places x_t_at x_t_kinds x_t_wills x_t_starts x_t_code x_t_count x_t_size x_h_sorts x_h_lengths x_h_items x_h_held x_h_things x_h_sizes x_h_bodies x_h_traced x_h_number x_h_spot x_h_parted x_g_count x_g_kinds x_g_wills x_g_starts x_g_code x_g_stack x_g_kl x_g_wl x_g_sl x_g_cl x_nr) (Qi res (cW a ar t x_q0_dials x_q0_spots x_q0_skies x_q0_reports x_q0_count x_q0_chime x_q0_end x_q0_score x_q0_reportCount x_q0_z x_q0_rules x_q0_shades x_q0_facts x_q1_dials x_q1_spots x_q1_skies x_q1_reports x_q1_count x_q1_chime x_q1_end x_q1_score x_q1_reportCount x_q1_z x_q1_rules x_q1_shades x_q1_facts x_q2_dials x_q2_spots x_q2_skies x_q2_reports x_q2_count x_q2_chime x_q2_end x_q2_score x_q2_reportCount x_q2_z x_q2_rules x_q2_shades x_q2_facts x_isKept x_marks x_p_first x_p_steps x_p_most x_p_many x_p_fewest x_p_everRight x_p_opening x_p_rows x_p_rowCount x_p_acts x_p_marks x_p_deepest x_p_wanted x_t_length x_t_tape x_t_words x_t_places x_t_at x_t_kinds x_t_wills x_t_starts x_t_code x_t_count x_t_size x_h_sorts x_h_lengths x_h_items x_h_held x_h_things x_h_sizes x_h_bodies x_h_traced x_h_number x_h_spot x_h_parted x_g_count x_g_kinds x_g_wills x_g_starts x_g_code x_g_stack x_g_kl x_g_wl x_g_sl x_g_cl x_nr)) := by
  unfold X9_isAct_q2 at hf
  refine MC.ofI pn_X9 (Nat.le_of_ble_eq_true rfl) ?_
  intro p e s m args below meth c A Q ls cx hR hw hl
  have hx := cx.1
  have hb := cx.2.1
  have hl : lv_has ls 2 [(0, .ref (a 51)), (1, .int v1)] := hl
  refine lv_iload_n hx hb dX9_isAct_0 rfl (lv_at hl 1 rfl) ?_
  refine lv_if_lt (tgt := 16) hx hb dX9_isAct_1 (by decide) (fun hc => ?_) (fun hc => ?_)
  · have hf := ifT hf hc
    refine lv_iconst (v := 0) hx hb dX9_isAct_16 (by decide) ?_
    subst hf
    exact hR _ _ _ _ _ _ hw rfl ⟨rfl, rfl⟩ dX9_isAct_17
  · have hf := ifF hf hc
    refine lv_iload_n hx hb dX9_isAct_4 rfl (lv_at hl 1 rfl) ?_
    refine lv_aload_n hx hb dX9_isAct_5 rfl (lv_at hl 0 rfl) ?_
    refine cg_X9_59_q2 cx hw dX9_isAct_6 ?_
    refine lv_icmp_gt (tgt := 16) hx hb dX9_isAct_9 (by decide) (fun hc => ?_) (fun hc => ?_)
    · have hf := ifT hf hc
      refine lv_iconst (v := 0) hx hb dX9_isAct_16 (by decide) ?_
      subst hf
      exact hR _ _ _ _ _ _ hw rfl ⟨rfl, rfl⟩ dX9_isAct_17
    · have hf := ifF hf hc
      refine lv_iconst (v := 1) hx hb dX9_isAct_12 (by decide) ?_
      refine lv_goto (tgt := 17) hx hb dX9_isAct_13 (by decide) ?_
      subst hf
      exact hR _ _ _ _ _ _ hw rfl ⟨rfl, rfl⟩ dX9_isAct_17
theorem b_X9_isAct_q2 (x_q2_count : Int32) (v1 : Int32) : X9_isAct_q2 x_q2_count v1 = 0 ∨ X9_isAct_q2 x_q2_count v1 = 1 := by unfold X9_isAct_q2; repeat (first | exact Or.inl rfl | exact Or.inr rfl | split)
theorem dX5_readRows_0 : decode cX5_readRows 0 = .ok (.aload_n 0, 1) := by decide +kernel
theorem dX5_readRows_1 : decode cX5_readRows 1 = .ok (.getfield 26, 3) := by decide +kernel
theorem dX5_readRows_4 : decode cX5_readRows 4 = .ok (.aload_n 1, 1) := by decide +kernel
theorem dX5_readRows_5 : decode cX5_readRows 5 = .ok (.invokevirtual 30, 3) := by decide +kernel
theorem dX5_readRows_8 : decode cX5_readRows 8 = .ok (.iconst 0, 1) := by decide +kernel
theorem dX5_readRows_9 : decode cX5_readRows 9 = .ok (.istore_n 2, 1) := by decide +kernel
theorem dX5_readRows_10 : decode cX5_readRows 10 = .ok (.iload_n 2, 1) := by decide +kernel
theorem dX5_readRows_11 : decode cX5_readRows 11 = .ok (.aload_n 0, 1) := by decide +kernel
theorem dX5_readRows_12 : decode cX5_readRows 12 = .ok (.getfield 99, 3) := by decide +kernel
theorem dX5_readRows_15 : decode cX5_readRows 15 = .ok (.if_icmp .ge 84, 3) := by decide +kernel
theorem dX5_readRows_18 : decode cX5_readRows 18 = .ok (.aload_n 0, 1) := by decide +kernel
theorem dX5_readRows_19 : decode cX5_readRows 19 = .ok (.getfield 17, 3) := by decide +kernel
theorem dX5_readRows_22 : decode cX5_readRows 22 = .ok (.iload_n 2, 1) := by decide +kernel
theorem dX5_readRows_23 : decode cX5_readRows 23 = .ok (.aaload, 1) := by decide +kernel
theorem dX5_readRows_24 : decode cX5_readRows 24 = .ok (.iconst 0, 1) := by decide +kernel
theorem dX5_readRows_25 : decode cX5_readRows 25 = .ok (.iaload, 1) := by decide +kernel
theorem dX5_readRows_26 : decode cX5_readRows 26 = .ok (.istore_n 3, 1) := by decide +kernel
theorem dX5_readRows_27 : decode cX5_readRows 27 = .ok (.aload_n 0, 1) := by decide +kernel
theorem dX5_readRows_28 : decode cX5_readRows 28 = .ok (.getfield 26, 3) := by decide +kernel
theorem dX5_readRows_31 : decode cX5_readRows 31 = .ok (.iload_n 3, 1) := by decide +kernel
theorem dX5_readRows_32 : decode cX5_readRows 32 = .ok (.invokevirtual 102, 3) := by decide +kernel
theorem dX5_readRows_35 : decode cX5_readRows 35 = .ok (.ifCond .eq 13, 3) := by decide +kernel
theorem dX5_readRows_38 : decode cX5_readRows 38 = .ok (.aload_n 0, 1) := by decide +kernel
theorem dX5_readRows_39 : decode cX5_readRows 39 = .ok (.getfield 26, 3) := by decide +kernel
theorem dX5_readRows_42 : decode cX5_readRows 42 = .ok (.invokevirtual 62, 3) := by decide +kernel
theorem dX5_readRows_45 : decode cX5_readRows 45 = .ok (.ifCond .eq 7, 3) := by decide +kernel
theorem dX5_readRows_48 : decode cX5_readRows 48 = .ok (.iload_n 2, 1) := by decide +kernel
theorem dX5_readRows_49 : decode cX5_readRows 49 = .ok (.iconst 1, 1) := by decide +kernel
theorem dX5_readRows_50 : decode cX5_readRows 50 = .ok (.iadd, 1) := by decide +kernel
theorem dX5_readRows_51 : decode cX5_readRows 51 = .ok (.ireturn, 1) := by decide +kernel
theorem dX5_readRows_52 : decode cX5_readRows 52 = .ok (.aload_n 0, 1) := by decide +kernel
theorem dX5_readRows_53 : decode cX5_readRows 53 = .ok (.getfield 26, 3) := by decide +kernel
theorem dX5_readRows_56 : decode cX5_readRows 56 = .ok (.iload_n 3, 1) := by decide +kernel
theorem dX5_readRows_57 : decode cX5_readRows 57 = .ok (.invokevirtual 79, 3) := by decide +kernel
theorem dX5_readRows_60 : decode cX5_readRows 60 = .ok (.aload_n 0, 1) := by decide +kernel
theorem dX5_readRows_61 : decode cX5_readRows 61 = .ok (.getfield 17, 3) := by decide +kernel
theorem dX5_readRows_64 : decode cX5_readRows 64 = .ok (.iload_n 2, 1) := by decide +kernel
theorem dX5_readRows_65 : decode cX5_readRows 65 = .ok (.aaload, 1) := by decide +kernel
theorem dX5_readRows_66 : decode cX5_readRows 66 = .ok (.iconst 1, 1) := by decide +kernel
theorem dX5_readRows_67 : decode cX5_readRows 67 = .ok (.iaload, 1) := by decide +kernel
theorem dX5_readRows_68 : decode cX5_readRows 68 = .ok (.if_icmp .ne 21, 3) := by decide +kernel
theorem dX5_readRows_71 : decode cX5_readRows 71 = .ok (.aload_n 0, 1) := by decide +kernel
theorem dX5_readRows_72 : decode cX5_readRows 72 = .ok (.getfield 26, 3) := by decide +kernel
theorem dX5_readRows_75 : decode cX5_readRows 75 = .ok (.invokevirtual 89, 3) := by decide +kernel
theorem dX5_readRows_78 : decode cX5_readRows 78 = .ok (.aload_n 0, 1) := by decide +kernel
theorem dX5_readRows_79 : decode cX5_readRows 79 = .ok (.getfield 17, 3) := by decide +kernel
theorem dX5_readRows_82 : decode cX5_readRows 82 = .ok (.iload_n 2, 1) := by decide +kernel
theorem dX5_readRows_83 : decode cX5_readRows 83 = .ok (.aaload, 1) := by decide +kernel
theorem dX5_readRows_84 : decode cX5_readRows 84 = .ok (.iconst 2, 1) := by decide +kernel
theorem dX5_readRows_85 : decode cX5_readRows 85 = .ok (.iaload, 1) := by decide +kernel
theorem dX5_readRows_86 : decode cX5_readRows 86 = .ok (.if_icmp .eq 7, 3) := by decide +kernel
theorem dX5_readRows_89 : decode cX5_readRows 89 = .ok (.iload_n 2, 1) := by decide +kernel
theorem dX5_readRows_90 : decode cX5_readRows 90 = .ok (.iconst 1, 1) := by decide +kernel
theorem dX5_readRows_91 : decode cX5_readRows 91 = .ok (.iadd, 1) := by decide +kernel
theorem dX5_readRows_92 : decode cX5_readRows 92 = .ok (.ireturn, 1) := by decide +kernel
theorem dX5_readRows_93 : decode cX5_readRows 93 = .ok (.iinc 2 1, 3) := by decide +kernel
theorem dX5_readRows_96 : decode cX5_readRows 96 = .ok (.goto (-86), 3) := by decide +kernel
theorem dX5_readRows_99 : decode cX5_readRows 99 = .ok (.iconst 0, 1) := by decide +kernel
theorem dX5_readRows_100 : decode cX5_readRows 100 = .ok (.ireturn, 1) := by decide +kernel
theorem k_X5_readRows : MV yX5_readRows cX5_readRows 4 (some .int) 1 := ⟨q_915, q_916, q_13, q_917, ⟨by decide, by decide, by decide +kernel⟩⟩
theorem c_X5_readRows_oq0 {res : Int32 × (Nat → Nat → Int32) × (Nat → Nat → Int32) × (Nat → Int32) × (Nat → Nat → Int32) × Int32 × Int32 × Int32 × Int32 × Int32 × Int32 × Nat × (Nat → Int32) × (Nat → Int32) × (Nat → Nat → Int32)} (hf : X5_readRows_oq0 n x_q0_dials x_q0_spots x_q0_skies x_q0_reports x_q0_count x_q0_chime x_q0_end x_q0_score x_q0_reportCount x_q0_z x_q0_rules x_q2_dials x_q2_spots x_q2_skies x_q2_reports x_q2_shades x_q2_facts x_p_rows x_p_rowCount x_g_count x_g_kinds x_g_wills x_g_starts x_g_code x_g_stack x_g_kl x_g_wl x_g_sl x_g_cl x_nr = some res) : MC l E0 D t yX5_readRows cX5_readRows 4 (some .int) 6 0 0 [.ref (a 84), .ref (a 1)] (cW a ar t x_q0_dials x_q0_spots x_q0_skies x_q0_reports x_q0_count x_q0_chime x_q0_end x_q0_score x_q0_reportCount x_q0_z x_q0_rules x_q0_shades x_q0_facts x_q1_dials x_q1_spots x_q1_skies x_q1_reports x_q1_count x_q1_chime x_q1_end x_q1_score x_q1_reportCount x_q1_z x_q1_rules x_q1_shades x_q1_facts x_q2_dials x_q2_spots x_q2_skies x_q2_reports x_q2_count x_q2_chime x_q2_end x_q2_score x_q2_reportCount x_q2_z x_q2_rules x_q2_shades x_q2_facts x_isKept x_marks x_p_first x_p_steps x_p_most x_p_many x_p_fewest x_p_everRight x_p_opening x_p_rows x_p_rowCount x_p_acts x_p_marks x_p_deepest x_p_wanted x_t_length x_t_tape x_t_words x_t_places x_t_at x_t_kinds x_t_wills x_t_starts x_t_code x_t_count x_t_size x_h_sorts x_h_lengths x_h_items x_h_held x_h_things x_h_sizes x_h_bodies x_h_traced x_h_number x_h_spot x_h_parted x_g_count x_g_kinds x_g_wills x_g_starts x_g_code x_g_stack x_g_kl x_g_wl x_g_sl x_g_cl x_nr) (Qi res.1 (cW a ar t x_q0_dials x_q0_spots x_q0_skies x_q0_reports x_q0_count x_q0_chime x_q0_end x_q0_score x_q0_reportCount x_q0_z x_q0_rules x_q0_shades x_q0_facts x_q1_dials x_q1_spots x_q1_skies x_q1_reports x_q1_count x_q1_chime x_q1_end x_q1_score x_q1_reportCount x_q1_z x_q1_rules x_q1_shades x_q1_facts res.2.1 res.2.2.1 res.2.2.2.1 res.2.2.2.2.1 res.2.2.2.2.2.1 res.2.2.2.2.2.2.1 res.2.2.2.2.2.2.2.1 res.2.2.2.2.2.2.2.2.1 res.2.2.2.2.2.2.2.2.2.1 res.2.2.2.2.2.2.2.2.2.2.1 res.2.2.2.2.2.2.2.2.2.2.2.1 res.2.2.2.2.2.2.2.2.2.2.2.2.1 res.2.2.2.2.2.2.2.2.2.2.2.2.2.1 x_isKept x_marks x_p_first x_p_steps x_p_most x_p_many x_p_fewest x_p_everRight x_p_opening x_p_rows x_p_rowCount x_p_acts x_p_marks x_p_deepest x_p_wanted x_t_length x_t_tape x_t_words x_t_places x_t_at x_t_kinds x_t_wills x_t_starts x_t_code x_t_count x_t_size x_h_sorts x_h_lengths x_h_items x_h_held x_h_things x_h_sizes x_h_bodies x_h_traced x_h_number x_h_spot x_h_parted x_g_count x_g_kinds x_g_wills x_g_starts x_g_code res.2.2.2.2.2.2.2.2.2.2.2.2.2.2 x_g_kl x_g_wl x_g_sl x_g_cl x_nr)) := by
  unfold X5_readRows_oq0 at hf
  refine MC.ofI pn_X5 (Nat.le_of_ble_eq_true rfl) ?_
  intro p e s m args below meth c A Q ls cx hR hw hl
  have hx := cx.1
  have hb := cx.2.1
  have hl : lv_has ls 4 [(0, .ref (a 84)), (1, .ref (a 1))] := hl
  refine lv_aload_n hx hb dX5_readRows_0 rfl (lv_at hl 0 rfl) ?_
  refine cg_X5_26_plans cx hw dX5_readRows_1 ?_
  refine lv_aload_n hx hb dX5_readRows_4 rfl (lv_at hl 1 rfl) ?_
  obtain ⟨r1, h2, hf⟩ := bnS hf
  refine calVv cx hw hl.1 (c_X9_copyFrom_q2_oq0 h2) q_780 k_X9_copyFrom rfl rv_q2 rfl dX5_readRows_5 rfl (Nat.le_of_ble_eq_true rfl) ⟨Nat.le_of_ble_eq_true rfl, Nat.le_of_ble_eq_true rfl⟩ ⟨Nat.le_refl _, Nat.le_refl _⟩ (fun H locs hw => ?_)
  refine lv_iconst (v := 0) hx hb dX5_readRows_8 (by decide) ?_
  refine lv_istore_n (lv' := [(2, .int (0 : Int32)), (0, .ref (a 84)), (1, .ref (a 1))]) hx hb dX5_readRows_9 rfl hl (by decide) rfl (fun ls hl => ?_)
  obtain ⟨K1, hK1, hf⟩ := jnS hf
  have kx1 : ∀ (o10 : Int32 × (Nat → Nat → Int32) × Int32 × Int32 × (Nat → Int32) × (Nat → Int32) × (Nat → Nat → Int32)) (H : Heap) (locs : List Loc) (ls : Array Slot), K1 o10 = some res → Wd D A s (cW a ar t x_q0_dials x_q0_spots x_q0_skies x_q0_reports x_q0_count x_q0_chime x_q0_end x_q0_score x_q0_reportCount x_q0_z x_q0_rules x_q0_shades x_q0_facts x_q1_dials x_q1_spots x_q1_skies x_q1_reports x_q1_count x_q1_chime x_q1_end x_q1_score x_q1_reportCount x_q1_z x_q1_rules x_q1_shades x_q1_facts o10.2.1 r1.2.1 r1.2.2.1 r1.2.2.2.1 r1.2.2.2.2.1 o10.2.2.1 r1.2.2.2.2.2.2.1 o10.2.2.2.1 r1.2.2.2.2.2.2.2.2.1 r1.2.2.2.2.2.2.2.2.2.1 r1.2.2.2.2.2.2.2.2.2.2 o10.2.2.2.2.1 o10.2.2.2.2.2.1 x_isKept x_marks x_p_first x_p_steps x_p_most x_p_many x_p_fewest x_p_everRight x_p_opening x_p_rows x_p_rowCount x_p_acts x_p_marks x_p_deepest x_p_wanted x_t_length x_t_tape x_t_words x_t_places x_t_at x_t_kinds x_t_wills x_t_starts x_t_code x_t_count x_t_size x_h_sorts x_h_lengths x_h_items x_h_held x_h_things x_h_sizes x_h_bodies x_h_traced x_h_number x_h_spot x_h_parted x_g_count x_g_kinds x_g_wills x_g_starts x_g_code o10.2.2.2.2.2.2 x_g_kl x_g_wl x_g_sl x_g_cl x_nr) H locs → lv_has ls 4 [(0, .ref (a 84)), (1, .ref (a 1)), (2, .int o10.1)] → W p l e (rmz 6 0 0) s m args below meth c H locs 0 0 Q (F0 m 99 ls []) := by
    intro o10 H locs ls hf hw hl
    have hf := hK1 _ hf
    refine lv_iconst (v := 0) hx hb dX5_readRows_99 (by decide) ?_
    have hf := Option.some.inj hf
    subst hf
    exact hR _ _ _ _ _ _ hw rfl ⟨rfl, rfl⟩ dX5_readRows_100
  have wL1 : ∀ (k : Nat) {v2 : Int32} {x_q2_dials : Nat → Nat → Int32} {x_q2_spots : Nat → Nat → Int32} {x_q2_skies : Nat → Int32} {x_q2_reports : Nat → Nat → Int32} {x_q2_count : Int32} {x_q2_chime : Int32} {x_q2_end : Int32} {x_q2_score : Int32} {x_q2_reportCount : Int32} {x_q2_z : Int32} {x_q2_rules : Nat} {x_q2_shades : Nat → Int32} {x_q2_facts : Nat → Int32} {x_g_stack : Nat → Nat → Int32} {H : Heap} {locs : List Loc} {ls : Array Slot}, X5_readRows_oq0_L1 n x_q2_spots x_q2_skies x_q2_reports x_q2_count x_q2_end x_q2_reportCount x_q2_z x_q2_rules x_p_rows x_p_rowCount x_g_count x_g_kinds x_g_wills x_g_starts x_g_code x_g_kl x_g_wl x_g_sl x_g_cl x_nr K1 k v2 x_q2_dials x_q2_chime x_q2_score x_q2_shades x_q2_facts x_g_stack = some res → Wd D A s (cW a ar t x_q0_dials x_q0_spots x_q0_skies x_q0_reports x_q0_count x_q0_chime x_q0_end x_q0_score x_q0_reportCount x_q0_z x_q0_rules x_q0_shades x_q0_facts x_q1_dials x_q1_spots x_q1_skies x_q1_reports x_q1_count x_q1_chime x_q1_end x_q1_score x_q1_reportCount x_q1_z x_q1_rules x_q1_shades x_q1_facts x_q2_dials x_q2_spots x_q2_skies x_q2_reports x_q2_count x_q2_chime x_q2_end x_q2_score x_q2_reportCount x_q2_z x_q2_rules x_q2_shades x_q2_facts x_isKept x_marks x_p_first x_p_steps x_p_most x_p_many x_p_fewest x_p_everRight x_p_opening x_p_rows x_p_rowCount x_p_acts x_p_marks x_p_deepest x_p_wanted x_t_length x_t_tape x_t_words x_t_places x_t_at x_t_kinds x_t_wills x_t_starts x_t_code x_t_count x_t_size x_h_sorts x_h_lengths x_h_items x_h_held x_h_things x_h_sizes x_h_bodies x_h_traced x_h_number x_h_spot x_h_parted x_g_count x_g_kinds x_g_wills x_g_starts x_g_code x_g_stack x_g_kl x_g_wl x_g_sl x_g_cl x_nr) H locs → lv_has ls 4 [(0, .ref (a 84)), (1, .ref (a 1)), (2, .int v2)] → (∀ (o : Int32 × (Nat → Nat → Int32) × Int32 × Int32 × (Nat → Int32) × (Nat → Int32) × (Nat → Nat → Int32)) (H : Heap) (locs : List Loc) (ls : Array Slot), K1 o = some res → Wd D A s (cW a ar t x_q0_dials x_q0_spots x_q0_skies x_q0_reports x_q0_count x_q0_chime x_q0_end x_q0_score x_q0_reportCount x_q0_z x_q0_rules x_q0_shades x_q0_facts x_q1_dials x_q1_spots x_q1_skies x_q1_reports x_q1_count x_q1_chime x_q1_end x_q1_score x_q1_reportCount x_q1_z x_q1_rules x_q1_shades x_q1_facts o.2.1 x_q2_spots x_q2_skies x_q2_reports x_q2_count o.2.2.1 x_q2_end o.2.2.2.1 x_q2_reportCount x_q2_z x_q2_rules o.2.2.2.2.1 o.2.2.2.2.2.1 x_isKept x_marks x_p_first x_p_steps x_p_most x_p_many x_p_fewest x_p_everRight x_p_opening x_p_rows x_p_rowCount x_p_acts x_p_marks x_p_deepest x_p_wanted x_t_length x_t_tape x_t_words x_t_places x_t_at x_t_kinds x_t_wills x_t_starts x_t_code x_t_count x_t_size x_h_sorts x_h_lengths x_h_items x_h_held x_h_things x_h_sizes x_h_bodies x_h_traced x_h_number x_h_spot x_h_parted x_g_count x_g_kinds x_g_wills x_g_starts x_g_code o.2.2.2.2.2.2 x_g_kl x_g_wl x_g_sl x_g_cl x_nr) H locs → lv_has ls 4 [(0, .ref (a 84)), (1, .ref (a 1)), (2, .int o.1)] → W p l e (rmz 6 0 0) s m args below meth c H locs 0 0 Q (F0 m 99 ls [])) → W p l e (rmz 6 0 0) s m args below meth c H locs 0 0 Q (F0 m 10 ls []) := by
    clear hf hw hl hK1 kx1
    intro k
    induction k with
    | zero => intro v2 x_q2_dials x_q2_spots x_q2_skies x_q2_reports x_q2_count x_q2_chime x_q2_end x_q2_score x_q2_reportCount x_q2_z x_q2_rules x_q2_shades x_q2_facts x_g_stack H locs ls hf hw hl kx; simp [X5_readRows_oq0_L1] at hf
    | succ k ih =>
      intro v2 x_q2_dials x_q2_spots x_q2_skies x_q2_reports x_q2_count x_q2_chime x_q2_end x_q2_score x_q2_reportCount x_q2_z x_q2_rules x_q2_shades x_q2_facts x_g_stack H locs ls hf hw hl kx
      rw [X5_readRows_oq0_L1] at hf
      refine lv_iload_n hx hb dX5_readRows_10 rfl (lv_at hl 2 rfl) ?_
      refine lv_aload_n hx hb dX5_readRows_11 rfl (lv_at hl 0 rfl) ?_
      refine cg_X5_99_plans cx hw dX5_readRows_12 ?_
      refine lv_icmp_ge (tgt := 99) hx hb dX5_readRows_15 (by decide) (fun hc => ?_) (fun hc => ?_)
      · have hf := ifT hf hc
        exact kx _ _ _ _ hf hw (lv_sub hl [0, 1, 2] rfl)
      · have hf := ifF hf hc
        refine lv_aload_n hx hb dX5_readRows_18 rfl (lv_at hl 0 rfl) ?_
        refine cg_X5_17_plans cx hw dX5_readRows_19 ?_
        refine lv_iload_n hx hb dX5_readRows_22 rfl (lv_at hl 2 rfl) ?_
        obtain ⟨h3, hf⟩ := ckS hf
        refine co_p_rows (j := v2.toNatClampNeg) cx hw (ib_in h3) rfl dX5_readRows_23 ?_
        refine lv_iconst (v := 0) hx hb dX5_readRows_24 (by decide) ?_
        refine cm_p_rows (j := 0) cx hw (ib_lt h3) (ib_in (by decide)) (by decide) dX5_readRows_25 ?_
        refine lv_istore_n (lv' := [(3, .int (x_p_rows v2.toNatClampNeg 0)), (0, .ref (a 84)), (1, .ref (a 1)), (2, .int v2)]) hx hb dX5_readRows_26 rfl hl (by decide) rfl (fun ls hl => ?_)
        refine lv_aload_n hx hb dX5_readRows_27 rfl (lv_at hl 1 rfl) ?_
        refine cg_X5_26_plans cx hw dX5_readRows_28 ?_
        refine lv_iload_n hx hb dX5_readRows_31 rfl (lv_at hl 0 rfl) ?_
        refine calVi cx hw hl.1 (c_X9_isAct_q2 rfl) q_918 k_X9_isAct rfl rv_q2 rfl dX5_readRows_32 rfl (Nat.le_of_ble_eq_true rfl) ⟨Nat.le_of_ble_eq_true rfl, Nat.le_of_ble_eq_true rfl⟩ ⟨Nat.le_refl _, Nat.le_refl _⟩ (fun H locs hw => ?_)
        refine lv_if_eq (tgt := 48) hx hb dX5_readRows_35 (by decide) (fun hc => ?_) (fun hc => ?_)
        · have hf := ifT hf hc
          refine lv_iload_n hx hb dX5_readRows_48 rfl (lv_at hl 3 rfl) ?_
          refine lv_iconst (v := 1) hx hb dX5_readRows_49 (by decide) ?_
          refine lv_iadd hx hb dX5_readRows_50 ?_
          have hf := Option.some.inj hf
          subst hf
          exact hR _ _ _ _ _ _ hw rfl ⟨rfl, rfl⟩ dX5_readRows_51
        · have hf := ifF hf hc
          refine lv_aload_n hx hb dX5_readRows_38 rfl (lv_at hl 1 rfl) ?_
          refine cg_X5_26_plans cx hw dX5_readRows_39 ?_
          refine calVi cx hw hl.1 (c_X9_isOver_q2 rfl) q_785 k_X9_isOver rfl rv_q2 rfl dX5_readRows_42 rfl (Nat.le_of_ble_eq_true rfl) ⟨Nat.le_of_ble_eq_true rfl, Nat.le_of_ble_eq_true rfl⟩ ⟨Nat.le_refl _, Nat.le_refl _⟩ (fun H locs hw => ?_)
          refine lv_if_eq (tgt := 52) hx hb dX5_readRows_45 (by decide) (fun hc => ?_) (fun hc => ?_)
          · have hf := ifT hf hc
            refine lv_aload_n hx hb dX5_readRows_52 rfl (lv_at hl 1 rfl) ?_
            refine cg_X5_26_plans cx hw dX5_readRows_53 ?_
            refine lv_iload_n hx hb dX5_readRows_56 rfl (lv_at hl 0 rfl) ?_
            obtain ⟨r4, h5, hf⟩ := bnS hf
            refine calVi cx hw hl.1 (c_X9_goBy_q2 h5) q_794 k_X9_goBy rfl rv_q2 rfl dX5_readRows_57 rfl (Nat.le_of_ble_eq_true rfl) ⟨Nat.le_of_ble_eq_true rfl, Nat.le_of_ble_eq_true rfl⟩ ⟨Nat.le_refl _, Nat.le_refl _⟩ (fun H locs hw => ?_)
            refine lv_aload_n hx hb dX5_readRows_60 rfl (lv_at hl 1 rfl) ?_
            refine cg_X5_17_plans cx hw dX5_readRows_61 ?_
            refine lv_iload_n hx hb dX5_readRows_64 rfl (lv_at hl 3 rfl) ?_
            obtain ⟨h6, hf⟩ := ckS hf
            refine co_p_rows (j := v2.toNatClampNeg) cx hw (ib_in h6) rfl dX5_readRows_65 ?_
            refine lv_iconst (v := 1) hx hb dX5_readRows_66 (by decide) ?_
            refine cm_p_rows (j := 1) cx hw (ib_lt h6) (ib_in (by decide)) (by decide) dX5_readRows_67 ?_
            refine lv_icmp_ne (tgt := 89) hx hb dX5_readRows_68 (by decide) (fun hc => ?_) (fun hc => ?_)
            · have hf := ifF hf hc
              refine lv_iload_n hx hb dX5_readRows_89 rfl (lv_at hl 3 rfl) ?_
              refine lv_iconst (v := 1) hx hb dX5_readRows_90 (by decide) ?_
              refine lv_iadd hx hb dX5_readRows_91 ?_
              have hf := Option.some.inj hf
              subst hf
              exact hR _ _ _ _ _ _ hw rfl ⟨rfl, rfl⟩ dX5_readRows_92
            · have hf := ifT hf hc
              refine lv_aload_n hx hb dX5_readRows_71 rfl (lv_at hl 1 rfl) ?_
              refine cg_X5_26_plans cx hw dX5_readRows_72 ?_
              obtain ⟨r7, h8, hf⟩ := bnS hf
              refine calVi cx hw hl.1 (c_X9_rightSet_q2 h8) q_791 k_X9_rightSet rfl rv_q2 rfl dX5_readRows_75 rfl (Nat.le_of_ble_eq_true rfl) ⟨Nat.le_of_ble_eq_true rfl, Nat.le_of_ble_eq_true rfl⟩ ⟨Nat.le_refl _, Nat.le_refl _⟩ (fun H locs hw => ?_)
              refine lv_aload_n hx hb dX5_readRows_78 rfl (lv_at hl 1 rfl) ?_
              refine cg_X5_17_plans cx hw dX5_readRows_79 ?_
              refine lv_iload_n hx hb dX5_readRows_82 rfl (lv_at hl 3 rfl) ?_
              obtain ⟨h9, hf⟩ := ckS hf
              refine co_p_rows (j := v2.toNatClampNeg) cx hw (ib_in h9) rfl dX5_readRows_83 ?_
              refine lv_iconst (v := 2) hx hb dX5_readRows_84 (by decide) ?_
              refine cm_p_rows (j := 2) cx hw (ib_lt h9) (ib_in (by decide)) (by decide) dX5_readRows_85 ?_
              refine lv_icmp_eq (tgt := 93) hx hb dX5_readRows_86 (by decide) (fun hc => ?_) (fun hc => ?_)
              · have hf := ifT hf hc
                refine lv_iinc (v := (v2 + (1 : Int32))) (lv' := [(2, .int (v2 + (1 : Int32))), (3, .int (x_p_rows v2.toNatClampNeg 0)), (0, .ref (a 84)), (1, .ref (a 1))]) hx hb dX5_readRows_93 hl (k := 3) rfl rfl (by decide) rfl (fun ls hl => ?_)
                refine lv_goto (tgt := 10) hx hb dX5_readRows_96 (by decide) ?_
                exact ih hf hw (lv_sub hl [2, 3, 0] rfl) kx
              · have hf := ifF hf hc
                refine lv_iload_n hx hb dX5_readRows_89 rfl (lv_at hl 3 rfl) ?_
                refine lv_iconst (v := 1) hx hb dX5_readRows_90 (by decide) ?_
                refine lv_iadd hx hb dX5_readRows_91 ?_
                have hf := Option.some.inj hf
                subst hf
                exact hR _ _ _ _ _ _ hw rfl ⟨rfl, rfl⟩ dX5_readRows_92
          · have hf := ifF hf hc
            refine lv_iload_n hx hb dX5_readRows_48 rfl (lv_at hl 3 rfl) ?_
            refine lv_iconst (v := 1) hx hb dX5_readRows_49 (by decide) ?_
            refine lv_iadd hx hb dX5_readRows_50 ?_
            have hf := Option.some.inj hf
            subst hf
            exact hR _ _ _ _ _ _ hw rfl ⟨rfl, rfl⟩ dX5_readRows_51
  exact wL1 n hf hw (lv_sub hl [1, 2, 0] rfl) kx1
theorem dX11_judge_0 : decode cX11_judge 0 = .ok (.aload_n 0, 1) := by decide +kernel
theorem dX11_judge_1 : decode cX11_judge 1 = .ok (.getfield 70, 3) := by decide +kernel
theorem dX11_judge_4 : decode cX11_judge 4 = .ok (.aload_n 0, 1) := by decide +kernel
theorem dX11_judge_5 : decode cX11_judge 5 = .ok (.getfield 55, 3) := by decide +kernel
theorem dX11_judge_8 : decode cX11_judge 8 = .ok (.invokevirtual 277, 3) := by decide +kernel
theorem dX11_judge_11 : decode cX11_judge 11 = .ok (.ireturn, 1) := by decide +kernel
theorem k_X11_judge : MV yX11_judge cX11_judge 1 (some .int) 0 := ⟨q_911, q_912, q_1, q_913, ⟨by decide, by decide, by decide +kernel⟩⟩
theorem c_X11_judge {res : Int32 × (Nat → Nat → Int32) × (Nat → Nat → Int32) × (Nat → Int32) × (Nat → Nat → Int32) × Int32 × Int32 × Int32 × Int32 × Int32 × Int32 × Nat × (Nat → Int32) × (Nat → Int32) × (Nat → Nat → Int32)} (hf : X11_judge n x_q0_dials x_q0_spots x_q0_skies x_q0_reports x_q0_count x_q0_chime x_q0_end x_q0_score x_q0_reportCount x_q0_z x_q0_rules x_q2_dials x_q2_spots x_q2_skies x_q2_reports x_q2_shades x_q2_facts x_p_rows x_p_rowCount x_g_count x_g_kinds x_g_wills x_g_starts x_g_code x_g_stack x_g_kl x_g_wl x_g_sl x_g_cl x_nr = some res) : MC l E0 D t yX11_judge cX11_judge 1 (some .int) 7 0 0 [.ref (a 0)] (cW a ar t x_q0_dials x_q0_spots x_q0_skies x_q0_reports x_q0_count x_q0_chime x_q0_end x_q0_score x_q0_reportCount x_q0_z x_q0_rules x_q0_shades x_q0_facts x_q1_dials x_q1_spots x_q1_skies x_q1_reports x_q1_count x_q1_chime x_q1_end x_q1_score x_q1_reportCount x_q1_z x_q1_rules x_q1_shades x_q1_facts x_q2_dials x_q2_spots x_q2_skies x_q2_reports x_q2_count x_q2_chime x_q2_end x_q2_score x_q2_reportCount x_q2_z x_q2_rules x_q2_shades x_q2_facts x_isKept x_marks x_p_first x_p_steps x_p_most x_p_many x_p_fewest x_p_everRight x_p_opening x_p_rows x_p_rowCount x_p_acts x_p_marks x_p_deepest x_p_wanted x_t_length x_t_tape x_t_words x_t_places x_t_at x_t_kinds x_t_wills x_t_starts x_t_code x_t_count x_t_size x_h_sorts x_h_lengths x_h_items x_h_held x_h_things x_h_sizes x_h_bodies x_h_traced x_h_number x_h_spot x_h_parted x_g_count x_g_kinds x_g_wills x_g_starts x_g_code x_g_stack x_g_kl x_g_wl x_g_sl x_g_cl x_nr) (Qi res.1 (cW a ar t x_q0_dials x_q0_spots x_q0_skies x_q0_reports x_q0_count x_q0_chime x_q0_end x_q0_score x_q0_reportCount x_q0_z x_q0_rules x_q0_shades x_q0_facts x_q1_dials x_q1_spots x_q1_skies x_q1_reports x_q1_count x_q1_chime x_q1_end x_q1_score x_q1_reportCount x_q1_z x_q1_rules x_q1_shades x_q1_facts res.2.1 res.2.2.1 res.2.2.2.1 res.2.2.2.2.1 res.2.2.2.2.2.1 res.2.2.2.2.2.2.1 res.2.2.2.2.2.2.2.1 res.2.2.2.2.2.2.2.2.1 res.2.2.2.2.2.2.2.2.2.1 res.2.2.2.2.2.2.2.2.2.2.1 res.2.2.2.2.2.2.2.2.2.2.2.1 res.2.2.2.2.2.2.2.2.2.2.2.2.1 res.2.2.2.2.2.2.2.2.2.2.2.2.2.1 x_isKept x_marks x_p_first x_p_steps x_p_most x_p_many x_p_fewest x_p_everRight x_p_opening x_p_rows x_p_rowCount x_p_acts x_p_marks x_p_deepest x_p_wanted x_t_length x_t_tape x_t_words x_t_places x_t_at x_t_kinds x_t_wills x_t_starts x_t_code x_t_count x_t_size x_h_sorts x_h_lengths x_h_items x_h_held x_h_things x_h_sizes x_h_bodies x_h_traced x_h_number x_h_spot x_h_parted x_g_count x_g_kinds x_g_wills x_g_starts x_g_code res.2.2.2.2.2.2.2.2.2.2.2.2.2.2 x_g_kl x_g_wl x_g_sl x_g_cl x_nr)) := by
  unfold X11_judge at hf
  refine MC.ofI pn_X11 (Nat.le_of_ble_eq_true rfl) ?_
  intro p e s m args below meth c A Q ls cx hR hw hl
  have hx := cx.1
  have hb := cx.2.1
  have hl : lv_has ls 1 [(0, .ref (a 0))] := hl
  refine lv_aload_n hx hb dX11_judge_0 rfl (lv_at hl 0 rfl) ?_
  refine cg_X11_70_ds cx hw dX11_judge_1 ?_
  refine lv_aload_n hx hb dX11_judge_4 rfl (lv_at hl 0 rfl) ?_
  refine cg_X11_55_ds cx hw dX11_judge_5 ?_
  obtain ⟨r1, h2, hf⟩ := bnS hf
  refine calVi cx hw hl.1 (c_X5_readRows_oq0 h2) q_914 k_X5_readRows rfl rv_plans rfl dX11_judge_8 rfl (Nat.le_of_ble_eq_true rfl) ⟨Nat.le_of_ble_eq_true rfl, Nat.le_of_ble_eq_true rfl⟩ ⟨Nat.le_refl _, Nat.le_refl _⟩ (fun H locs hw => ?_)
  have hf := Option.some.inj hf
  subst hf
  exact hR _ _ _ _ _ _ hw rfl ⟨rfl, rfl⟩ dX11_judge_11
theorem dX11_isSheet_0 : decode cX11_isSheet 0 = .ok (.iload_n 0, 1) := by decide +kernel
theorem dX11_isSheet_1 : decode cX11_isSheet 1 = .ok (.iconst 0, 1) := by decide +kernel
theorem dX11_isSheet_2 : decode cX11_isSheet 2 = .ok (.iconst 3, 1) := by decide +kernel
theorem dX11_isSheet_3 : decode cX11_isSheet 3 = .ok (.invokestatic 74, 3) := by decide +kernel
theorem dX11_isSheet_6 : decode cX11_isSheet 6 = .ok (.ireturn, 1) := by decide +kernel
theorem k_X11_isSheet : MS yX11_isSheet cX11_isSheet 1 (some .boolean) 1 := ⟨q_927, q_1, q_928, ⟨by decide, by decide, by decide +kernel⟩⟩
theorem c_X11_isSheet {v0 : Int32} {res : Int32} (hf : X11_isSheet v0 = res) : MC l E0 D t yX11_isSheet cX11_isSheet 1 (some .boolean) 2 0 0 [.int v0] (cW a ar t x_q0_dials x_q0_spots x_q0_skies x_q0_reports x_q0_count x_q0_chime x_q0_end x_q0_score x_q0_reportCount x_q0_z x_q0_rules x_q0_shades x_q0_facts x_q1_dials x_q1_spots x_q1_skies x_q1_reports x_q1_count x_q1_chime x_q1_end x_q1_score x_q1_reportCount x_q1_z x_q1_rules x_q1_shades x_q1_facts x_q2_dials x_q2_spots x_q2_skies x_q2_reports x_q2_count x_q2_chime x_q2_end x_q2_score x_q2_reportCount x_q2_z x_q2_rules x_q2_shades x_q2_facts x_isKept x_marks x_p_first x_p_steps x_p_most x_p_many x_p_fewest x_p_everRight x_p_opening x_p_rows x_p_rowCount x_p_acts x_p_marks x_p_deepest x_p_wanted x_t_length x_t_tape x_t_words x_t_places x_t_at x_t_kinds x_t_wills x_t_starts x_t_code x_t_count x_t_size x_h_sorts x_h_lengths x_h_items x_h_held x_h_things x_h_sizes x_h_bodies x_h_traced x_h_number x_h_spot x_h_parted x_g_count x_g_kinds x_g_wills x_g_starts x_g_code x_g_stack x_g_kl x_g_wl x_g_sl x_g_cl x_nr) (Qi res (cW a ar t x_q0_dials x_q0_spots x_q0_skies x_q0_reports x_q0_count x_q0_chime x_q0_end x_q0_score x_q0_reportCount x_q0_z x_q0_rules x_q0_shades x_q0_facts x_q1_dials x_q1_spots x_q1_skies x_q1_reports x_q1_count x_q1_chime x_q1_end x_q1_score x_q1_reportCount x_q1_z x_q1_rules x_q1_shades x_q1_facts x_q2_dials x_q2_spots x_q2_skies x_q2_reports x_q2_count x_q2_chime x_q2_end x_q2_score x_q2_reportCount x_q2_z x_q2_rules x_q2_shades x_q2_facts x_isKept x_marks x_p_first x_p_steps x_p_most x_p_many x_p_fewest x_p_everRight x_p_opening x_p_rows x_p_rowCount x_p_acts x_p_marks x_p_deepest x_p_wanted x_t_length x_t_tape x_t_words x_t_places x_t_at x_t_kinds x_t_wills x_t_starts x_t_code x_t_count x_t_size x_h_sorts x_h_lengths x_h_items x_h_held x_h_things x_h_sizes x_h_bodies x_h_traced x_h_number x_h_spot x_h_parted x_g_count x_g_kinds x_g_wills x_g_starts x_g_code x_g_stack x_g_kl x_g_wl x_g_sl x_g_cl x_nr)) := by
  unfold X11_isSheet at hf
  refine MC.ofI pn_X11 (Nat.le_of_ble_eq_true rfl) ?_
  intro p e s m args below meth c A Q ls cx hR hw hl
  have hx := cx.1
  have hb := cx.2.1
  have hl : lv_has ls 1 [(0, .int v0)] := hl
  refine lv_iload_n hx hb dX11_isSheet_0 rfl (lv_at hl 0 rfl) ?_
  refine lv_iconst (v := 0) hx hb dX11_isSheet_1 (by decide) ?_
  refine lv_iconst (v := 3) hx hb dX11_isSheet_2 (by decide) ?_
  refine calSi cx hw hl.1 (c_X11_isIn rfl) q_350 k_X11_isIn rfl dX11_isSheet_3 rfl (Nat.le_of_ble_eq_true rfl) ⟨Nat.le_of_ble_eq_true rfl, Nat.le_of_ble_eq_true rfl⟩ ⟨Nat.le_refl _, Nat.le_refl _⟩ (fun H locs hw => ?_)
  subst hf
  exact hR _ _ _ _ _ _ hw (nb (b_X11_isIn _ _ _)) ⟨rfl, rfl⟩ dX11_isSheet_6
theorem b_X11_isSheet (v0 : Int32) : X11_isSheet v0 = 0 ∨ X11_isSheet v0 = 1 := by unfold X11_isSheet; repeat (first | exact Or.inl rfl | exact Or.inr rfl | apply b_X11_isIn | split)
theorem dJ7_fill_53178_0 : decode cJ7_fill_53178 0 = .ok (.iconst 0, 1) := by decide +kernel
theorem dJ7_fill_53178_1 : decode cJ7_fill_53178 1 = .ok (.istore_n 2, 1) := by decide +kernel
theorem dJ7_fill_53178_2 : decode cJ7_fill_53178 2 = .ok (.aload_n 0, 1) := by decide +kernel
theorem dJ7_fill_53178_3 : decode cJ7_fill_53178 3 = .ok (.arraylength, 1) := by decide +kernel
theorem dJ7_fill_53178_4 : decode cJ7_fill_53178 4 = .ok (.istore_n 3, 1) := by decide +kernel
theorem dJ7_fill_53178_5 : decode cJ7_fill_53178 5 = .ok (.iload_n 2, 1) := by decide +kernel
theorem dJ7_fill_53178_6 : decode cJ7_fill_53178 6 = .ok (.iload_n 3, 1) := by decide +kernel
theorem dJ7_fill_53178_7 : decode cJ7_fill_53178 7 = .ok (.if_icmp .ge 13, 3) := by decide +kernel
theorem dJ7_fill_53178_10 : decode cJ7_fill_53178 10 = .ok (.aload_n 0, 1) := by decide +kernel
theorem dJ7_fill_53178_11 : decode cJ7_fill_53178 11 = .ok (.iload_n 2, 1) := by decide +kernel
theorem dJ7_fill_53178_12 : decode cJ7_fill_53178 12 = .ok (.iload_n 1, 1) := by decide +kernel
theorem dJ7_fill_53178_13 : decode cJ7_fill_53178 13 = .ok (.iastore, 1) := by decide +kernel
theorem dJ7_fill_53178_14 : decode cJ7_fill_53178 14 = .ok (.iinc 2 1, 3) := by decide +kernel
theorem dJ7_fill_53178_17 : decode cJ7_fill_53178 17 = .ok (.goto (-12), 3) := by decide +kernel
theorem dJ7_fill_53178_20 : decode cJ7_fill_53178 20 = .ok (.return_, 1) := by decide +kernel
theorem k_J7_fill_53178 : MS yJ7_fill_53178 cJ7_fill_53178 4 none 2 := ⟨q_205, q_12, q_206, ⟨by decide, by decide, by decide +kernel⟩⟩
theorem c_J7_fill_53178_it {v0 : Nat} {v1 : Int32} (hv0 : v0 < 4) {res : (Nat → Nat → Int32)} (hf : J7_fill_53178_it n x_h_items v0 v1 = some res) : MC l E0 D t yJ7_fill_53178 cJ7_fill_53178 4 none 1 0 0 [.ref (a (109 + v0)), .int v1] (cW a ar t x_q0_dials x_q0_spots x_q0_skies x_q0_reports x_q0_count x_q0_chime x_q0_end x_q0_score x_q0_reportCount x_q0_z x_q0_rules x_q0_shades x_q0_facts x_q1_dials x_q1_spots x_q1_skies x_q1_reports x_q1_count x_q1_chime x_q1_end x_q1_score x_q1_reportCount x_q1_z x_q1_rules x_q1_shades x_q1_facts x_q2_dials x_q2_spots x_q2_skies x_q2_reports x_q2_count x_q2_chime x_q2_end x_q2_score x_q2_reportCount x_q2_z x_q2_rules x_q2_shades x_q2_facts x_isKept x_marks x_p_first x_p_steps x_p_most x_p_many x_p_fewest x_p_everRight x_p_opening x_p_rows x_p_rowCount x_p_acts x_p_marks x_p_deepest x_p_wanted x_t_length x_t_tape x_t_words x_t_places x_t_at x_t_kinds x_t_wills x_t_starts x_t_code x_t_count x_t_size x_h_sorts x_h_lengths x_h_items x_h_held x_h_things x_h_sizes x_h_bodies x_h_traced x_h_number x_h_spot x_h_parted x_g_count x_g_kinds x_g_wills x_g_starts x_g_code x_g_stack x_g_kl x_g_wl x_g_sl x_g_cl x_nr) (Qn (cW a ar t x_q0_dials x_q0_spots x_q0_skies x_q0_reports x_q0_count x_q0_chime x_q0_end x_q0_score x_q0_reportCount x_q0_z x_q0_rules x_q0_shades x_q0_facts x_q1_dials x_q1_spots x_q1_skies x_q1_reports x_q1_count x_q1_chime x_q1_end x_q1_score x_q1_reportCount x_q1_z x_q1_rules x_q1_shades x_q1_facts x_q2_dials x_q2_spots x_q2_skies x_q2_reports x_q2_count x_q2_chime x_q2_end x_q2_score x_q2_reportCount x_q2_z x_q2_rules x_q2_shades x_q2_facts x_isKept x_marks x_p_first x_p_steps x_p_most x_p_many x_p_fewest x_p_everRight x_p_opening x_p_rows x_p_rowCount x_p_acts x_p_marks x_p_deepest x_p_wanted x_t_length x_t_tape x_t_words x_t_places x_t_at x_t_kinds x_t_wills x_t_starts x_t_code x_t_count x_t_size x_h_sorts x_h_lengths res x_h_held x_h_things x_h_sizes x_h_bodies x_h_traced x_h_number x_h_spot x_h_parted x_g_count x_g_kinds x_g_wills x_g_starts x_g_code x_g_stack x_g_kl x_g_wl x_g_sl x_g_cl x_nr)) := by
  unfold J7_fill_53178_it at hf
  refine MC.ofV pn_J7 (Nat.le_of_ble_eq_true rfl) ?_
  intro p e s m args below meth c A Q ls cx hR hw hl
  have hx := cx.1
  have hb := cx.2.1
  have hl : lv_has ls 4 [(0, .ref (a (109 + v0))), (1, .int v1)] := hl
  refine lv_iconst (v := 0) hx hb dJ7_fill_53178_0 (by decide) ?_
  refine lv_istore_n (lv' := [(2, .int (0 : Int32)), (0, .ref (a (109 + v0))), (1, .int v1)]) hx hb dJ7_fill_53178_1 rfl hl (by decide) rfl (fun ls hl => ?_)
  refine lv_aload_n hx hb dJ7_fill_53178_2 rfl (lv_at hl 1 rfl) ?_
  refine cn_h_items cx hw hv0 dJ7_fill_53178_3 ?_
  refine lv_istore_n (lv' := [(3, .int (40 : Int32)), (2, .int (0 : Int32)), (0, .ref (a (109 + v0))), (1, .int v1)]) hx hb dJ7_fill_53178_4 rfl hl (by decide) rfl (fun ls hl => ?_)
  obtain ⟨o2, ho2, hf⟩ := bnS hf
  have wL1 : ∀ (k : Nat) {v1 : Int32} {v2 : Int32} {v3 : Int32} {x_h_items : Nat → Nat → Int32} {H : Heap} {locs : List Loc} {ls : Array Slot} {o : Int32 × (Nat → Nat → Int32)}, J7_fill_53178_it_L1 n v0 v1 v3 k v2 x_h_items = some o → Wd D A s (cW a ar t x_q0_dials x_q0_spots x_q0_skies x_q0_reports x_q0_count x_q0_chime x_q0_end x_q0_score x_q0_reportCount x_q0_z x_q0_rules x_q0_shades x_q0_facts x_q1_dials x_q1_spots x_q1_skies x_q1_reports x_q1_count x_q1_chime x_q1_end x_q1_score x_q1_reportCount x_q1_z x_q1_rules x_q1_shades x_q1_facts x_q2_dials x_q2_spots x_q2_skies x_q2_reports x_q2_count x_q2_chime x_q2_end x_q2_score x_q2_reportCount x_q2_z x_q2_rules x_q2_shades x_q2_facts x_isKept x_marks x_p_first x_p_steps x_p_most x_p_many x_p_fewest x_p_everRight x_p_opening x_p_rows x_p_rowCount x_p_acts x_p_marks x_p_deepest x_p_wanted x_t_length x_t_tape x_t_words x_t_places x_t_at x_t_kinds x_t_wills x_t_starts x_t_code x_t_count x_t_size x_h_sorts x_h_lengths x_h_items x_h_held x_h_things x_h_sizes x_h_bodies x_h_traced x_h_number x_h_spot x_h_parted x_g_count x_g_kinds x_g_wills x_g_starts x_g_code x_g_stack x_g_kl x_g_wl x_g_sl x_g_cl x_nr) H locs → lv_has ls 4 [(0, .ref (a (109 + v0))), (1, .int v1), (2, .int v2), (3, .int v3)] → (∀ (H : Heap) (locs : List Loc) (ls : Array Slot), Wd D A s (cW a ar t x_q0_dials x_q0_spots x_q0_skies x_q0_reports x_q0_count x_q0_chime x_q0_end x_q0_score x_q0_reportCount x_q0_z x_q0_rules x_q0_shades x_q0_facts x_q1_dials x_q1_spots x_q1_skies x_q1_reports x_q1_count x_q1_chime x_q1_end x_q1_score x_q1_reportCount x_q1_z x_q1_rules x_q1_shades x_q1_facts x_q2_dials x_q2_spots x_q2_skies x_q2_reports x_q2_count x_q2_chime x_q2_end x_q2_score x_q2_reportCount x_q2_z x_q2_rules x_q2_shades x_q2_facts x_isKept x_marks x_p_first x_p_steps x_p_most x_p_many x_p_fewest x_p_everRight x_p_opening x_p_rows x_p_rowCount x_p_acts x_p_marks x_p_deepest x_p_wanted x_t_length x_t_tape x_t_words x_t_places x_t_at x_t_kinds x_t_wills x_t_starts x_t_code x_t_count x_t_size x_h_sorts x_h_lengths o.2 x_h_held x_h_things x_h_sizes x_h_bodies x_h_traced x_h_number x_h_spot x_h_parted x_g_count x_g_kinds x_g_wills x_g_starts x_g_code x_g_stack x_g_kl x_g_wl x_g_sl x_g_cl x_nr) H locs → lv_has ls 4 [(0, .ref (a (109 + v0))), (1, .int v1), (2, .int o.1), (3, .int v3)] → W p l e (rmz 1 0 0) s m args below meth c H locs 0 0 Q (F0 m 20 ls [])) → W p l e (rmz 1 0 0) s m args below meth c H locs 0 0 Q (F0 m 5 ls []) := by
    clear hf ho2 hw hl
    intro k
    induction k with
    | zero => intro v1 v2 v3 x_h_items H locs ls o hf hw hl kx; simp [J7_fill_53178_it_L1] at hf
    | succ k ih =>
      intro v1 v2 v3 x_h_items H locs ls o hf hw hl kx
      rw [J7_fill_53178_it_L1] at hf
      refine lv_iload_n hx hb dJ7_fill_53178_5 rfl (lv_at hl 2 rfl) ?_
      refine lv_iload_n hx hb dJ7_fill_53178_6 rfl (lv_at hl 3 rfl) ?_
      refine lv_icmp_ge (tgt := 20) hx hb dJ7_fill_53178_7 (by decide) (fun hc => ?_) (fun hc => ?_)
      · have hf := ifT hf hc
        have hf := Option.some.inj hf
        subst hf
        exact kx _ _ _ hw (lv_sub hl [0, 1, 2, 3] rfl)
      · have hf := ifF hf hc
        refine lv_aload_n hx hb dJ7_fill_53178_10 rfl (lv_at hl 0 rfl) ?_
        refine lv_iload_n hx hb dJ7_fill_53178_11 rfl (lv_at hl 2 rfl) ?_
        refine lv_iload_n hx hb dJ7_fill_53178_12 rfl (lv_at hl 1 rfl) ?_
        obtain ⟨h1, hf⟩ := ckS hf
        refine ct_h_items (j := v2.toNatClampNeg) cx hw hv0 (ib_in h1) rfl dJ7_fill_53178_13 (fun H locs hw => ?_)
        refine lv_iinc (v := (v2 + (1 : Int32))) (lv' := [(2, .int (v2 + (1 : Int32))), (0, .ref (a (109 + v0))), (1, .int v1), (3, .int v3)]) hx hb dJ7_fill_53178_14 hl (k := 2) rfl rfl (by decide) rfl (fun ls hl => ?_)
        refine lv_goto (tgt := 5) hx hb dJ7_fill_53178_17 (by decide) ?_
        exact ih hf hw (lv_sub hl [1, 2, 0, 3] rfl) kx
  refine wL1 n ho2 hw (lv_sub hl [2, 3, 1, 0] rfl) (fun H locs ls hw hl => ?_)
  clear wL1 ho2
  have hf := Option.some.inj hf
  subst hf
  exact hR _ _ _ _ _ hw ⟨rfl, rfl⟩ dJ7_fill_53178_20
theorem dX2_makeSheet_0 : decode cX2_makeSheet 0 = .ok (.aload_n 0, 1) := by decide +kernel
theorem dX2_makeSheet_1 : decode cX2_makeSheet 1 = .ok (.getfield 9, 3) := by decide +kernel
theorem dX2_makeSheet_4 : decode cX2_makeSheet 4 = .ok (.iload_n 1, 1) := by decide +kernel
theorem dX2_makeSheet_5 : decode cX2_makeSheet 5 = .ok (.iload_n 2, 1) := by decide +kernel
theorem dX2_makeSheet_6 : decode cX2_makeSheet 6 = .ok (.iastore, 1) := by decide +kernel
theorem dX2_makeSheet_7 : decode cX2_makeSheet 7 = .ok (.aload_n 0, 1) := by decide +kernel
theorem dX2_makeSheet_8 : decode cX2_makeSheet 8 = .ok (.getfield 15, 3) := by decide +kernel
theorem dX2_makeSheet_11 : decode cX2_makeSheet 11 = .ok (.iload_n 1, 1) := by decide +kernel
theorem dX2_makeSheet_12 : decode cX2_makeSheet 12 = .ok (.iload_n 3, 1) := by decide +kernel
theorem dX2_makeSheet_13 : decode cX2_makeSheet 13 = .ok (.iastore, 1) := by decide +kernel
theorem dX2_makeSheet_14 : decode cX2_makeSheet 14 = .ok (.aload_n 0, 1) := by decide +kernel
theorem dX2_makeSheet_15 : decode cX2_makeSheet 15 = .ok (.getfield 20, 3) := by decide +kernel
theorem dX2_makeSheet_18 : decode cX2_makeSheet 18 = .ok (.iload_n 1, 1) := by decide +kernel
theorem dX2_makeSheet_19 : decode cX2_makeSheet 19 = .ok (.aaload, 1) := by decide +kernel
theorem dX2_makeSheet_20 : decode cX2_makeSheet 20 = .ok (.iconst 0, 1) := by decide +kernel
theorem dX2_makeSheet_21 : decode cX2_makeSheet 21 = .ok (.invokestatic 35, 3) := by decide +kernel
theorem dX2_makeSheet_24 : decode cX2_makeSheet 24 = .ok (.iconst 1, 1) := by decide +kernel
theorem dX2_makeSheet_25 : decode cX2_makeSheet 25 = .ok (.ireturn, 1) := by decide +kernel
theorem k_X2_makeSheet : MV yX2_makeSheet cX2_makeSheet 4 (some .int) 3 := ⟨q_930, q_931, q_3, q_932, ⟨by decide, by decide, by decide +kernel⟩⟩
theorem c_X2_makeSheet {v1 : Int32} {v2 : Int32} {v3 : Int32} {res : Int32 × (Nat → Int32) × (Nat → Int32) × (Nat → Nat → Int32)} (hf : X2_makeSheet n x_h_sorts x_h_lengths x_h_items v1 v2 v3 = some res) : MC l E0 D t yX2_makeSheet cX2_makeSheet 4 (some .int) 2 0 0 [.ref (a 105), .int v1, .int v2, .int v3] (cW a ar t x_q0_dials x_q0_spots x_q0_skies x_q0_reports x_q0_count x_q0_chime x_q0_end x_q0_score x_q0_reportCount x_q0_z x_q0_rules x_q0_shades x_q0_facts x_q1_dials x_q1_spots x_q1_skies x_q1_reports x_q1_count x_q1_chime x_q1_end x_q1_score x_q1_reportCount x_q1_z x_q1_rules x_q1_shades x_q1_facts x_q2_dials x_q2_spots x_q2_skies x_q2_reports x_q2_count x_q2_chime x_q2_end x_q2_score x_q2_reportCount x_q2_z x_q2_rules x_q2_shades x_q2_facts x_isKept x_marks x_p_first x_p_steps x_p_most x_p_many x_p_fewest x_p_everRight x_p_opening x_p_rows x_p_rowCount x_p_acts x_p_marks x_p_deepest x_p_wanted x_t_length x_t_tape x_t_words x_t_places x_t_at x_t_kinds x_t_wills x_t_starts x_t_code x_t_count x_t_size x_h_sorts x_h_lengths x_h_items x_h_held x_h_things x_h_sizes x_h_bodies x_h_traced x_h_number x_h_spot x_h_parted x_g_count x_g_kinds x_g_wills x_g_starts x_g_code x_g_stack x_g_kl x_g_wl x_g_sl x_g_cl x_nr) (Qi res.1 (cW a ar t x_q0_dials x_q0_spots x_q0_skies x_q0_reports x_q0_count x_q0_chime x_q0_end x_q0_score x_q0_reportCount x_q0_z x_q0_rules x_q0_shades x_q0_facts x_q1_dials x_q1_spots x_q1_skies x_q1_reports x_q1_count x_q1_chime x_q1_end x_q1_score x_q1_reportCount x_q1_z x_q1_rules x_q1_shades x_q1_facts x_q2_dials x_q2_spots x_q2_skies x_q2_reports x_q2_count x_q2_chime x_q2_end x_q2_score x_q2_reportCount x_q2_z x_q2_rules x_q2_shades x_q2_facts x_isKept x_marks x_p_first x_p_steps x_p_most x_p_many x_p_fewest x_p_everRight x_p_opening x_p_rows x_p_rowCount x_p_acts x_p_marks x_p_deepest x_p_wanted x_t_length x_t_tape x_t_words x_t_places x_t_at x_t_kinds x_t_wills x_t_starts x_t_code x_t_count x_t_size res.2.1 res.2.2.1 res.2.2.2 x_h_held x_h_things x_h_sizes x_h_bodies x_h_traced x_h_number x_h_spot x_h_parted x_g_count x_g_kinds x_g_wills x_g_starts x_g_code x_g_stack x_g_kl x_g_wl x_g_sl x_g_cl x_nr)) := by
  unfold X2_makeSheet at hf
  refine MC.ofI pn_X2 (Nat.le_of_ble_eq_true rfl) ?_
  intro p e s m args below meth c A Q ls cx hR hw hl
  have hx := cx.1
  have hb := cx.2.1
  have hl : lv_has ls 4 [(0, .ref (a 105)), (1, .int v1), (2, .int v2), (3, .int v3)] := hl
  refine lv_aload_n hx hb dX2_makeSheet_0 rfl (lv_at hl 0 rfl) ?_
  refine cg_X2_9_host cx hw dX2_makeSheet_1 ?_
  refine lv_iload_n hx hb dX2_makeSheet_4 rfl (lv_at hl 1 rfl) ?_
  refine lv_iload_n hx hb dX2_makeSheet_5 rfl (lv_at hl 2 rfl) ?_
  obtain ⟨h1, hf⟩ := ckS hf
  refine cs_h_sorts (j := v1.toNatClampNeg) cx hw (ib_in h1) rfl dX2_makeSheet_6 (fun H locs hw => ?_)
  refine lv_aload_n hx hb dX2_makeSheet_7 rfl (lv_at hl 0 rfl) ?_
  refine cg_X2_15_host cx hw dX2_makeSheet_8 ?_
  refine lv_iload_n hx hb dX2_makeSheet_11 rfl (lv_at hl 1 rfl) ?_
  refine lv_iload_n hx hb dX2_makeSheet_12 rfl (lv_at hl 3 rfl) ?_
  obtain ⟨h2, hf⟩ := ckS hf
  refine cs_h_lengths (j := v1.toNatClampNeg) cx hw (ib_in h2) rfl dX2_makeSheet_13 (fun H locs hw => ?_)
  refine lv_aload_n hx hb dX2_makeSheet_14 rfl (lv_at hl 0 rfl) ?_
  refine cg_X2_20_host cx hw dX2_makeSheet_15 ?_
  refine lv_iload_n hx hb dX2_makeSheet_18 rfl (lv_at hl 1 rfl) ?_
  obtain ⟨h3, hf⟩ := ckS hf
  refine co_h_items (j := v1.toNatClampNeg) cx hw (ib_in h3) rfl dX2_makeSheet_19 ?_
  refine lv_iconst (v := 0) hx hb dX2_makeSheet_20 (by decide) ?_
  obtain ⟨r4, h5, hf⟩ := bnS hf
  refine calSv cx hw hl.1 (c_J7_fill_53178_it (ib_lt h3) h5) q_933 k_J7_fill_53178 rfl dX2_makeSheet_21 rfl (Nat.le_of_ble_eq_true rfl) ⟨Nat.le_of_ble_eq_true rfl, Nat.le_of_ble_eq_true rfl⟩ ⟨Nat.le_refl _, Nat.le_refl _⟩ (fun H locs hw => ?_)
  refine lv_iconst (v := 1) hx hb dX2_makeSheet_24 (by decide) ?_
  have hf := Option.some.inj hf
  subst hf
  exact hR _ _ _ _ _ _ hw rfl ⟨rfl, rfl⟩ dX2_makeSheet_25
theorem dX11_sheet_0 : decode cX11_sheet 0 = .ok (.iload_n 1, 1) := by decide +kernel
theorem dX11_sheet_1 : decode cX11_sheet 1 = .ok (.invokestatic 280, 3) := by decide +kernel
theorem dX11_sheet_4 : decode cX11_sheet 4 = .ok (.ifCond .eq 12, 3) := by decide +kernel
theorem dX11_sheet_7 : decode cX11_sheet 7 = .ok (.iload_n 2, 1) := by decide +kernel
theorem dX11_sheet_8 : decode cX11_sheet 8 = .ok (.iconst (-1), 1) := by decide +kernel
theorem dX11_sheet_9 : decode cX11_sheet 9 = .ok (.iconst 4, 1) := by decide +kernel
theorem dX11_sheet_10 : decode cX11_sheet 10 = .ok (.invokestatic 74, 3) := by decide +kernel
theorem dX11_sheet_13 : decode cX11_sheet 13 = .ok (.ifCond .ne 5, 3) := by decide +kernel
theorem dX11_sheet_16 : decode cX11_sheet 16 = .ok (.iconst (-1), 1) := by decide +kernel
theorem dX11_sheet_17 : decode cX11_sheet 17 = .ok (.ireturn, 1) := by decide +kernel
theorem dX11_sheet_18 : decode cX11_sheet 18 = .ok (.iload_n 2, 1) := by decide +kernel
theorem dX11_sheet_19 : decode cX11_sheet 19 = .ok (.iconst (-1), 1) := by decide +kernel
theorem dX11_sheet_20 : decode cX11_sheet 20 = .ok (.if_icmp .ne 14, 3) := by decide +kernel
theorem dX11_sheet_23 : decode cX11_sheet 23 = .ok (.aload_n 0, 1) := by decide +kernel
theorem dX11_sheet_24 : decode cX11_sheet 24 = .ok (.getfield 23, 3) := by decide +kernel
theorem dX11_sheet_27 : decode cX11_sheet 27 = .ok (.iload_n 1, 1) := by decide +kernel
theorem dX11_sheet_28 : decode cX11_sheet 28 = .ok (.iconst (-1), 1) := by decide +kernel
theorem dX11_sheet_29 : decode cX11_sheet 29 = .ok (.iconst 0, 1) := by decide +kernel
theorem dX11_sheet_30 : decode cX11_sheet 30 = .ok (.invokevirtual 283, 3) := by decide +kernel
theorem dX11_sheet_33 : decode cX11_sheet 33 = .ok (.ireturn, 1) := by decide +kernel
theorem dX11_sheet_34 : decode cX11_sheet 34 = .ok (.iload_n 3, 1) := by decide +kernel
theorem dX11_sheet_35 : decode cX11_sheet 35 = .ok (.bipush 40, 2) := by decide +kernel
theorem dX11_sheet_37 : decode cX11_sheet 37 = .ok (.if_icmp .le 5, 3) := by decide +kernel
theorem dX11_sheet_40 : decode cX11_sheet 40 = .ok (.iconst (-1), 1) := by decide +kernel
theorem dX11_sheet_41 : decode cX11_sheet 41 = .ok (.ireturn, 1) := by decide +kernel
theorem dX11_sheet_42 : decode cX11_sheet 42 = .ok (.iload_n 3, 1) := by decide +kernel
theorem dX11_sheet_43 : decode cX11_sheet 43 = .ok (.ifCond .ge 8, 3) := by decide +kernel
theorem dX11_sheet_46 : decode cX11_sheet 46 = .ok (.bipush (-14), 2) := by decide +kernel
theorem dX11_sheet_48 : decode cX11_sheet 48 = .ok (.goto 13, 3) := by decide +kernel
theorem dX11_sheet_51 : decode cX11_sheet 51 = .ok (.aload_n 0, 1) := by decide +kernel
theorem dX11_sheet_52 : decode cX11_sheet 52 = .ok (.getfield 23, 3) := by decide +kernel
theorem dX11_sheet_55 : decode cX11_sheet 55 = .ok (.iload_n 1, 1) := by decide +kernel
theorem dX11_sheet_56 : decode cX11_sheet 56 = .ok (.iload_n 2, 1) := by decide +kernel
theorem dX11_sheet_57 : decode cX11_sheet 57 = .ok (.iload_n 3, 1) := by decide +kernel
theorem dX11_sheet_58 : decode cX11_sheet 58 = .ok (.invokevirtual 283, 3) := by decide +kernel
theorem dX11_sheet_61 : decode cX11_sheet 61 = .ok (.ireturn, 1) := by decide +kernel
theorem k_X11_sheet : MV yX11_sheet cX11_sheet 4 (some .int) 3 := ⟨q_923, q_924, q_1, q_925, ⟨by decide, by decide, by decide +kernel⟩⟩
theorem c_X11_sheet {v1 : Int32} {v2 : Int32} {v3 : Int32} {res : Int32 × (Nat → Int32) × (Nat → Int32) × (Nat → Nat → Int32)} (hf : X11_sheet n x_h_sorts x_h_lengths x_h_items v1 v2 v3 = some res) : MC l E0 D t yX11_sheet cX11_sheet 4 (some .int) 3 0 0 [.ref (a 0), .int v1, .int v2, .int v3] (cW a ar t x_q0_dials x_q0_spots x_q0_skies x_q0_reports x_q0_count x_q0_chime x_q0_end x_q0_score x_q0_reportCount x_q0_z x_q0_rules x_q0_shades x_q0_facts x_q1_dials x_q1_spots x_q1_skies x_q1_reports x_q1_count x_q1_chime x_q1_end x_q1_score x_q1_reportCount x_q1_z x_q1_rules x_q1_shades x_q1_facts x_q2_dials x_q2_spots x_q2_skies x_q2_reports x_q2_count x_q2_chime x_q2_end x_q2_score x_q2_reportCount x_q2_z x_q2_rules x_q2_shades x_q2_facts x_isKept x_marks x_p_first x_p_steps x_p_most x_p_many x_p_fewest x_p_everRight x_p_opening x_p_rows x_p_rowCount x_p_acts x_p_marks x_p_deepest x_p_wanted x_t_length x_t_tape x_t_words x_t_places x_t_at x_t_kinds x_t_wills x_t_starts x_t_code x_t_count x_t_size x_h_sorts x_h_lengths x_h_items x_h_held x_h_things x_h_sizes x_h_bodies x_h_traced x_h_number x_h_spot x_h_parted x_g_count x_g_kinds x_g_wills x_g_starts x_g_code x_g_stack x_g_kl x_g_wl x_g_sl x_g_cl x_nr) (Qi res.1 (cW a ar t x_q0_dials x_q0_spots x_q0_skies x_q0_reports x_q0_count x_q0_chime x_q0_end x_q0_score x_q0_reportCount x_q0_z x_q0_rules x_q0_shades x_q0_facts x_q1_dials x_q1_spots x_q1_skies x_q1_reports x_q1_count x_q1_chime x_q1_end x_q1_score x_q1_reportCount x_q1_z x_q1_rules x_q1_shades x_q1_facts x_q2_dials x_q2_spots x_q2_skies x_q2_reports x_q2_count x_q2_chime x_q2_end x_q2_score x_q2_reportCount x_q2_z x_q2_rules x_q2_shades x_q2_facts x_isKept x_marks x_p_first x_p_steps x_p_most x_p_many x_p_fewest x_p_everRight x_p_opening x_p_rows x_p_rowCount x_p_acts x_p_marks x_p_deepest x_p_wanted x_t_length x_t_tape x_t_words x_t_places x_t_at x_t_kinds x_t_wills x_t_starts x_t_code x_t_count x_t_size res.2.1 res.2.2.1 res.2.2.2 x_h_held x_h_things x_h_sizes x_h_bodies x_h_traced x_h_number x_h_spot x_h_parted x_g_count x_g_kinds x_g_wills x_g_starts x_g_code x_g_stack x_g_kl x_g_wl x_g_sl x_g_cl x_nr)) := by
  unfold X11_sheet at hf
  refine MC.ofI pn_X11 (Nat.le_of_ble_eq_true rfl) ?_
  intro p e s m args below meth c A Q ls cx hR hw hl
  have hx := cx.1
  have hb := cx.2.1
  have hl : lv_has ls 4 [(0, .ref (a 0)), (1, .int v1), (2, .int v2), (3, .int v3)] := hl
  refine lv_iload_n hx hb dX11_sheet_0 rfl (lv_at hl 1 rfl) ?_
  refine calSi cx hw hl.1 (c_X11_isSheet rfl) q_926 k_X11_isSheet rfl dX11_sheet_1 rfl (Nat.le_of_ble_eq_true rfl) ⟨Nat.le_of_ble_eq_true rfl, Nat.le_of_ble_eq_true rfl⟩ ⟨Nat.le_refl _, Nat.le_refl _⟩ (fun H locs hw => ?_)
  refine lv_if_eq (tgt := 16) hx hb dX11_sheet_4 (by decide) (fun hc => ?_) (fun hc => ?_)
  · have hf := ifT hf hc
    refine lv_iconst (v := (-1)) hx hb dX11_sheet_16 (by decide) ?_
    have hf := Option.some.inj hf
    subst hf
    exact hR _ _ _ _ _ _ hw rfl ⟨rfl, rfl⟩ dX11_sheet_17
  · have hf := ifF hf hc
    refine lv_iload_n hx hb dX11_sheet_7 rfl (lv_at hl 2 rfl) ?_
    refine lv_iconst (v := (-1)) hx hb dX11_sheet_8 (by decide) ?_
    refine lv_iconst (v := 4) hx hb dX11_sheet_9 (by decide) ?_
    refine calSi cx hw hl.1 (c_X11_isIn rfl) q_350 k_X11_isIn rfl dX11_sheet_10 rfl (Nat.le_of_ble_eq_true rfl) ⟨Nat.le_of_ble_eq_true rfl, Nat.le_of_ble_eq_true rfl⟩ ⟨Nat.le_refl _, Nat.le_refl _⟩ (fun H locs hw => ?_)
    refine lv_if_ne (tgt := 18) hx hb dX11_sheet_13 (by decide) (fun hc => ?_) (fun hc => ?_)
    · have hf := ifF hf hc
      refine lv_iload_n hx hb dX11_sheet_18 rfl (lv_at hl 2 rfl) ?_
      refine lv_iconst (v := (-1)) hx hb dX11_sheet_19 (by decide) ?_
      refine lv_icmp_ne (tgt := 34) hx hb dX11_sheet_20 (by decide) (fun hc => ?_) (fun hc => ?_)
      · have hf := ifF hf hc
        refine lv_iload_n hx hb dX11_sheet_34 rfl (lv_at hl 3 rfl) ?_
        refine lv_bipush (v := 40) hx hb dX11_sheet_35 (by decide) ?_
        refine lv_icmp_le (tgt := 42) hx hb dX11_sheet_37 (by decide) (fun hc => ?_) (fun hc => ?_)
        · have hf := ifT hf hc
          refine lv_iload_n hx hb dX11_sheet_42 rfl (lv_at hl 3 rfl) ?_
          refine lv_if_ge (tgt := 51) hx hb dX11_sheet_43 (by decide) (fun hc => ?_) (fun hc => ?_)
          · have hf := ifT hf hc
            refine lv_aload_n hx hb dX11_sheet_51 rfl (lv_at hl 0 rfl) ?_
            refine cg_X11_23_ds cx hw dX11_sheet_52 ?_
            refine lv_iload_n hx hb dX11_sheet_55 rfl (lv_at hl 1 rfl) ?_
            refine lv_iload_n hx hb dX11_sheet_56 rfl (lv_at hl 2 rfl) ?_
            refine lv_iload_n hx hb dX11_sheet_57 rfl (lv_at hl 3 rfl) ?_
            obtain ⟨r3, h4, hf⟩ := bnS hf
            refine calVi cx hw hl.1 (c_X2_makeSheet h4) q_929 k_X2_makeSheet rfl rv_host rfl dX11_sheet_58 rfl (Nat.le_of_ble_eq_true rfl) ⟨Nat.le_of_ble_eq_true rfl, Nat.le_of_ble_eq_true rfl⟩ ⟨Nat.le_refl _, Nat.le_refl _⟩ (fun H locs hw => ?_)
            have hf := Option.some.inj hf
            subst hf
            exact hR _ _ _ _ _ _ hw rfl ⟨rfl, rfl⟩ dX11_sheet_61
          · have hf := ifF hf hc
            refine lv_bipush (v := (-14)) hx hb dX11_sheet_46 (by decide) ?_
            refine lv_goto (tgt := 61) hx hb dX11_sheet_48 (by decide) ?_
            have hf := Option.some.inj hf
            subst hf
            exact hR _ _ _ _ _ _ hw rfl ⟨rfl, rfl⟩ dX11_sheet_61
        · have hf := ifF hf hc
          refine lv_iconst (v := (-1)) hx hb dX11_sheet_40 (by decide) ?_
          have hf := Option.some.inj hf
          subst hf
          exact hR _ _ _ _ _ _ hw rfl ⟨rfl, rfl⟩ dX11_sheet_41
      · have hf := ifT hf hc
        refine lv_aload_n hx hb dX11_sheet_23 rfl (lv_at hl 0 rfl) ?_
        refine cg_X11_23_ds cx hw dX11_sheet_24 ?_
        refine lv_iload_n hx hb dX11_sheet_27 rfl (lv_at hl 1 rfl) ?_
        refine lv_iconst (v := (-1)) hx hb dX11_sheet_28 (by decide) ?_
        refine lv_iconst (v := 0) hx hb dX11_sheet_29 (by decide) ?_
        obtain ⟨r1, h2, hf⟩ := bnS hf
        refine calVi cx hw hl.1 (c_X2_makeSheet h2) q_929 k_X2_makeSheet rfl rv_host rfl dX11_sheet_30 rfl (Nat.le_of_ble_eq_true rfl) ⟨Nat.le_of_ble_eq_true rfl, Nat.le_of_ble_eq_true rfl⟩ ⟨Nat.le_refl _, Nat.le_refl _⟩ (fun H locs hw => ?_)
        have hf := Option.some.inj hf
        subst hf
        exact hR _ _ _ _ _ _ hw rfl ⟨rfl, rfl⟩ dX11_sheet_33
    · have hf := ifT hf hc
      refine lv_iconst (v := (-1)) hx hb dX11_sheet_16 (by decide) ?_
      have hf := Option.some.inj hf
      subst hf
      exact hR _ _ _ _ _ _ hw rfl ⟨rfl, rfl⟩ dX11_sheet_17
theorem dX2_hasItem_0 : decode cX2_hasItem 0 = .ok (.iload_n 2, 1) := by decide +kernel
theorem dX2_hasItem_1 : decode cX2_hasItem 1 = .ok (.ifCond .lt 17, 3) := by decide +kernel
theorem dX2_hasItem_4 : decode cX2_hasItem 4 = .ok (.iload_n 2, 1) := by decide +kernel
theorem dX2_hasItem_5 : decode cX2_hasItem 5 = .ok (.aload_n 0, 1) := by decide +kernel
theorem dX2_hasItem_6 : decode cX2_hasItem 6 = .ok (.getfield 15, 3) := by decide +kernel
theorem dX2_hasItem_9 : decode cX2_hasItem 9 = .ok (.iload_n 1, 1) := by decide +kernel
theorem dX2_hasItem_10 : decode cX2_hasItem 10 = .ok (.iaload, 1) := by decide +kernel
theorem dX2_hasItem_11 : decode cX2_hasItem 11 = .ok (.if_icmp .ge 7, 3) := by decide +kernel
theorem dX2_hasItem_14 : decode cX2_hasItem 14 = .ok (.iconst 1, 1) := by decide +kernel
theorem dX2_hasItem_15 : decode cX2_hasItem 15 = .ok (.goto 4, 3) := by decide +kernel
theorem dX2_hasItem_18 : decode cX2_hasItem 18 = .ok (.iconst 0, 1) := by decide +kernel
theorem dX2_hasItem_19 : decode cX2_hasItem 19 = .ok (.ireturn, 1) := by decide +kernel
theorem k_X2_hasItem : MV yX2_hasItem cX2_hasItem 3 (some .boolean) 2 := ⟨q_939, q_940, q_3, q_941, ⟨by decide, by decide, by decide +kernel⟩⟩
theorem c_X2_hasItem {v1 : Int32} {v2 : Int32} {res : Int32} (hf : X2_hasItem x_h_lengths v1 v2 = some res) : MC l E0 D t yX2_hasItem cX2_hasItem 3 (some .boolean) 1 0 0 [.ref (a 105), .int v1, .int v2] (cW a ar t x_q0_dials x_q0_spots x_q0_skies x_q0_reports x_q0_count x_q0_chime x_q0_end x_q0_score x_q0_reportCount x_q0_z x_q0_rules x_q0_shades x_q0_facts x_q1_dials x_q1_spots x_q1_skies x_q1_reports x_q1_count x_q1_chime x_q1_end x_q1_score x_q1_reportCount x_q1_z x_q1_rules x_q1_shades x_q1_facts x_q2_dials x_q2_spots x_q2_skies x_q2_reports x_q2_count x_q2_chime x_q2_end x_q2_score x_q2_reportCount x_q2_z x_q2_rules x_q2_shades x_q2_facts x_isKept x_marks x_p_first x_p_steps x_p_most x_p_many x_p_fewest x_p_everRight x_p_opening x_p_rows x_p_rowCount x_p_acts x_p_marks x_p_deepest x_p_wanted x_t_length x_t_tape x_t_words x_t_places x_t_at x_t_kinds x_t_wills x_t_starts x_t_code x_t_count x_t_size x_h_sorts x_h_lengths x_h_items x_h_held x_h_things x_h_sizes x_h_bodies x_h_traced x_h_number x_h_spot x_h_parted x_g_count x_g_kinds x_g_wills x_g_starts x_g_code x_g_stack x_g_kl x_g_wl x_g_sl x_g_cl x_nr) (Qi res (cW a ar t x_q0_dials x_q0_spots x_q0_skies x_q0_reports x_q0_count x_q0_chime x_q0_end x_q0_score x_q0_reportCount x_q0_z x_q0_rules x_q0_shades x_q0_facts x_q1_dials x_q1_spots x_q1_skies x_q1_reports x_q1_count x_q1_chime x_q1_end x_q1_score x_q1_reportCount x_q1_z x_q1_rules x_q1_shades x_q1_facts x_q2_dials x_q2_spots x_q2_skies x_q2_reports x_q2_count x_q2_chime x_q2_end x_q2_score x_q2_reportCount x_q2_z x_q2_rules x_q2_shades x_q2_facts x_isKept x_marks x_p_first x_p_steps x_p_most x_p_many x_p_fewest x_p_everRight x_p_opening x_p_rows x_p_rowCount x_p_acts x_p_marks x_p_deepest x_p_wanted x_t_length x_t_tape x_t_words x_t_places x_t_at x_t_kinds x_t_wills x_t_starts x_t_code x_t_count x_t_size x_h_sorts x_h_lengths x_h_items x_h_held x_h_things x_h_sizes x_h_bodies x_h_traced x_h_number x_h_spot x_h_parted x_g_count x_g_kinds x_g_wills x_g_starts x_g_code x_g_stack x_g_kl x_g_wl x_g_sl x_g_cl x_nr)) := by
  unfold X2_hasItem at hf
  refine MC.ofI pn_X2 (Nat.le_of_ble_eq_true rfl) ?_
  intro p e s m args below meth c A Q ls cx hR hw hl
  have hx := cx.1
  have hb := cx.2.1
  have hl : lv_has ls 3 [(0, .ref (a 105)), (1, .int v1), (2, .int v2)] := hl
  refine lv_iload_n hx hb dX2_hasItem_0 rfl (lv_at hl 2 rfl) ?_
  refine lv_if_lt (tgt := 18) hx hb dX2_hasItem_1 (by decide) (fun hc => ?_) (fun hc => ?_)
  · have hf := ifT hf hc
    refine lv_iconst (v := 0) hx hb dX2_hasItem_18 (by decide) ?_
    have hf := Option.some.inj hf
    subst hf
    exact hR _ _ _ _ _ _ hw rfl ⟨rfl, rfl⟩ dX2_hasItem_19
  · have hf := ifF hf hc
    refine lv_iload_n hx hb dX2_hasItem_4 rfl (lv_at hl 2 rfl) ?_
    refine lv_aload_n hx hb dX2_hasItem_5 rfl (lv_at hl 0 rfl) ?_
    refine cg_X2_15_host cx hw dX2_hasItem_6 ?_
    refine lv_iload_n hx hb dX2_hasItem_9 rfl (lv_at hl 1 rfl) ?_
    obtain ⟨h1, hf⟩ := ckS hf
    refine cl_h_lengths (j := v1.toNatClampNeg) cx hw (ib_in h1) rfl dX2_hasItem_10 ?_
    refine lv_icmp_ge (tgt := 18) hx hb dX2_hasItem_11 (by decide) (fun hc => ?_) (fun hc => ?_)
    · have hf := ifT hf hc
      refine lv_iconst (v := 0) hx hb dX2_hasItem_18 (by decide) ?_
      have hf := Option.some.inj hf
      subst hf
      exact hR _ _ _ _ _ _ hw rfl ⟨rfl, rfl⟩ dX2_hasItem_19
    · have hf := ifF hf hc
      refine lv_iconst (v := 1) hx hb dX2_hasItem_14 (by decide) ?_
      refine lv_goto (tgt := 19) hx hb dX2_hasItem_15 (by decide) ?_
      have hf := Option.some.inj hf
      subst hf
      exact hR _ _ _ _ _ _ hw rfl ⟨rfl, rfl⟩ dX2_hasItem_19
theorem dX11_narrowed_0 : decode cX11_narrowed 0 = .ok (.iload_n 1, 1) := by decide +kernel
theorem dX11_narrowed_1 : decode cX11_narrowed 1 = .ok (.tableswitch 51 0 4 #[35, 38, 51, 51, 41], 35) := by decide +kernel
theorem dX11_narrowed_36 : decode cX11_narrowed 36 = .ok (.iload_n 0, 1) := by decide +kernel
theorem dX11_narrowed_37 : decode cX11_narrowed 37 = .ok (.i2b, 1) := by decide +kernel
theorem dX11_narrowed_38 : decode cX11_narrowed 38 = .ok (.ireturn, 1) := by decide +kernel
theorem dX11_narrowed_39 : decode cX11_narrowed 39 = .ok (.iload_n 0, 1) := by decide +kernel
theorem dX11_narrowed_40 : decode cX11_narrowed 40 = .ok (.i2s, 1) := by decide +kernel
theorem dX11_narrowed_41 : decode cX11_narrowed 41 = .ok (.ireturn, 1) := by decide +kernel
theorem dX11_narrowed_42 : decode cX11_narrowed 42 = .ok (.iload_n 0, 1) := by decide +kernel
theorem dX11_narrowed_43 : decode cX11_narrowed 43 = .ok (.ifCond .eq 7, 3) := by decide +kernel
theorem dX11_narrowed_46 : decode cX11_narrowed 46 = .ok (.iconst 1, 1) := by decide +kernel
theorem dX11_narrowed_47 : decode cX11_narrowed 47 = .ok (.goto 4, 3) := by decide +kernel
theorem dX11_narrowed_50 : decode cX11_narrowed 50 = .ok (.iconst 0, 1) := by decide +kernel
theorem dX11_narrowed_51 : decode cX11_narrowed 51 = .ok (.ireturn, 1) := by decide +kernel
theorem dX11_narrowed_52 : decode cX11_narrowed 52 = .ok (.iload_n 0, 1) := by decide +kernel
theorem dX11_narrowed_53 : decode cX11_narrowed 53 = .ok (.ireturn, 1) := by decide +kernel
theorem k_X11_narrowed : MS yX11_narrowed cX11_narrowed 2 (some .int) 2 := ⟨q_943, q_1, q_944, ⟨by decide, by decide, by decide +kernel⟩⟩
theorem c_X11_narrowed {v0 : Int32} {v1 : Int32} {res : Int32} (hf : X11_narrowed v0 v1 = res) : MC l E0 D t yX11_narrowed cX11_narrowed 2 (some .int) 1 0 0 [.int v0, .int v1] (cW a ar t x_q0_dials x_q0_spots x_q0_skies x_q0_reports x_q0_count x_q0_chime x_q0_end x_q0_score x_q0_reportCount x_q0_z x_q0_rules x_q0_shades x_q0_facts x_q1_dials x_q1_spots x_q1_skies x_q1_reports x_q1_count x_q1_chime x_q1_end x_q1_score x_q1_reportCount x_q1_z x_q1_rules x_q1_shades x_q1_facts x_q2_dials x_q2_spots x_q2_skies x_q2_reports x_q2_count x_q2_chime x_q2_end x_q2_score x_q2_reportCount x_q2_z x_q2_rules x_q2_shades x_q2_facts x_isKept x_marks x_p_first x_p_steps x_p_most x_p_many x_p_fewest x_p_everRight x_p_opening x_p_rows x_p_rowCount x_p_acts x_p_marks x_p_deepest x_p_wanted x_t_length x_t_tape x_t_words x_t_places x_t_at x_t_kinds x_t_wills x_t_starts x_t_code x_t_count x_t_size x_h_sorts x_h_lengths x_h_items x_h_held x_h_things x_h_sizes x_h_bodies x_h_traced x_h_number x_h_spot x_h_parted x_g_count x_g_kinds x_g_wills x_g_starts x_g_code x_g_stack x_g_kl x_g_wl x_g_sl x_g_cl x_nr) (Qi res (cW a ar t x_q0_dials x_q0_spots x_q0_skies x_q0_reports x_q0_count x_q0_chime x_q0_end x_q0_score x_q0_reportCount x_q0_z x_q0_rules x_q0_shades x_q0_facts x_q1_dials x_q1_spots x_q1_skies x_q1_reports x_q1_count x_q1_chime x_q1_end x_q1_score x_q1_reportCount x_q1_z x_q1_rules x_q1_shades x_q1_facts x_q2_dials x_q2_spots x_q2_skies x_q2_reports x_q2_count x_q2_chime x_q2_end x_q2_score x_q2_reportCount x_q2_z x_q2_rules x_q2_shades x_q2_facts x_isKept x_marks x_p_first x_p_steps x_p_most x_p_many x_p_fewest x_p_everRight x_p_opening x_p_rows x_p_rowCount x_p_acts x_p_marks x_p_deepest x_p_wanted x_t_length x_t_tape x_t_words x_t_places x_t_at x_t_kinds x_t_wills x_t_starts x_t_code x_t_count x_t_size x_h_sorts x_h_lengths x_h_items x_h_held x_h_things x_h_sizes x_h_bodies x_h_traced x_h_number x_h_spot x_h_parted x_g_count x_g_kinds x_g_wills x_g_starts x_g_code x_g_stack x_g_kl x_g_wl x_g_sl x_g_cl x_nr)) := by
  unfold X11_narrowed at hf
  refine MC.ofI pn_X11 (Nat.le_of_ble_eq_true rfl) ?_
  intro p e s m args below meth c A Q ls cx hR hw hl
  have hx := cx.1
  have hb := cx.2.1
  have hl : lv_has ls 2 [(0, .int v0), (1, .int v1)] := hl
  refine lv_iload_n hx hb dX11_narrowed_0 rfl (lv_at hl 1 rfl) ?_
  by_cases hc0 : v1 = (0 : Int32)
  · have hf := ifT hf hc0
    refine lv_tableIn (tgt := 36) hx hb dX11_narrowed_1 (by rw [hc0]; decide) (by rw [hc0]; decide) (by rw [hc0]; rfl) (by decide) ?_
    refine lv_iload_n hx hb dX11_narrowed_36 rfl (lv_at hl 0 rfl) ?_
    refine lv_i2b hx hb dX11_narrowed_37 rfl ?_
    subst hf
    exact hR _ _ _ _ _ _ hw rfl ⟨rfl, rfl⟩ dX11_narrowed_38
  · have hf := ifF hf hc0
    by_cases hc1 : v1 = (1 : Int32)
    · have hf := ifT hf hc1
      refine lv_tableIn (tgt := 39) hx hb dX11_narrowed_1 (by rw [hc1]; decide) (by rw [hc1]; decide) (by rw [hc1]; rfl) (by decide) ?_
      refine lv_iload_n hx hb dX11_narrowed_39 rfl (lv_at hl 0 rfl) ?_
      refine lv_i2s hx hb dX11_narrowed_40 rfl ?_
      subst hf
      exact hR _ _ _ _ _ _ hw rfl ⟨rfl, rfl⟩ dX11_narrowed_41
    · have hf := ifF hf hc1
      by_cases hc2 : v1 = (2 : Int32)
      · have hf := ifT hf hc2
        refine lv_tableIn (tgt := 52) hx hb dX11_narrowed_1 (by rw [hc2]; decide) (by rw [hc2]; decide) (by rw [hc2]; rfl) (by decide) ?_
        refine lv_iload_n hx hb dX11_narrowed_52 rfl (lv_at hl 0 rfl) ?_
        subst hf
        exact hR _ _ _ _ _ _ hw rfl ⟨rfl, rfl⟩ dX11_narrowed_53
      · have hf := ifF hf hc2
        by_cases hc3 : v1 = (3 : Int32)
        · have hf := ifT hf hc3
          refine lv_tableIn (tgt := 52) hx hb dX11_narrowed_1 (by rw [hc3]; decide) (by rw [hc3]; decide) (by rw [hc3]; rfl) (by decide) ?_
          refine lv_iload_n hx hb dX11_narrowed_52 rfl (lv_at hl 0 rfl) ?_
          subst hf
          exact hR _ _ _ _ _ _ hw rfl ⟨rfl, rfl⟩ dX11_narrowed_53
        · have hf := ifF hf hc3
          by_cases hc4 : v1 = (4 : Int32)
          · have hf := ifT hf hc4
            refine lv_tableIn (tgt := 42) hx hb dX11_narrowed_1 (by rw [hc4]; decide) (by rw [hc4]; decide) (by rw [hc4]; rfl) (by decide) ?_
            refine lv_iload_n hx hb dX11_narrowed_42 rfl (lv_at hl 0 rfl) ?_
            refine lv_if_eq (tgt := 50) hx hb dX11_narrowed_43 (by decide) (fun hc => ?_) (fun hc => ?_)
            · have hf := ifT hf hc
              refine lv_iconst (v := 0) hx hb dX11_narrowed_50 (by decide) ?_
              subst hf
              exact hR _ _ _ _ _ _ hw rfl ⟨rfl, rfl⟩ dX11_narrowed_51
            · have hf := ifF hf hc
              refine lv_iconst (v := 1) hx hb dX11_narrowed_46 (by decide) ?_
              refine lv_goto (tgt := 51) hx hb dX11_narrowed_47 (by decide) ?_
              subst hf
              exact hR _ _ _ _ _ _ hw rfl ⟨rfl, rfl⟩ dX11_narrowed_51
          · have hf := ifF hf hc4
            refine lv_tableOut (tgt := 52) hx hb dX11_narrowed_1 (by have h0 := lv_neT hc0 (a := 0) (by decide); have h1 := lv_neT hc1 (a := 1) (by decide); have h2 := lv_neT hc2 (a := 2) (by decide); have h3 := lv_neT hc3 (a := 3) (by decide); have h4 := lv_neT hc4 (a := 4) (by decide); omega) (by decide) ?_
            refine lv_iload_n hx hb dX11_narrowed_52 rfl (lv_at hl 0 rfl) ?_
            subst hf
            exact hR _ _ _ _ _ _ hw rfl ⟨rfl, rfl⟩ dX11_narrowed_53
theorem dX11_write_0 : decode cX11_write 0 = .ok (.iload_n 1, 1) := by decide +kernel
theorem dX11_write_1 : decode cX11_write 1 = .ok (.invokestatic 280, 3) := by decide +kernel
theorem dX11_write_4 : decode cX11_write 4 = .ok (.ifCond .ne 5, 3) := by decide +kernel
theorem dX11_write_7 : decode cX11_write 7 = .ok (.iconst (-1), 1) := by decide +kernel
theorem dX11_write_8 : decode cX11_write 8 = .ok (.ireturn, 1) := by decide +kernel
theorem dX11_write_9 : decode cX11_write 9 = .ok (.aload_n 0, 1) := by decide +kernel
theorem dX11_write_10 : decode cX11_write 10 = .ok (.getfield 23, 3) := by decide +kernel
theorem dX11_write_13 : decode cX11_write 13 = .ok (.getfield 286, 3) := by decide +kernel
theorem dX11_write_16 : decode cX11_write 16 = .ok (.iload_n 1, 1) := by decide +kernel
theorem dX11_write_17 : decode cX11_write 17 = .ok (.iaload, 1) := by decide +kernel
theorem dX11_write_18 : decode cX11_write 18 = .ok (.iconst (-1), 1) := by decide +kernel
theorem dX11_write_19 : decode cX11_write 19 = .ok (.if_icmp .ne 6, 3) := by decide +kernel
theorem dX11_write_22 : decode cX11_write 22 = .ok (.bipush (-11), 2) := by decide +kernel
theorem dX11_write_24 : decode cX11_write 24 = .ok (.ireturn, 1) := by decide +kernel
theorem dX11_write_25 : decode cX11_write 25 = .ok (.aload_n 0, 1) := by decide +kernel
theorem dX11_write_26 : decode cX11_write 26 = .ok (.getfield 23, 3) := by decide +kernel
theorem dX11_write_29 : decode cX11_write 29 = .ok (.iload_n 1, 1) := by decide +kernel
theorem dX11_write_30 : decode cX11_write 30 = .ok (.iload_n 2, 1) := by decide +kernel
theorem dX11_write_31 : decode cX11_write 31 = .ok (.invokevirtual 289, 3) := by decide +kernel
theorem dX11_write_34 : decode cX11_write 34 = .ok (.ifCond .ne 6, 3) := by decide +kernel
theorem dX11_write_37 : decode cX11_write 37 = .ok (.bipush (-12), 2) := by decide +kernel
theorem dX11_write_39 : decode cX11_write 39 = .ok (.ireturn, 1) := by decide +kernel
theorem dX11_write_40 : decode cX11_write 40 = .ok (.aload_n 0, 1) := by decide +kernel
theorem dX11_write_41 : decode cX11_write 41 = .ok (.getfield 23, 3) := by decide +kernel
theorem dX11_write_44 : decode cX11_write 44 = .ok (.getfield 292, 3) := by decide +kernel
theorem dX11_write_47 : decode cX11_write 47 = .ok (.iload_n 1, 1) := by decide +kernel
theorem dX11_write_48 : decode cX11_write 48 = .ok (.aaload, 1) := by decide +kernel
theorem dX11_write_49 : decode cX11_write 49 = .ok (.iload_n 2, 1) := by decide +kernel
theorem dX11_write_50 : decode cX11_write 50 = .ok (.iload_n 3, 1) := by decide +kernel
theorem dX11_write_51 : decode cX11_write 51 = .ok (.aload_n 0, 1) := by decide +kernel
theorem dX11_write_52 : decode cX11_write 52 = .ok (.getfield 23, 3) := by decide +kernel
theorem dX11_write_55 : decode cX11_write 55 = .ok (.getfield 286, 3) := by decide +kernel
theorem dX11_write_58 : decode cX11_write 58 = .ok (.iload_n 1, 1) := by decide +kernel
theorem dX11_write_59 : decode cX11_write 59 = .ok (.iaload, 1) := by decide +kernel
theorem dX11_write_60 : decode cX11_write 60 = .ok (.invokestatic 295, 3) := by decide +kernel
theorem dX11_write_63 : decode cX11_write 63 = .ok (.iastore, 1) := by decide +kernel
theorem dX11_write_64 : decode cX11_write 64 = .ok (.iconst 1, 1) := by decide +kernel
theorem dX11_write_65 : decode cX11_write 65 = .ok (.ireturn, 1) := by decide +kernel
theorem k_X11_write : MV yX11_write cX11_write 4 (some .int) 3 := ⟨q_935, q_936, q_1, q_937, ⟨by decide, by decide, by decide +kernel⟩⟩
theorem c_X11_write {v1 : Int32} {v2 : Int32} {v3 : Int32} {res : Int32 × (Nat → Nat → Int32)} (hf : X11_write x_h_sorts x_h_lengths x_h_items v1 v2 v3 = some res) : MC l E0 D t yX11_write cX11_write 4 (some .int) 3 0 0 [.ref (a 0), .int v1, .int v2, .int v3] (cW a ar t x_q0_dials x_q0_spots x_q0_skies x_q0_reports x_q0_count x_q0_chime x_q0_end x_q0_score x_q0_reportCount x_q0_z x_q0_rules x_q0_shades x_q0_facts x_q1_dials x_q1_spots x_q1_skies x_q1_reports x_q1_count x_q1_chime x_q1_end x_q1_score x_q1_reportCount x_q1_z x_q1_rules x_q1_shades x_q1_facts x_q2_dials x_q2_spots x_q2_skies x_q2_reports x_q2_count x_q2_chime x_q2_end x_q2_score x_q2_reportCount x_q2_z x_q2_rules x_q2_shades x_q2_facts x_isKept x_marks x_p_first x_p_steps x_p_most x_p_many x_p_fewest x_p_everRight x_p_opening x_p_rows x_p_rowCount x_p_acts x_p_marks x_p_deepest x_p_wanted x_t_length x_t_tape x_t_words x_t_places x_t_at x_t_kinds x_t_wills x_t_starts x_t_code x_t_count x_t_size x_h_sorts x_h_lengths x_h_items x_h_held x_h_things x_h_sizes x_h_bodies x_h_traced x_h_number x_h_spot x_h_parted x_g_count x_g_kinds x_g_wills x_g_starts x_g_code x_g_stack x_g_kl x_g_wl x_g_sl x_g_cl x_nr) (Qi res.1 (cW a ar t x_q0_dials x_q0_spots x_q0_skies x_q0_reports x_q0_count x_q0_chime x_q0_end x_q0_score x_q0_reportCount x_q0_z x_q0_rules x_q0_shades x_q0_facts x_q1_dials x_q1_spots x_q1_skies x_q1_reports x_q1_count x_q1_chime x_q1_end x_q1_score x_q1_reportCount x_q1_z x_q1_rules x_q1_shades x_q1_facts x_q2_dials x_q2_spots x_q2_skies x_q2_reports x_q2_count x_q2_chime x_q2_end x_q2_score x_q2_reportCount x_q2_z x_q2_rules x_q2_shades x_q2_facts x_isKept x_marks x_p_first x_p_steps x_p_most x_p_many x_p_fewest x_p_everRight x_p_opening x_p_rows x_p_rowCount x_p_acts x_p_marks x_p_deepest x_p_wanted x_t_length x_t_tape x_t_words x_t_places x_t_at x_t_kinds x_t_wills x_t_starts x_t_code x_t_count x_t_size x_h_sorts x_h_lengths res.2 x_h_held x_h_things x_h_sizes x_h_bodies x_h_traced x_h_number x_h_spot x_h_parted x_g_count x_g_kinds x_g_wills x_g_starts x_g_code x_g_stack x_g_kl x_g_wl x_g_sl x_g_cl x_nr)) := by
  unfold X11_write at hf
  refine MC.ofI pn_X11 (Nat.le_of_ble_eq_true rfl) ?_
  intro p e s m args below meth c A Q ls cx hR hw hl
  have hx := cx.1
  have hb := cx.2.1
  have hl : lv_has ls 4 [(0, .ref (a 0)), (1, .int v1), (2, .int v2), (3, .int v3)] := hl
  refine lv_iload_n hx hb dX11_write_0 rfl (lv_at hl 1 rfl) ?_
  refine calSi cx hw hl.1 (c_X11_isSheet rfl) q_926 k_X11_isSheet rfl dX11_write_1 rfl (Nat.le_of_ble_eq_true rfl) ⟨Nat.le_of_ble_eq_true rfl, Nat.le_of_ble_eq_true rfl⟩ ⟨Nat.le_refl _, Nat.le_refl _⟩ (fun H locs hw => ?_)
  refine lv_if_ne (tgt := 9) hx hb dX11_write_4 (by decide) (fun hc => ?_) (fun hc => ?_)
  · have hf := ifF hf hc
    refine lv_aload_n hx hb dX11_write_9 rfl (lv_at hl 0 rfl) ?_
    refine cg_X11_23_ds cx hw dX11_write_10 ?_
    refine cg_X11_286_host cx hw dX11_write_13 ?_
    refine lv_iload_n hx hb dX11_write_16 rfl (lv_at hl 1 rfl) ?_
    obtain ⟨h1, hf⟩ := ckS hf
    refine cl_h_sorts (j := v1.toNatClampNeg) cx hw (ib_in h1) rfl dX11_write_17 ?_
    refine lv_iconst (v := (-1)) hx hb dX11_write_18 (by decide) ?_
    refine lv_icmp_ne (tgt := 25) hx hb dX11_write_19 (by decide) (fun hc => ?_) (fun hc => ?_)
    · have hf := ifF hf hc
      refine lv_aload_n hx hb dX11_write_25 rfl (lv_at hl 0 rfl) ?_
      refine cg_X11_23_ds cx hw dX11_write_26 ?_
      refine lv_iload_n hx hb dX11_write_29 rfl (lv_at hl 1 rfl) ?_
      refine lv_iload_n hx hb dX11_write_30 rfl (lv_at hl 2 rfl) ?_
      obtain ⟨r2, h3, hf⟩ := bnS hf
      refine calVi cx hw hl.1 (c_X2_hasItem h3) q_938 k_X2_hasItem rfl rv_host rfl dX11_write_31 rfl (Nat.le_of_ble_eq_true rfl) ⟨Nat.le_of_ble_eq_true rfl, Nat.le_of_ble_eq_true rfl⟩ ⟨Nat.le_refl _, Nat.le_refl _⟩ (fun H locs hw => ?_)
      refine lv_if_ne (tgt := 40) hx hb dX11_write_34 (by decide) (fun hc => ?_) (fun hc => ?_)
      · have hf := ifF hf hc
        refine lv_aload_n hx hb dX11_write_40 rfl (lv_at hl 0 rfl) ?_
        refine cg_X11_23_ds cx hw dX11_write_41 ?_
        refine cg_X11_292_host cx hw dX11_write_44 ?_
        refine lv_iload_n hx hb dX11_write_47 rfl (lv_at hl 1 rfl) ?_
        obtain ⟨h4, hf⟩ := ckS hf
        refine co_h_items (j := v1.toNatClampNeg) cx hw (ib_in h4) rfl dX11_write_48 ?_
        refine lv_iload_n hx hb dX11_write_49 rfl (lv_at hl 2 rfl) ?_
        refine lv_iload_n hx hb dX11_write_50 rfl (lv_at hl 3 rfl) ?_
        refine lv_aload_n hx hb dX11_write_51 rfl (lv_at hl 0 rfl) ?_
        refine cg_X11_23_ds cx hw dX11_write_52 ?_
        refine cg_X11_286_host cx hw dX11_write_55 ?_
        refine lv_iload_n hx hb dX11_write_58 rfl (lv_at hl 1 rfl) ?_
        obtain ⟨h5, hf⟩ := ckS hf
        refine cl_h_sorts (j := v1.toNatClampNeg) cx hw (ib_in h5) rfl dX11_write_59 ?_
        refine calSi cx hw hl.1 (c_X11_narrowed rfl) q_942 k_X11_narrowed rfl dX11_write_60 rfl (Nat.le_of_ble_eq_true rfl) ⟨Nat.le_of_ble_eq_true rfl, Nat.le_of_ble_eq_true rfl⟩ ⟨Nat.le_refl _, Nat.le_refl _⟩ (fun H locs hw => ?_)
        obtain ⟨h6, hf⟩ := ckS hf
        refine ct_h_items (j := v2.toNatClampNeg) cx hw (ib_lt h4) (ib_in h6) rfl dX11_write_63 (fun H locs hw => ?_)
        refine lv_iconst (v := 1) hx hb dX11_write_64 (by decide) ?_
        have hf := Option.some.inj hf
        subst hf
        exact hR _ _ _ _ _ _ hw rfl ⟨rfl, rfl⟩ dX11_write_65
      · have hf := ifT hf hc
        refine lv_bipush (v := (-12)) hx hb dX11_write_37 (by decide) ?_
        have hf := Option.some.inj hf
        subst hf
        exact hR _ _ _ _ _ _ hw rfl ⟨rfl, rfl⟩ dX11_write_39
    · have hf := ifT hf hc
      refine lv_bipush (v := (-11)) hx hb dX11_write_22 (by decide) ?_
      have hf := Option.some.inj hf
      subst hf
      exact hR _ _ _ _ _ _ hw rfl ⟨rfl, rfl⟩ dX11_write_24
  · have hf := ifT hf hc
    refine lv_iconst (v := (-1)) hx hb dX11_write_7 (by decide) ?_
    have hf := Option.some.inj hf
    subst hf
    exact hR _ _ _ _ _ _ hw rfl ⟨rfl, rfl⟩ dX11_write_8
theorem dX2_refusalAs_0 : decode cX2_refusalAs 0 = .ok (.aload_n 0, 1) := by decide +kernel
theorem dX2_refusalAs_1 : decode cX2_refusalAs 1 = .ok (.getfield 9, 3) := by decide +kernel
theorem dX2_refusalAs_4 : decode cX2_refusalAs 4 = .ok (.iload_n 1, 1) := by decide +kernel
theorem dX2_refusalAs_5 : decode cX2_refusalAs 5 = .ok (.iaload, 1) := by decide +kernel
theorem dX2_refusalAs_6 : decode cX2_refusalAs 6 = .ok (.iconst (-1), 1) := by decide +kernel
theorem dX2_refusalAs_7 : decode cX2_refusalAs 7 = .ok (.if_icmp .ne 6, 3) := by decide +kernel
theorem dX2_refusalAs_10 : decode cX2_refusalAs 10 = .ok (.bipush (-11), 2) := by decide +kernel
theorem dX2_refusalAs_12 : decode cX2_refusalAs 12 = .ok (.ireturn, 1) := by decide +kernel
theorem dX2_refusalAs_13 : decode cX2_refusalAs 13 = .ok (.aload_n 0, 1) := by decide +kernel
theorem dX2_refusalAs_14 : decode cX2_refusalAs 14 = .ok (.getfield 9, 3) := by decide +kernel
theorem dX2_refusalAs_17 : decode cX2_refusalAs 17 = .ok (.iload_n 1, 1) := by decide +kernel
theorem dX2_refusalAs_18 : decode cX2_refusalAs 18 = .ok (.iaload, 1) := by decide +kernel
theorem dX2_refusalAs_19 : decode cX2_refusalAs 19 = .ok (.iload_n 2, 1) := by decide +kernel
theorem dX2_refusalAs_20 : decode cX2_refusalAs 20 = .ok (.if_icmp .ne 7, 3) := by decide +kernel
theorem dX2_refusalAs_23 : decode cX2_refusalAs 23 = .ok (.iconst 0, 1) := by decide +kernel
theorem dX2_refusalAs_24 : decode cX2_refusalAs 24 = .ok (.goto 5, 3) := by decide +kernel
theorem dX2_refusalAs_27 : decode cX2_refusalAs 27 = .ok (.bipush (-13), 2) := by decide +kernel
theorem dX2_refusalAs_29 : decode cX2_refusalAs 29 = .ok (.ireturn, 1) := by decide +kernel
theorem k_X2_refusalAs : MV yX2_refusalAs cX2_refusalAs 3 (some .int) 2 := ⟨q_950, q_951, q_3, q_952, ⟨by decide, by decide, by decide +kernel⟩⟩
theorem c_X2_refusalAs {v1 : Int32} {v2 : Int32} {res : Int32} (hf : X2_refusalAs x_h_sorts v1 v2 = some res) : MC l E0 D t yX2_refusalAs cX2_refusalAs 3 (some .int) 1 0 0 [.ref (a 105), .int v1, .int v2] (cW a ar t x_q0_dials x_q0_spots x_q0_skies x_q0_reports x_q0_count x_q0_chime x_q0_end x_q0_score x_q0_reportCount x_q0_z x_q0_rules x_q0_shades x_q0_facts x_q1_dials x_q1_spots x_q1_skies x_q1_reports x_q1_count x_q1_chime x_q1_end x_q1_score x_q1_reportCount x_q1_z x_q1_rules x_q1_shades x_q1_facts x_q2_dials x_q2_spots x_q2_skies x_q2_reports x_q2_count x_q2_chime x_q2_end x_q2_score x_q2_reportCount x_q2_z x_q2_rules x_q2_shades x_q2_facts x_isKept x_marks x_p_first x_p_steps x_p_most x_p_many x_p_fewest x_p_everRight x_p_opening x_p_rows x_p_rowCount x_p_acts x_p_marks x_p_deepest x_p_wanted x_t_length x_t_tape x_t_words x_t_places x_t_at x_t_kinds x_t_wills x_t_starts x_t_code x_t_count x_t_size x_h_sorts x_h_lengths x_h_items x_h_held x_h_things x_h_sizes x_h_bodies x_h_traced x_h_number x_h_spot x_h_parted x_g_count x_g_kinds x_g_wills x_g_starts x_g_code x_g_stack x_g_kl x_g_wl x_g_sl x_g_cl x_nr) (Qi res (cW a ar t x_q0_dials x_q0_spots x_q0_skies x_q0_reports x_q0_count x_q0_chime x_q0_end x_q0_score x_q0_reportCount x_q0_z x_q0_rules x_q0_shades x_q0_facts x_q1_dials x_q1_spots x_q1_skies x_q1_reports x_q1_count x_q1_chime x_q1_end x_q1_score x_q1_reportCount x_q1_z x_q1_rules x_q1_shades x_q1_facts x_q2_dials x_q2_spots x_q2_skies x_q2_reports x_q2_count x_q2_chime x_q2_end x_q2_score x_q2_reportCount x_q2_z x_q2_rules x_q2_shades x_q2_facts x_isKept x_marks x_p_first x_p_steps x_p_most x_p_many x_p_fewest x_p_everRight x_p_opening x_p_rows x_p_rowCount x_p_acts x_p_marks x_p_deepest x_p_wanted x_t_length x_t_tape x_t_words x_t_places x_t_at x_t_kinds x_t_wills x_t_starts x_t_code x_t_count x_t_size x_h_sorts x_h_lengths x_h_items x_h_held x_h_things x_h_sizes x_h_bodies x_h_traced x_h_number x_h_spot x_h_parted x_g_count x_g_kinds x_g_wills x_g_starts x_g_code x_g_stack x_g_kl x_g_wl x_g_sl x_g_cl x_nr)) := by
  unfold X2_refusalAs at hf
  refine MC.ofI pn_X2 (Nat.le_of_ble_eq_true rfl) ?_
  intro p e s m args below meth c A Q ls cx hR hw hl
  have hx := cx.1
  have hb := cx.2.1
  have hl : lv_has ls 3 [(0, .ref (a 105)), (1, .int v1), (2, .int v2)] := hl
  refine lv_aload_n hx hb dX2_refusalAs_0 rfl (lv_at hl 0 rfl) ?_
  refine cg_X2_9_host cx hw dX2_refusalAs_1 ?_
  refine lv_iload_n hx hb dX2_refusalAs_4 rfl (lv_at hl 1 rfl) ?_
  obtain ⟨h1, hf⟩ := ckS hf
  refine cl_h_sorts (j := v1.toNatClampNeg) cx hw (ib_in h1) rfl dX2_refusalAs_5 ?_
  refine lv_iconst (v := (-1)) hx hb dX2_refusalAs_6 (by decide) ?_
  refine lv_icmp_ne (tgt := 13) hx hb dX2_refusalAs_7 (by decide) (fun hc => ?_) (fun hc => ?_)
  · have hf := ifF hf hc
    refine lv_aload_n hx hb dX2_refusalAs_13 rfl (lv_at hl 0 rfl) ?_
    refine cg_X2_9_host cx hw dX2_refusalAs_14 ?_
    refine lv_iload_n hx hb dX2_refusalAs_17 rfl (lv_at hl 1 rfl) ?_
    obtain ⟨h2, hf⟩ := ckS hf
    refine cl_h_sorts (j := v1.toNatClampNeg) cx hw (ib_in h2) rfl dX2_refusalAs_18 ?_
    refine lv_iload_n hx hb dX2_refusalAs_19 rfl (lv_at hl 2 rfl) ?_
    refine lv_icmp_ne (tgt := 27) hx hb dX2_refusalAs_20 (by decide) (fun hc => ?_) (fun hc => ?_)
    · have hf := ifF hf hc
      refine lv_bipush (v := (-13)) hx hb dX2_refusalAs_27 (by decide) ?_
      have hf := Option.some.inj hf
      subst hf
      exact hR _ _ _ _ _ _ hw rfl ⟨rfl, rfl⟩ dX2_refusalAs_29
    · have hf := ifT hf hc
      refine lv_iconst (v := 0) hx hb dX2_refusalAs_23 (by decide) ?_
      refine lv_goto (tgt := 29) hx hb dX2_refusalAs_24 (by decide) ?_
      have hf := Option.some.inj hf
      subst hf
      exact hR _ _ _ _ _ _ hw rfl ⟨rfl, rfl⟩ dX2_refusalAs_29
  · have hf := ifT hf hc
    refine lv_bipush (v := (-11)) hx hb dX2_refusalAs_10 (by decide) ?_
    have hf := Option.some.inj hf
    subst hf
    exact hR _ _ _ _ _ _ hw rfl ⟨rfl, rfl⟩ dX2_refusalAs_12
theorem dX11_item_0 : decode cX11_item 0 = .ok (.iload_n 1, 1) := by decide +kernel
theorem dX11_item_1 : decode cX11_item 1 = .ok (.invokestatic 280, 3) := by decide +kernel
theorem dX11_item_4 : decode cX11_item 4 = .ok (.ifCond .eq 12, 3) := by decide +kernel
theorem dX11_item_7 : decode cX11_item 7 = .ok (.iload_n 2, 1) := by decide +kernel
theorem dX11_item_8 : decode cX11_item 8 = .ok (.iconst 0, 1) := by decide +kernel
theorem dX11_item_9 : decode cX11_item 9 = .ok (.iconst 4, 1) := by decide +kernel
theorem dX11_item_10 : decode cX11_item 10 = .ok (.invokestatic 74, 3) := by decide +kernel
theorem dX11_item_13 : decode cX11_item 13 = .ok (.ifCond .ne 5, 3) := by decide +kernel
theorem dX11_item_16 : decode cX11_item 16 = .ok (.iconst (-1), 1) := by decide +kernel
theorem dX11_item_17 : decode cX11_item 17 = .ok (.ireturn, 1) := by decide +kernel
theorem dX11_item_18 : decode cX11_item 18 = .ok (.aload_n 0, 1) := by decide +kernel
theorem dX11_item_19 : decode cX11_item 19 = .ok (.getfield 23, 3) := by decide +kernel
theorem dX11_item_22 : decode cX11_item 22 = .ok (.iload_n 1, 1) := by decide +kernel
theorem dX11_item_23 : decode cX11_item 23 = .ok (.iload_n 2, 1) := by decide +kernel
theorem dX11_item_24 : decode cX11_item 24 = .ok (.invokevirtual 298, 3) := by decide +kernel
theorem dX11_item_27 : decode cX11_item 27 = .ok (.istore 4, 2) := by decide +kernel
theorem dX11_item_29 : decode cX11_item 29 = .ok (.iload 4, 2) := by decide +kernel
theorem dX11_item_31 : decode cX11_item 31 = .ok (.ifCond .eq 6, 3) := by decide +kernel
theorem dX11_item_34 : decode cX11_item 34 = .ok (.iload 4, 2) := by decide +kernel
theorem dX11_item_36 : decode cX11_item 36 = .ok (.ireturn, 1) := by decide +kernel
theorem dX11_item_37 : decode cX11_item 37 = .ok (.aload_n 0, 1) := by decide +kernel
theorem dX11_item_38 : decode cX11_item 38 = .ok (.getfield 23, 3) := by decide +kernel
theorem dX11_item_41 : decode cX11_item 41 = .ok (.iload_n 1, 1) := by decide +kernel
theorem dX11_item_42 : decode cX11_item 42 = .ok (.iload_n 3, 1) := by decide +kernel
theorem dX11_item_43 : decode cX11_item 43 = .ok (.invokevirtual 289, 3) := by decide +kernel
theorem dX11_item_46 : decode cX11_item 46 = .ok (.ifCond .eq 17, 3) := by decide +kernel
theorem dX11_item_49 : decode cX11_item 49 = .ok (.aload_n 0, 1) := by decide +kernel
theorem dX11_item_50 : decode cX11_item 50 = .ok (.getfield 23, 3) := by decide +kernel
theorem dX11_item_53 : decode cX11_item 53 = .ok (.getfield 292, 3) := by decide +kernel
theorem dX11_item_56 : decode cX11_item 56 = .ok (.iload_n 1, 1) := by decide +kernel
theorem dX11_item_57 : decode cX11_item 57 = .ok (.aaload, 1) := by decide +kernel
theorem dX11_item_58 : decode cX11_item 58 = .ok (.iload_n 3, 1) := by decide +kernel
theorem dX11_item_59 : decode cX11_item 59 = .ok (.iaload, 1) := by decide +kernel
theorem dX11_item_60 : decode cX11_item 60 = .ok (.goto 5, 3) := by decide +kernel
theorem dX11_item_63 : decode cX11_item 63 = .ok (.bipush (-12), 2) := by decide +kernel
theorem dX11_item_65 : decode cX11_item 65 = .ok (.ireturn, 1) := by decide +kernel
theorem k_X11_item : MV yX11_item cX11_item 5 (some .int) 3 := ⟨q_946, q_947, q_1, q_948, ⟨by decide, by decide, by decide +kernel⟩⟩
theorem c_X11_item {v1 : Int32} {v2 : Int32} {v3 : Int32} {res : Int32} (hf : X11_item x_h_sorts x_h_lengths x_h_items v1 v2 v3 = some res) : MC l E0 D t yX11_item cX11_item 5 (some .int) 3 0 0 [.ref (a 0), .int v1, .int v2, .int v3] (cW a ar t x_q0_dials x_q0_spots x_q0_skies x_q0_reports x_q0_count x_q0_chime x_q0_end x_q0_score x_q0_reportCount x_q0_z x_q0_rules x_q0_shades x_q0_facts x_q1_dials x_q1_spots x_q1_skies x_q1_reports x_q1_count x_q1_chime x_q1_end x_q1_score x_q1_reportCount x_q1_z x_q1_rules x_q1_shades x_q1_facts x_q2_dials x_q2_spots x_q2_skies x_q2_reports x_q2_count x_q2_chime x_q2_end x_q2_score x_q2_reportCount x_q2_z x_q2_rules x_q2_shades x_q2_facts x_isKept x_marks x_p_first x_p_steps x_p_most x_p_many x_p_fewest x_p_everRight x_p_opening x_p_rows x_p_rowCount x_p_acts x_p_marks x_p_deepest x_p_wanted x_t_length x_t_tape x_t_words x_t_places x_t_at x_t_kinds x_t_wills x_t_starts x_t_code x_t_count x_t_size x_h_sorts x_h_lengths x_h_items x_h_held x_h_things x_h_sizes x_h_bodies x_h_traced x_h_number x_h_spot x_h_parted x_g_count x_g_kinds x_g_wills x_g_starts x_g_code x_g_stack x_g_kl x_g_wl x_g_sl x_g_cl x_nr) (Qi res (cW a ar t x_q0_dials x_q0_spots x_q0_skies x_q0_reports x_q0_count x_q0_chime x_q0_end x_q0_score x_q0_reportCount x_q0_z x_q0_rules x_q0_shades x_q0_facts x_q1_dials x_q1_spots x_q1_skies x_q1_reports x_q1_count x_q1_chime x_q1_end x_q1_score x_q1_reportCount x_q1_z x_q1_rules x_q1_shades x_q1_facts x_q2_dials x_q2_spots x_q2_skies x_q2_reports x_q2_count x_q2_chime x_q2_end x_q2_score x_q2_reportCount x_q2_z x_q2_rules x_q2_shades x_q2_facts x_isKept x_marks x_p_first x_p_steps x_p_most x_p_many x_p_fewest x_p_everRight x_p_opening x_p_rows x_p_rowCount x_p_acts x_p_marks x_p_deepest x_p_wanted x_t_length x_t_tape x_t_words x_t_places x_t_at x_t_kinds x_t_wills x_t_starts x_t_code x_t_count x_t_size x_h_sorts x_h_lengths x_h_items x_h_held x_h_things x_h_sizes x_h_bodies x_h_traced x_h_number x_h_spot x_h_parted x_g_count x_g_kinds x_g_wills x_g_starts x_g_code x_g_stack x_g_kl x_g_wl x_g_sl x_g_cl x_nr)) := by
  unfold X11_item at hf
  refine MC.ofI pn_X11 (Nat.le_of_ble_eq_true rfl) ?_
  intro p e s m args below meth c A Q ls cx hR hw hl
  have hx := cx.1
  have hb := cx.2.1
  have hl : lv_has ls 5 [(0, .ref (a 0)), (1, .int v1), (2, .int v2), (3, .int v3)] := hl
  refine lv_iload_n hx hb dX11_item_0 rfl (lv_at hl 1 rfl) ?_
  refine calSi cx hw hl.1 (c_X11_isSheet rfl) q_926 k_X11_isSheet rfl dX11_item_1 rfl (Nat.le_of_ble_eq_true rfl) ⟨Nat.le_of_ble_eq_true rfl, Nat.le_of_ble_eq_true rfl⟩ ⟨Nat.le_refl _, Nat.le_refl _⟩ (fun H locs hw => ?_)
  refine lv_if_eq (tgt := 16) hx hb dX11_item_4 (by decide) (fun hc => ?_) (fun hc => ?_)
  · have hf := ifT hf hc
    refine lv_iconst (v := (-1)) hx hb dX11_item_16 (by decide) ?_
    have hf := Option.some.inj hf
    subst hf
    exact hR _ _ _ _ _ _ hw rfl ⟨rfl, rfl⟩ dX11_item_17
  · have hf := ifF hf hc
    refine lv_iload_n hx hb dX11_item_7 rfl (lv_at hl 2 rfl) ?_
    refine lv_iconst (v := 0) hx hb dX11_item_8 (by decide) ?_
    refine lv_iconst (v := 4) hx hb dX11_item_9 (by decide) ?_
    refine calSi cx hw hl.1 (c_X11_isIn rfl) q_350 k_X11_isIn rfl dX11_item_10 rfl (Nat.le_of_ble_eq_true rfl) ⟨Nat.le_of_ble_eq_true rfl, Nat.le_of_ble_eq_true rfl⟩ ⟨Nat.le_refl _, Nat.le_refl _⟩ (fun H locs hw => ?_)
    refine lv_if_ne (tgt := 18) hx hb dX11_item_13 (by decide) (fun hc => ?_) (fun hc => ?_)
    · have hf := ifF hf hc
      refine lv_aload_n hx hb dX11_item_18 rfl (lv_at hl 0 rfl) ?_
      refine cg_X11_23_ds cx hw dX11_item_19 ?_
      refine lv_iload_n hx hb dX11_item_22 rfl (lv_at hl 1 rfl) ?_
      refine lv_iload_n hx hb dX11_item_23 rfl (lv_at hl 2 rfl) ?_
      obtain ⟨r1, h2, hf⟩ := bnS hf
      refine calVi cx hw hl.1 (c_X2_refusalAs h2) q_949 k_X2_refusalAs rfl rv_host rfl dX11_item_24 rfl (Nat.le_of_ble_eq_true rfl) ⟨Nat.le_of_ble_eq_true rfl, Nat.le_of_ble_eq_true rfl⟩ ⟨Nat.le_refl _, Nat.le_refl _⟩ (fun H locs hw => ?_)
      refine lv_istore (lv' := [(4, .int r1), (0, .ref (a 0)), (1, .int v1), (2, .int v2), (3, .int v3)]) hx hb dX11_item_27 hl (by decide) rfl (fun ls hl => ?_)
      refine lv_iload hx hb dX11_item_29 (lv_at hl 0 rfl) ?_
      refine lv_if_eq (tgt := 37) hx hb dX11_item_31 (by decide) (fun hc => ?_) (fun hc => ?_)
      · have hf := ifT hf hc
        refine lv_aload_n hx hb dX11_item_37 rfl (lv_at hl 1 rfl) ?_
        refine cg_X11_23_ds cx hw dX11_item_38 ?_
        refine lv_iload_n hx hb dX11_item_41 rfl (lv_at hl 2 rfl) ?_
        refine lv_iload_n hx hb dX11_item_42 rfl (lv_at hl 4 rfl) ?_
        obtain ⟨r3, h4, hf⟩ := bnS hf
        refine calVi cx hw hl.1 (c_X2_hasItem h4) q_938 k_X2_hasItem rfl rv_host rfl dX11_item_43 rfl (Nat.le_of_ble_eq_true rfl) ⟨Nat.le_of_ble_eq_true rfl, Nat.le_of_ble_eq_true rfl⟩ ⟨Nat.le_refl _, Nat.le_refl _⟩ (fun H locs hw => ?_)
        refine lv_if_eq (tgt := 63) hx hb dX11_item_46 (by decide) (fun hc => ?_) (fun hc => ?_)
        · have hf := ifT hf hc
          refine lv_bipush (v := (-12)) hx hb dX11_item_63 (by decide) ?_
          have hf := Option.some.inj hf
          subst hf
          exact hR _ _ _ _ _ _ hw rfl ⟨rfl, rfl⟩ dX11_item_65
        · have hf := ifF hf hc
          refine lv_aload_n hx hb dX11_item_49 rfl (lv_at hl 1 rfl) ?_
          refine cg_X11_23_ds cx hw dX11_item_50 ?_
          refine cg_X11_292_host cx hw dX11_item_53 ?_
          refine lv_iload_n hx hb dX11_item_56 rfl (lv_at hl 2 rfl) ?_
          obtain ⟨h5, hf⟩ := ckS hf
          refine co_h_items (j := v1.toNatClampNeg) cx hw (ib_in h5) rfl dX11_item_57 ?_
          refine lv_iload_n hx hb dX11_item_58 rfl (lv_at hl 4 rfl) ?_
          obtain ⟨h6, hf⟩ := ckS hf
          refine cm_h_items (j := v3.toNatClampNeg) cx hw (ib_lt h5) (ib_in h6) rfl dX11_item_59 ?_
          refine lv_goto (tgt := 65) hx hb dX11_item_60 (by decide) ?_
          have hf := Option.some.inj hf
          subst hf
          exact hR _ _ _ _ _ _ hw rfl ⟨rfl, rfl⟩ dX11_item_65
      · have hf := ifF hf hc
        refine lv_iload hx hb dX11_item_34 (lv_at hl 0 rfl) ?_
        have hf := Option.some.inj hf
        subst hf
        exact hR _ _ _ _ _ _ hw rfl ⟨rfl, rfl⟩ dX11_item_36
    · have hf := ifT hf hc
      refine lv_iconst (v := (-1)) hx hb dX11_item_16 (by decide) ?_
      have hf := Option.some.inj hf
      subst hf
      exact hR _ _ _ _ _ _ hw rfl ⟨rfl, rfl⟩ dX11_item_17
theorem c_X9_isAct_q0 {v1 : Int32} {res : Int32} (hf : X9_isAct_q0 x_q0_count v1 = res) : MC l E0 D t yX9_isAct cX9_isAct 2 (some .boolean) 1 0 0 [.ref (a 1), .int v1] (cW a ar t x_q0_dials x_q0_spots x_q0_skies x_q0_reports x_q0_count x_q0_chime x_q0_end x_q0_score x_q0_reportCount x_q0_z x_q0_rules x_q0_shades x_q0_facts x_q1_dials x_q1_spots x_q1_skies x_q1_reports x_q1_count x_q1_chime x_q1_end x_q1_score x_q1_reportCount x_q1_z x_q1_rules x_q1_shades x_q1_facts x_q2_dials x_q2_spots x_q2_skies x_q2_reports x_q2_count x_q2_chime x_q2_end x_q2_score x_q2_reportCount x_q2_z x_q2_rules x_q2_shades x_q2_facts x_isKept x_marks x_p_first x_p_steps x_p_most x_p_many x_p_fewest x_p_everRight x_p_opening x_p_rows x_p_rowCount x_p_acts x_p_marks x_p_deepest x_p_wanted x_t_length x_t_tape x_t_words x_t_places x_t_at x_t_kinds x_t_wills x_t_starts x_t_code x_t_count x_t_size x_h_sorts x_h_lengths x_h_items x_h_held x_h_things x_h_sizes x_h_bodies x_h_traced x_h_number x_h_spot x_h_parted x_g_count x_g_kinds x_g_wills x_g_starts x_g_code x_g_stack x_g_kl x_g_wl x_g_sl x_g_cl x_nr) (Qi res (cW a ar t x_q0_dials x_q0_spots x_q0_skies x_q0_reports x_q0_count x_q0_chime x_q0_end x_q0_score x_q0_reportCount x_q0_z x_q0_rules x_q0_shades x_q0_facts x_q1_dials x_q1_spots x_q1_skies x_q1_reports x_q1_count x_q1_chime x_q1_end x_q1_score x_q1_reportCount x_q1_z x_q1_rules x_q1_shades x_q1_facts x_q2_dials x_q2_spots x_q2_skies x_q2_reports x_q2_count x_q2_chime x_q2_end x_q2_score x_q2_reportCount x_q2_z x_q2_rules x_q2_shades x_q2_facts x_isKept x_marks x_p_first x_p_steps x_p_most x_p_many x_p_fewest x_p_everRight x_p_opening x_p_rows x_p_rowCount x_p_acts x_p_marks x_p_deepest x_p_wanted x_t_length x_t_tape x_t_words x_t_places x_t_at x_t_kinds x_t_wills x_t_starts x_t_code x_t_count x_t_size x_h_sorts x_h_lengths x_h_items x_h_held x_h_things x_h_sizes x_h_bodies x_h_traced x_h_number x_h_spot x_h_parted x_g_count x_g_kinds x_g_wills x_g_starts x_g_code x_g_stack x_g_kl x_g_wl x_g_sl x_g_cl x_nr)) := by
  unfold X9_isAct_q0 at hf
  refine MC.ofI pn_X9 (Nat.le_of_ble_eq_true rfl) ?_
  intro p e s m args below meth c A Q ls cx hR hw hl
  have hx := cx.1
  have hb := cx.2.1
  have hl : lv_has ls 2 [(0, .ref (a 1)), (1, .int v1)] := hl
  refine lv_iload_n hx hb dX9_isAct_0 rfl (lv_at hl 1 rfl) ?_
  refine lv_if_lt (tgt := 16) hx hb dX9_isAct_1 (by decide) (fun hc => ?_) (fun hc => ?_)
  · have hf := ifT hf hc
    refine lv_iconst (v := 0) hx hb dX9_isAct_16 (by decide) ?_
    subst hf
    exact hR _ _ _ _ _ _ hw rfl ⟨rfl, rfl⟩ dX9_isAct_17
  · have hf := ifF hf hc
    refine lv_iload_n hx hb dX9_isAct_4 rfl (lv_at hl 1 rfl) ?_
    refine lv_aload_n hx hb dX9_isAct_5 rfl (lv_at hl 0 rfl) ?_
    refine cg_X9_59_q0 cx hw dX9_isAct_6 ?_
    refine lv_icmp_gt (tgt := 16) hx hb dX9_isAct_9 (by decide) (fun hc => ?_) (fun hc => ?_)
    · have hf := ifT hf hc
      refine lv_iconst (v := 0) hx hb dX9_isAct_16 (by decide) ?_
      subst hf
      exact hR _ _ _ _ _ _ hw rfl ⟨rfl, rfl⟩ dX9_isAct_17
    · have hf := ifF hf hc
      refine lv_iconst (v := 1) hx hb dX9_isAct_12 (by decide) ?_
      refine lv_goto (tgt := 17) hx hb dX9_isAct_13 (by decide) ?_
      subst hf
      exact hR _ _ _ _ _ _ hw rfl ⟨rfl, rfl⟩ dX9_isAct_17
theorem b_X9_isAct_q0 (x_q0_count : Int32) (v1 : Int32) : X9_isAct_q0 x_q0_count v1 = 0 ∨ X9_isAct_q0 x_q0_count v1 = 1 := by unfold X9_isAct_q0; repeat (first | exact Or.inl rfl | exact Or.inr rfl | split)
theorem dX11_goAll_0 : decode cX11_goAll 0 = .ok (.iload_n 1, 1) := by decide +kernel
theorem dX11_goAll_1 : decode cX11_goAll 1 = .ok (.invokestatic 280, 3) := by decide +kernel
theorem dX11_goAll_4 : decode cX11_goAll 4 = .ok (.ifCond .eq 13, 3) := by decide +kernel
theorem dX11_goAll_7 : decode cX11_goAll 7 = .ok (.iload_n 3, 1) := by decide +kernel
theorem dX11_goAll_8 : decode cX11_goAll 8 = .ok (.iconst 0, 1) := by decide +kernel
theorem dX11_goAll_9 : decode cX11_goAll 9 = .ok (.bipush 20, 2) := by decide +kernel
theorem dX11_goAll_11 : decode cX11_goAll 11 = .ok (.invokestatic 74, 3) := by decide +kernel
theorem dX11_goAll_14 : decode cX11_goAll 14 = .ok (.ifCond .ne 5, 3) := by decide +kernel
theorem dX11_goAll_17 : decode cX11_goAll 17 = .ok (.iconst (-1), 1) := by decide +kernel
theorem dX11_goAll_18 : decode cX11_goAll 18 = .ok (.ireturn, 1) := by decide +kernel
theorem dX11_goAll_19 : decode cX11_goAll 19 = .ok (.aload_n 0, 1) := by decide +kernel
theorem dX11_goAll_20 : decode cX11_goAll 20 = .ok (.getfield 23, 3) := by decide +kernel
theorem dX11_goAll_23 : decode cX11_goAll 23 = .ok (.iload_n 1, 1) := by decide +kernel
theorem dX11_goAll_24 : decode cX11_goAll 24 = .ok (.iconst 0, 1) := by decide +kernel
theorem dX11_goAll_25 : decode cX11_goAll 25 = .ok (.invokevirtual 298, 3) := by decide +kernel
theorem dX11_goAll_28 : decode cX11_goAll 28 = .ok (.istore 4, 2) := by decide +kernel
theorem dX11_goAll_30 : decode cX11_goAll 30 = .ok (.iload 4, 2) := by decide +kernel
theorem dX11_goAll_32 : decode cX11_goAll 32 = .ok (.ifCond .eq 6, 3) := by decide +kernel
theorem dX11_goAll_35 : decode cX11_goAll 35 = .ok (.iload 4, 2) := by decide +kernel
theorem dX11_goAll_37 : decode cX11_goAll 37 = .ok (.ireturn, 1) := by decide +kernel
theorem dX11_goAll_38 : decode cX11_goAll 38 = .ok (.iconst 0, 1) := by decide +kernel
theorem dX11_goAll_39 : decode cX11_goAll 39 = .ok (.istore 5, 2) := by decide +kernel
theorem dX11_goAll_41 : decode cX11_goAll 41 = .ok (.iconst 0, 1) := by decide +kernel
theorem dX11_goAll_42 : decode cX11_goAll 42 = .ok (.istore 6, 2) := by decide +kernel
theorem dX11_goAll_44 : decode cX11_goAll 44 = .ok (.iload 6, 2) := by decide +kernel
theorem dX11_goAll_46 : decode cX11_goAll 46 = .ok (.iload_n 3, 1) := by decide +kernel
theorem dX11_goAll_47 : decode cX11_goAll 47 = .ok (.if_icmp .ge 79, 3) := by decide +kernel
theorem dX11_goAll_50 : decode cX11_goAll 50 = .ok (.aload_n 0, 1) := by decide +kernel
theorem dX11_goAll_51 : decode cX11_goAll 51 = .ok (.getfield 23, 3) := by decide +kernel
theorem dX11_goAll_54 : decode cX11_goAll 54 = .ok (.iload_n 1, 1) := by decide +kernel
theorem dX11_goAll_55 : decode cX11_goAll 55 = .ok (.iload_n 2, 1) := by decide +kernel
theorem dX11_goAll_56 : decode cX11_goAll 56 = .ok (.iload 6, 2) := by decide +kernel
theorem dX11_goAll_58 : decode cX11_goAll 58 = .ok (.iadd, 1) := by decide +kernel
theorem dX11_goAll_59 : decode cX11_goAll 59 = .ok (.invokevirtual 289, 3) := by decide +kernel
theorem dX11_goAll_62 : decode cX11_goAll 62 = .ok (.ifCond .ne 6, 3) := by decide +kernel
theorem dX11_goAll_65 : decode cX11_goAll 65 = .ok (.bipush (-12), 2) := by decide +kernel
theorem dX11_goAll_67 : decode cX11_goAll 67 = .ok (.ireturn, 1) := by decide +kernel
theorem dX11_goAll_68 : decode cX11_goAll 68 = .ok (.aload_n 0, 1) := by decide +kernel
theorem dX11_goAll_69 : decode cX11_goAll 69 = .ok (.getfield 23, 3) := by decide +kernel
theorem dX11_goAll_72 : decode cX11_goAll 72 = .ok (.getfield 292, 3) := by decide +kernel
theorem dX11_goAll_75 : decode cX11_goAll 75 = .ok (.iload_n 1, 1) := by decide +kernel
theorem dX11_goAll_76 : decode cX11_goAll 76 = .ok (.aaload, 1) := by decide +kernel
theorem dX11_goAll_77 : decode cX11_goAll 77 = .ok (.iload_n 2, 1) := by decide +kernel
theorem dX11_goAll_78 : decode cX11_goAll 78 = .ok (.iload 6, 2) := by decide +kernel
theorem dX11_goAll_80 : decode cX11_goAll 80 = .ok (.iadd, 1) := by decide +kernel
theorem dX11_goAll_81 : decode cX11_goAll 81 = .ok (.iaload, 1) := by decide +kernel
theorem dX11_goAll_82 : decode cX11_goAll 82 = .ok (.istore 7, 2) := by decide +kernel
theorem dX11_goAll_84 : decode cX11_goAll 84 = .ok (.aload_n 0, 1) := by decide +kernel
theorem dX11_goAll_85 : decode cX11_goAll 85 = .ok (.getfield 55, 3) := by decide +kernel
theorem dX11_goAll_88 : decode cX11_goAll 88 = .ok (.iload 7, 2) := by decide +kernel
theorem dX11_goAll_90 : decode cX11_goAll 90 = .ok (.invokevirtual 301, 3) := by decide +kernel
theorem dX11_goAll_93 : decode cX11_goAll 93 = .ok (.ifCond .eq 27, 3) := by decide +kernel
theorem dX11_goAll_96 : decode cX11_goAll 96 = .ok (.aload_n 0, 1) := by decide +kernel
theorem dX11_goAll_97 : decode cX11_goAll 97 = .ok (.getfield 55, 3) := by decide +kernel
theorem dX11_goAll_100 : decode cX11_goAll 100 = .ok (.invokevirtual 137, 3) := by decide +kernel
theorem dX11_goAll_103 : decode cX11_goAll 103 = .ok (.ifCond .ne 17, 3) := by decide +kernel
theorem dX11_goAll_106 : decode cX11_goAll 106 = .ok (.iload 5, 2) := by decide +kernel
theorem dX11_goAll_108 : decode cX11_goAll 108 = .ok (.aload_n 0, 1) := by decide +kernel
theorem dX11_goAll_109 : decode cX11_goAll 109 = .ok (.getfield 55, 3) := by decide +kernel
theorem dX11_goAll_112 : decode cX11_goAll 112 = .ok (.iload 7, 2) := by decide +kernel
theorem dX11_goAll_114 : decode cX11_goAll 114 = .ok (.invokevirtual 304, 3) := by decide +kernel
theorem dX11_goAll_117 : decode cX11_goAll 117 = .ok (.iadd, 1) := by decide +kernel
theorem dX11_goAll_118 : decode cX11_goAll 118 = .ok (.istore 5, 2) := by decide +kernel
theorem dX11_goAll_120 : decode cX11_goAll 120 = .ok (.iinc 6 1, 3) := by decide +kernel
theorem dX11_goAll_123 : decode cX11_goAll 123 = .ok (.goto (-79), 3) := by decide +kernel
theorem dX11_goAll_126 : decode cX11_goAll 126 = .ok (.iload 5, 2) := by decide +kernel
theorem dX11_goAll_128 : decode cX11_goAll 128 = .ok (.ireturn, 1) := by decide +kernel
theorem k_X11_goAll : MV yX11_goAll cX11_goAll 8 (some .int) 3 := ⟨q_954, q_955, q_1, q_956, ⟨by decide, by decide, by decide +kernel⟩⟩
theorem c_X11_goAll {v1 : Int32} {v2 : Int32} {v3 : Int32} {res : Int32 × (Nat → Nat → Int32) × Int32 × Int32 × (Nat → Int32) × (Nat → Int32) × (Nat → Nat → Int32)} (hf : X11_goAll n x_q0_dials x_q0_spots x_q0_skies x_q0_count x_q0_chime x_q0_end x_q0_score x_q0_rules x_q0_shades x_q0_facts x_h_sorts x_h_lengths x_h_items x_g_count x_g_kinds x_g_wills x_g_starts x_g_code x_g_stack x_g_kl x_g_wl x_g_sl x_g_cl x_nr v1 v2 v3 = some res) : MC l E0 D t yX11_goAll cX11_goAll 8 (some .int) 6 0 0 [.ref (a 0), .int v1, .int v2, .int v3] (cW a ar t x_q0_dials x_q0_spots x_q0_skies x_q0_reports x_q0_count x_q0_chime x_q0_end x_q0_score x_q0_reportCount x_q0_z x_q0_rules x_q0_shades x_q0_facts x_q1_dials x_q1_spots x_q1_skies x_q1_reports x_q1_count x_q1_chime x_q1_end x_q1_score x_q1_reportCount x_q1_z x_q1_rules x_q1_shades x_q1_facts x_q2_dials x_q2_spots x_q2_skies x_q2_reports x_q2_count x_q2_chime x_q2_end x_q2_score x_q2_reportCount x_q2_z x_q2_rules x_q2_shades x_q2_facts x_isKept x_marks x_p_first x_p_steps x_p_most x_p_many x_p_fewest x_p_everRight x_p_opening x_p_rows x_p_rowCount x_p_acts x_p_marks x_p_deepest x_p_wanted x_t_length x_t_tape x_t_words x_t_places x_t_at x_t_kinds x_t_wills x_t_starts x_t_code x_t_count x_t_size x_h_sorts x_h_lengths x_h_items x_h_held x_h_things x_h_sizes x_h_bodies x_h_traced x_h_number x_h_spot x_h_parted x_g_count x_g_kinds x_g_wills x_g_starts x_g_code x_g_stack x_g_kl x_g_wl x_g_sl x_g_cl x_nr) (Qi res.1 (cW a ar t res.2.1 x_q0_spots x_q0_skies x_q0_reports x_q0_count res.2.2.1 x_q0_end res.2.2.2.1 x_q0_reportCount x_q0_z x_q0_rules res.2.2.2.2.1 res.2.2.2.2.2.1 x_q1_dials x_q1_spots x_q1_skies x_q1_reports x_q1_count x_q1_chime x_q1_end x_q1_score x_q1_reportCount x_q1_z x_q1_rules x_q1_shades x_q1_facts x_q2_dials x_q2_spots x_q2_skies x_q2_reports x_q2_count x_q2_chime x_q2_end x_q2_score x_q2_reportCount x_q2_z x_q2_rules x_q2_shades x_q2_facts x_isKept x_marks x_p_first x_p_steps x_p_most x_p_many x_p_fewest x_p_everRight x_p_opening x_p_rows x_p_rowCount x_p_acts x_p_marks x_p_deepest x_p_wanted x_t_length x_t_tape x_t_words x_t_places x_t_at x_t_kinds x_t_wills x_t_starts x_t_code x_t_count x_t_size x_h_sorts x_h_lengths x_h_items x_h_held x_h_things x_h_sizes x_h_bodies x_h_traced x_h_number x_h_spot x_h_parted x_g_count x_g_kinds x_g_wills x_g_starts x_g_code res.2.2.2.2.2.2 x_g_kl x_g_wl x_g_sl x_g_cl x_nr)) := by
  unfold X11_goAll at hf
  refine MC.ofI pn_X11 (Nat.le_of_ble_eq_true rfl) ?_
  intro p e s m args below meth c A Q ls cx hR hw hl
  have hx := cx.1
  have hb := cx.2.1
  have hl : lv_has ls 8 [(0, .ref (a 0)), (1, .int v1), (2, .int v2), (3, .int v3)] := hl
  refine lv_iload_n hx hb dX11_goAll_0 rfl (lv_at hl 1 rfl) ?_
  refine calSi cx hw hl.1 (c_X11_isSheet rfl) q_926 k_X11_isSheet rfl dX11_goAll_1 rfl (Nat.le_of_ble_eq_true rfl) ⟨Nat.le_of_ble_eq_true rfl, Nat.le_of_ble_eq_true rfl⟩ ⟨Nat.le_refl _, Nat.le_refl _⟩ (fun H locs hw => ?_)
  refine lv_if_eq (tgt := 17) hx hb dX11_goAll_4 (by decide) (fun hc => ?_) (fun hc => ?_)
  · have hf := ifT hf hc
    refine lv_iconst (v := (-1)) hx hb dX11_goAll_17 (by decide) ?_
    have hf := Option.some.inj hf
    subst hf
    exact hR _ _ _ _ _ _ hw rfl ⟨rfl, rfl⟩ dX11_goAll_18
  · have hf := ifF hf hc
    refine lv_iload_n hx hb dX11_goAll_7 rfl (lv_at hl 3 rfl) ?_
    refine lv_iconst (v := 0) hx hb dX11_goAll_8 (by decide) ?_
    refine lv_bipush (v := 20) hx hb dX11_goAll_9 (by decide) ?_
    refine calSi cx hw hl.1 (c_X11_isIn rfl) q_350 k_X11_isIn rfl dX11_goAll_11 rfl (Nat.le_of_ble_eq_true rfl) ⟨Nat.le_of_ble_eq_true rfl, Nat.le_of_ble_eq_true rfl⟩ ⟨Nat.le_refl _, Nat.le_refl _⟩ (fun H locs hw => ?_)
    refine lv_if_ne (tgt := 19) hx hb dX11_goAll_14 (by decide) (fun hc => ?_) (fun hc => ?_)
    · have hf := ifF hf hc
      refine lv_aload_n hx hb dX11_goAll_19 rfl (lv_at hl 0 rfl) ?_
      refine cg_X11_23_ds cx hw dX11_goAll_20 ?_
      refine lv_iload_n hx hb dX11_goAll_23 rfl (lv_at hl 1 rfl) ?_
      refine lv_iconst (v := 0) hx hb dX11_goAll_24 (by decide) ?_
      obtain ⟨r1, h2, hf⟩ := bnS hf
      refine calVi cx hw hl.1 (c_X2_refusalAs h2) q_949 k_X2_refusalAs rfl rv_host rfl dX11_goAll_25 rfl (Nat.le_of_ble_eq_true rfl) ⟨Nat.le_of_ble_eq_true rfl, Nat.le_of_ble_eq_true rfl⟩ ⟨Nat.le_refl _, Nat.le_refl _⟩ (fun H locs hw => ?_)
      refine lv_istore (lv' := [(4, .int r1), (0, .ref (a 0)), (1, .int v1), (2, .int v2), (3, .int v3)]) hx hb dX11_goAll_28 hl (by decide) rfl (fun ls hl => ?_)
      refine lv_iload hx hb dX11_goAll_30 (lv_at hl 0 rfl) ?_
      refine lv_if_eq (tgt := 38) hx hb dX11_goAll_32 (by decide) (fun hc => ?_) (fun hc => ?_)
      · have hf := ifT hf hc
        refine lv_iconst (v := 0) hx hb dX11_goAll_38 (by decide) ?_
        refine lv_istore (lv' := [(5, .int (0 : Int32)), (4, .int r1), (0, .ref (a 0)), (1, .int v1), (2, .int v2), (3, .int v3)]) hx hb dX11_goAll_39 hl (by decide) rfl (fun ls hl => ?_)
        refine lv_iconst (v := 0) hx hb dX11_goAll_41 (by decide) ?_
        refine lv_istore (lv' := [(6, .int (0 : Int32)), (5, .int (0 : Int32)), (4, .int r1), (0, .ref (a 0)), (1, .int v1), (2, .int v2), (3, .int v3)]) hx hb dX11_goAll_42 hl (by decide) rfl (fun ls hl => ?_)
        obtain ⟨K1, hK1, hf⟩ := jnS hf
        have kx1 : ∀ (o10 : Int32 × Int32 × (Nat → Nat → Int32) × Int32 × Int32 × (Nat → Int32) × (Nat → Int32) × (Nat → Nat → Int32)) (H : Heap) (locs : List Loc) (ls : Array Slot), K1 o10 = some res → Wd D A s (cW a ar t o10.2.2.1 x_q0_spots x_q0_skies x_q0_reports x_q0_count o10.2.2.2.1 x_q0_end o10.2.2.2.2.1 x_q0_reportCount x_q0_z x_q0_rules o10.2.2.2.2.2.1 o10.2.2.2.2.2.2.1 x_q1_dials x_q1_spots x_q1_skies x_q1_reports x_q1_count x_q1_chime x_q1_end x_q1_score x_q1_reportCount x_q1_z x_q1_rules x_q1_shades x_q1_facts x_q2_dials x_q2_spots x_q2_skies x_q2_reports x_q2_count x_q2_chime x_q2_end x_q2_score x_q2_reportCount x_q2_z x_q2_rules x_q2_shades x_q2_facts x_isKept x_marks x_p_first x_p_steps x_p_most x_p_many x_p_fewest x_p_everRight x_p_opening x_p_rows x_p_rowCount x_p_acts x_p_marks x_p_deepest x_p_wanted x_t_length x_t_tape x_t_words x_t_places x_t_at x_t_kinds x_t_wills x_t_starts x_t_code x_t_count x_t_size x_h_sorts x_h_lengths x_h_items x_h_held x_h_things x_h_sizes x_h_bodies x_h_traced x_h_number x_h_spot x_h_parted x_g_count x_g_kinds x_g_wills x_g_starts x_g_code o10.2.2.2.2.2.2.2 x_g_kl x_g_wl x_g_sl x_g_cl x_nr) H locs → lv_has ls 8 [(0, .ref (a 0)), (1, .int v1), (2, .int v2), (3, .int v3), (4, .int r1), (5, .int o10.1), (6, .int o10.2.1)] → W p l e (rmz 6 0 0) s m args below meth c H locs 0 0 Q (F0 m 126 ls []) := by
          intro o10 H locs ls hf hw hl
          have hf := hK1 _ hf
          refine lv_iload hx hb dX11_goAll_126 (lv_at hl 5 rfl) ?_
          have hf := Option.some.inj hf
          subst hf
          exact hR _ _ _ _ _ _ hw rfl ⟨rfl, rfl⟩ dX11_goAll_128
        have wL1 : ∀ (k : Nat) {v1 : Int32} {v2 : Int32} {v3 : Int32} {v4 : Int32} {v5 : Int32} {v6 : Int32} {x_q0_dials : Nat → Nat → Int32} {x_q0_chime : Int32} {x_q0_score : Int32} {x_q0_shades : Nat → Int32} {x_q0_facts : Nat → Int32} {x_g_stack : Nat → Nat → Int32} {H : Heap} {locs : List Loc} {ls : Array Slot}, X11_goAll_L1 n x_q0_spots x_q0_skies x_q0_count x_q0_end x_q0_rules x_h_lengths x_h_items x_g_count x_g_kinds x_g_wills x_g_starts x_g_code x_g_kl x_g_wl x_g_sl x_g_cl x_nr v1 v2 v3 K1 k v5 v6 x_q0_dials x_q0_chime x_q0_score x_q0_shades x_q0_facts x_g_stack = some res → Wd D A s (cW a ar t x_q0_dials x_q0_spots x_q0_skies x_q0_reports x_q0_count x_q0_chime x_q0_end x_q0_score x_q0_reportCount x_q0_z x_q0_rules x_q0_shades x_q0_facts x_q1_dials x_q1_spots x_q1_skies x_q1_reports x_q1_count x_q1_chime x_q1_end x_q1_score x_q1_reportCount x_q1_z x_q1_rules x_q1_shades x_q1_facts x_q2_dials x_q2_spots x_q2_skies x_q2_reports x_q2_count x_q2_chime x_q2_end x_q2_score x_q2_reportCount x_q2_z x_q2_rules x_q2_shades x_q2_facts x_isKept x_marks x_p_first x_p_steps x_p_most x_p_many x_p_fewest x_p_everRight x_p_opening x_p_rows x_p_rowCount x_p_acts x_p_marks x_p_deepest x_p_wanted x_t_length x_t_tape x_t_words x_t_places x_t_at x_t_kinds x_t_wills x_t_starts x_t_code x_t_count x_t_size x_h_sorts x_h_lengths x_h_items x_h_held x_h_things x_h_sizes x_h_bodies x_h_traced x_h_number x_h_spot x_h_parted x_g_count x_g_kinds x_g_wills x_g_starts x_g_code x_g_stack x_g_kl x_g_wl x_g_sl x_g_cl x_nr) H locs → lv_has ls 8 [(0, .ref (a 0)), (1, .int v1), (2, .int v2), (3, .int v3), (4, .int v4), (5, .int v5), (6, .int v6)] → (∀ (o : Int32 × Int32 × (Nat → Nat → Int32) × Int32 × Int32 × (Nat → Int32) × (Nat → Int32) × (Nat → Nat → Int32)) (H : Heap) (locs : List Loc) (ls : Array Slot), K1 o = some res → Wd D A s (cW a ar t o.2.2.1 x_q0_spots x_q0_skies x_q0_reports x_q0_count o.2.2.2.1 x_q0_end o.2.2.2.2.1 x_q0_reportCount x_q0_z x_q0_rules o.2.2.2.2.2.1 o.2.2.2.2.2.2.1 x_q1_dials x_q1_spots x_q1_skies x_q1_reports x_q1_count x_q1_chime x_q1_end x_q1_score x_q1_reportCount x_q1_z x_q1_rules x_q1_shades x_q1_facts x_q2_dials x_q2_spots x_q2_skies x_q2_reports x_q2_count x_q2_chime x_q2_end x_q2_score x_q2_reportCount x_q2_z x_q2_rules x_q2_shades x_q2_facts x_isKept x_marks x_p_first x_p_steps x_p_most x_p_many x_p_fewest x_p_everRight x_p_opening x_p_rows x_p_rowCount x_p_acts x_p_marks x_p_deepest x_p_wanted x_t_length x_t_tape x_t_words x_t_places x_t_at x_t_kinds x_t_wills x_t_starts x_t_code x_t_count x_t_size x_h_sorts x_h_lengths x_h_items x_h_held x_h_things x_h_sizes x_h_bodies x_h_traced x_h_number x_h_spot x_h_parted x_g_count x_g_kinds x_g_wills x_g_starts x_g_code o.2.2.2.2.2.2.2 x_g_kl x_g_wl x_g_sl x_g_cl x_nr) H locs → lv_has ls 8 [(0, .ref (a 0)), (1, .int v1), (2, .int v2), (3, .int v3), (4, .int v4), (5, .int o.1), (6, .int o.2.1)] → W p l e (rmz 6 0 0) s m args below meth c H locs 0 0 Q (F0 m 126 ls [])) → W p l e (rmz 6 0 0) s m args below meth c H locs 0 0 Q (F0 m 44 ls []) := by
          clear hf hw hl hK1 kx1
          intro k
          induction k with
          | zero => intro v1 v2 v3 v4 v5 v6 x_q0_dials x_q0_chime x_q0_score x_q0_shades x_q0_facts x_g_stack H locs ls hf hw hl kx; simp [X11_goAll_L1] at hf
          | succ k ih =>
            intro v1 v2 v3 v4 v5 v6 x_q0_dials x_q0_chime x_q0_score x_q0_shades x_q0_facts x_g_stack H locs ls hf hw hl kx
            rw [X11_goAll_L1] at hf
            refine lv_iload hx hb dX11_goAll_44 (lv_at hl 6 rfl) ?_
            refine lv_iload_n hx hb dX11_goAll_46 rfl (lv_at hl 3 rfl) ?_
            refine lv_icmp_ge (tgt := 126) hx hb dX11_goAll_47 (by decide) (fun hc => ?_) (fun hc => ?_)
            · have hf := ifT hf hc
              exact kx _ _ _ _ hf hw (lv_sub hl [0, 1, 2, 3, 4, 5, 6] rfl)
            · have hf := ifF hf hc
              refine lv_aload_n hx hb dX11_goAll_50 rfl (lv_at hl 0 rfl) ?_
              refine cg_X11_23_ds cx hw dX11_goAll_51 ?_
              refine lv_iload_n hx hb dX11_goAll_54 rfl (lv_at hl 1 rfl) ?_
              refine lv_iload_n hx hb dX11_goAll_55 rfl (lv_at hl 2 rfl) ?_
              refine lv_iload hx hb dX11_goAll_56 (lv_at hl 6 rfl) ?_
              refine lv_iadd hx hb dX11_goAll_58 ?_
              obtain ⟨r3, h4, hf⟩ := bnS hf
              refine calVi cx hw hl.1 (c_X2_hasItem h4) q_938 k_X2_hasItem rfl rv_host rfl dX11_goAll_59 rfl (Nat.le_of_ble_eq_true rfl) ⟨Nat.le_of_ble_eq_true rfl, Nat.le_of_ble_eq_true rfl⟩ ⟨Nat.le_refl _, Nat.le_refl _⟩ (fun H locs hw => ?_)
              refine lv_if_ne (tgt := 68) hx hb dX11_goAll_62 (by decide) (fun hc => ?_) (fun hc => ?_)
              · have hf := ifF hf hc
                refine lv_aload_n hx hb dX11_goAll_68 rfl (lv_at hl 0 rfl) ?_
                refine cg_X11_23_ds cx hw dX11_goAll_69 ?_
                refine cg_X11_292_host cx hw dX11_goAll_72 ?_
                refine lv_iload_n hx hb dX11_goAll_75 rfl (lv_at hl 1 rfl) ?_
                obtain ⟨h5, hf⟩ := ckS hf
                refine co_h_items (j := v1.toNatClampNeg) cx hw (ib_in h5) rfl dX11_goAll_76 ?_
                refine lv_iload_n hx hb dX11_goAll_77 rfl (lv_at hl 2 rfl) ?_
                refine lv_iload hx hb dX11_goAll_78 (lv_at hl 6 rfl) ?_
                refine lv_iadd hx hb dX11_goAll_80 ?_
                obtain ⟨h6, hf⟩ := ckS hf
                refine cm_h_items (j := (v2 + v6).toNatClampNeg) cx hw (ib_lt h5) (ib_in h6) rfl dX11_goAll_81 ?_
                refine lv_istore (lv' := [(7, .int (x_h_items v1.toNatClampNeg ((v2 + v6).toNatClampNeg))), (0, .ref (a 0)), (1, .int v1), (2, .int v2), (3, .int v3), (4, .int v4), (5, .int v5), (6, .int v6)]) hx hb dX11_goAll_82 hl (by decide) rfl (fun ls hl => ?_)
                refine lv_aload_n hx hb dX11_goAll_84 rfl (lv_at hl 1 rfl) ?_
                refine cg_X11_55_ds cx hw dX11_goAll_85 ?_
                refine lv_iload hx hb dX11_goAll_88 (lv_at hl 0 rfl) ?_
                refine calVi cx hw hl.1 (c_X9_isAct_q0 rfl) q_957 k_X9_isAct rfl rv_q0 rfl dX11_goAll_90 rfl (Nat.le_of_ble_eq_true rfl) ⟨Nat.le_of_ble_eq_true rfl, Nat.le_of_ble_eq_true rfl⟩ ⟨Nat.le_refl _, Nat.le_refl _⟩ (fun H locs hw => ?_)
                obtain ⟨j9, hj9, hf⟩ := bnS hf
                have wj9 : ∀ (H : Heap) (locs : List Loc) (ls : Array Slot), Wd D A s (cW a ar t j9.2.1 x_q0_spots x_q0_skies x_q0_reports x_q0_count j9.2.2.1 x_q0_end j9.2.2.2.1 x_q0_reportCount x_q0_z x_q0_rules j9.2.2.2.2.1 j9.2.2.2.2.2.1 x_q1_dials x_q1_spots x_q1_skies x_q1_reports x_q1_count x_q1_chime x_q1_end x_q1_score x_q1_reportCount x_q1_z x_q1_rules x_q1_shades x_q1_facts x_q2_dials x_q2_spots x_q2_skies x_q2_reports x_q2_count x_q2_chime x_q2_end x_q2_score x_q2_reportCount x_q2_z x_q2_rules x_q2_shades x_q2_facts x_isKept x_marks x_p_first x_p_steps x_p_most x_p_many x_p_fewest x_p_everRight x_p_opening x_p_rows x_p_rowCount x_p_acts x_p_marks x_p_deepest x_p_wanted x_t_length x_t_tape x_t_words x_t_places x_t_at x_t_kinds x_t_wills x_t_starts x_t_code x_t_count x_t_size x_h_sorts x_h_lengths x_h_items x_h_held x_h_things x_h_sizes x_h_bodies x_h_traced x_h_number x_h_spot x_h_parted x_g_count x_g_kinds x_g_wills x_g_starts x_g_code j9.2.2.2.2.2.2 x_g_kl x_g_wl x_g_sl x_g_cl x_nr) H locs → lv_has ls 8 [(0, .ref (a 0)), (1, .int v1), (2, .int v2), (3, .int v3), (4, .int v4), (5, .int j9.1), (6, .int v6), (7, .int (x_h_items v1.toNatClampNeg ((v2 + v6).toNatClampNeg)))] → W p l e (rmz 6 0 0) s m args below meth c H locs 0 0 Q (F0 m 120 ls []) := by
                  intro H locs ls hw hl
                  refine lv_iinc (v := (v6 + (1 : Int32))) (lv' := [(6, .int (v6 + (1 : Int32))), (0, .ref (a 0)), (1, .int v1), (2, .int v2), (3, .int v3), (4, .int v4), (5, .int j9.1), (7, .int (x_h_items v1.toNatClampNeg ((v2 + v6).toNatClampNeg)))]) hx hb dX11_goAll_120 hl (k := 6) rfl rfl (by decide) rfl (fun ls hl => ?_)
                  refine lv_goto (tgt := 44) hx hb dX11_goAll_123 (by decide) ?_
                  exact ih hf hw (lv_sub hl [1, 2, 3, 4, 5, 6, 0] rfl) kx
                clear hf
                have hf := hj9
                clear hj9
                refine lv_if_eq (tgt := 120) hx hb dX11_goAll_93 (by decide) (fun hc => ?_) (fun hc => ?_)
                · have hf := ifT hf hc
                  have hf := Option.some.inj hf
                  subst hf
                  exact wj9 _ _ _ hw (lv_sub hl [1, 2, 3, 4, 5, 6, 7, 0] rfl)
                · have hf := ifF hf hc
                  refine lv_aload_n hx hb dX11_goAll_96 rfl (lv_at hl 1 rfl) ?_
                  refine cg_X11_55_ds cx hw dX11_goAll_97 ?_
                  refine calVi cx hw hl.1 (c_X9_isOver_q0 rfl) q_500 k_X9_isOver rfl rv_q0 rfl dX11_goAll_100 rfl (Nat.le_of_ble_eq_true rfl) ⟨Nat.le_of_ble_eq_true rfl, Nat.le_of_ble_eq_true rfl⟩ ⟨Nat.le_refl _, Nat.le_refl _⟩ (fun H locs hw => ?_)
                  refine lv_if_ne (tgt := 120) hx hb dX11_goAll_103 (by decide) (fun hc => ?_) (fun hc => ?_)
                  · have hf := ifF hf hc
                    have hf := Option.some.inj hf
                    subst hf
                    exact wj9 _ _ _ hw (lv_sub hl [1, 2, 3, 4, 5, 6, 7, 0] rfl)
                  · have hf := ifT hf hc
                    refine lv_iload hx hb dX11_goAll_106 (lv_at hl 6 rfl) ?_
                    refine lv_aload_n hx hb dX11_goAll_108 rfl (lv_at hl 1 rfl) ?_
                    refine cg_X11_55_ds cx hw dX11_goAll_109 ?_
                    refine lv_iload hx hb dX11_goAll_112 (lv_at hl 0 rfl) ?_
                    obtain ⟨r7, h8, hf⟩ := bnS hf
                    refine calVi cx hw hl.1 (c_X9_goBy_q0 h8) q_958 k_X9_goBy rfl rv_q0 rfl dX11_goAll_114 rfl (Nat.le_of_ble_eq_true rfl) ⟨Nat.le_of_ble_eq_true rfl, Nat.le_of_ble_eq_true rfl⟩ ⟨Nat.le_refl _, Nat.le_refl _⟩ (fun H locs hw => ?_)
                    refine lv_iadd hx hb dX11_goAll_117 ?_
                    refine lv_istore (lv' := [(5, .int (v5 + r7.1)), (7, .int (x_h_items v1.toNatClampNeg ((v2 + v6).toNatClampNeg))), (0, .ref (a 0)), (1, .int v1), (2, .int v2), (3, .int v3), (4, .int v4), (6, .int v6)]) hx hb dX11_goAll_118 hl (by decide) rfl (fun ls hl => ?_)
                    have hf := Option.some.inj hf
                    subst hf
                    exact wj9 _ _ _ hw (lv_sub hl [2, 3, 4, 5, 6, 0, 7, 1] rfl)
              · have hf := ifT hf hc
                refine lv_bipush (v := (-12)) hx hb dX11_goAll_65 (by decide) ?_
                have hf := Option.some.inj hf
                subst hf
                exact hR _ _ _ _ _ _ hw rfl ⟨rfl, rfl⟩ dX11_goAll_67
        exact wL1 n hf hw (lv_sub hl [3, 4, 5, 6, 2, 1, 0] rfl) kx1
      · have hf := ifF hf hc
        refine lv_iload hx hb dX11_goAll_35 (lv_at hl 0 rfl) ?_
        have hf := Option.some.inj hf
        subst hf
        exact hR _ _ _ _ _ _ hw rfl ⟨rfl, rfl⟩ dX11_goAll_37
    · have hf := ifT hf hc
      refine lv_iconst (v := (-1)) hx hb dX11_goAll_17 (by decide) ?_
      have hf := Option.some.inj hf
      subst hf
      exact hR _ _ _ _ _ _ hw rfl ⟨rfl, rfl⟩ dX11_goAll_18
theorem dX11_wouldBe_0 : decode cX11_wouldBe 0 = .ok (.iload_n 1, 1) := by decide +kernel
theorem dX11_wouldBe_1 : decode cX11_wouldBe 1 = .ok (.invokestatic 280, 3) := by decide +kernel
theorem dX11_wouldBe_4 : decode cX11_wouldBe 4 = .ok (.ifCond .eq 13, 3) := by decide +kernel
theorem dX11_wouldBe_7 : decode cX11_wouldBe 7 = .ok (.iload_n 3, 1) := by decide +kernel
theorem dX11_wouldBe_8 : decode cX11_wouldBe 8 = .ok (.iconst 0, 1) := by decide +kernel
theorem dX11_wouldBe_9 : decode cX11_wouldBe 9 = .ok (.bipush 20, 2) := by decide +kernel
theorem dX11_wouldBe_11 : decode cX11_wouldBe 11 = .ok (.invokestatic 74, 3) := by decide +kernel
theorem dX11_wouldBe_14 : decode cX11_wouldBe 14 = .ok (.ifCond .ne 5, 3) := by decide +kernel
theorem dX11_wouldBe_17 : decode cX11_wouldBe 17 = .ok (.iconst (-1), 1) := by decide +kernel
theorem dX11_wouldBe_18 : decode cX11_wouldBe 18 = .ok (.ireturn, 1) := by decide +kernel
theorem dX11_wouldBe_19 : decode cX11_wouldBe 19 = .ok (.aload_n 0, 1) := by decide +kernel
theorem dX11_wouldBe_20 : decode cX11_wouldBe 20 = .ok (.getfield 23, 3) := by decide +kernel
theorem dX11_wouldBe_23 : decode cX11_wouldBe 23 = .ok (.iload_n 1, 1) := by decide +kernel
theorem dX11_wouldBe_24 : decode cX11_wouldBe 24 = .ok (.iconst 0, 1) := by decide +kernel
theorem dX11_wouldBe_25 : decode cX11_wouldBe 25 = .ok (.invokevirtual 298, 3) := by decide +kernel
theorem dX11_wouldBe_28 : decode cX11_wouldBe 28 = .ok (.istore 4, 2) := by decide +kernel
theorem dX11_wouldBe_30 : decode cX11_wouldBe 30 = .ok (.iload 4, 2) := by decide +kernel
theorem dX11_wouldBe_32 : decode cX11_wouldBe 32 = .ok (.ifCond .eq 6, 3) := by decide +kernel
theorem dX11_wouldBe_35 : decode cX11_wouldBe 35 = .ok (.iload 4, 2) := by decide +kernel
theorem dX11_wouldBe_37 : decode cX11_wouldBe 37 = .ok (.ireturn, 1) := by decide +kernel
theorem dX11_wouldBe_38 : decode cX11_wouldBe 38 = .ok (.aload_n 0, 1) := by decide +kernel
theorem dX11_wouldBe_39 : decode cX11_wouldBe 39 = .ok (.getfield 62, 3) := by decide +kernel
theorem dX11_wouldBe_42 : decode cX11_wouldBe 42 = .ok (.aload_n 0, 1) := by decide +kernel
theorem dX11_wouldBe_43 : decode cX11_wouldBe 43 = .ok (.getfield 55, 3) := by decide +kernel
theorem dX11_wouldBe_46 : decode cX11_wouldBe 46 = .ok (.invokevirtual 176, 3) := by decide +kernel
theorem dX11_wouldBe_49 : decode cX11_wouldBe 49 = .ok (.iconst 0, 1) := by decide +kernel
theorem dX11_wouldBe_50 : decode cX11_wouldBe 50 = .ok (.istore 5, 2) := by decide +kernel
theorem dX11_wouldBe_52 : decode cX11_wouldBe 52 = .ok (.iconst 0, 1) := by decide +kernel
theorem dX11_wouldBe_53 : decode cX11_wouldBe 53 = .ok (.istore 6, 2) := by decide +kernel
theorem dX11_wouldBe_55 : decode cX11_wouldBe 55 = .ok (.iload 6, 2) := by decide +kernel
theorem dX11_wouldBe_57 : decode cX11_wouldBe 57 = .ok (.iload_n 3, 1) := by decide +kernel
theorem dX11_wouldBe_58 : decode cX11_wouldBe 58 = .ok (.if_icmp .ge 82, 3) := by decide +kernel
theorem dX11_wouldBe_61 : decode cX11_wouldBe 61 = .ok (.aload_n 0, 1) := by decide +kernel
theorem dX11_wouldBe_62 : decode cX11_wouldBe 62 = .ok (.getfield 23, 3) := by decide +kernel
theorem dX11_wouldBe_65 : decode cX11_wouldBe 65 = .ok (.iload_n 1, 1) := by decide +kernel
theorem dX11_wouldBe_66 : decode cX11_wouldBe 66 = .ok (.iload_n 2, 1) := by decide +kernel
theorem dX11_wouldBe_67 : decode cX11_wouldBe 67 = .ok (.iload 6, 2) := by decide +kernel
theorem dX11_wouldBe_69 : decode cX11_wouldBe 69 = .ok (.iadd, 1) := by decide +kernel
theorem dX11_wouldBe_70 : decode cX11_wouldBe 70 = .ok (.invokevirtual 289, 3) := by decide +kernel
theorem dX11_wouldBe_73 : decode cX11_wouldBe 73 = .ok (.ifCond .ne 6, 3) := by decide +kernel
theorem dX11_wouldBe_76 : decode cX11_wouldBe 76 = .ok (.bipush (-12), 2) := by decide +kernel
theorem dX11_wouldBe_78 : decode cX11_wouldBe 78 = .ok (.ireturn, 1) := by decide +kernel
theorem dX11_wouldBe_79 : decode cX11_wouldBe 79 = .ok (.aload_n 0, 1) := by decide +kernel
theorem dX11_wouldBe_80 : decode cX11_wouldBe 80 = .ok (.getfield 23, 3) := by decide +kernel
theorem dX11_wouldBe_83 : decode cX11_wouldBe 83 = .ok (.getfield 292, 3) := by decide +kernel
theorem dX11_wouldBe_86 : decode cX11_wouldBe 86 = .ok (.iload_n 1, 1) := by decide +kernel
theorem dX11_wouldBe_87 : decode cX11_wouldBe 87 = .ok (.aaload, 1) := by decide +kernel
theorem dX11_wouldBe_88 : decode cX11_wouldBe 88 = .ok (.iload_n 2, 1) := by decide +kernel
theorem dX11_wouldBe_89 : decode cX11_wouldBe 89 = .ok (.iload 6, 2) := by decide +kernel
theorem dX11_wouldBe_91 : decode cX11_wouldBe 91 = .ok (.iadd, 1) := by decide +kernel
theorem dX11_wouldBe_92 : decode cX11_wouldBe 92 = .ok (.iaload, 1) := by decide +kernel
theorem dX11_wouldBe_93 : decode cX11_wouldBe 93 = .ok (.istore 7, 2) := by decide +kernel
theorem dX11_wouldBe_95 : decode cX11_wouldBe 95 = .ok (.aload_n 0, 1) := by decide +kernel
theorem dX11_wouldBe_96 : decode cX11_wouldBe 96 = .ok (.getfield 62, 3) := by decide +kernel
theorem dX11_wouldBe_99 : decode cX11_wouldBe 99 = .ok (.iload 7, 2) := by decide +kernel
theorem dX11_wouldBe_101 : decode cX11_wouldBe 101 = .ok (.invokevirtual 301, 3) := by decide +kernel
theorem dX11_wouldBe_104 : decode cX11_wouldBe 104 = .ok (.ifCond .eq 13, 3) := by decide +kernel
theorem dX11_wouldBe_107 : decode cX11_wouldBe 107 = .ok (.aload_n 0, 1) := by decide +kernel
theorem dX11_wouldBe_108 : decode cX11_wouldBe 108 = .ok (.getfield 62, 3) := by decide +kernel
theorem dX11_wouldBe_111 : decode cX11_wouldBe 111 = .ok (.invokevirtual 137, 3) := by decide +kernel
theorem dX11_wouldBe_114 : decode cX11_wouldBe 114 = .ok (.ifCond .eq 6, 3) := by decide +kernel
theorem dX11_wouldBe_117 : decode cX11_wouldBe 117 = .ok (.bipush (-4), 2) := by decide +kernel
theorem dX11_wouldBe_119 : decode cX11_wouldBe 119 = .ok (.ireturn, 1) := by decide +kernel
theorem dX11_wouldBe_120 : decode cX11_wouldBe 120 = .ok (.iload 5, 2) := by decide +kernel
theorem dX11_wouldBe_122 : decode cX11_wouldBe 122 = .ok (.aload_n 0, 1) := by decide +kernel
theorem dX11_wouldBe_123 : decode cX11_wouldBe 123 = .ok (.getfield 62, 3) := by decide +kernel
theorem dX11_wouldBe_126 : decode cX11_wouldBe 126 = .ok (.iload 7, 2) := by decide +kernel
theorem dX11_wouldBe_128 : decode cX11_wouldBe 128 = .ok (.invokevirtual 304, 3) := by decide +kernel
theorem dX11_wouldBe_131 : decode cX11_wouldBe 131 = .ok (.iadd, 1) := by decide +kernel
theorem dX11_wouldBe_132 : decode cX11_wouldBe 132 = .ok (.istore 5, 2) := by decide +kernel
theorem dX11_wouldBe_134 : decode cX11_wouldBe 134 = .ok (.iinc 6 1, 3) := by decide +kernel
theorem dX11_wouldBe_137 : decode cX11_wouldBe 137 = .ok (.goto (-82), 3) := by decide +kernel
theorem dX11_wouldBe_140 : decode cX11_wouldBe 140 = .ok (.iload 5, 2) := by decide +kernel
theorem dX11_wouldBe_142 : decode cX11_wouldBe 142 = .ok (.ireturn, 1) := by decide +kernel
theorem k_X11_wouldBe : MV yX11_wouldBe cX11_wouldBe 8 (some .int) 3 := ⟨q_960, q_961, q_1, q_962, ⟨by decide, by decide, by decide +kernel⟩⟩
theorem c_X11_wouldBe {v1 : Int32} {v2 : Int32} {v3 : Int32} {res : Int32 × (Nat → Nat → Int32) × (Nat → Nat → Int32) × (Nat → Int32) × (Nat → Nat → Int32) × Int32 × Int32 × Int32 × Int32 × Int32 × Int32 × Nat × (Nat → Int32) × (Nat → Int32) × (Nat → Nat → Int32)} (hf : X11_wouldBe n x_q0_dials x_q0_spots x_q0_skies x_q0_reports x_q0_count x_q0_chime x_q0_end x_q0_score x_q0_reportCount x_q0_z x_q0_rules x_q2_dials x_q2_spots x_q2_skies x_q2_reports x_q2_count x_q2_chime x_q2_end x_q2_score x_q2_reportCount x_q2_z x_q2_rules x_q2_shades x_q2_facts x_h_sorts x_h_lengths x_h_items x_g_count x_g_kinds x_g_wills x_g_starts x_g_code x_g_stack x_g_kl x_g_wl x_g_sl x_g_cl x_nr v1 v2 v3 = some res) : MC l E0 D t yX11_wouldBe cX11_wouldBe 8 (some .int) 6 0 0 [.ref (a 0), .int v1, .int v2, .int v3] (cW a ar t x_q0_dials x_q0_spots x_q0_skies x_q0_reports x_q0_count x_q0_chime x_q0_end x_q0_score x_q0_reportCount x_q0_z x_q0_rules x_q0_shades x_q0_facts x_q1_dials x_q1_spots x_q1_skies x_q1_reports x_q1_count x_q1_chime x_q1_end x_q1_score x_q1_reportCount x_q1_z x_q1_rules x_q1_shades x_q1_facts x_q2_dials x_q2_spots x_q2_skies x_q2_reports x_q2_count x_q2_chime x_q2_end x_q2_score x_q2_reportCount x_q2_z x_q2_rules x_q2_shades x_q2_facts x_isKept x_marks x_p_first x_p_steps x_p_most x_p_many x_p_fewest x_p_everRight x_p_opening x_p_rows x_p_rowCount x_p_acts x_p_marks x_p_deepest x_p_wanted x_t_length x_t_tape x_t_words x_t_places x_t_at x_t_kinds x_t_wills x_t_starts x_t_code x_t_count x_t_size x_h_sorts x_h_lengths x_h_items x_h_held x_h_things x_h_sizes x_h_bodies x_h_traced x_h_number x_h_spot x_h_parted x_g_count x_g_kinds x_g_wills x_g_starts x_g_code x_g_stack x_g_kl x_g_wl x_g_sl x_g_cl x_nr) (Qi res.1 (cW a ar t x_q0_dials x_q0_spots x_q0_skies x_q0_reports x_q0_count x_q0_chime x_q0_end x_q0_score x_q0_reportCount x_q0_z x_q0_rules x_q0_shades x_q0_facts x_q1_dials x_q1_spots x_q1_skies x_q1_reports x_q1_count x_q1_chime x_q1_end x_q1_score x_q1_reportCount x_q1_z x_q1_rules x_q1_shades x_q1_facts res.2.1 res.2.2.1 res.2.2.2.1 res.2.2.2.2.1 res.2.2.2.2.2.1 res.2.2.2.2.2.2.1 res.2.2.2.2.2.2.2.1 res.2.2.2.2.2.2.2.2.1 res.2.2.2.2.2.2.2.2.2.1 res.2.2.2.2.2.2.2.2.2.2.1 res.2.2.2.2.2.2.2.2.2.2.2.1 res.2.2.2.2.2.2.2.2.2.2.2.2.1 res.2.2.2.2.2.2.2.2.2.2.2.2.2.1 x_isKept x_marks x_p_first x_p_steps x_p_most x_p_many x_p_fewest x_p_everRight x_p_opening x_p_rows x_p_rowCount x_p_acts x_p_marks x_p_deepest x_p_wanted x_t_length x_t_tape x_t_words x_t_places x_t_at x_t_kinds x_t_wills x_t_starts x_t_code x_t_count x_t_size x_h_sorts x_h_lengths x_h_items x_h_held x_h_things x_h_sizes x_h_bodies x_h_traced x_h_number x_h_spot x_h_parted x_g_count x_g_kinds x_g_wills x_g_starts x_g_code res.2.2.2.2.2.2.2.2.2.2.2.2.2.2 x_g_kl x_g_wl x_g_sl x_g_cl x_nr)) := by
  unfold X11_wouldBe at hf
  refine MC.ofI pn_X11 (Nat.le_of_ble_eq_true rfl) ?_
  intro p e s m args below meth c A Q ls cx hR hw hl
  have hx := cx.1
  have hb := cx.2.1
  have hl : lv_has ls 8 [(0, .ref (a 0)), (1, .int v1), (2, .int v2), (3, .int v3)] := hl
  refine lv_iload_n hx hb dX11_wouldBe_0 rfl (lv_at hl 1 rfl) ?_
  refine calSi cx hw hl.1 (c_X11_isSheet rfl) q_926 k_X11_isSheet rfl dX11_wouldBe_1 rfl (Nat.le_of_ble_eq_true rfl) ⟨Nat.le_of_ble_eq_true rfl, Nat.le_of_ble_eq_true rfl⟩ ⟨Nat.le_refl _, Nat.le_refl _⟩ (fun H locs hw => ?_)
  refine lv_if_eq (tgt := 17) hx hb dX11_wouldBe_4 (by decide) (fun hc => ?_) (fun hc => ?_)
  · have hf := ifT hf hc
    refine lv_iconst (v := (-1)) hx hb dX11_wouldBe_17 (by decide) ?_
    have hf := Option.some.inj hf
    subst hf
    exact hR _ _ _ _ _ _ hw rfl ⟨rfl, rfl⟩ dX11_wouldBe_18
  · have hf := ifF hf hc
    refine lv_iload_n hx hb dX11_wouldBe_7 rfl (lv_at hl 3 rfl) ?_
    refine lv_iconst (v := 0) hx hb dX11_wouldBe_8 (by decide) ?_
    refine lv_bipush (v := 20) hx hb dX11_wouldBe_9 (by decide) ?_
    refine calSi cx hw hl.1 (c_X11_isIn rfl) q_350 k_X11_isIn rfl dX11_wouldBe_11 rfl (Nat.le_of_ble_eq_true rfl) ⟨Nat.le_of_ble_eq_true rfl, Nat.le_of_ble_eq_true rfl⟩ ⟨Nat.le_refl _, Nat.le_refl _⟩ (fun H locs hw => ?_)
    refine lv_if_ne (tgt := 19) hx hb dX11_wouldBe_14 (by decide) (fun hc => ?_) (fun hc => ?_)
    · have hf := ifF hf hc
      refine lv_aload_n hx hb dX11_wouldBe_19 rfl (lv_at hl 0 rfl) ?_
      refine cg_X11_23_ds cx hw dX11_wouldBe_20 ?_
      refine lv_iload_n hx hb dX11_wouldBe_23 rfl (lv_at hl 1 rfl) ?_
      refine lv_iconst (v := 0) hx hb dX11_wouldBe_24 (by decide) ?_
      obtain ⟨r1, h2, hf⟩ := bnS hf
      refine calVi cx hw hl.1 (c_X2_refusalAs h2) q_949 k_X2_refusalAs rfl rv_host rfl dX11_wouldBe_25 rfl (Nat.le_of_ble_eq_true rfl) ⟨Nat.le_of_ble_eq_true rfl, Nat.le_of_ble_eq_true rfl⟩ ⟨Nat.le_refl _, Nat.le_refl _⟩ (fun H locs hw => ?_)
      refine lv_istore (lv' := [(4, .int r1), (0, .ref (a 0)), (1, .int v1), (2, .int v2), (3, .int v3)]) hx hb dX11_wouldBe_28 hl (by decide) rfl (fun ls hl => ?_)
      refine lv_iload hx hb dX11_wouldBe_30 (lv_at hl 0 rfl) ?_
      refine lv_if_eq (tgt := 38) hx hb dX11_wouldBe_32 (by decide) (fun hc => ?_) (fun hc => ?_)
      · have hf := ifT hf hc
        refine lv_aload_n hx hb dX11_wouldBe_38 rfl (lv_at hl 1 rfl) ?_
        refine cg_X11_62_ds cx hw dX11_wouldBe_39 ?_
        refine lv_aload_n hx hb dX11_wouldBe_42 rfl (lv_at hl 1 rfl) ?_
        refine cg_X11_55_ds cx hw dX11_wouldBe_43 ?_
        obtain ⟨r3, h4, hf⟩ := bnS hf
        refine calVv cx hw hl.1 (c_X9_copyFrom_q2_oq0 h4) q_702 k_X9_copyFrom rfl rv_q2 rfl dX11_wouldBe_46 rfl (Nat.le_of_ble_eq_true rfl) ⟨Nat.le_of_ble_eq_true rfl, Nat.le_of_ble_eq_true rfl⟩ ⟨Nat.le_refl _, Nat.le_refl _⟩ (fun H locs hw => ?_)
        refine lv_iconst (v := 0) hx hb dX11_wouldBe_49 (by decide) ?_
        refine lv_istore (lv' := [(5, .int (0 : Int32)), (4, .int r1), (0, .ref (a 0)), (1, .int v1), (2, .int v2), (3, .int v3)]) hx hb dX11_wouldBe_50 hl (by decide) rfl (fun ls hl => ?_)
        refine lv_iconst (v := 0) hx hb dX11_wouldBe_52 (by decide) ?_
        refine lv_istore (lv' := [(6, .int (0 : Int32)), (5, .int (0 : Int32)), (4, .int r1), (0, .ref (a 0)), (1, .int v1), (2, .int v2), (3, .int v3)]) hx hb dX11_wouldBe_53 hl (by decide) rfl (fun ls hl => ?_)
        obtain ⟨K1, hK1, hf⟩ := jnS hf
        have kx1 : ∀ (o11 : Int32 × Int32 × (Nat → Nat → Int32) × Int32 × Int32 × (Nat → Int32) × (Nat → Int32) × (Nat → Nat → Int32)) (H : Heap) (locs : List Loc) (ls : Array Slot), K1 o11 = some res → Wd D A s (cW a ar t x_q0_dials x_q0_spots x_q0_skies x_q0_reports x_q0_count x_q0_chime x_q0_end x_q0_score x_q0_reportCount x_q0_z x_q0_rules x_q0_shades x_q0_facts x_q1_dials x_q1_spots x_q1_skies x_q1_reports x_q1_count x_q1_chime x_q1_end x_q1_score x_q1_reportCount x_q1_z x_q1_rules x_q1_shades x_q1_facts o11.2.2.1 r3.2.1 r3.2.2.1 r3.2.2.2.1 r3.2.2.2.2.1 o11.2.2.2.1 r3.2.2.2.2.2.2.1 o11.2.2.2.2.1 r3.2.2.2.2.2.2.2.2.1 r3.2.2.2.2.2.2.2.2.2.1 r3.2.2.2.2.2.2.2.2.2.2 o11.2.2.2.2.2.1 o11.2.2.2.2.2.2.1 x_isKept x_marks x_p_first x_p_steps x_p_most x_p_many x_p_fewest x_p_everRight x_p_opening x_p_rows x_p_rowCount x_p_acts x_p_marks x_p_deepest x_p_wanted x_t_length x_t_tape x_t_words x_t_places x_t_at x_t_kinds x_t_wills x_t_starts x_t_code x_t_count x_t_size x_h_sorts x_h_lengths x_h_items x_h_held x_h_things x_h_sizes x_h_bodies x_h_traced x_h_number x_h_spot x_h_parted x_g_count x_g_kinds x_g_wills x_g_starts x_g_code o11.2.2.2.2.2.2.2 x_g_kl x_g_wl x_g_sl x_g_cl x_nr) H locs → lv_has ls 8 [(0, .ref (a 0)), (1, .int v1), (2, .int v2), (3, .int v3), (4, .int r1), (5, .int o11.1), (6, .int o11.2.1)] → W p l e (rmz 6 0 0) s m args below meth c H locs 0 0 Q (F0 m 140 ls []) := by
          intro o11 H locs ls hf hw hl
          have hf := hK1 _ hf
          refine lv_iload hx hb dX11_wouldBe_140 (lv_at hl 5 rfl) ?_
          have hf := Option.some.inj hf
          subst hf
          exact hR _ _ _ _ _ _ hw rfl ⟨rfl, rfl⟩ dX11_wouldBe_142
        have wL1 : ∀ (k : Nat) {v1 : Int32} {v2 : Int32} {v3 : Int32} {v4 : Int32} {v5 : Int32} {v6 : Int32} {x_q2_dials : Nat → Nat → Int32} {x_q2_spots : Nat → Nat → Int32} {x_q2_skies : Nat → Int32} {x_q2_reports : Nat → Nat → Int32} {x_q2_count : Int32} {x_q2_chime : Int32} {x_q2_end : Int32} {x_q2_score : Int32} {x_q2_reportCount : Int32} {x_q2_z : Int32} {x_q2_rules : Nat} {x_q2_shades : Nat → Int32} {x_q2_facts : Nat → Int32} {x_g_stack : Nat → Nat → Int32} {H : Heap} {locs : List Loc} {ls : Array Slot}, X11_wouldBe_L1 n x_q2_spots x_q2_skies x_q2_reports x_q2_count x_q2_end x_q2_reportCount x_q2_z x_q2_rules x_h_lengths x_h_items x_g_count x_g_kinds x_g_wills x_g_starts x_g_code x_g_kl x_g_wl x_g_sl x_g_cl x_nr v1 v2 v3 K1 k v5 v6 x_q2_dials x_q2_chime x_q2_score x_q2_shades x_q2_facts x_g_stack = some res → Wd D A s (cW a ar t x_q0_dials x_q0_spots x_q0_skies x_q0_reports x_q0_count x_q0_chime x_q0_end x_q0_score x_q0_reportCount x_q0_z x_q0_rules x_q0_shades x_q0_facts x_q1_dials x_q1_spots x_q1_skies x_q1_reports x_q1_count x_q1_chime x_q1_end x_q1_score x_q1_reportCount x_q1_z x_q1_rules x_q1_shades x_q1_facts x_q2_dials x_q2_spots x_q2_skies x_q2_reports x_q2_count x_q2_chime x_q2_end x_q2_score x_q2_reportCount x_q2_z x_q2_rules x_q2_shades x_q2_facts x_isKept x_marks x_p_first x_p_steps x_p_most x_p_many x_p_fewest x_p_everRight x_p_opening x_p_rows x_p_rowCount x_p_acts x_p_marks x_p_deepest x_p_wanted x_t_length x_t_tape x_t_words x_t_places x_t_at x_t_kinds x_t_wills x_t_starts x_t_code x_t_count x_t_size x_h_sorts x_h_lengths x_h_items x_h_held x_h_things x_h_sizes x_h_bodies x_h_traced x_h_number x_h_spot x_h_parted x_g_count x_g_kinds x_g_wills x_g_starts x_g_code x_g_stack x_g_kl x_g_wl x_g_sl x_g_cl x_nr) H locs → lv_has ls 8 [(0, .ref (a 0)), (1, .int v1), (2, .int v2), (3, .int v3), (4, .int v4), (5, .int v5), (6, .int v6)] → (∀ (o : Int32 × Int32 × (Nat → Nat → Int32) × Int32 × Int32 × (Nat → Int32) × (Nat → Int32) × (Nat → Nat → Int32)) (H : Heap) (locs : List Loc) (ls : Array Slot), K1 o = some res → Wd D A s (cW a ar t x_q0_dials x_q0_spots x_q0_skies x_q0_reports x_q0_count x_q0_chime x_q0_end x_q0_score x_q0_reportCount x_q0_z x_q0_rules x_q0_shades x_q0_facts x_q1_dials x_q1_spots x_q1_skies x_q1_reports x_q1_count x_q1_chime x_q1_end x_q1_score x_q1_reportCount x_q1_z x_q1_rules x_q1_shades x_q1_facts o.2.2.1 x_q2_spots x_q2_skies x_q2_reports x_q2_count o.2.2.2.1 x_q2_end o.2.2.2.2.1 x_q2_reportCount x_q2_z x_q2_rules o.2.2.2.2.2.1 o.2.2.2.2.2.2.1 x_isKept x_marks x_p_first x_p_steps x_p_most x_p_many x_p_fewest x_p_everRight x_p_opening x_p_rows x_p_rowCount x_p_acts x_p_marks x_p_deepest x_p_wanted x_t_length x_t_tape x_t_words x_t_places x_t_at x_t_kinds x_t_wills x_t_starts x_t_code x_t_count x_t_size x_h_sorts x_h_lengths x_h_items x_h_held x_h_things x_h_sizes x_h_bodies x_h_traced x_h_number x_h_spot x_h_parted x_g_count x_g_kinds x_g_wills x_g_starts x_g_code o.2.2.2.2.2.2.2 x_g_kl x_g_wl x_g_sl x_g_cl x_nr) H locs → lv_has ls 8 [(0, .ref (a 0)), (1, .int v1), (2, .int v2), (3, .int v3), (4, .int v4), (5, .int o.1), (6, .int o.2.1)] → W p l e (rmz 6 0 0) s m args below meth c H locs 0 0 Q (F0 m 140 ls [])) → W p l e (rmz 6 0 0) s m args below meth c H locs 0 0 Q (F0 m 55 ls []) := by
          clear hf hw hl hK1 kx1
          intro k
          induction k with
          | zero => intro v1 v2 v3 v4 v5 v6 x_q2_dials x_q2_spots x_q2_skies x_q2_reports x_q2_count x_q2_chime x_q2_end x_q2_score x_q2_reportCount x_q2_z x_q2_rules x_q2_shades x_q2_facts x_g_stack H locs ls hf hw hl kx; simp [X11_wouldBe_L1] at hf
          | succ k ih =>
            intro v1 v2 v3 v4 v5 v6 x_q2_dials x_q2_spots x_q2_skies x_q2_reports x_q2_count x_q2_chime x_q2_end x_q2_score x_q2_reportCount x_q2_z x_q2_rules x_q2_shades x_q2_facts x_g_stack H locs ls hf hw hl kx
            rw [X11_wouldBe_L1] at hf
            refine lv_iload hx hb dX11_wouldBe_55 (lv_at hl 6 rfl) ?_
            refine lv_iload_n hx hb dX11_wouldBe_57 rfl (lv_at hl 3 rfl) ?_
            refine lv_icmp_ge (tgt := 140) hx hb dX11_wouldBe_58 (by decide) (fun hc => ?_) (fun hc => ?_)
            · have hf := ifT hf hc
              exact kx _ _ _ _ hf hw (lv_sub hl [0, 1, 2, 3, 4, 5, 6] rfl)
            · have hf := ifF hf hc
              refine lv_aload_n hx hb dX11_wouldBe_61 rfl (lv_at hl 0 rfl) ?_
              refine cg_X11_23_ds cx hw dX11_wouldBe_62 ?_
              refine lv_iload_n hx hb dX11_wouldBe_65 rfl (lv_at hl 1 rfl) ?_
              refine lv_iload_n hx hb dX11_wouldBe_66 rfl (lv_at hl 2 rfl) ?_
              refine lv_iload hx hb dX11_wouldBe_67 (lv_at hl 6 rfl) ?_
              refine lv_iadd hx hb dX11_wouldBe_69 ?_
              obtain ⟨r5, h6, hf⟩ := bnS hf
              refine calVi cx hw hl.1 (c_X2_hasItem h6) q_938 k_X2_hasItem rfl rv_host rfl dX11_wouldBe_70 rfl (Nat.le_of_ble_eq_true rfl) ⟨Nat.le_of_ble_eq_true rfl, Nat.le_of_ble_eq_true rfl⟩ ⟨Nat.le_refl _, Nat.le_refl _⟩ (fun H locs hw => ?_)
              refine lv_if_ne (tgt := 79) hx hb dX11_wouldBe_73 (by decide) (fun hc => ?_) (fun hc => ?_)
              · have hf := ifF hf hc
                refine lv_aload_n hx hb dX11_wouldBe_79 rfl (lv_at hl 0 rfl) ?_
                refine cg_X11_23_ds cx hw dX11_wouldBe_80 ?_
                refine cg_X11_292_host cx hw dX11_wouldBe_83 ?_
                refine lv_iload_n hx hb dX11_wouldBe_86 rfl (lv_at hl 1 rfl) ?_
                obtain ⟨h7, hf⟩ := ckS hf
                refine co_h_items (j := v1.toNatClampNeg) cx hw (ib_in h7) rfl dX11_wouldBe_87 ?_
                refine lv_iload_n hx hb dX11_wouldBe_88 rfl (lv_at hl 2 rfl) ?_
                refine lv_iload hx hb dX11_wouldBe_89 (lv_at hl 6 rfl) ?_
                refine lv_iadd hx hb dX11_wouldBe_91 ?_
                obtain ⟨h8, hf⟩ := ckS hf
                refine cm_h_items (j := (v2 + v6).toNatClampNeg) cx hw (ib_lt h7) (ib_in h8) rfl dX11_wouldBe_92 ?_
                refine lv_istore (lv' := [(7, .int (x_h_items v1.toNatClampNeg ((v2 + v6).toNatClampNeg))), (0, .ref (a 0)), (1, .int v1), (2, .int v2), (3, .int v3), (4, .int v4), (5, .int v5), (6, .int v6)]) hx hb dX11_wouldBe_93 hl (by decide) rfl (fun ls hl => ?_)
                refine lv_aload_n hx hb dX11_wouldBe_95 rfl (lv_at hl 1 rfl) ?_
                refine cg_X11_62_ds cx hw dX11_wouldBe_96 ?_
                refine lv_iload hx hb dX11_wouldBe_99 (lv_at hl 0 rfl) ?_
                refine calVi cx hw hl.1 (c_X9_isAct_q2 rfl) q_957 k_X9_isAct rfl rv_q2 rfl dX11_wouldBe_101 rfl (Nat.le_of_ble_eq_true rfl) ⟨Nat.le_of_ble_eq_true rfl, Nat.le_of_ble_eq_true rfl⟩ ⟨Nat.le_refl _, Nat.le_refl _⟩ (fun H locs hw => ?_)
                refine lv_if_eq (tgt := 117) hx hb dX11_wouldBe_104 (by decide) (fun hc => ?_) (fun hc => ?_)
                · have hf := ifT hf hc
                  refine lv_bipush (v := (-4)) hx hb dX11_wouldBe_117 (by decide) ?_
                  have hf := Option.some.inj hf
                  subst hf
                  exact hR _ _ _ _ _ _ hw rfl ⟨rfl, rfl⟩ dX11_wouldBe_119
                · have hf := ifF hf hc
                  refine lv_aload_n hx hb dX11_wouldBe_107 rfl (lv_at hl 1 rfl) ?_
                  refine cg_X11_62_ds cx hw dX11_wouldBe_108 ?_
                  refine calVi cx hw hl.1 (c_X9_isOver_q2 rfl) q_500 k_X9_isOver rfl rv_q2 rfl dX11_wouldBe_111 rfl (Nat.le_of_ble_eq_true rfl) ⟨Nat.le_of_ble_eq_true rfl, Nat.le_of_ble_eq_true rfl⟩ ⟨Nat.le_refl _, Nat.le_refl _⟩ (fun H locs hw => ?_)
                  refine lv_if_eq (tgt := 120) hx hb dX11_wouldBe_114 (by decide) (fun hc => ?_) (fun hc => ?_)
                  · have hf := ifT hf hc
                    refine lv_iload hx hb dX11_wouldBe_120 (lv_at hl 6 rfl) ?_
                    refine lv_aload_n hx hb dX11_wouldBe_122 rfl (lv_at hl 1 rfl) ?_
                    refine cg_X11_62_ds cx hw dX11_wouldBe_123 ?_
                    refine lv_iload hx hb dX11_wouldBe_126 (lv_at hl 0 rfl) ?_
                    obtain ⟨r9, h10, hf⟩ := bnS hf
                    refine calVi cx hw hl.1 (c_X9_goBy_q2 h10) q_958 k_X9_goBy rfl rv_q2 rfl dX11_wouldBe_128 rfl (Nat.le_of_ble_eq_true rfl) ⟨Nat.le_of_ble_eq_true rfl, Nat.le_of_ble_eq_true rfl⟩ ⟨Nat.le_refl _, Nat.le_refl _⟩ (fun H locs hw => ?_)
                    refine lv_iadd hx hb dX11_wouldBe_131 ?_
                    refine lv_istore (lv' := [(5, .int (v5 + r9.1)), (7, .int (x_h_items v1.toNatClampNeg ((v2 + v6).toNatClampNeg))), (0, .ref (a 0)), (1, .int v1), (2, .int v2), (3, .int v3), (4, .int v4), (6, .int v6)]) hx hb dX11_wouldBe_132 hl (by decide) rfl (fun ls hl => ?_)
                    refine lv_iinc (v := (v6 + (1 : Int32))) (lv' := [(6, .int (v6 + (1 : Int32))), (5, .int (v5 + r9.1)), (7, .int (x_h_items v1.toNatClampNeg ((v2 + v6).toNatClampNeg))), (0, .ref (a 0)), (1, .int v1), (2, .int v2), (3, .int v3), (4, .int v4)]) hx hb dX11_wouldBe_134 hl (k := 7) rfl rfl (by decide) rfl (fun ls hl => ?_)
                    refine lv_goto (tgt := 55) hx hb dX11_wouldBe_137 (by decide) ?_
                    exact ih hf hw (lv_sub hl [3, 4, 5, 6, 7, 1, 0] rfl) kx
                  · have hf := ifF hf hc
                    refine lv_bipush (v := (-4)) hx hb dX11_wouldBe_117 (by decide) ?_
                    have hf := Option.some.inj hf
                    subst hf
                    exact hR _ _ _ _ _ _ hw rfl ⟨rfl, rfl⟩ dX11_wouldBe_119
              · have hf := ifT hf hc
                refine lv_bipush (v := (-12)) hx hb dX11_wouldBe_76 (by decide) ?_
                have hf := Option.some.inj hf
                subst hf
                exact hR _ _ _ _ _ _ hw rfl ⟨rfl, rfl⟩ dX11_wouldBe_78
        exact wL1 n hf hw (lv_sub hl [3, 4, 5, 6, 2, 1, 0] rfl) kx1
      · have hf := ifF hf hc
        refine lv_iload hx hb dX11_wouldBe_35 (lv_at hl 0 rfl) ?_
        have hf := Option.some.inj hf
        subst hf
        exact hR _ _ _ _ _ _ hw rfl ⟨rfl, rfl⟩ dX11_wouldBe_37
    · have hf := ifT hf hc
      refine lv_iconst (v := (-1)) hx hb dX11_wouldBe_17 (by decide) ?_
      have hf := Option.some.inj hf
      subst hf
      exact hR _ _ _ _ _ _ hw rfl ⟨rfl, rfl⟩ dX11_wouldBe_18
end CW9
