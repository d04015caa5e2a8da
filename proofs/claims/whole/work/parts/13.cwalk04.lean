section CW4
variable {l : Launch} {D : va_G} {t : Nat → ClassId} {a : Nat → Nat} {ar : Nat → Nat → Nat} {n : Nat} {x_q0_dials : Nat → Nat → Int32} {x_q0_spots : Nat → Nat → Int32} {x_q0_skies : Nat → Int32} {x_q0_reports : Nat → Nat → Int32} {x_q0_count : Int32} {x_q0_chime : Int32} {x_q0_end : Int32} {x_q0_score : Int32} {x_q0_reportCount : Int32} {x_q0_z : Int32} {x_q0_rules : Nat} {x_q0_shades : Nat → Int32} {x_q0_facts : Nat → Int32} {x_q1_dials : Nat → Nat → Int32} {x_q1_spots : Nat → Nat → Int32} {x_q1_skies : Nat → Int32} {x_q1_reports : Nat → Nat → Int32} {x_q1_count : Int32} {x_q1_chime : Int32} {x_q1_end : Int32} {x_q1_score : Int32} {x_q1_reportCount : Int32} {x_q1_z : Int32} {x_q1_rules : Nat} {x_q1_shades : Nat → Int32} {x_q1_facts : Nat → Int32} {x_q2_dials : Nat → Nat → Int32} {x_q2_spots : Nat → Nat → Int32} {x_q2_skies : Nat → Int32} {x_q2_reports : Nat → Nat → Int32} {x_q2_count : Int32} {x_q2_chime : Int32} {x_q2_end : Int32} {x_q2_score : Int32} {x_q2_reportCount : Int32} {x_q2_z : Int32} {x_q2_rules : Nat} {x_q2_shades : Nat → Int32} {x_q2_facts : Nat → Int32} {x_isKept : Int32} {x_marks : Nat → Int32} {x_p_first : Nat → Int32} {x_p_steps : Int32} {x_p_most : Int32} {x_p_many : Int32} {x_p_fewest : Int32} {x_p_everRight : Int32} {x_p_opening : Int32} {x_p_rows : Nat → Nat → Int32} {x_p_rowCount : Int32} {x_p_acts : Nat → Int32} {x_p_marks : Nat → Nat → Int32} {x_p_deepest : Int32} {x_p_wanted : Int32} {x_t_length : Int32} {x_t_tape : Nat → Int32} {x_t_words : Nat → Int32} {x_t_places : Nat → Int32} {x_t_at : Int32} {x_t_kinds : Nat → Int32} {x_t_wills : Nat → Int32} {x_t_starts : Nat → Int32} {x_t_code : Nat → Int32} {x_t_count : Int32} {x_t_size : Int32} {x_h_sorts : Nat → Int32} {x_h_lengths : Nat → Int32} {x_h_items : Nat → Nat → Int32} {x_h_held : Nat → Int32} {x_h_things : Nat → Int32} {x_h_sizes : Nat → Int32} {x_h_bodies : Nat → Int32} {x_h_traced : Int32} {x_h_number : Int32} {x_h_spot : Int32} {x_h_parted : Int32} {x_g_count : Nat → Int32} {x_g_kinds : Nat → Nat → Int32} {x_g_wills : Nat → Nat → Int32} {x_g_starts : Nat → Nat → Int32} {x_g_code : Nat → Nat → Int32} {x_g_stack : Nat → Nat → Int32} {x_g_kl : Nat → Nat} {x_g_wl : Nat → Nat} {x_g_sl : Nat → Nat} {x_g_cl : Nat → Nat} {x_nr : Nat}
theorem dX9_copyFrom_0 : decode cX9_copyFrom 0 = .ok (.iconst 0, 1) := by decide +kernel
theorem dX9_copyFrom_1 : decode cX9_copyFrom 1 = .ok (.istore_n 2, 1) := by decide +kernel
theorem dX9_copyFrom_2 : decode cX9_copyFrom 2 = .ok (.iload_n 2, 1) := by decide +kernel
theorem dX9_copyFrom_3 : decode cX9_copyFrom 3 = .ok (.bipush 6, 2) := by decide +kernel
theorem dX9_copyFrom_5 : decode cX9_copyFrom 5 = .ok (.if_icmp .ge 27, 3) := by decide +kernel
theorem dX9_copyFrom_8 : decode cX9_copyFrom 8 = .ok (.aload_n 1, 1) := by decide +kernel
theorem dX9_copyFrom_9 : decode cX9_copyFrom 9 = .ok (.getfield 11, 3) := by decide +kernel
theorem dX9_copyFrom_12 : decode cX9_copyFrom 12 = .ok (.iload_n 2, 1) := by decide +kernel
theorem dX9_copyFrom_13 : decode cX9_copyFrom 13 = .ok (.aaload, 1) := by decide +kernel
theorem dX9_copyFrom_14 : decode cX9_copyFrom 14 = .ok (.iconst 0, 1) := by decide +kernel
theorem dX9_copyFrom_15 : decode cX9_copyFrom 15 = .ok (.aload_n 0, 1) := by decide +kernel
theorem dX9_copyFrom_16 : decode cX9_copyFrom 16 = .ok (.getfield 11, 3) := by decide +kernel
theorem dX9_copyFrom_19 : decode cX9_copyFrom 19 = .ok (.iload_n 2, 1) := by decide +kernel
theorem dX9_copyFrom_20 : decode cX9_copyFrom 20 = .ok (.aaload, 1) := by decide +kernel
theorem dX9_copyFrom_21 : decode cX9_copyFrom 21 = .ok (.iconst 0, 1) := by decide +kernel
theorem dX9_copyFrom_22 : decode cX9_copyFrom 22 = .ok (.iconst 5, 1) := by decide +kernel
theorem dX9_copyFrom_23 : decode cX9_copyFrom 23 = .ok (.invokestatic 53, 3) := by decide +kernel
theorem dX9_copyFrom_26 : decode cX9_copyFrom 26 = .ok (.iinc 2 1, 3) := by decide +kernel
theorem dX9_copyFrom_29 : decode cX9_copyFrom 29 = .ok (.goto (-27), 3) := by decide +kernel
theorem dX9_copyFrom_32 : decode cX9_copyFrom 32 = .ok (.iconst 0, 1) := by decide +kernel
theorem dX9_copyFrom_33 : decode cX9_copyFrom 33 = .ok (.istore_n 2, 1) := by decide +kernel
theorem dX9_copyFrom_34 : decode cX9_copyFrom 34 = .ok (.iload_n 2, 1) := by decide +kernel
theorem dX9_copyFrom_35 : decode cX9_copyFrom 35 = .ok (.bipush 6, 2) := by decide +kernel
theorem dX9_copyFrom_37 : decode cX9_copyFrom 37 = .ok (.if_icmp .ge 27, 3) := by decide +kernel
theorem dX9_copyFrom_40 : decode cX9_copyFrom 40 = .ok (.aload_n 1, 1) := by decide +kernel
theorem dX9_copyFrom_41 : decode cX9_copyFrom 41 = .ok (.getfield 16, 3) := by decide +kernel
theorem dX9_copyFrom_44 : decode cX9_copyFrom 44 = .ok (.iload_n 2, 1) := by decide +kernel
theorem dX9_copyFrom_45 : decode cX9_copyFrom 45 = .ok (.aaload, 1) := by decide +kernel
theorem dX9_copyFrom_46 : decode cX9_copyFrom 46 = .ok (.iconst 0, 1) := by decide +kernel
theorem dX9_copyFrom_47 : decode cX9_copyFrom 47 = .ok (.aload_n 0, 1) := by decide +kernel
theorem dX9_copyFrom_48 : decode cX9_copyFrom 48 = .ok (.getfield 16, 3) := by decide +kernel
theorem dX9_copyFrom_51 : decode cX9_copyFrom 51 = .ok (.iload_n 2, 1) := by decide +kernel
theorem dX9_copyFrom_52 : decode cX9_copyFrom 52 = .ok (.aaload, 1) := by decide +kernel
theorem dX9_copyFrom_53 : decode cX9_copyFrom 53 = .ok (.iconst 0, 1) := by decide +kernel
theorem dX9_copyFrom_54 : decode cX9_copyFrom 54 = .ok (.iconst 2, 1) := by decide +kernel
theorem dX9_copyFrom_55 : decode cX9_copyFrom 55 = .ok (.invokestatic 53, 3) := by decide +kernel
theorem dX9_copyFrom_58 : decode cX9_copyFrom 58 = .ok (.iinc 2 1, 3) := by decide +kernel
theorem dX9_copyFrom_61 : decode cX9_copyFrom 61 = .ok (.goto (-27), 3) := by decide +kernel
theorem dX9_copyFrom_64 : decode cX9_copyFrom 64 = .ok (.iconst 0, 1) := by decide +kernel
theorem dX9_copyFrom_65 : decode cX9_copyFrom 65 = .ok (.istore_n 2, 1) := by decide +kernel
theorem dX9_copyFrom_66 : decode cX9_copyFrom 66 = .ok (.iload_n 2, 1) := by decide +kernel
theorem dX9_copyFrom_67 : decode cX9_copyFrom 67 = .ok (.bipush 6, 2) := by decide +kernel
theorem dX9_copyFrom_69 : decode cX9_copyFrom 69 = .ok (.if_icmp .ge 27, 3) := by decide +kernel
theorem dX9_copyFrom_72 : decode cX9_copyFrom 72 = .ok (.aload_n 1, 1) := by decide +kernel
theorem dX9_copyFrom_73 : decode cX9_copyFrom 73 = .ok (.getfield 23, 3) := by decide +kernel
theorem dX9_copyFrom_76 : decode cX9_copyFrom 76 = .ok (.iload_n 2, 1) := by decide +kernel
theorem dX9_copyFrom_77 : decode cX9_copyFrom 77 = .ok (.aaload, 1) := by decide +kernel
theorem dX9_copyFrom_78 : decode cX9_copyFrom 78 = .ok (.iconst 0, 1) := by decide +kernel
theorem dX9_copyFrom_79 : decode cX9_copyFrom 79 = .ok (.aload_n 0, 1) := by decide +kernel
theorem dX9_copyFrom_80 : decode cX9_copyFrom 80 = .ok (.getfield 23, 3) := by decide +kernel
theorem dX9_copyFrom_83 : decode cX9_copyFrom 83 = .ok (.iload_n 2, 1) := by decide +kernel
theorem dX9_copyFrom_84 : decode cX9_copyFrom 84 = .ok (.aaload, 1) := by decide +kernel
theorem dX9_copyFrom_85 : decode cX9_copyFrom 85 = .ok (.iconst 0, 1) := by decide +kernel
theorem dX9_copyFrom_86 : decode cX9_copyFrom 86 = .ok (.iconst 4, 1) := by decide +kernel
theorem dX9_copyFrom_87 : decode cX9_copyFrom 87 = .ok (.invokestatic 53, 3) := by decide +kernel
theorem dX9_copyFrom_90 : decode cX9_copyFrom 90 = .ok (.iinc 2 1, 3) := by decide +kernel
theorem dX9_copyFrom_93 : decode cX9_copyFrom 93 = .ok (.goto (-27), 3) := by decide +kernel
theorem dX9_copyFrom_96 : decode cX9_copyFrom 96 = .ok (.aload_n 1, 1) := by decide +kernel
theorem dX9_copyFrom_97 : decode cX9_copyFrom 97 = .ok (.getfield 19, 3) := by decide +kernel
theorem dX9_copyFrom_100 : decode cX9_copyFrom 100 = .ok (.iconst 0, 1) := by decide +kernel
theorem dX9_copyFrom_101 : decode cX9_copyFrom 101 = .ok (.aload_n 0, 1) := by decide +kernel
theorem dX9_copyFrom_102 : decode cX9_copyFrom 102 = .ok (.getfield 19, 3) := by decide +kernel
theorem dX9_copyFrom_105 : decode cX9_copyFrom 105 = .ok (.iconst 0, 1) := by decide +kernel
theorem dX9_copyFrom_106 : decode cX9_copyFrom 106 = .ok (.bipush 16, 2) := by decide +kernel
theorem dX9_copyFrom_108 : decode cX9_copyFrom 108 = .ok (.invokestatic 53, 3) := by decide +kernel
theorem dX9_copyFrom_111 : decode cX9_copyFrom 111 = .ok (.aload_n 0, 1) := by decide +kernel
theorem dX9_copyFrom_112 : decode cX9_copyFrom 112 = .ok (.aload_n 1, 1) := by decide +kernel
theorem dX9_copyFrom_113 : decode cX9_copyFrom 113 = .ok (.getfield 59, 3) := by decide +kernel
theorem dX9_copyFrom_116 : decode cX9_copyFrom 116 = .ok (.putfield 59, 3) := by decide +kernel
theorem dX9_copyFrom_119 : decode cX9_copyFrom 119 = .ok (.aload_n 0, 1) := by decide +kernel
theorem dX9_copyFrom_120 : decode cX9_copyFrom 120 = .ok (.aload_n 1, 1) := by decide +kernel
theorem dX9_copyFrom_121 : decode cX9_copyFrom 121 = .ok (.getfield 62, 3) := by decide +kernel
theorem dX9_copyFrom_124 : decode cX9_copyFrom 124 = .ok (.putfield 62, 3) := by decide +kernel
theorem dX9_copyFrom_127 : decode cX9_copyFrom 127 = .ok (.aload_n 0, 1) := by decide +kernel
theorem dX9_copyFrom_128 : decode cX9_copyFrom 128 = .ok (.aload_n 1, 1) := by decide +kernel
theorem dX9_copyFrom_129 : decode cX9_copyFrom 129 = .ok (.getfield 26, 3) := by decide +kernel
theorem dX9_copyFrom_132 : decode cX9_copyFrom 132 = .ok (.putfield 26, 3) := by decide +kernel
theorem dX9_copyFrom_135 : decode cX9_copyFrom 135 = .ok (.aload_n 0, 1) := by decide +kernel
theorem dX9_copyFrom_136 : decode cX9_copyFrom 136 = .ok (.aload_n 1, 1) := by decide +kernel
theorem dX9_copyFrom_137 : decode cX9_copyFrom 137 = .ok (.getfield 65, 3) := by decide +kernel
theorem dX9_copyFrom_140 : decode cX9_copyFrom 140 = .ok (.putfield 65, 3) := by decide +kernel
theorem dX9_copyFrom_143 : decode cX9_copyFrom 143 = .ok (.aload_n 0, 1) := by decide +kernel
theorem dX9_copyFrom_144 : decode cX9_copyFrom 144 = .ok (.aload_n 1, 1) := by decide +kernel
theorem dX9_copyFrom_145 : decode cX9_copyFrom 145 = .ok (.getfield 68, 3) := by decide +kernel
theorem dX9_copyFrom_148 : decode cX9_copyFrom 148 = .ok (.putfield 68, 3) := by decide +kernel
theorem dX9_copyFrom_151 : decode cX9_copyFrom 151 = .ok (.aload_n 0, 1) := by decide +kernel
theorem dX9_copyFrom_152 : decode cX9_copyFrom 152 = .ok (.aload_n 1, 1) := by decide +kernel
theorem dX9_copyFrom_153 : decode cX9_copyFrom 153 = .ok (.getfield 30, 3) := by decide +kernel
theorem dX9_copyFrom_156 : decode cX9_copyFrom 156 = .ok (.putfield 30, 3) := by decide +kernel
theorem dX9_copyFrom_159 : decode cX9_copyFrom 159 = .ok (.aload_n 0, 1) := by decide +kernel
theorem dX9_copyFrom_160 : decode cX9_copyFrom 160 = .ok (.aload_n 1, 1) := by decide +kernel
theorem dX9_copyFrom_161 : decode cX9_copyFrom 161 = .ok (.getfield 43, 3) := by decide +kernel
theorem dX9_copyFrom_164 : decode cX9_copyFrom 164 = .ok (.putfield 43, 3) := by decide +kernel
theorem dX9_copyFrom_167 : decode cX9_copyFrom 167 = .ok (.return_, 1) := by decide +kernel
theorem k_X9_copyFrom : MV yX9_copyFrom cX9_copyFrom 3 none 1 := ⟨q_703, q_704, q_11, q_705, ⟨by decide, by decide, by decide +kernel⟩⟩
theorem c_X9_copyFrom_q2_oq0 {res : (Nat → Nat → Int32) × (Nat → Nat → Int32) × (Nat → Int32) × (Nat → Nat → Int32) × Int32 × Int32 × Int32 × Int32 × Int32 × Int32 × Nat} (hf : X9_copyFrom_q2_oq0 n x_q0_dials x_q0_spots x_q0_skies x_q0_reports x_q0_count x_q0_chime x_q0_end x_q0_score x_q0_reportCount x_q0_z x_q0_rules x_q2_dials x_q2_spots x_q2_skies x_q2_reports x_nr = some res) : MC l E0 D t yX9_copyFrom cX9_copyFrom 3 none 1 0 0 [.ref (a 51), .ref (a 1)] (cW a ar t x_q0_dials x_q0_spots x_q0_skies x_q0_reports x_q0_count x_q0_chime x_q0_end x_q0_score x_q0_reportCount x_q0_z x_q0_rules x_q0_shades x_q0_facts x_q1_dials x_q1_spots x_q1_skies x_q1_reports x_q1_count x_q1_chime x_q1_end x_q1_score x_q1_reportCount x_q1_z x_q1_rules x_q1_shades x_q1_facts x_q2_dials x_q2_spots x_q2_skies x_q2_reports x_q2_count x_q2_chime x_q2_end x_q2_score x_q2_reportCount x_q2_z x_q2_rules x_q2_shades x_q2_facts x_isKept x_marks x_p_first x_p_steps x_p_most x_p_many x_p_fewest x_p_everRight x_p_opening x_p_rows x_p_rowCount x_p_acts x_p_marks x_p_deepest x_p_wanted x_t_length x_t_tape x_t_words x_t_places x_t_at x_t_kinds x_t_wills x_t_starts x_t_code x_t_count x_t_size x_h_sorts x_h_lengths x_h_items x_h_held x_h_things x_h_sizes x_h_bodies x_h_traced x_h_number x_h_spot x_h_parted x_g_count x_g_kinds x_g_wills x_g_starts x_g_code x_g_stack x_g_kl x_g_wl x_g_sl x_g_cl x_nr) (Qn (cW a ar t x_q0_dials x_q0_spots x_q0_skies x_q0_reports x_q0_count x_q0_chime x_q0_end x_q0_score x_q0_reportCount x_q0_z x_q0_rules x_q0_shades x_q0_facts x_q1_dials x_q1_spots x_q1_skies x_q1_reports x_q1_count x_q1_chime x_q1_end x_q1_score x_q1_reportCount x_q1_z x_q1_rules x_q1_shades x_q1_facts res.1 res.2.1 res.2.2.1 res.2.2.2.1 res.2.2.2.2.1 res.2.2.2.2.2.1 res.2.2.2.2.2.2.1 res.2.2.2.2.2.2.2.1 res.2.2.2.2.2.2.2.2.1 res.2.2.2.2.2.2.2.2.2.1 res.2.2.2.2.2.2.2.2.2.2 x_q2_shades x_q2_facts x_isKept x_marks x_p_first x_p_steps x_p_most x_p_many x_p_fewest x_p_everRight x_p_opening x_p_rows x_p_rowCount x_p_acts x_p_marks x_p_deepest x_p_wanted x_t_length x_t_tape x_t_words x_t_places x_t_at x_t_kinds x_t_wills x_t_starts x_t_code x_t_count x_t_size x_h_sorts x_h_lengths x_h_items x_h_held x_h_things x_h_sizes x_h_bodies x_h_traced x_h_number x_h_spot x_h_parted x_g_count x_g_kinds x_g_wills x_g_starts x_g_code x_g_stack x_g_kl x_g_wl x_g_sl x_g_cl x_nr)) := by
  unfold X9_copyFrom_q2_oq0 at hf
  refine MC.ofV pn_X9 (Nat.le_of_ble_eq_true rfl) ?_
  intro p e s m args below meth c A Q ls cx hR hw hl
  have hx := cx.1
  have hb := cx.2.1
  have hl : lv_has ls 3 [(0, .ref (a 51)), (1, .ref (a 1))] := hl
  refine lv_iconst (v := 0) hx hb dX9_copyFrom_0 (by decide) ?_
  refine lv_istore_n (lv' := [(2, .int (0 : Int32)), (0, .ref (a 51)), (1, .ref (a 1))]) hx hb dX9_copyFrom_1 rfl hl (by decide) rfl (fun ls hl => ?_)
  obtain ⟨o3, ho3, hf⟩ := bnS hf
  have wL1 : ∀ (k : Nat) {v2 : Int32} {x_q2_dials : Nat → Nat → Int32} {H : Heap} {locs : List Loc} {ls : Array Slot} {o : Int32 × (Nat → Nat → Int32)}, X9_copyFrom_q2_oq0_L1 n x_q0_dials k v2 x_q2_dials = some o → Wd D A s (cW a ar t x_q0_dials x_q0_spots x_q0_skies x_q0_reports x_q0_count x_q0_chime x_q0_end x_q0_score x_q0_reportCount x_q0_z x_q0_rules x_q0_shades x_q0_facts x_q1_dials x_q1_spots x_q1_skies x_q1_reports x_q1_count x_q1_chime x_q1_end x_q1_score x_q1_reportCount x_q1_z x_q1_rules x_q1_shades x_q1_facts x_q2_dials x_q2_spots x_q2_skies x_q2_reports x_q2_count x_q2_chime x_q2_end x_q2_score x_q2_reportCount x_q2_z x_q2_rules x_q2_shades x_q2_facts x_isKept x_marks x_p_first x_p_steps x_p_most x_p_many x_p_fewest x_p_everRight x_p_opening x_p_rows x_p_rowCount x_p_acts x_p_marks x_p_deepest x_p_wanted x_t_length x_t_tape x_t_words x_t_places x_t_at x_t_kinds x_t_wills x_t_starts x_t_code x_t_count x_t_size x_h_sorts x_h_lengths x_h_items x_h_held x_h_things x_h_sizes x_h_bodies x_h_traced x_h_number x_h_spot x_h_parted x_g_count x_g_kinds x_g_wills x_g_starts x_g_code x_g_stack x_g_kl x_g_wl x_g_sl x_g_cl x_nr) H locs → lv_has ls 3 [(0, .ref (a 51)), (1, .ref (a 1)), (2, .int v2)] → (∀ (H : Heap) (locs : List Loc) (ls : Array Slot), Wd D A s (cW a ar t x_q0_dials x_q0_spots x_q0_skies x_q0_reports x_q0_count x_q0_chime x_q0_end x_q0_score x_q0_reportCount x_q0_z x_q0_rules x_q0_shades x_q0_facts x_q1_dials x_q1_spots x_q1_skies x_q1_reports x_q1_count x_q1_chime x_q1_end x_q1_score x_q1_reportCount x_q1_z x_q1_rules x_q1_shades x_q1_facts o.2 x_q2_spots x_q2_skies x_q2_reports x_q2_count x_q2_chime x_q2_end x_q2_score x_q2_reportCount x_q2_z x_q2_rules x_q2_shades x_q2_facts x_isKept x_marks x_p_first x_p_steps x_p_most x_p_many x_p_fewest x_p_everRight x_p_opening x_p_rows x_p_rowCount x_p_acts x_p_marks x_p_deepest x_p_wanted x_t_length x_t_tape x_t_words x_t_places x_t_at x_t_kinds x_t_wills x_t_starts x_t_code x_t_count x_t_size x_h_sorts x_h_lengths x_h_items x_h_held x_h_things x_h_sizes x_h_bodies x_h_traced x_h_number x_h_spot x_h_parted x_g_count x_g_kinds x_g_wills x_g_starts x_g_code x_g_stack x_g_kl x_g_wl x_g_sl x_g_cl x_nr) H locs → lv_has ls 3 [(0, .ref (a 51)), (1, .ref (a 1)), (2, .int o.1)] → W p l e (rmz 1 0 0) s m args below meth c H locs 0 0 Q (F0 m 32 ls [])) → W p l e (rmz 1 0 0) s m args below meth c H locs 0 0 Q (F0 m 2 ls []) := by
    clear hf ho3 hw hl
    intro k
    induction k with
    | zero => intro v2 x_q2_dials H locs ls o hf hw hl kx; simp [X9_copyFrom_q2_oq0_L1] at hf
    | succ k ih =>
      intro v2 x_q2_dials H locs ls o hf hw hl kx
      rw [X9_copyFrom_q2_oq0_L1] at hf
      refine lv_iload_n hx hb dX9_copyFrom_2 rfl (lv_at hl 2 rfl) ?_
      refine lv_bipush (v := 6) hx hb dX9_copyFrom_3 (by decide) ?_
      refine lv_icmp_ge (tgt := 32) hx hb dX9_copyFrom_5 (by decide) (fun hc => ?_) (fun hc => ?_)
      · have hf := ifT hf hc
        have hf := Option.some.inj hf
        subst hf
        exact kx _ _ _ hw (lv_sub hl [0, 1, 2] rfl)
      · have hf := ifF hf hc
        refine lv_aload_n hx hb dX9_copyFrom_8 rfl (lv_at hl 1 rfl) ?_
        refine cg_X9_11_q0 cx hw dX9_copyFrom_9 ?_
        refine lv_iload_n hx hb dX9_copyFrom_12 rfl (lv_at hl 2 rfl) ?_
        obtain ⟨h1, hf⟩ := ckS hf
        refine co_q0_dials (j := v2.toNatClampNeg) cx hw (ib_in h1) rfl dX9_copyFrom_13 ?_
        refine lv_iconst (v := 0) hx hb dX9_copyFrom_14 (by decide) ?_
        refine lv_aload_n hx hb dX9_copyFrom_15 rfl (lv_at hl 0 rfl) ?_
        refine cg_X9_11_q2 cx hw dX9_copyFrom_16 ?_
        refine lv_iload_n hx hb dX9_copyFrom_19 rfl (lv_at hl 2 rfl) ?_
        obtain ⟨h2, hf⟩ := ckS hf
        refine co_q2_dials (j := v2.toNatClampNeg) cx hw (ib_in h2) rfl dX9_copyFrom_20 ?_
        refine lv_iconst (v := 0) hx hb dX9_copyFrom_21 (by decide) ?_
        refine lv_iconst (v := 5) hx hb dX9_copyFrom_22 (by decide) ?_
        refine ca_q0_dials_q2_dials_X9_53 cx hw (ib_lt h2) hl.1 (by decide) dX9_copyFrom_23 (Nat.le_of_ble_eq_true rfl) (Nat.le_of_ble_eq_true rfl) (fun H locs hw => ?_)
        refine lv_iinc (v := (v2 + (1 : Int32))) (lv' := [(2, .int (v2 + (1 : Int32))), (0, .ref (a 51)), (1, .ref (a 1))]) hx hb dX9_copyFrom_26 hl (k := 2) rfl rfl (by decide) rfl (fun ls hl => ?_)
        refine lv_goto (tgt := 2) hx hb dX9_copyFrom_29 (by decide) ?_
        exact ih hf hw (lv_sub hl [1, 2, 0] rfl) kx
  refine wL1 n ho3 hw (lv_sub hl [1, 2, 0] rfl) (fun H locs ls hw hl => ?_)
  clear wL1 ho3
  refine lv_iconst (v := 0) hx hb dX9_copyFrom_32 (by decide) ?_
  refine lv_istore_n (lv' := [(2, .int (0 : Int32)), (0, .ref (a 51)), (1, .ref (a 1))]) hx hb dX9_copyFrom_33 rfl hl (by decide) rfl (fun ls hl => ?_)
  obtain ⟨o6, ho6, hf⟩ := bnS hf
  have wL2 : ∀ (k : Nat) {v2 : Int32} {x_q2_dials : Nat → Nat → Int32} {x_q2_spots : Nat → Nat → Int32} {H : Heap} {locs : List Loc} {ls : Array Slot} {o : Int32 × (Nat → Nat → Int32)}, X9_copyFrom_q2_oq0_L2 n x_q0_spots k v2 x_q2_spots = some o → Wd D A s (cW a ar t x_q0_dials x_q0_spots x_q0_skies x_q0_reports x_q0_count x_q0_chime x_q0_end x_q0_score x_q0_reportCount x_q0_z x_q0_rules x_q0_shades x_q0_facts x_q1_dials x_q1_spots x_q1_skies x_q1_reports x_q1_count x_q1_chime x_q1_end x_q1_score x_q1_reportCount x_q1_z x_q1_rules x_q1_shades x_q1_facts x_q2_dials x_q2_spots x_q2_skies x_q2_reports x_q2_count x_q2_chime x_q2_end x_q2_score x_q2_reportCount x_q2_z x_q2_rules x_q2_shades x_q2_facts x_isKept x_marks x_p_first x_p_steps x_p_most x_p_many x_p_fewest x_p_everRight x_p_opening x_p_rows x_p_rowCount x_p_acts x_p_marks x_p_deepest x_p_wanted x_t_length x_t_tape x_t_words x_t_places x_t_at x_t_kinds x_t_wills x_t_starts x_t_code x_t_count x_t_size x_h_sorts x_h_lengths x_h_items x_h_held x_h_things x_h_sizes x_h_bodies x_h_traced x_h_number x_h_spot x_h_parted x_g_count x_g_kinds x_g_wills x_g_starts x_g_code x_g_stack x_g_kl x_g_wl x_g_sl x_g_cl x_nr) H locs → lv_has ls 3 [(0, .ref (a 51)), (1, .ref (a 1)), (2, .int v2)] → (∀ (H : Heap) (locs : List Loc) (ls : Array Slot), Wd D A s (cW a ar t x_q0_dials x_q0_spots x_q0_skies x_q0_reports x_q0_count x_q0_chime x_q0_end x_q0_score x_q0_reportCount x_q0_z x_q0_rules x_q0_shades x_q0_facts x_q1_dials x_q1_spots x_q1_skies x_q1_reports x_q1_count x_q1_chime x_q1_end x_q1_score x_q1_reportCount x_q1_z x_q1_rules x_q1_shades x_q1_facts x_q2_dials o.2 x_q2_skies x_q2_reports x_q2_count x_q2_chime x_q2_end x_q2_score x_q2_reportCount x_q2_z x_q2_rules x_q2_shades x_q2_facts x_isKept x_marks x_p_first x_p_steps x_p_most x_p_many x_p_fewest x_p_everRight x_p_opening x_p_rows x_p_rowCount x_p_acts x_p_marks x_p_deepest x_p_wanted x_t_length x_t_tape x_t_words x_t_places x_t_at x_t_kinds x_t_wills x_t_starts x_t_code x_t_count x_t_size x_h_sorts x_h_lengths x_h_items x_h_held x_h_things x_h_sizes x_h_bodies x_h_traced x_h_number x_h_spot x_h_parted x_g_count x_g_kinds x_g_wills x_g_starts x_g_code x_g_stack x_g_kl x_g_wl x_g_sl x_g_cl x_nr) H locs → lv_has ls 3 [(0, .ref (a 51)), (1, .ref (a 1)), (2, .int o.1)] → W p l e (rmz 1 0 0) s m args below meth c H locs 0 0 Q (F0 m 64 ls [])) → W p l e (rmz 1 0 0) s m args below meth c H locs 0 0 Q (F0 m 34 ls []) := by
    clear hf ho6 hw hl
    intro k
    induction k with
    | zero => intro v2 x_q2_dials x_q2_spots H locs ls o hf hw hl kx; simp [X9_copyFrom_q2_oq0_L2] at hf
    | succ k ih =>
      intro v2 x_q2_dials x_q2_spots H locs ls o hf hw hl kx
      rw [X9_copyFrom_q2_oq0_L2] at hf
      refine lv_iload_n hx hb dX9_copyFrom_34 rfl (lv_at hl 2 rfl) ?_
      refine lv_bipush (v := 6) hx hb dX9_copyFrom_35 (by decide) ?_
      refine lv_icmp_ge (tgt := 64) hx hb dX9_copyFrom_37 (by decide) (fun hc => ?_) (fun hc => ?_)
      · have hf := ifT hf hc
        have hf := Option.some.inj hf
        subst hf
        exact kx _ _ _ hw (lv_sub hl [0, 1, 2] rfl)
      · have hf := ifF hf hc
        refine lv_aload_n hx hb dX9_copyFrom_40 rfl (lv_at hl 1 rfl) ?_
        refine cg_X9_16_q0 cx hw dX9_copyFrom_41 ?_
        refine lv_iload_n hx hb dX9_copyFrom_44 rfl (lv_at hl 2 rfl) ?_
        obtain ⟨h4, hf⟩ := ckS hf
        refine co_q0_spots (j := v2.toNatClampNeg) cx hw (ib_in h4) rfl dX9_copyFrom_45 ?_
        refine lv_iconst (v := 0) hx hb dX9_copyFrom_46 (by decide) ?_
        refine lv_aload_n hx hb dX9_copyFrom_47 rfl (lv_at hl 0 rfl) ?_
        refine cg_X9_16_q2 cx hw dX9_copyFrom_48 ?_
        refine lv_iload_n hx hb dX9_copyFrom_51 rfl (lv_at hl 2 rfl) ?_
        obtain ⟨h5, hf⟩ := ckS hf
        refine co_q2_spots (j := v2.toNatClampNeg) cx hw (ib_in h5) rfl dX9_copyFrom_52 ?_
        refine lv_iconst (v := 0) hx hb dX9_copyFrom_53 (by decide) ?_
        refine lv_iconst (v := 2) hx hb dX9_copyFrom_54 (by decide) ?_
        refine ca_q0_spots_q2_spots_X9_53 cx hw (ib_lt h5) hl.1 (by decide) dX9_copyFrom_55 (Nat.le_of_ble_eq_true rfl) (Nat.le_of_ble_eq_true rfl) (fun H locs hw => ?_)
        refine lv_iinc (v := (v2 + (1 : Int32))) (lv' := [(2, .int (v2 + (1 : Int32))), (0, .ref (a 51)), (1, .ref (a 1))]) hx hb dX9_copyFrom_58 hl (k := 2) rfl rfl (by decide) rfl (fun ls hl => ?_)
        refine lv_goto (tgt := 34) hx hb dX9_copyFrom_61 (by decide) ?_
        exact ih hf hw (lv_sub hl [1, 2, 0] rfl) kx
  refine wL2 n ho6 hw (lv_sub hl [1, 2, 0] rfl) (fun H locs ls hw hl => ?_)
  clear wL2 ho6
  refine lv_iconst (v := 0) hx hb dX9_copyFrom_64 (by decide) ?_
  refine lv_istore_n (lv' := [(2, .int (0 : Int32)), (0, .ref (a 51)), (1, .ref (a 1))]) hx hb dX9_copyFrom_65 rfl hl (by decide) rfl (fun ls hl => ?_)
  obtain ⟨o9, ho9, hf⟩ := bnS hf
  have wL3 : ∀ (k : Nat) {v2 : Int32} {x_q2_dials : Nat → Nat → Int32} {x_q2_spots : Nat → Nat → Int32} {x_q2_reports : Nat → Nat → Int32} {H : Heap} {locs : List Loc} {ls : Array Slot} {o : Int32 × (Nat → Nat → Int32)}, X9_copyFrom_q2_oq0_L3 n x_q0_reports k v2 x_q2_reports = some o → Wd D A s (cW a ar t x_q0_dials x_q0_spots x_q0_skies x_q0_reports x_q0_count x_q0_chime x_q0_end x_q0_score x_q0_reportCount x_q0_z x_q0_rules x_q0_shades x_q0_facts x_q1_dials x_q1_spots x_q1_skies x_q1_reports x_q1_count x_q1_chime x_q1_end x_q1_score x_q1_reportCount x_q1_z x_q1_rules x_q1_shades x_q1_facts x_q2_dials x_q2_spots x_q2_skies x_q2_reports x_q2_count x_q2_chime x_q2_end x_q2_score x_q2_reportCount x_q2_z x_q2_rules x_q2_shades x_q2_facts x_isKept x_marks x_p_first x_p_steps x_p_most x_p_many x_p_fewest x_p_everRight x_p_opening x_p_rows x_p_rowCount x_p_acts x_p_marks x_p_deepest x_p_wanted x_t_length x_t_tape x_t_words x_t_places x_t_at x_t_kinds x_t_wills x_t_starts x_t_code x_t_count x_t_size x_h_sorts x_h_lengths x_h_items x_h_held x_h_things x_h_sizes x_h_bodies x_h_traced x_h_number x_h_spot x_h_parted x_g_count x_g_kinds x_g_wills x_g_starts x_g_code x_g_stack x_g_kl x_g_wl x_g_sl x_g_cl x_nr) H locs → lv_has ls 3 [(0, .ref (a 51)), (1, .ref (a 1)), (2, .int v2)] → (∀ (H : Heap) (locs : List Loc) (ls : Array Slot), Wd D A s (cW a ar t x_q0_dials x_q0_spots x_q0_skies x_q0_reports x_q0_count x_q0_chime x_q0_end x_q0_score x_q0_reportCount x_q0_z x_q0_rules x_q0_shades x_q0_facts x_q1_dials x_q1_spots x_q1_skies x_q1_reports x_q1_count x_q1_chime x_q1_end x_q1_score x_q1_reportCount x_q1_z x_q1_rules x_q1_shades x_q1_facts x_q2_dials x_q2_spots x_q2_skies o.2 x_q2_count x_q2_chime x_q2_end x_q2_score x_q2_reportCount x_q2_z x_q2_rules x_q2_shades x_q2_facts x_isKept x_marks x_p_first x_p_steps x_p_most x_p_many x_p_fewest x_p_everRight x_p_opening x_p_rows x_p_rowCount x_p_acts x_p_marks x_p_deepest x_p_wanted x_t_length x_t_tape x_t_words x_t_places x_t_at x_t_kinds x_t_wills x_t_starts x_t_code x_t_count x_t_size x_h_sorts x_h_lengths x_h_items x_h_held x_h_things x_h_sizes x_h_bodies x_h_traced x_h_number x_h_spot x_h_parted x_g_count x_g_kinds x_g_wills x_g_starts x_g_code x_g_stack x_g_kl x_g_wl x_g_sl x_g_cl x_nr) H locs → lv_has ls 3 [(0, .ref (a 51)), (1, .ref (a 1)), (2, .int o.1)] → W p l e (rmz 1 0 0) s m args below meth c H locs 0 0 Q (F0 m 96 ls [])) → W p l e (rmz 1 0 0) s m args below meth c H locs 0 0 Q (F0 m 66 ls []) := by
    clear hf ho9 hw hl
    intro k
    induction k with
    | zero => intro v2 x_q2_dials x_q2_spots x_q2_reports H locs ls o hf hw hl kx; simp [X9_copyFrom_q2_oq0_L3] at hf
    | succ k ih =>
      intro v2 x_q2_dials x_q2_spots x_q2_reports H locs ls o hf hw hl kx
      rw [X9_copyFrom_q2_oq0_L3] at hf
      refine lv_iload_n hx hb dX9_copyFrom_66 rfl (lv_at hl 2 rfl) ?_
      refine lv_bipush (v := 6) hx hb dX9_copyFrom_67 (by decide) ?_
      refine lv_icmp_ge (tgt := 96) hx hb dX9_copyFrom_69 (by decide) (fun hc => ?_) (fun hc => ?_)
      · have hf := ifT hf hc
        have hf := Option.some.inj hf
        subst hf
        exact kx _ _ _ hw (lv_sub hl [0, 1, 2] rfl)
      · have hf := ifF hf hc
        refine lv_aload_n hx hb dX9_copyFrom_72 rfl (lv_at hl 1 rfl) ?_
        refine cg_X9_23_q0 cx hw dX9_copyFrom_73 ?_
        refine lv_iload_n hx hb dX9_copyFrom_76 rfl (lv_at hl 2 rfl) ?_
        obtain ⟨h7, hf⟩ := ckS hf
        refine co_q0_reports (j := v2.toNatClampNeg) cx hw (ib_in h7) rfl dX9_copyFrom_77 ?_
        refine lv_iconst (v := 0) hx hb dX9_copyFrom_78 (by decide) ?_
        refine lv_aload_n hx hb dX9_copyFrom_79 rfl (lv_at hl 0 rfl) ?_
        refine cg_X9_23_q2 cx hw dX9_copyFrom_80 ?_
        refine lv_iload_n hx hb dX9_copyFrom_83 rfl (lv_at hl 2 rfl) ?_
        obtain ⟨h8, hf⟩ := ckS hf
        refine co_q2_reports (j := v2.toNatClampNeg) cx hw (ib_in h8) rfl dX9_copyFrom_84 ?_
        refine lv_iconst (v := 0) hx hb dX9_copyFrom_85 (by decide) ?_
        refine lv_iconst (v := 4) hx hb dX9_copyFrom_86 (by decide) ?_
        refine ca_q0_reports_q2_reports_X9_53 cx hw (ib_lt h8) hl.1 (by decide) dX9_copyFrom_87 (Nat.le_of_ble_eq_true rfl) (Nat.le_of_ble_eq_true rfl) (fun H locs hw => ?_)
        refine lv_iinc (v := (v2 + (1 : Int32))) (lv' := [(2, .int (v2 + (1 : Int32))), (0, .ref (a 51)), (1, .ref (a 1))]) hx hb dX9_copyFrom_90 hl (k := 2) rfl rfl (by decide) rfl (fun ls hl => ?_)
        refine lv_goto (tgt := 66) hx hb dX9_copyFrom_93 (by decide) ?_
        exact ih hf hw (lv_sub hl [1, 2, 0] rfl) kx
  refine wL3 n ho9 hw (lv_sub hl [1, 2, 0] rfl) (fun H locs ls hw hl => ?_)
  clear wL3 ho9
  refine lv_aload_n hx hb dX9_copyFrom_96 rfl (lv_at hl 1 rfl) ?_
  refine cg_X9_19_q0 cx hw dX9_copyFrom_97 ?_
  refine lv_iconst (v := 0) hx hb dX9_copyFrom_100 (by decide) ?_
  refine lv_aload_n hx hb dX9_copyFrom_101 rfl (lv_at hl 0 rfl) ?_
  refine cg_X9_19_q2 cx hw dX9_copyFrom_102 ?_
  refine lv_iconst (v := 0) hx hb dX9_copyFrom_105 (by decide) ?_
  refine lv_bipush (v := 16) hx hb dX9_copyFrom_106 (by decide) ?_
  refine ca_q0_skies_q2_skies_X9_53 cx hw hl.1 (by decide) dX9_copyFrom_108 (Nat.le_of_ble_eq_true rfl) (Nat.le_of_ble_eq_true rfl) (fun H locs hw => ?_)
  refine lv_aload_n hx hb dX9_copyFrom_111 rfl (lv_at hl 0 rfl) ?_
  refine lv_aload_n hx hb dX9_copyFrom_112 rfl (lv_at hl 1 rfl) ?_
  refine cg_X9_59_q0 cx hw dX9_copyFrom_113 ?_
  refine cp_X9_59_q2 cx hw dX9_copyFrom_116 (fun H locs hw => ?_)
  refine lv_aload_n hx hb dX9_copyFrom_119 rfl (lv_at hl 0 rfl) ?_
  refine lv_aload_n hx hb dX9_copyFrom_120 rfl (lv_at hl 1 rfl) ?_
  refine cg_X9_62_q0 cx hw dX9_copyFrom_121 ?_
  refine cp_X9_62_q2 cx hw dX9_copyFrom_124 (fun H locs hw => ?_)
  refine lv_aload_n hx hb dX9_copyFrom_127 rfl (lv_at hl 0 rfl) ?_
  refine lv_aload_n hx hb dX9_copyFrom_128 rfl (lv_at hl 1 rfl) ?_
  refine cg_X9_26_q0 cx hw dX9_copyFrom_129 ?_
  refine cp_X9_26_q2 cx hw dX9_copyFrom_132 (fun H locs hw => ?_)
  refine lv_aload_n hx hb dX9_copyFrom_135 rfl (lv_at hl 0 rfl) ?_
  refine lv_aload_n hx hb dX9_copyFrom_136 rfl (lv_at hl 1 rfl) ?_
  refine cg_X9_65_q0 cx hw dX9_copyFrom_137 ?_
  refine cp_X9_65_q2 cx hw dX9_copyFrom_140 (fun H locs hw => ?_)
  refine lv_aload_n hx hb dX9_copyFrom_143 rfl (lv_at hl 0 rfl) ?_
  refine lv_aload_n hx hb dX9_copyFrom_144 rfl (lv_at hl 1 rfl) ?_
  refine cg_X9_68_q0 cx hw dX9_copyFrom_145 ?_
  refine cp_X9_68_q2 cx hw dX9_copyFrom_148 (fun H locs hw => ?_)
  refine lv_aload_n hx hb dX9_copyFrom_151 rfl (lv_at hl 0 rfl) ?_
  refine lv_aload_n hx hb dX9_copyFrom_152 rfl (lv_at hl 1 rfl) ?_
  refine cg_X9_30_q0 cx hw dX9_copyFrom_153 ?_
  refine cp_X9_30_q2 cx hw dX9_copyFrom_156 (fun H locs hw => ?_)
  refine lv_aload_n hx hb dX9_copyFrom_159 rfl (lv_at hl 0 rfl) ?_
  refine lv_aload_n hx hb dX9_copyFrom_160 rfl (lv_at hl 1 rfl) ?_
  obtain ⟨h10, hf⟩ := ckS hf
  refine cg_X9_43_q0 cx hw dX9_copyFrom_161 ?_
  refine cp_X9_43_q2 cx hw dX9_copyFrom_164 (fun H locs hw => ?_)
  have hf := Option.some.inj hf
  subst hf
  exact hR _ _ _ _ _ hw ⟨rfl, rfl⟩ dX9_copyFrom_167
theorem c_X9_isOver_q2 {res : Int32} (hf : X9_isOver_q2 x_q2_chime x_q2_end = res) : MC l E0 D t yX9_isOver cX9_isOver 1 (some .boolean) 1 0 0 [.ref (a 51)] (cW a ar t x_q0_dials x_q0_spots x_q0_skies x_q0_reports x_q0_count x_q0_chime x_q0_end x_q0_score x_q0_reportCount x_q0_z x_q0_rules x_q0_shades x_q0_facts x_q1_dials x_q1_spots x_q1_skies x_q1_reports x_q1_count x_q1_chime x_q1_end x_q1_score x_q1_reportCount x_q1_z x_q1_rules x_q1_shades x_q1_facts x_q2_dials x_q2_spots x_q2_skies x_q2_reports x_q2_count x_q2_chime x_q2_end x_q2_score x_q2_reportCount x_q2_z x_q2_rules x_q2_shades x_q2_facts x_isKept x_marks x_p_first x_p_steps x_p_most x_p_many x_p_fewest x_p_everRight x_p_opening x_p_rows x_p_rowCount x_p_acts x_p_marks x_p_deepest x_p_wanted x_t_length x_t_tape x_t_words x_t_places x_t_at x_t_kinds x_t_wills x_t_starts x_t_code x_t_count x_t_size x_h_sorts x_h_lengths x_h_items x_h_held x_h_things x_h_sizes x_h_bodies x_h_traced x_h_number x_h_spot x_h_parted x_g_count x_g_kinds x_g_wills x_g_starts x_g_code x_g_stack x_g_kl x_g_wl x_g_sl x_g_cl x_nr) (Qi res (cW a ar t x_q0_dials x_q0_spots x_q0_skies x_q0_reports x_q0_count x_q0_chime x_q0_end x_q0_score x_q0_reportCount x_q0_z x_q0_rules x_q0_shades x_q0_facts x_q1_dials x_q1_spots x_q1_skies x_q1_reports x_q1_count x_q1_chime x_q1_end x_q1_score x_q1_reportCount x_q1_z x_q1_rules x_q1_shades x_q1_facts x_q2_dials x_q2_spots x_q2_skies x_q2_reports x_q2_count x_q2_chime x_q2_end x_q2_score x_q2_reportCount x_q2_z x_q2_rules x_q2_shades x_q2_facts x_isKept x_marks x_p_first x_p_steps x_p_most x_p_many x_p_fewest x_p_everRight x_p_opening x_p_rows x_p_rowCount x_p_acts x_p_marks x_p_deepest x_p_wanted x_t_length x_t_tape x_t_words x_t_places x_t_at x_t_kinds x_t_wills x_t_starts x_t_code x_t_count x_t_size x_h_sorts x_h_lengths x_h_items x_h_held x_h_things x_h_sizes x_h_bodies x_h_traced x_h_number x_h_spot x_h_parted x_g_count x_g_kinds x_g_wills x_g_starts x_g_code x_g_stack x_g_kl x_g_wl x_g_sl x_g_cl x_nr)) := by
  unfold X9_isOver_q2 at hf
  refine MC.ofI pn_X9 (Nat.le_of_ble_eq_true rfl) ?_
  intro p e s m args below meth c A Q ls cx hR hw hl
  have hx := cx.1
  have hb := cx.2.1
  have hl : lv_has ls 1 [(0, .ref (a 51))] := hl
  refine lv_aload_n hx hb dX9_isOver_0 rfl (lv_at hl 0 rfl) ?_
  refine cg_X9_62_q2 cx hw dX9_isOver_1 ?_
  refine lv_aload_n hx hb dX9_isOver_4 rfl (lv_at hl 0 rfl) ?_
  refine cg_X9_26_q2 cx hw dX9_isOver_5 ?_
  refine lv_icmp_lt (tgt := 15) hx hb dX9_isOver_8 (by decide) (fun hc => ?_) (fun hc => ?_)
  · have hf := ifT hf hc
    refine lv_iconst (v := 0) hx hb dX9_isOver_15 (by decide) ?_
    subst hf
    exact hR _ _ _ _ _ _ hw rfl ⟨rfl, rfl⟩ dX9_isOver_16
  · have hf := ifF hf hc
    refine lv_iconst (v := 1) hx hb dX9_isOver_11 (by decide) ?_
    refine lv_goto (tgt := 16) hx hb dX9_isOver_12 (by decide) ?_
    subst hf
    exact hR _ _ _ _ _ _ hw rfl ⟨rfl, rfl⟩ dX9_isOver_16
theorem b_X9_isOver_q2 (x_q2_chime : Int32) (x_q2_end : Int32) : X9_isOver_q2 x_q2_chime x_q2_end = 0 ∨ X9_isOver_q2 x_q2_chime x_q2_end = 1 := by unfold X9_isOver_q2; repeat (first | exact Or.inl rfl | exact Or.inr rfl | split)
theorem c_X9_isRight_q2 {v1 : Int32} {res : Int32} (hf : X9_isRight_q2 x_q2_dials v1 = some res) : MC l E0 D t yX9_isRight cX9_isRight 2 (some .boolean) 1 0 0 [.ref (a 51), .int v1] (cW a ar t x_q0_dials x_q0_spots x_q0_skies x_q0_reports x_q0_count x_q0_chime x_q0_end x_q0_score x_q0_reportCount x_q0_z x_q0_rules x_q0_shades x_q0_facts x_q1_dials x_q1_spots x_q1_skies x_q1_reports x_q1_count x_q1_chime x_q1_end x_q1_score x_q1_reportCount x_q1_z x_q1_rules x_q1_shades x_q1_facts x_q2_dials x_q2_spots x_q2_skies x_q2_reports x_q2_count x_q2_chime x_q2_end x_q2_score x_q2_reportCount x_q2_z x_q2_rules x_q2_shades x_q2_facts x_isKept x_marks x_p_first x_p_steps x_p_most x_p_many x_p_fewest x_p_everRight x_p_opening x_p_rows x_p_rowCount x_p_acts x_p_marks x_p_deepest x_p_wanted x_t_length x_t_tape x_t_words x_t_places x_t_at x_t_kinds x_t_wills x_t_starts x_t_code x_t_count x_t_size x_h_sorts x_h_lengths x_h_items x_h_held x_h_things x_h_sizes x_h_bodies x_h_traced x_h_number x_h_spot x_h_parted x_g_count x_g_kinds x_g_wills x_g_starts x_g_code x_g_stack x_g_kl x_g_wl x_g_sl x_g_cl x_nr) (Qi res (cW a ar t x_q0_dials x_q0_spots x_q0_skies x_q0_reports x_q0_count x_q0_chime x_q0_end x_q0_score x_q0_reportCount x_q0_z x_q0_rules x_q0_shades x_q0_facts x_q1_dials x_q1_spots x_q1_skies x_q1_reports x_q1_count x_q1_chime x_q1_end x_q1_score x_q1_reportCount x_q1_z x_q1_rules x_q1_shades x_q1_facts x_q2_dials x_q2_spots x_q2_skies x_q2_reports x_q2_count x_q2_chime x_q2_end x_q2_score x_q2_reportCount x_q2_z x_q2_rules x_q2_shades x_q2_facts x_isKept x_marks x_p_first x_p_steps x_p_most x_p_many x_p_fewest x_p_everRight x_p_opening x_p_rows x_p_rowCount x_p_acts x_p_marks x_p_deepest x_p_wanted x_t_length x_t_tape x_t_words x_t_places x_t_at x_t_kinds x_t_wills x_t_starts x_t_code x_t_count x_t_size x_h_sorts x_h_lengths x_h_items x_h_held x_h_things x_h_sizes x_h_bodies x_h_traced x_h_number x_h_spot x_h_parted x_g_count x_g_kinds x_g_wills x_g_starts x_g_code x_g_stack x_g_kl x_g_wl x_g_sl x_g_cl x_nr)) := by
  unfold X9_isRight_q2 at hf
  refine MC.ofI pn_X9 (Nat.le_of_ble_eq_true rfl) ?_
  intro p e s m args below meth c A Q ls cx hR hw hl
  have hx := cx.1
  have hb := cx.2.1
  have hl : lv_has ls 2 [(0, .ref (a 51)), (1, .int v1)] := hl
  refine lv_aload_n hx hb dX9_isRight_0 rfl (lv_at hl 0 rfl) ?_
  refine cg_X9_11_q2 cx hw dX9_isRight_1 ?_
  refine lv_iload_n hx hb dX9_isRight_4 rfl (lv_at hl 1 rfl) ?_
  obtain ⟨h1, hf⟩ := ckS hf
  refine co_q2_dials (j := v1.toNatClampNeg) cx hw (ib_in h1) rfl dX9_isRight_5 ?_
  refine lv_iconst (v := 4) hx hb dX9_isRight_6 (by decide) ?_
  refine cm_q2_dials (j := 4) cx hw (ib_lt h1) (ib_in (by decide)) (by decide) dX9_isRight_7 ?_
  refine lv_if_eq (tgt := 15) hx hb dX9_isRight_8 (by decide) (fun hc => ?_) (fun hc => ?_)
  · have hf := ifT hf hc
    refine lv_iconst (v := 0) hx hb dX9_isRight_15 (by decide) ?_
    have hf := Option.some.inj hf
    subst hf
    exact hR _ _ _ _ _ _ hw rfl ⟨rfl, rfl⟩ dX9_isRight_16
  · have hf := ifF hf hc
    refine lv_iconst (v := 1) hx hb dX9_isRight_11 (by decide) ?_
    refine lv_goto (tgt := 16) hx hb dX9_isRight_12 (by decide) ?_
    have hf := Option.some.inj hf
    subst hf
    exact hR _ _ _ _ _ _ hw rfl ⟨rfl, rfl⟩ dX9_isRight_16
theorem c_X9_paysOf_q2 {v1 : Int32} {res : Int32} (hf : X9_paysOf_q2 x_q2_dials v1 = some res) : MC l E0 D t yX9_paysOf cX9_paysOf 3 (some .int) 2 0 0 [.ref (a 51), .int v1] (cW a ar t x_q0_dials x_q0_spots x_q0_skies x_q0_reports x_q0_count x_q0_chime x_q0_end x_q0_score x_q0_reportCount x_q0_z x_q0_rules x_q0_shades x_q0_facts x_q1_dials x_q1_spots x_q1_skies x_q1_reports x_q1_count x_q1_chime x_q1_end x_q1_score x_q1_reportCount x_q1_z x_q1_rules x_q1_shades x_q1_facts x_q2_dials x_q2_spots x_q2_skies x_q2_reports x_q2_count x_q2_chime x_q2_end x_q2_score x_q2_reportCount x_q2_z x_q2_rules x_q2_shades x_q2_facts x_isKept x_marks x_p_first x_p_steps x_p_most x_p_many x_p_fewest x_p_everRight x_p_opening x_p_rows x_p_rowCount x_p_acts x_p_marks x_p_deepest x_p_wanted x_t_length x_t_tape x_t_words x_t_places x_t_at x_t_kinds x_t_wills x_t_starts x_t_code x_t_count x_t_size x_h_sorts x_h_lengths x_h_items x_h_held x_h_things x_h_sizes x_h_bodies x_h_traced x_h_number x_h_spot x_h_parted x_g_count x_g_kinds x_g_wills x_g_starts x_g_code x_g_stack x_g_kl x_g_wl x_g_sl x_g_cl x_nr) (Qi res (cW a ar t x_q0_dials x_q0_spots x_q0_skies x_q0_reports x_q0_count x_q0_chime x_q0_end x_q0_score x_q0_reportCount x_q0_z x_q0_rules x_q0_shades x_q0_facts x_q1_dials x_q1_spots x_q1_skies x_q1_reports x_q1_count x_q1_chime x_q1_end x_q1_score x_q1_reportCount x_q1_z x_q1_rules x_q1_shades x_q1_facts x_q2_dials x_q2_spots x_q2_skies x_q2_reports x_q2_count x_q2_chime x_q2_end x_q2_score x_q2_reportCount x_q2_z x_q2_rules x_q2_shades x_q2_facts x_isKept x_marks x_p_first x_p_steps x_p_most x_p_many x_p_fewest x_p_everRight x_p_opening x_p_rows x_p_rowCount x_p_acts x_p_marks x_p_deepest x_p_wanted x_t_length x_t_tape x_t_words x_t_places x_t_at x_t_kinds x_t_wills x_t_starts x_t_code x_t_count x_t_size x_h_sorts x_h_lengths x_h_items x_h_held x_h_things x_h_sizes x_h_bodies x_h_traced x_h_number x_h_spot x_h_parted x_g_count x_g_kinds x_g_wills x_g_starts x_g_code x_g_stack x_g_kl x_g_wl x_g_sl x_g_cl x_nr)) := by
  unfold X9_paysOf_q2 at hf
  refine MC.ofI pn_X9 (Nat.le_of_ble_eq_true rfl) ?_
  intro p e s m args below meth c A Q ls cx hR hw hl
  have hx := cx.1
  have hb := cx.2.1
  have hl : lv_has ls 3 [(0, .ref (a 51)), (1, .int v1)] := hl
  refine lv_bipush (v := 9) hx hb dX9_paysOf_0 (by decide) ?_
  refine lv_aload_n hx hb dX9_paysOf_2 rfl (lv_at hl 0 rfl) ?_
  refine cg_X9_11_q2 cx hw dX9_paysOf_3 ?_
  refine lv_iload_n hx hb dX9_paysOf_6 rfl (lv_at hl 1 rfl) ?_
  obtain ⟨h1, hf⟩ := ckS hf
  refine co_q2_dials (j := v1.toNatClampNeg) cx hw (ib_in h1) rfl dX9_paysOf_7 ?_
  refine lv_iconst (v := 2) hx hb dX9_paysOf_8 (by decide) ?_
  refine cm_q2_dials (j := 2) cx hw (ib_lt h1) (ib_in (by decide)) (by decide) dX9_paysOf_9 ?_
  refine lv_iadd hx hb dX9_paysOf_10 ?_
  refine lv_aload_n hx hb dX9_paysOf_11 rfl (lv_at hl 0 rfl) ?_
  refine cg_X9_11_q2 cx hw dX9_paysOf_12 ?_
  refine lv_iload_n hx hb dX9_paysOf_15 rfl (lv_at hl 1 rfl) ?_
  obtain ⟨h2, hf⟩ := ckS hf
  refine co_q2_dials (j := v1.toNatClampNeg) cx hw (ib_in h2) rfl dX9_paysOf_16 ?_
  refine lv_iconst (v := 1) hx hb dX9_paysOf_17 (by decide) ?_
  refine cm_q2_dials (j := 1) cx hw (ib_lt h2) (ib_in (by decide)) (by decide) dX9_paysOf_18 ?_
  refine lv_bipush (v := 6) hx hb dX9_paysOf_19 (by decide) ?_
  refine lv_idiv hx hb dX9_paysOf_21 (by decide) ?_
  refine lv_isub hx hb dX9_paysOf_22 ?_
  obtain ⟨z3, hz, hf⟩ := pbS hf
  refine lv_topi (fun y ey => ?_)
  have ez : z3 = y := hz.symm.trans ey.symm
  subst ez
  refine lv_istore_n (lv' := [(2, .int z3), (0, .ref (a 51)), (1, .int v1)]) hx hb dX9_paysOf_23 rfl hl (by decide) rfl (fun ls hl => ?_)
  refine lv_aload_n hx hb dX9_paysOf_24 rfl (lv_at hl 1 rfl) ?_
  refine lv_iload_n hx hb dX9_paysOf_25 rfl (lv_at hl 2 rfl) ?_
  obtain ⟨r4, h5, hf⟩ := bnS hf
  refine calVi cx hw hl.1 (c_X9_isRight_q2 h5) q_439 k_X9_isRight rfl rv_q2 rfl dX9_paysOf_26 rfl (Nat.le_of_ble_eq_true rfl) ⟨Nat.le_of_ble_eq_true rfl, Nat.le_of_ble_eq_true rfl⟩ ⟨Nat.le_refl _, Nat.le_refl _⟩ (fun H locs hw => ?_)
  obtain ⟨J6, hJ6, hf⟩ := jnS hf
  have wj6 : ∀ (j6 : Unit) (H : Heap) (locs : List Loc) (ls : Array Slot), J6 j6 = some res → Wd D A s (cW a ar t x_q0_dials x_q0_spots x_q0_skies x_q0_reports x_q0_count x_q0_chime x_q0_end x_q0_score x_q0_reportCount x_q0_z x_q0_rules x_q0_shades x_q0_facts x_q1_dials x_q1_spots x_q1_skies x_q1_reports x_q1_count x_q1_chime x_q1_end x_q1_score x_q1_reportCount x_q1_z x_q1_rules x_q1_shades x_q1_facts x_q2_dials x_q2_spots x_q2_skies x_q2_reports x_q2_count x_q2_chime x_q2_end x_q2_score x_q2_reportCount x_q2_z x_q2_rules x_q2_shades x_q2_facts x_isKept x_marks x_p_first x_p_steps x_p_most x_p_many x_p_fewest x_p_everRight x_p_opening x_p_rows x_p_rowCount x_p_acts x_p_marks x_p_deepest x_p_wanted x_t_length x_t_tape x_t_words x_t_places x_t_at x_t_kinds x_t_wills x_t_starts x_t_code x_t_count x_t_size x_h_sorts x_h_lengths x_h_items x_h_held x_h_things x_h_sizes x_h_bodies x_h_traced x_h_number x_h_spot x_h_parted x_g_count x_g_kinds x_g_wills x_g_starts x_g_code x_g_stack x_g_kl x_g_wl x_g_sl x_g_cl x_nr) H locs → lv_has ls 3 [(0, .ref (a 51)), (1, .int v1), (2, .int z3)] → W p l e (rmz 2 0 0) s m args below meth c H locs 0 0 Q (F0 m 36 ls []) := by
    intro j6 H locs ls hf hw hl
    have hf := hJ6 _ hf
    refine lv_iconst (v := 0) hx hb dX9_paysOf_36 (by decide) ?_
    refine lv_goto (tgt := 41) hx hb dX9_paysOf_37 (by decide) ?_
    have hf := Option.some.inj hf
    subst hf
    exact hR _ _ _ _ _ _ hw rfl ⟨rfl, rfl⟩ dX9_paysOf_41
  clear hJ6
  refine lv_if_ne (tgt := 36) hx hb dX9_paysOf_29 (by decide) (fun hc => ?_) (fun hc => ?_)
  · have hf := ifF hf hc
    exact wj6 _ _ _ _ hf hw (lv_sub hl [1, 2, 0] rfl)
  · have hf := ifT hf hc
    refine lv_iload_n hx hb dX9_paysOf_32 rfl (lv_at hl 0 rfl) ?_
    refine lv_if_ge (tgt := 40) hx hb dX9_paysOf_33 (by decide) (fun hc => ?_) (fun hc => ?_)
    · have hf := ifT hf hc
      refine lv_iload_n hx hb dX9_paysOf_40 rfl (lv_at hl 0 rfl) ?_
      have hf := Option.some.inj hf
      subst hf
      exact hR _ _ _ _ _ _ hw rfl ⟨rfl, rfl⟩ dX9_paysOf_41
    · have hf := ifF hf hc
      exact wj6 _ _ _ _ hf hw (lv_sub hl [1, 2, 0] rfl)
theorem c_X9_skyAt_q2 {v1 : Int32} {res : Int32} (hf : X9_skyAt_q2 x_q2_skies v1 = some res) : MC l E0 D t yX9_skyAt cX9_skyAt 2 (some .int) 1 0 0 [.ref (a 51), .int v1] (cW a ar t x_q0_dials x_q0_spots x_q0_skies x_q0_reports x_q0_count x_q0_chime x_q0_end x_q0_score x_q0_reportCount x_q0_z x_q0_rules x_q0_shades x_q0_facts x_q1_dials x_q1_spots x_q1_skies x_q1_reports x_q1_count x_q1_chime x_q1_end x_q1_score x_q1_reportCount x_q1_z x_q1_rules x_q1_shades x_q1_facts x_q2_dials x_q2_spots x_q2_skies x_q2_reports x_q2_count x_q2_chime x_q2_end x_q2_score x_q2_reportCount x_q2_z x_q2_rules x_q2_shades x_q2_facts x_isKept x_marks x_p_first x_p_steps x_p_most x_p_many x_p_fewest x_p_everRight x_p_opening x_p_rows x_p_rowCount x_p_acts x_p_marks x_p_deepest x_p_wanted x_t_length x_t_tape x_t_words x_t_places x_t_at x_t_kinds x_t_wills x_t_starts x_t_code x_t_count x_t_size x_h_sorts x_h_lengths x_h_items x_h_held x_h_things x_h_sizes x_h_bodies x_h_traced x_h_number x_h_spot x_h_parted x_g_count x_g_kinds x_g_wills x_g_starts x_g_code x_g_stack x_g_kl x_g_wl x_g_sl x_g_cl x_nr) (Qi res (cW a ar t x_q0_dials x_q0_spots x_q0_skies x_q0_reports x_q0_count x_q0_chime x_q0_end x_q0_score x_q0_reportCount x_q0_z x_q0_rules x_q0_shades x_q0_facts x_q1_dials x_q1_spots x_q1_skies x_q1_reports x_q1_count x_q1_chime x_q1_end x_q1_score x_q1_reportCount x_q1_z x_q1_rules x_q1_shades x_q1_facts x_q2_dials x_q2_spots x_q2_skies x_q2_reports x_q2_count x_q2_chime x_q2_end x_q2_score x_q2_reportCount x_q2_z x_q2_rules x_q2_shades x_q2_facts x_isKept x_marks x_p_first x_p_steps x_p_most x_p_many x_p_fewest x_p_everRight x_p_opening x_p_rows x_p_rowCount x_p_acts x_p_marks x_p_deepest x_p_wanted x_t_length x_t_tape x_t_words x_t_places x_t_at x_t_kinds x_t_wills x_t_starts x_t_code x_t_count x_t_size x_h_sorts x_h_lengths x_h_items x_h_held x_h_things x_h_sizes x_h_bodies x_h_traced x_h_number x_h_spot x_h_parted x_g_count x_g_kinds x_g_wills x_g_starts x_g_code x_g_stack x_g_kl x_g_wl x_g_sl x_g_cl x_nr)) := by
  unfold X9_skyAt_q2 at hf
  refine MC.ofI pn_X9 (Nat.le_of_ble_eq_true rfl) ?_
  intro p e s m args below meth c A Q ls cx hR hw hl
  have hx := cx.1
  have hb := cx.2.1
  have hl : lv_has ls 2 [(0, .ref (a 51)), (1, .int v1)] := hl
  refine lv_iload_n hx hb dX9_skyAt_0 rfl (lv_at hl 1 rfl) ?_
  refine lv_if_lt (tgt := 19) hx hb dX9_skyAt_1 (by decide) (fun hc => ?_) (fun hc => ?_)
  · have hf := ifT hf hc
    refine lv_iconst (v := 0) hx hb dX9_skyAt_19 (by decide) ?_
    have hf := Option.some.inj hf
    subst hf
    exact hR _ _ _ _ _ _ hw rfl ⟨rfl, rfl⟩ dX9_skyAt_20
  · have hf := ifF hf hc
    refine lv_iload_n hx hb dX9_skyAt_4 rfl (lv_at hl 1 rfl) ?_
    refine lv_bipush (v := 16) hx hb dX9_skyAt_5 (by decide) ?_
    refine lv_icmp_ge (tgt := 19) hx hb dX9_skyAt_7 (by decide) (fun hc => ?_) (fun hc => ?_)
    · have hf := ifT hf hc
      refine lv_iconst (v := 0) hx hb dX9_skyAt_19 (by decide) ?_
      have hf := Option.some.inj hf
      subst hf
      exact hR _ _ _ _ _ _ hw rfl ⟨rfl, rfl⟩ dX9_skyAt_20
    · have hf := ifF hf hc
      refine lv_aload_n hx hb dX9_skyAt_10 rfl (lv_at hl 0 rfl) ?_
      refine cg_X9_19_q2 cx hw dX9_skyAt_11 ?_
      refine lv_iload_n hx hb dX9_skyAt_14 rfl (lv_at hl 1 rfl) ?_
      obtain ⟨h1, hf⟩ := ckS hf
      refine cl_q2_skies (j := v1.toNatClampNeg) cx hw (ib_in h1) rfl dX9_skyAt_15 ?_
      refine lv_goto (tgt := 20) hx hb dX9_skyAt_16 (by decide) ?_
      have hf := Option.some.inj hf
      subst hf
      exact hR _ _ _ _ _ _ hw rfl ⟨rfl, rfl⟩ dX9_skyAt_20
theorem c_X7_holds_f2 {v0 : Nat} {v1 : Int32} {v2 : Int32} (hv0 : v0 < x_nr) {res : Int32 × (Nat → Nat → Int32)} (hf : X7_holds_f2 n x_q2_facts x_g_code x_g_stack x_g_cl v0 v1 v2 = some res) : MC l E0 D t yX7_holds cX7_holds 11 (some .boolean) 1 0 0 [.ref (ar v0 0), .int v1, .int v2, .ref (a 75)] (cW a ar t x_q0_dials x_q0_spots x_q0_skies x_q0_reports x_q0_count x_q0_chime x_q0_end x_q0_score x_q0_reportCount x_q0_z x_q0_rules x_q0_shades x_q0_facts x_q1_dials x_q1_spots x_q1_skies x_q1_reports x_q1_count x_q1_chime x_q1_end x_q1_score x_q1_reportCount x_q1_z x_q1_rules x_q1_shades x_q1_facts x_q2_dials x_q2_spots x_q2_skies x_q2_reports x_q2_count x_q2_chime x_q2_end x_q2_score x_q2_reportCount x_q2_z x_q2_rules x_q2_shades x_q2_facts x_isKept x_marks x_p_first x_p_steps x_p_most x_p_many x_p_fewest x_p_everRight x_p_opening x_p_rows x_p_rowCount x_p_acts x_p_marks x_p_deepest x_p_wanted x_t_length x_t_tape x_t_words x_t_places x_t_at x_t_kinds x_t_wills x_t_starts x_t_code x_t_count x_t_size x_h_sorts x_h_lengths x_h_items x_h_held x_h_things x_h_sizes x_h_bodies x_h_traced x_h_number x_h_spot x_h_parted x_g_count x_g_kinds x_g_wills x_g_starts x_g_code x_g_stack x_g_kl x_g_wl x_g_sl x_g_cl x_nr) (Qi res.1 (cW a ar t x_q0_dials x_q0_spots x_q0_skies x_q0_reports x_q0_count x_q0_chime x_q0_end x_q0_score x_q0_reportCount x_q0_z x_q0_rules x_q0_shades x_q0_facts x_q1_dials x_q1_spots x_q1_skies x_q1_reports x_q1_count x_q1_chime x_q1_end x_q1_score x_q1_reportCount x_q1_z x_q1_rules x_q1_shades x_q1_facts x_q2_dials x_q2_spots x_q2_skies x_q2_reports x_q2_count x_q2_chime x_q2_end x_q2_score x_q2_reportCount x_q2_z x_q2_rules x_q2_shades x_q2_facts x_isKept x_marks x_p_first x_p_steps x_p_most x_p_many x_p_fewest x_p_everRight x_p_opening x_p_rows x_p_rowCount x_p_acts x_p_marks x_p_deepest x_p_wanted x_t_length x_t_tape x_t_words x_t_places x_t_at x_t_kinds x_t_wills x_t_starts x_t_code x_t_count x_t_size x_h_sorts x_h_lengths x_h_items x_h_held x_h_things x_h_sizes x_h_bodies x_h_traced x_h_number x_h_spot x_h_parted x_g_count x_g_kinds x_g_wills x_g_starts x_g_code res.2 x_g_kl x_g_wl x_g_sl x_g_cl x_nr)) := by
  unfold X7_holds_f2 at hf
  refine MC.ofI pn_X7 (Nat.le_of_ble_eq_true rfl) ?_
  intro p e s m args below meth c A Q ls cx hR hw hl
  have hx := cx.1
  have hb := cx.2.1
  have hl : lv_has ls 11 [(0, .ref (ar v0 0)), (1, .int v1), (2, .int v2), (3, .ref (a 75))] := hl
  refine lv_iconst (v := 0) hx hb dX7_holds_0 (by decide) ?_
  refine lv_istore (lv' := [(4, .int (0 : Int32)), (0, .ref (ar v0 0)), (1, .int v1), (2, .int v2), (3, .ref (a 75))]) hx hb dX7_holds_1 hl (by decide) rfl (fun ls hl => ?_)
  refine lv_iload_n hx hb dX7_holds_3 rfl (lv_at hl 2 rfl) ?_
  refine lv_istore (lv' := [(5, .int v1), (4, .int (0 : Int32)), (0, .ref (ar v0 0)), (1, .int v1), (2, .int v2), (3, .ref (a 75))]) hx hb dX7_holds_4 hl (by decide) rfl (fun ls hl => ?_)
  obtain ⟨o15, ho15, hf⟩ := bnS hf
  have wL1 : ∀ (k : Nat) {v1 : Int32} {v2 : Int32} {v4 : Int32} {v5 : Int32} {x_g_stack : Nat → Nat → Int32} {H : Heap} {locs : List Loc} {ls : Array Slot} {o : Int32 × Int32 × (Nat → Nat → Int32)}, X7_holds_f2_L1 n x_q2_facts x_g_code x_g_cl v0 v2 k v4 v5 x_g_stack = some o → Wd D A s (cW a ar t x_q0_dials x_q0_spots x_q0_skies x_q0_reports x_q0_count x_q0_chime x_q0_end x_q0_score x_q0_reportCount x_q0_z x_q0_rules x_q0_shades x_q0_facts x_q1_dials x_q1_spots x_q1_skies x_q1_reports x_q1_count x_q1_chime x_q1_end x_q1_score x_q1_reportCount x_q1_z x_q1_rules x_q1_shades x_q1_facts x_q2_dials x_q2_spots x_q2_skies x_q2_reports x_q2_count x_q2_chime x_q2_end x_q2_score x_q2_reportCount x_q2_z x_q2_rules x_q2_shades x_q2_facts x_isKept x_marks x_p_first x_p_steps x_p_most x_p_many x_p_fewest x_p_everRight x_p_opening x_p_rows x_p_rowCount x_p_acts x_p_marks x_p_deepest x_p_wanted x_t_length x_t_tape x_t_words x_t_places x_t_at x_t_kinds x_t_wills x_t_starts x_t_code x_t_count x_t_size x_h_sorts x_h_lengths x_h_items x_h_held x_h_things x_h_sizes x_h_bodies x_h_traced x_h_number x_h_spot x_h_parted x_g_count x_g_kinds x_g_wills x_g_starts x_g_code x_g_stack x_g_kl x_g_wl x_g_sl x_g_cl x_nr) H locs → lv_has ls 11 [(0, .ref (ar v0 0)), (1, .int v1), (2, .int v2), (3, .ref (a 75)), (4, .int v4), (5, .int v5)] → (∀ (H : Heap) (locs : List Loc) (ls : Array Slot), Wd D A s (cW a ar t x_q0_dials x_q0_spots x_q0_skies x_q0_reports x_q0_count x_q0_chime x_q0_end x_q0_score x_q0_reportCount x_q0_z x_q0_rules x_q0_shades x_q0_facts x_q1_dials x_q1_spots x_q1_skies x_q1_reports x_q1_count x_q1_chime x_q1_end x_q1_score x_q1_reportCount x_q1_z x_q1_rules x_q1_shades x_q1_facts x_q2_dials x_q2_spots x_q2_skies x_q2_reports x_q2_count x_q2_chime x_q2_end x_q2_score x_q2_reportCount x_q2_z x_q2_rules x_q2_shades x_q2_facts x_isKept x_marks x_p_first x_p_steps x_p_most x_p_many x_p_fewest x_p_everRight x_p_opening x_p_rows x_p_rowCount x_p_acts x_p_marks x_p_deepest x_p_wanted x_t_length x_t_tape x_t_words x_t_places x_t_at x_t_kinds x_t_wills x_t_starts x_t_code x_t_count x_t_size x_h_sorts x_h_lengths x_h_items x_h_held x_h_things x_h_sizes x_h_bodies x_h_traced x_h_number x_h_spot x_h_parted x_g_count x_g_kinds x_g_wills x_g_starts x_g_code o.2.2 x_g_kl x_g_wl x_g_sl x_g_cl x_nr) H locs → lv_has ls 11 [(0, .ref (ar v0 0)), (1, .int v1), (2, .int v2), (3, .ref (a 75)), (4, .int o.1), (5, .int o.2.1)] → W p l e (rmz 1 0 0) s m args below meth c H locs 0 0 Q (F0 m 287 ls [])) → W p l e (rmz 1 0 0) s m args below meth c H locs 0 0 Q (F0 m 6 ls []) := by
    clear hf ho15 hw hl
    intro k
    induction k with
    | zero => intro v1 v2 v4 v5 x_g_stack H locs ls o hf hw hl kx; simp [X7_holds_f2_L1] at hf
    | succ k ih =>
      intro v1 v2 v4 v5 x_g_stack H locs ls o hf hw hl kx
      rw [X7_holds_f2_L1] at hf
      refine lv_iload hx hb dX7_holds_6 (lv_at hl 5 rfl) ?_
      refine lv_iload_n hx hb dX7_holds_8 rfl (lv_at hl 2 rfl) ?_
      refine lv_icmp_ge (tgt := 287) hx hb dX7_holds_9 (by decide) (fun hc => ?_) (fun hc => ?_)
      · have hf := ifT hf hc
        have hf := Option.some.inj hf
        subst hf
        exact kx _ _ _ hw (lv_sub hl [0, 1, 2, 3, 4, 5] rfl)
      · have hf := ifF hf hc
        refine lv_iload hx hb dX7_holds_12 (lv_at hl 4 rfl) ?_
        refine lv_aload_n hx hb dX7_holds_14 rfl (lv_at hl 0 rfl) ?_
        refine cg_X7_9_r cx hw hv0 dX7_holds_15 ?_
        refine cn_stack cx hw hv0 dX7_holds_18 ?_
        refine lv_icmp_ge (tgt := 287) hx hb dX7_holds_19 (by decide) (fun hc => ?_) (fun hc => ?_)
        · have hf := ifT hf hc
          have hf := Option.some.inj hf
          subst hf
          exact kx _ _ _ hw (lv_sub hl [0, 1, 2, 3, 4, 5] rfl)
        · have hf := ifF hf hc
          refine lv_aload_n hx hb dX7_holds_22 rfl (lv_at hl 0 rfl) ?_
          refine cg_X7_28_r cx hw hv0 dX7_holds_23 ?_
          refine lv_iload hx hb dX7_holds_26 (lv_at hl 5 rfl) ?_
          obtain ⟨h1, hf⟩ := ckS hf
          refine cr_code (j := v5.toNatClampNeg) cx hw hv0 (ib_in h1) rfl dX7_holds_28 ?_
          refine lv_istore (lv' := [(6, .int (x_g_code v0 v5.toNatClampNeg)), (0, .ref (ar v0 0)), (1, .int v1), (2, .int v2), (3, .ref (a 75)), (4, .int v4), (5, .int v5)]) hx hb dX7_holds_29 hl (by decide) rfl (fun ls hl => ?_)
          refine lv_iload hx hb dX7_holds_31 (lv_at hl 0 rfl) ?_
          refine lv_sipush (v := 10005) hx hb dX7_holds_33 (by decide) ?_
          obtain ⟨j14, hj14, hf⟩ := bnS hf
          have wj14 : ∀ (H : Heap) (locs : List Loc) (ls : Array Slot), Wd D A s (cW a ar t x_q0_dials x_q0_spots x_q0_skies x_q0_reports x_q0_count x_q0_chime x_q0_end x_q0_score x_q0_reportCount x_q0_z x_q0_rules x_q0_shades x_q0_facts x_q1_dials x_q1_spots x_q1_skies x_q1_reports x_q1_count x_q1_chime x_q1_end x_q1_score x_q1_reportCount x_q1_z x_q1_rules x_q1_shades x_q1_facts x_q2_dials x_q2_spots x_q2_skies x_q2_reports x_q2_count x_q2_chime x_q2_end x_q2_score x_q2_reportCount x_q2_z x_q2_rules x_q2_shades x_q2_facts x_isKept x_marks x_p_first x_p_steps x_p_most x_p_many x_p_fewest x_p_everRight x_p_opening x_p_rows x_p_rowCount x_p_acts x_p_marks x_p_deepest x_p_wanted x_t_length x_t_tape x_t_words x_t_places x_t_at x_t_kinds x_t_wills x_t_starts x_t_code x_t_count x_t_size x_h_sorts x_h_lengths x_h_items x_h_held x_h_things x_h_sizes x_h_bodies x_h_traced x_h_number x_h_spot x_h_parted x_g_count x_g_kinds x_g_wills x_g_starts x_g_code j14.2 x_g_kl x_g_wl x_g_sl x_g_cl x_nr) H locs → lv_has ls 11 [(0, .ref (ar v0 0)), (1, .int v1), (2, .int v2), (3, .ref (a 75)), (4, .int j14.1), (5, .int v5), (6, .int (x_g_code v0 v5.toNatClampNeg))] → W p l e (rmz 1 0 0) s m args below meth c H locs 0 0 Q (F0 m 281 ls []) := by
            intro H locs ls hw hl
            refine lv_iinc (v := (v5 + (1 : Int32))) (lv' := [(5, .int (v5 + (1 : Int32))), (0, .ref (ar v0 0)), (1, .int v1), (2, .int v2), (3, .ref (a 75)), (4, .int j14.1), (6, .int (x_g_code v0 v5.toNatClampNeg))]) hx hb dX7_holds_281 hl (k := 5) rfl rfl (by decide) rfl (fun ls hl => ?_)
            refine lv_goto (tgt := 6) hx hb dX7_holds_284 (by decide) ?_
            exact ih hf hw (lv_sub hl [1, 2, 3, 4, 5, 0] rfl) kx
          clear hf
          have hf := hj14
          clear hj14
          refine lv_icmp_ge (tgt := 73) hx hb dX7_holds_36 (by decide) (fun hc => ?_) (fun hc => ?_)
          · have hf := ifT hf hc
            refine lv_iload hx hb dX7_holds_73 (lv_at hl 0 rfl) ?_
            refine lv_sipush (v := 10008) hx hb dX7_holds_75 (by decide) ?_
            obtain ⟨J4, hJ4, hf⟩ := jnS hf
            have wj4 : ∀ (j4 : Unit) (H : Heap) (locs : List Loc) (ls : Array Slot), J4 j4 = some j14 → Wd D A s (cW a ar t x_q0_dials x_q0_spots x_q0_skies x_q0_reports x_q0_count x_q0_chime x_q0_end x_q0_score x_q0_reportCount x_q0_z x_q0_rules x_q0_shades x_q0_facts x_q1_dials x_q1_spots x_q1_skies x_q1_reports x_q1_count x_q1_chime x_q1_end x_q1_score x_q1_reportCount x_q1_z x_q1_rules x_q1_shades x_q1_facts x_q2_dials x_q2_spots x_q2_skies x_q2_reports x_q2_count x_q2_chime x_q2_end x_q2_score x_q2_reportCount x_q2_z x_q2_rules x_q2_shades x_q2_facts x_isKept x_marks x_p_first x_p_steps x_p_most x_p_many x_p_fewest x_p_everRight x_p_opening x_p_rows x_p_rowCount x_p_acts x_p_marks x_p_deepest x_p_wanted x_t_length x_t_tape x_t_words x_t_places x_t_at x_t_kinds x_t_wills x_t_starts x_t_code x_t_count x_t_size x_h_sorts x_h_lengths x_h_items x_h_held x_h_things x_h_sizes x_h_bodies x_h_traced x_h_number x_h_spot x_h_parted x_g_count x_g_kinds x_g_wills x_g_starts x_g_code x_g_stack x_g_kl x_g_wl x_g_sl x_g_cl x_nr) H locs → lv_has ls 11 [(0, .ref (ar v0 0)), (1, .int v1), (2, .int v2), (3, .ref (a 75)), (4, .int v4), (5, .int v5), (6, .int (x_g_code v0 v5.toNatClampNeg))] → W p l e (rmz 1 0 0) s m args below meth c H locs 0 0 Q (F0 m 110 ls []) := by
              intro j4 H locs ls hf hw hl
              have hf := hJ4 _ hf
              refine lv_iload hx hb dX7_holds_110 (lv_at hl 6 rfl) ?_
              refine lv_sipush (v := 10008) hx hb dX7_holds_112 (by decide) ?_
              refine lv_icmp_eq (tgt := 281) hx hb dX7_holds_115 (by decide) (fun hc => ?_) (fun hc => ?_)
              · have hf := ifT hf hc
                have hf := Option.some.inj hf
                subst hf
                exact wj14 _ _ _ hw (lv_sub hl [0, 1, 2, 3, 4, 5, 6] rfl)
              · have hf := ifF hf hc
                refine lv_iload hx hb dX7_holds_118 (lv_at hl 4 rfl) ?_
                refine lv_iconst (v := 2) hx hb dX7_holds_120 (by decide) ?_
                refine lv_icmp_lt (tgt := 281) hx hb dX7_holds_121 (by decide) (fun hc => ?_) (fun hc => ?_)
                · have hf := ifT hf hc
                  have hf := Option.some.inj hf
                  subst hf
                  exact wj14 _ _ _ hw (lv_sub hl [0, 1, 2, 3, 4, 5, 6] rfl)
                · have hf := ifF hf hc
                  refine lv_iinc (v := (v4 + (-1 : Int32))) (lv' := [(4, .int (v4 + (-1 : Int32))), (0, .ref (ar v0 0)), (1, .int v1), (2, .int v2), (3, .ref (a 75)), (5, .int v5), (6, .int (x_g_code v0 v5.toNatClampNeg))]) hx hb dX7_holds_124 hl (k := 4) rfl rfl (by decide) rfl (fun ls hl => ?_)
                  refine lv_aload_n hx hb dX7_holds_127 rfl (lv_at hl 1 rfl) ?_
                  refine cg_X7_9_r cx hw hv0 dX7_holds_128 ?_
                  refine lv_iload hx hb dX7_holds_131 (lv_at hl 0 rfl) ?_
                  refine lv_iconst (v := 1) hx hb dX7_holds_133 (by decide) ?_
                  refine lv_isub hx hb dX7_holds_134 ?_
                  obtain ⟨h5, hf⟩ := ckS hf
                  refine cr_stack (j := ((v4 + (-1 : Int32)) - (1 : Int32)).toNatClampNeg) cx hw hv0 (ib_in h5) rfl dX7_holds_135 ?_
                  refine lv_istore (lv' := [(7, .int (x_g_stack v0 (((v4 + (-1 : Int32)) - (1 : Int32)).toNatClampNeg))), (4, .int (v4 + (-1 : Int32))), (0, .ref (ar v0 0)), (1, .int v1), (2, .int v2), (3, .ref (a 75)), (5, .int v5), (6, .int (x_g_code v0 v5.toNatClampNeg))]) hx hb dX7_holds_136 hl (by decide) rfl (fun ls hl => ?_)
                  refine lv_aload_n hx hb dX7_holds_138 rfl (lv_at hl 2 rfl) ?_
                  refine cg_X7_9_r cx hw hv0 dX7_holds_139 ?_
                  refine lv_iload hx hb dX7_holds_142 (lv_at hl 1 rfl) ?_
                  obtain ⟨h6, hf⟩ := ckS hf
                  refine cr_stack (j := (v4 + (-1 : Int32)).toNatClampNeg) cx hw hv0 (ib_in h6) rfl dX7_holds_144 ?_
                  refine lv_istore (lv' := [(8, .int (x_g_stack v0 ((v4 + (-1 : Int32)).toNatClampNeg))), (7, .int (x_g_stack v0 (((v4 + (-1 : Int32)) - (1 : Int32)).toNatClampNeg))), (4, .int (v4 + (-1 : Int32))), (0, .ref (ar v0 0)), (1, .int v1), (2, .int v2), (3, .ref (a 75)), (5, .int v5), (6, .int (x_g_code v0 v5.toNatClampNeg))]) hx hb dX7_holds_145 hl (by decide) rfl (fun ls hl => ?_)
                  refine lv_iload hx hb dX7_holds_147 (lv_at hl 8 rfl) ?_
                  refine lv_sipush (v := 10005) hx hb dX7_holds_149 (by decide) ?_
                  obtain ⟨j7, hj7, hf⟩ := pbS hf
                  have wj7 : ∀ (H : Heap) (locs : List Loc) (ls : Array Slot), Wd D A s (cW a ar t x_q0_dials x_q0_spots x_q0_skies x_q0_reports x_q0_count x_q0_chime x_q0_end x_q0_score x_q0_reportCount x_q0_z x_q0_rules x_q0_shades x_q0_facts x_q1_dials x_q1_spots x_q1_skies x_q1_reports x_q1_count x_q1_chime x_q1_end x_q1_score x_q1_reportCount x_q1_z x_q1_rules x_q1_shades x_q1_facts x_q2_dials x_q2_spots x_q2_skies x_q2_reports x_q2_count x_q2_chime x_q2_end x_q2_score x_q2_reportCount x_q2_z x_q2_rules x_q2_shades x_q2_facts x_isKept x_marks x_p_first x_p_steps x_p_most x_p_many x_p_fewest x_p_everRight x_p_opening x_p_rows x_p_rowCount x_p_acts x_p_marks x_p_deepest x_p_wanted x_t_length x_t_tape x_t_words x_t_places x_t_at x_t_kinds x_t_wills x_t_starts x_t_code x_t_count x_t_size x_h_sorts x_h_lengths x_h_items x_h_held x_h_things x_h_sizes x_h_bodies x_h_traced x_h_number x_h_spot x_h_parted x_g_count x_g_kinds x_g_wills x_g_starts x_g_code x_g_stack x_g_kl x_g_wl x_g_sl x_g_cl x_nr) H locs → lv_has ls 11 [(0, .ref (ar v0 0)), (1, .int v1), (2, .int v2), (3, .ref (a 75)), (4, .int (v4 + (-1 : Int32))), (5, .int v5), (6, .int (x_g_code v0 v5.toNatClampNeg)), (7, .int (x_g_stack v0 (((v4 + (-1 : Int32)) - (1 : Int32)).toNatClampNeg))), (8, .int (x_g_stack v0 ((v4 + (-1 : Int32)).toNatClampNeg)))] → W p l e (rmz 1 0 0) s m args below meth c H locs 0 0 Q (F0 m 205 ls [.int j7]) := by
                    intro H locs ls hw hl
                    refine lv_istore (lv' := [(9, .int j7), (0, .ref (ar v0 0)), (1, .int v1), (2, .int v2), (3, .ref (a 75)), (4, .int (v4 + (-1 : Int32))), (5, .int v5), (6, .int (x_g_code v0 v5.toNatClampNeg)), (7, .int (x_g_stack v0 (((v4 + (-1 : Int32)) - (1 : Int32)).toNatClampNeg))), (8, .int (x_g_stack v0 ((v4 + (-1 : Int32)).toNatClampNeg)))]) hx hb dX7_holds_205 hl (by decide) rfl (fun ls hl => ?_)
                    refine lv_iload hx hb dX7_holds_207 (lv_at hl 7 rfl) ?_
                    refine lv_sipush (v := 10009) hx hb dX7_holds_209 (by decide) ?_
                    obtain ⟨j8, hj8, hf⟩ := pbS hf
                    have wj8 : ∀ (H : Heap) (locs : List Loc) (ls : Array Slot), Wd D A s (cW a ar t x_q0_dials x_q0_spots x_q0_skies x_q0_reports x_q0_count x_q0_chime x_q0_end x_q0_score x_q0_reportCount x_q0_z x_q0_rules x_q0_shades x_q0_facts x_q1_dials x_q1_spots x_q1_skies x_q1_reports x_q1_count x_q1_chime x_q1_end x_q1_score x_q1_reportCount x_q1_z x_q1_rules x_q1_shades x_q1_facts x_q2_dials x_q2_spots x_q2_skies x_q2_reports x_q2_count x_q2_chime x_q2_end x_q2_score x_q2_reportCount x_q2_z x_q2_rules x_q2_shades x_q2_facts x_isKept x_marks x_p_first x_p_steps x_p_most x_p_many x_p_fewest x_p_everRight x_p_opening x_p_rows x_p_rowCount x_p_acts x_p_marks x_p_deepest x_p_wanted x_t_length x_t_tape x_t_words x_t_places x_t_at x_t_kinds x_t_wills x_t_starts x_t_code x_t_count x_t_size x_h_sorts x_h_lengths x_h_items x_h_held x_h_things x_h_sizes x_h_bodies x_h_traced x_h_number x_h_spot x_h_parted x_g_count x_g_kinds x_g_wills x_g_starts x_g_code x_g_stack x_g_kl x_g_wl x_g_sl x_g_cl x_nr) H locs → lv_has ls 11 [(0, .ref (ar v0 0)), (1, .int v1), (2, .int v2), (3, .ref (a 75)), (4, .int (v4 + (-1 : Int32))), (5, .int v5), (6, .int (x_g_code v0 v5.toNatClampNeg)), (7, .int (x_g_stack v0 (((v4 + (-1 : Int32)) - (1 : Int32)).toNatClampNeg))), (8, .int (x_g_stack v0 ((v4 + (-1 : Int32)).toNatClampNeg))), (9, .int j7)] → W p l e (rmz 1 0 0) s m args below meth c H locs 0 0 Q (F0 m 244 ls [.int j8]) := by
                      intro H locs ls hw hl
                      refine lv_istore (lv' := [(10, .int j8), (0, .ref (ar v0 0)), (1, .int v1), (2, .int v2), (3, .ref (a 75)), (4, .int (v4 + (-1 : Int32))), (5, .int v5), (6, .int (x_g_code v0 v5.toNatClampNeg)), (7, .int (x_g_stack v0 (((v4 + (-1 : Int32)) - (1 : Int32)).toNatClampNeg))), (8, .int (x_g_stack v0 ((v4 + (-1 : Int32)).toNatClampNeg))), (9, .int j7)]) hx hb dX7_holds_244 hl (by decide) rfl (fun ls hl => ?_)
                      refine lv_aload_n hx hb dX7_holds_246 rfl (lv_at hl 1 rfl) ?_
                      refine cg_X7_9_r cx hw hv0 dX7_holds_247 ?_
                      refine lv_iload hx hb dX7_holds_250 (lv_at hl 5 rfl) ?_
                      refine lv_iconst (v := 1) hx hb dX7_holds_252 (by decide) ?_
                      refine lv_isub hx hb dX7_holds_253 ?_
                      refine lv_iload hx hb dX7_holds_254 (lv_at hl 7 rfl) ?_
                      refine lv_sipush (v := 10007) hx hb dX7_holds_256 (by decide) ?_
                      obtain ⟨j9, hj9, hf⟩ := pbS hf
                      have wj9 : ∀ (H : Heap) (locs : List Loc) (ls : Array Slot), Wd D A s (cW a ar t x_q0_dials x_q0_spots x_q0_skies x_q0_reports x_q0_count x_q0_chime x_q0_end x_q0_score x_q0_reportCount x_q0_z x_q0_rules x_q0_shades x_q0_facts x_q1_dials x_q1_spots x_q1_skies x_q1_reports x_q1_count x_q1_chime x_q1_end x_q1_score x_q1_reportCount x_q1_z x_q1_rules x_q1_shades x_q1_facts x_q2_dials x_q2_spots x_q2_skies x_q2_reports x_q2_count x_q2_chime x_q2_end x_q2_score x_q2_reportCount x_q2_z x_q2_rules x_q2_shades x_q2_facts x_isKept x_marks x_p_first x_p_steps x_p_most x_p_many x_p_fewest x_p_everRight x_p_opening x_p_rows x_p_rowCount x_p_acts x_p_marks x_p_deepest x_p_wanted x_t_length x_t_tape x_t_words x_t_places x_t_at x_t_kinds x_t_wills x_t_starts x_t_code x_t_count x_t_size x_h_sorts x_h_lengths x_h_items x_h_held x_h_things x_h_sizes x_h_bodies x_h_traced x_h_number x_h_spot x_h_parted x_g_count x_g_kinds x_g_wills x_g_starts x_g_code x_g_stack x_g_kl x_g_wl x_g_sl x_g_cl x_nr) H locs → lv_has ls 11 [(0, .ref (ar v0 0)), (1, .int v1), (2, .int v2), (3, .ref (a 75)), (4, .int (v4 + (-1 : Int32))), (5, .int v5), (6, .int (x_g_code v0 v5.toNatClampNeg)), (7, .int (x_g_stack v0 (((v4 + (-1 : Int32)) - (1 : Int32)).toNatClampNeg))), (8, .int (x_g_stack v0 ((v4 + (-1 : Int32)).toNatClampNeg))), (9, .int j7), (10, .int j8)] → W p l e (rmz 1 0 0) s m args below meth c H locs 0 0 Q (F0 m 280 ls [.int j9, .int ((v4 + (-1 : Int32)) - (1 : Int32)), .ref (ar v0 5)]) := by
                        intro H locs ls hw hl
                        obtain ⟨h10, hf⟩ := ckS hf
                        refine cz_stack (j := ((v4 + (-1 : Int32)) - (1 : Int32)).toNatClampNeg) cx hw hv0 (ib_in h10) rfl dX7_holds_280 (fun H locs hw => ?_)
                        have hf := Option.some.inj hf
                        subst hf
                        exact wj14 _ _ _ hw (lv_sub hl [0, 1, 2, 3, 4, 5, 6] rfl)
                      clear hf
                      have hf := hj9
                      clear hj9
                      refine lv_icmp_gt (tgt := 270) hx hb dX7_holds_259 (by decide) (fun hc => ?_) (fun hc => ?_)
                      · have hf := ifT hf hc
                        refine lv_iload hx hb dX7_holds_270 (lv_at hl 0 rfl) ?_
                        refine lv_if_eq (tgt := 279) hx hb dX7_holds_272 (by decide) (fun hc => ?_) (fun hc => ?_)
                        · have hf := ifT hf hc
                          refine lv_iconst (v := 0) hx hb dX7_holds_279 (by decide) ?_
                          subst hf
                          exact wj9 _ _ _ hw (lv_sub hl [1, 2, 3, 4, 5, 6, 7, 8, 9, 10, 0] rfl)
                        · have hf := ifF hf hc
                          refine lv_iconst (v := 1) hx hb dX7_holds_275 (by decide) ?_
                          refine lv_goto (tgt := 280) hx hb dX7_holds_276 (by decide) ?_
                          subst hf
                          exact wj9 _ _ _ hw (lv_sub hl [1, 2, 3, 4, 5, 6, 7, 8, 9, 10, 0] rfl)
                      · have hf := ifF hf hc
                        refine lv_iload hx hb dX7_holds_262 (lv_at hl 10 rfl) ?_
                        refine lv_if_eq (tgt := 279) hx hb dX7_holds_264 (by decide) (fun hc => ?_) (fun hc => ?_)
                        · have hf := ifT hf hc
                          refine lv_iconst (v := 0) hx hb dX7_holds_279 (by decide) ?_
                          subst hf
                          exact wj9 _ _ _ hw (lv_sub hl [1, 2, 3, 4, 5, 6, 7, 8, 9, 10, 0] rfl)
                        · have hf := ifF hf hc
                          refine lv_goto (tgt := 275) hx hb dX7_holds_267 (by decide) ?_
                          refine lv_iconst (v := 1) hx hb dX7_holds_275 (by decide) ?_
                          refine lv_goto (tgt := 280) hx hb dX7_holds_276 (by decide) ?_
                          subst hf
                          exact wj9 _ _ _ hw (lv_sub hl [1, 2, 3, 4, 5, 6, 7, 8, 9, 10, 0] rfl)
                    clear hf
                    have hf := hj8
                    clear hj8
                    refine lv_icmp_ne (tgt := 231) hx hb dX7_holds_212 (by decide) (fun hc => ?_) (fun hc => ?_)
                    · have hf := ifF hf hc
                      refine lv_iload hx hb dX7_holds_231 (lv_at hl 8 rfl) ?_
                      refine lv_iload hx hb dX7_holds_233 (lv_at hl 9 rfl) ?_
                      refine lv_ior hx hb dX7_holds_235 ?_
                      refine lv_if_eq (tgt := 243) hx hb dX7_holds_236 (by decide) (fun hc => ?_) (fun hc => ?_)
                      · have hf := ifT hf hc
                        refine lv_iconst (v := 0) hx hb dX7_holds_243 (by decide) ?_
                        subst hf
                        exact wj8 _ _ _ hw (lv_sub hl [1, 2, 3, 4, 5, 6, 7, 8, 9, 0] rfl)
                      · have hf := ifF hf hc
                        refine lv_iconst (v := 1) hx hb dX7_holds_239 (by decide) ?_
                        refine lv_goto (tgt := 244) hx hb dX7_holds_240 (by decide) ?_
                        subst hf
                        exact wj8 _ _ _ hw (lv_sub hl [1, 2, 3, 4, 5, 6, 7, 8, 9, 0] rfl)
                    · have hf := ifT hf hc
                      refine lv_iload hx hb dX7_holds_215 (lv_at hl 8 rfl) ?_
                      refine lv_iload hx hb dX7_holds_217 (lv_at hl 9 rfl) ?_
                      refine lv_iand hx hb dX7_holds_219 ?_
                      refine lv_if_eq (tgt := 227) hx hb dX7_holds_220 (by decide) (fun hc => ?_) (fun hc => ?_)
                      · have hf := ifT hf hc
                        refine lv_iconst (v := 0) hx hb dX7_holds_227 (by decide) ?_
                        refine lv_goto (tgt := 244) hx hb dX7_holds_228 (by decide) ?_
                        subst hf
                        exact wj8 _ _ _ hw (lv_sub hl [1, 2, 3, 4, 5, 6, 7, 8, 9, 0] rfl)
                      · have hf := ifF hf hc
                        refine lv_iconst (v := 1) hx hb dX7_holds_223 (by decide) ?_
                        refine lv_goto (tgt := 244) hx hb dX7_holds_224 (by decide) ?_
                        subst hf
                        exact wj8 _ _ _ hw (lv_sub hl [1, 2, 3, 4, 5, 6, 7, 8, 9, 0] rfl)
                  clear hf
                  have hf := hj7
                  clear hj7
                  refine lv_icmp_ne (tgt := 170) hx hb dX7_holds_152 (by decide) (fun hc => ?_) (fun hc => ?_)
                  · have hf := ifF hf hc
                    refine lv_iload hx hb dX7_holds_170 (lv_at hl 8 rfl) ?_
                    refine lv_sipush (v := 10006) hx hb dX7_holds_172 (by decide) ?_
                    refine lv_icmp_ne (tgt := 193) hx hb dX7_holds_175 (by decide) (fun hc => ?_) (fun hc => ?_)
                    · have hf := ifF hf hc
                      refine lv_iload hx hb dX7_holds_193 (lv_at hl 1 rfl) ?_
                      refine lv_iload hx hb dX7_holds_195 (lv_at hl 0 rfl) ?_
                      refine lv_icmp_le (tgt := 204) hx hb dX7_holds_197 (by decide) (fun hc => ?_) (fun hc => ?_)
                      · have hf := ifT hf hc
                        refine lv_iconst (v := 0) hx hb dX7_holds_204 (by decide) ?_
                        subst hf
                        exact wj7 _ _ _ hw (lv_sub hl [3, 4, 5, 6, 2, 7, 8, 1, 0] rfl)
                      · have hf := ifF hf hc
                        refine lv_iconst (v := 1) hx hb dX7_holds_200 (by decide) ?_
                        refine lv_goto (tgt := 205) hx hb dX7_holds_201 (by decide) ?_
                        subst hf
                        exact wj7 _ _ _ hw (lv_sub hl [3, 4, 5, 6, 2, 7, 8, 1, 0] rfl)
                    · have hf := ifT hf hc
                      refine lv_iload hx hb dX7_holds_178 (lv_at hl 1 rfl) ?_
                      refine lv_iload hx hb dX7_holds_180 (lv_at hl 0 rfl) ?_
                      refine lv_icmp_ne (tgt := 189) hx hb dX7_holds_182 (by decide) (fun hc => ?_) (fun hc => ?_)
                      · have hf := ifF hf hc
                        refine lv_iconst (v := 0) hx hb dX7_holds_189 (by decide) ?_
                        refine lv_goto (tgt := 205) hx hb dX7_holds_190 (by decide) ?_
                        subst hf
                        exact wj7 _ _ _ hw (lv_sub hl [3, 4, 5, 6, 2, 7, 8, 1, 0] rfl)
                      · have hf := ifT hf hc
                        refine lv_iconst (v := 1) hx hb dX7_holds_185 (by decide) ?_
                        refine lv_goto (tgt := 205) hx hb dX7_holds_186 (by decide) ?_
                        subst hf
                        exact wj7 _ _ _ hw (lv_sub hl [3, 4, 5, 6, 2, 7, 8, 1, 0] rfl)
                  · have hf := ifT hf hc
                    refine lv_iload hx hb dX7_holds_155 (lv_at hl 1 rfl) ?_
                    refine lv_iload hx hb dX7_holds_157 (lv_at hl 0 rfl) ?_
                    refine lv_icmp_ge (tgt := 166) hx hb dX7_holds_159 (by decide) (fun hc => ?_) (fun hc => ?_)
                    · have hf := ifT hf hc
                      refine lv_iconst (v := 0) hx hb dX7_holds_166 (by decide) ?_
                      refine lv_goto (tgt := 205) hx hb dX7_holds_167 (by decide) ?_
                      subst hf
                      exact wj7 _ _ _ hw (lv_sub hl [3, 4, 5, 6, 2, 7, 8, 1, 0] rfl)
                    · have hf := ifF hf hc
                      refine lv_iconst (v := 1) hx hb dX7_holds_162 (by decide) ?_
                      refine lv_goto (tgt := 205) hx hb dX7_holds_163 (by decide) ?_
                      subst hf
                      exact wj7 _ _ _ hw (lv_sub hl [3, 4, 5, 6, 2, 7, 8, 1, 0] rfl)
            clear hJ4
            refine lv_icmp_ne (tgt := 110) hx hb dX7_holds_78 (by decide) (fun hc => ?_) (fun hc => ?_)
            · have hf := ifF hf hc
              exact wj4 _ _ _ _ hf hw (lv_sub hl [1, 2, 3, 4, 5, 6, 0] rfl)
            · have hf := ifT hf hc
              refine lv_iload hx hb dX7_holds_81 (lv_at hl 5 rfl) ?_
              refine lv_iconst (v := 1) hx hb dX7_holds_83 (by decide) ?_
              refine lv_icmp_lt (tgt := 110) hx hb dX7_holds_84 (by decide) (fun hc => ?_) (fun hc => ?_)
              · have hf := ifT hf hc
                exact wj4 _ _ _ _ hf hw (lv_sub hl [1, 2, 3, 4, 5, 6, 0] rfl)
              · have hf := ifF hf hc
                refine lv_aload_n hx hb dX7_holds_87 rfl (lv_at hl 1 rfl) ?_
                refine cg_X7_9_r cx hw hv0 dX7_holds_88 ?_
                refine lv_iload hx hb dX7_holds_91 (lv_at hl 5 rfl) ?_
                refine lv_iconst (v := 1) hx hb dX7_holds_93 (by decide) ?_
                refine lv_isub hx hb dX7_holds_94 ?_
                refine lv_iconst (v := 1) hx hb dX7_holds_95 (by decide) ?_
                refine lv_aload_n hx hb dX7_holds_96 rfl (lv_at hl 1 rfl) ?_
                refine cg_X7_9_r cx hw hv0 dX7_holds_97 ?_
                refine lv_iload hx hb dX7_holds_100 (lv_at hl 5 rfl) ?_
                refine lv_iconst (v := 1) hx hb dX7_holds_102 (by decide) ?_
                refine lv_isub hx hb dX7_holds_103 ?_
                obtain ⟨h2, hf⟩ := ckS hf
                refine cr_stack (j := (v4 - (1 : Int32)).toNatClampNeg) cx hw hv0 (ib_in h2) rfl dX7_holds_104 ?_
                refine lv_isub hx hb dX7_holds_105 ?_
                obtain ⟨h3, hf⟩ := ckS hf
                refine cz_stack (j := (v4 - (1 : Int32)).toNatClampNeg) cx hw hv0 (ib_in h3) rfl dX7_holds_106 (fun H locs hw => ?_)
                refine lv_goto (tgt := 281) hx hb dX7_holds_107 (by decide) ?_
                have hf := Option.some.inj hf
                subst hf
                exact wj14 _ _ _ hw (lv_sub hl [1, 2, 3, 4, 5, 6, 0] rfl)
          · have hf := ifF hf hc
            refine lv_aload_n hx hb dX7_holds_39 rfl (lv_at hl 1 rfl) ?_
            refine cg_X7_9_r cx hw hv0 dX7_holds_40 ?_
            refine lv_iload hx hb dX7_holds_43 (lv_at hl 5 rfl) ?_
            refine lv_iload hx hb dX7_holds_45 (lv_at hl 0 rfl) ?_
            refine lv_sipush (v := 10000) hx hb dX7_holds_47 (by decide) ?_
            obtain ⟨j12, hj12, hf⟩ := bnS hf
            have wj12 : ∀ (H : Heap) (locs : List Loc) (ls : Array Slot), Wd D A s (cW a ar t x_q0_dials x_q0_spots x_q0_skies x_q0_reports x_q0_count x_q0_chime x_q0_end x_q0_score x_q0_reportCount x_q0_z x_q0_rules x_q0_shades x_q0_facts x_q1_dials x_q1_spots x_q1_skies x_q1_reports x_q1_count x_q1_chime x_q1_end x_q1_score x_q1_reportCount x_q1_z x_q1_rules x_q1_shades x_q1_facts x_q2_dials x_q2_spots x_q2_skies x_q2_reports x_q2_count x_q2_chime x_q2_end x_q2_score x_q2_reportCount x_q2_z x_q2_rules x_q2_shades x_q2_facts x_isKept x_marks x_p_first x_p_steps x_p_most x_p_many x_p_fewest x_p_everRight x_p_opening x_p_rows x_p_rowCount x_p_acts x_p_marks x_p_deepest x_p_wanted x_t_length x_t_tape x_t_words x_t_places x_t_at x_t_kinds x_t_wills x_t_starts x_t_code x_t_count x_t_size x_h_sorts x_h_lengths x_h_items x_h_held x_h_things x_h_sizes x_h_bodies x_h_traced x_h_number x_h_spot x_h_parted x_g_count x_g_kinds x_g_wills x_g_starts x_g_code x_g_stack x_g_kl x_g_wl x_g_sl x_g_cl x_nr) H locs → lv_has ls 11 [(0, .ref (ar v0 0)), (1, .int v1), (2, .int v2), (3, .ref (a 75)), (4, .int v4), (5, .int v5), (6, .int (x_g_code v0 v5.toNatClampNeg))] → W p l e (rmz 1 0 0) s m args below meth c H locs 0 0 Q (F0 m 66 ls [.int j12, .int v4, .ref (ar v0 5)]) := by
              intro H locs ls hw hl
              obtain ⟨h13, hf⟩ := ckS hf
              refine cz_stack (j := v4.toNatClampNeg) cx hw hv0 (ib_in h13) rfl dX7_holds_66 (fun H locs hw => ?_)
              refine lv_iinc (v := (v4 + (1 : Int32))) (lv' := [(4, .int (v4 + (1 : Int32))), (0, .ref (ar v0 0)), (1, .int v1), (2, .int v2), (3, .ref (a 75)), (5, .int v5), (6, .int (x_g_code v0 v5.toNatClampNeg))]) hx hb dX7_holds_67 hl (k := 4) rfl rfl (by decide) rfl (fun ls hl => ?_)
              refine lv_goto (tgt := 281) hx hb dX7_holds_70 (by decide) ?_
              have hf := Option.some.inj hf
              subst hf
              exact wj14 _ _ _ hw (lv_sub hl [1, 2, 3, 4, 0, 5, 6] rfl)
            clear hf
            have hf := hj12
            clear hj12
            refine lv_icmp_ge (tgt := 58) hx hb dX7_holds_50 (by decide) (fun hc => ?_) (fun hc => ?_)
            · have hf := ifT hf hc
              refine lv_aload_n hx hb dX7_holds_58 rfl (lv_at hl 4 rfl) ?_
              refine lv_iload hx hb dX7_holds_59 (lv_at hl 0 rfl) ?_
              refine lv_sipush (v := 10000) hx hb dX7_holds_61 (by decide) ?_
              refine lv_isub hx hb dX7_holds_64 ?_
              obtain ⟨h11, hf⟩ := ckS hf
              refine cl_q2_facts (j := ((x_g_code v0 v5.toNatClampNeg) - (10000 : Int32)).toNatClampNeg) cx hw (ib_in h11) rfl dX7_holds_65 ?_
              have hf := Option.some.inj hf
              subst hf
              exact wj12 _ _ _ hw (lv_sub hl [1, 2, 3, 4, 5, 6, 0] rfl)
            · have hf := ifF hf hc
              refine lv_iload hx hb dX7_holds_53 (lv_at hl 0 rfl) ?_
              refine lv_goto (tgt := 66) hx hb dX7_holds_55 (by decide) ?_
              have hf := Option.some.inj hf
              subst hf
              exact wj12 _ _ _ hw (lv_sub hl [1, 2, 3, 4, 5, 6, 0] rfl)
  refine wL1 n ho15 hw (lv_sub hl [2, 3, 4, 5, 1, 0] rfl) (fun H locs ls hw hl => ?_)
  clear wL1 ho15
  refine lv_iload hx hb dX7_holds_287 (lv_at hl 4 rfl) ?_
  obtain ⟨J16, hJ16, hf⟩ := jnS hf
  have wj16 : ∀ (j16 : Unit) (H : Heap) (locs : List Loc) (ls : Array Slot), J16 j16 = some res → Wd D A s (cW a ar t x_q0_dials x_q0_spots x_q0_skies x_q0_reports x_q0_count x_q0_chime x_q0_end x_q0_score x_q0_reportCount x_q0_z x_q0_rules x_q0_shades x_q0_facts x_q1_dials x_q1_spots x_q1_skies x_q1_reports x_q1_count x_q1_chime x_q1_end x_q1_score x_q1_reportCount x_q1_z x_q1_rules x_q1_shades x_q1_facts x_q2_dials x_q2_spots x_q2_skies x_q2_reports x_q2_count x_q2_chime x_q2_end x_q2_score x_q2_reportCount x_q2_z x_q2_rules x_q2_shades x_q2_facts x_isKept x_marks x_p_first x_p_steps x_p_most x_p_many x_p_fewest x_p_everRight x_p_opening x_p_rows x_p_rowCount x_p_acts x_p_marks x_p_deepest x_p_wanted x_t_length x_t_tape x_t_words x_t_places x_t_at x_t_kinds x_t_wills x_t_starts x_t_code x_t_count x_t_size x_h_sorts x_h_lengths x_h_items x_h_held x_h_things x_h_sizes x_h_bodies x_h_traced x_h_number x_h_spot x_h_parted x_g_count x_g_kinds x_g_wills x_g_starts x_g_code o15.2.2 x_g_kl x_g_wl x_g_sl x_g_cl x_nr) H locs → lv_has ls 11 [(0, .ref (ar v0 0)), (1, .int v1), (2, .int v2), (3, .ref (a 75)), (4, .int o15.1), (5, .int o15.2.1)] → W p l e (rmz 1 0 0) s m args below meth c H locs 0 0 Q (F0 m 301 ls []) := by
    intro j16 H locs ls hf hw hl
    have hf := hJ16 _ hf
    refine lv_iconst (v := 1) hx hb dX7_holds_301 (by decide) ?_
    refine lv_goto (tgt := 306) hx hb dX7_holds_302 (by decide) ?_
    have hf := Option.some.inj hf
    subst hf
    exact hR _ _ _ _ _ _ hw rfl ⟨rfl, rfl⟩ dX7_holds_306
  clear hJ16
  refine lv_if_eq (tgt := 301) hx hb dX7_holds_289 (by decide) (fun hc => ?_) (fun hc => ?_)
  · have hf := ifT hf hc
    exact wj16 _ _ _ _ hf hw (lv_sub hl [0, 1, 2, 3, 4, 5] rfl)
  · have hf := ifF hf hc
    refine lv_aload_n hx hb dX7_holds_292 rfl (lv_at hl 0 rfl) ?_
    refine cg_X7_9_r cx hw hv0 dX7_holds_293 ?_
    refine lv_iconst (v := 0) hx hb dX7_holds_296 (by decide) ?_
    refine cr_stack (j := 0) cx hw hv0 (ib_in (by decide)) (by decide) dX7_holds_297 ?_
    refine lv_if_eq (tgt := 305) hx hb dX7_holds_298 (by decide) (fun hc => ?_) (fun hc => ?_)
    · have hf := ifT hf hc
      refine lv_iconst (v := 0) hx hb dX7_holds_305 (by decide) ?_
      have hf := Option.some.inj hf
      subst hf
      exact hR _ _ _ _ _ _ hw rfl ⟨rfl, rfl⟩ dX7_holds_306
    · have hf := ifF hf hc
      exact wj16 _ _ _ _ hf hw (lv_sub hl [0, 1, 2, 3, 4, 5] rfl)
theorem c_X7_tell_f2 {v0 : Nat} {v1 : Int32} (hv0 : v0 < x_nr) {res : Int32 × (Nat → Nat → Int32)} (hf : X7_tell_f2 n x_q2_facts x_g_count x_g_kinds x_g_wills x_g_starts x_g_code x_g_stack x_g_kl x_g_wl x_g_sl x_g_cl v0 v1 = some res) : MC l E0 D t yX7_tell cX7_tell 4 (some .int) 2 0 0 [.ref (ar v0 0), .int v1, .ref (a 75)] (cW a ar t x_q0_dials x_q0_spots x_q0_skies x_q0_reports x_q0_count x_q0_chime x_q0_end x_q0_score x_q0_reportCount x_q0_z x_q0_rules x_q0_shades x_q0_facts x_q1_dials x_q1_spots x_q1_skies x_q1_reports x_q1_count x_q1_chime x_q1_end x_q1_score x_q1_reportCount x_q1_z x_q1_rules x_q1_shades x_q1_facts x_q2_dials x_q2_spots x_q2_skies x_q2_reports x_q2_count x_q2_chime x_q2_end x_q2_score x_q2_reportCount x_q2_z x_q2_rules x_q2_shades x_q2_facts x_isKept x_marks x_p_first x_p_steps x_p_most x_p_many x_p_fewest x_p_everRight x_p_opening x_p_rows x_p_rowCount x_p_acts x_p_marks x_p_deepest x_p_wanted x_t_length x_t_tape x_t_words x_t_places x_t_at x_t_kinds x_t_wills x_t_starts x_t_code x_t_count x_t_size x_h_sorts x_h_lengths x_h_items x_h_held x_h_things x_h_sizes x_h_bodies x_h_traced x_h_number x_h_spot x_h_parted x_g_count x_g_kinds x_g_wills x_g_starts x_g_code x_g_stack x_g_kl x_g_wl x_g_sl x_g_cl x_nr) (Qi res.1 (cW a ar t x_q0_dials x_q0_spots x_q0_skies x_q0_reports x_q0_count x_q0_chime x_q0_end x_q0_score x_q0_reportCount x_q0_z x_q0_rules x_q0_shades x_q0_facts x_q1_dials x_q1_spots x_q1_skies x_q1_reports x_q1_count x_q1_chime x_q1_end x_q1_score x_q1_reportCount x_q1_z x_q1_rules x_q1_shades x_q1_facts x_q2_dials x_q2_spots x_q2_skies x_q2_reports x_q2_count x_q2_chime x_q2_end x_q2_score x_q2_reportCount x_q2_z x_q2_rules x_q2_shades x_q2_facts x_isKept x_marks x_p_first x_p_steps x_p_most x_p_many x_p_fewest x_p_everRight x_p_opening x_p_rows x_p_rowCount x_p_acts x_p_marks x_p_deepest x_p_wanted x_t_length x_t_tape x_t_words x_t_places x_t_at x_t_kinds x_t_wills x_t_starts x_t_code x_t_count x_t_size x_h_sorts x_h_lengths x_h_items x_h_held x_h_things x_h_sizes x_h_bodies x_h_traced x_h_number x_h_spot x_h_parted x_g_count x_g_kinds x_g_wills x_g_starts x_g_code res.2 x_g_kl x_g_wl x_g_sl x_g_cl x_nr)) := by
  unfold X7_tell_f2 at hf
  refine MC.ofI pn_X7 (Nat.le_of_ble_eq_true rfl) ?_
  intro p e s m args below meth c A Q ls cx hR hw hl
  have hx := cx.1
  have hb := cx.2.1
  have hl : lv_has ls 4 [(0, .ref (ar v0 0)), (1, .int v1), (2, .ref (a 75))] := hl
  refine lv_iconst (v := 0) hx hb dX7_tell_0 (by decide) ?_
  refine lv_istore_n (lv' := [(3, .int (0 : Int32)), (0, .ref (ar v0 0)), (1, .int v1), (2, .ref (a 75))]) hx hb dX7_tell_1 rfl hl (by decide) rfl (fun ls hl => ?_)
  obtain ⟨K1, hK1, hf⟩ := jnS hf
  have kx1 : ∀ (o10 : Int32 × (Nat → Nat → Int32)) (H : Heap) (locs : List Loc) (ls : Array Slot), K1 o10 = some res → Wd D A s (cW a ar t x_q0_dials x_q0_spots x_q0_skies x_q0_reports x_q0_count x_q0_chime x_q0_end x_q0_score x_q0_reportCount x_q0_z x_q0_rules x_q0_shades x_q0_facts x_q1_dials x_q1_spots x_q1_skies x_q1_reports x_q1_count x_q1_chime x_q1_end x_q1_score x_q1_reportCount x_q1_z x_q1_rules x_q1_shades x_q1_facts x_q2_dials x_q2_spots x_q2_skies x_q2_reports x_q2_count x_q2_chime x_q2_end x_q2_score x_q2_reportCount x_q2_z x_q2_rules x_q2_shades x_q2_facts x_isKept x_marks x_p_first x_p_steps x_p_most x_p_many x_p_fewest x_p_everRight x_p_opening x_p_rows x_p_rowCount x_p_acts x_p_marks x_p_deepest x_p_wanted x_t_length x_t_tape x_t_words x_t_places x_t_at x_t_kinds x_t_wills x_t_starts x_t_code x_t_count x_t_size x_h_sorts x_h_lengths x_h_items x_h_held x_h_things x_h_sizes x_h_bodies x_h_traced x_h_number x_h_spot x_h_parted x_g_count x_g_kinds x_g_wills x_g_starts x_g_code o10.2 x_g_kl x_g_wl x_g_sl x_g_cl x_nr) H locs → lv_has ls 4 [(0, .ref (ar v0 0)), (1, .int v1), (2, .ref (a 75)), (3, .int o10.1)] → W p l e (rmz 2 0 0) s m args below meth c H locs 0 0 Q (F0 m 58 ls []) := by
    intro o10 H locs ls hf hw hl
    have hf := hK1 _ hf
    refine lv_iconst (v := 0) hx hb dX7_tell_58 (by decide) ?_
    have hf := Option.some.inj hf
    subst hf
    exact hR _ _ _ _ _ _ hw rfl ⟨rfl, rfl⟩ dX7_tell_59
  have wL1 : ∀ (k : Nat) {v1 : Int32} {v3 : Int32} {x_g_stack : Nat → Nat → Int32} {H : Heap} {locs : List Loc} {ls : Array Slot}, X7_tell_f2_L1 n x_q2_facts x_g_count x_g_kinds x_g_wills x_g_starts x_g_code x_g_kl x_g_wl x_g_sl x_g_cl v0 v1 K1 k v3 x_g_stack = some res → Wd D A s (cW a ar t x_q0_dials x_q0_spots x_q0_skies x_q0_reports x_q0_count x_q0_chime x_q0_end x_q0_score x_q0_reportCount x_q0_z x_q0_rules x_q0_shades x_q0_facts x_q1_dials x_q1_spots x_q1_skies x_q1_reports x_q1_count x_q1_chime x_q1_end x_q1_score x_q1_reportCount x_q1_z x_q1_rules x_q1_shades x_q1_facts x_q2_dials x_q2_spots x_q2_skies x_q2_reports x_q2_count x_q2_chime x_q2_end x_q2_score x_q2_reportCount x_q2_z x_q2_rules x_q2_shades x_q2_facts x_isKept x_marks x_p_first x_p_steps x_p_most x_p_many x_p_fewest x_p_everRight x_p_opening x_p_rows x_p_rowCount x_p_acts x_p_marks x_p_deepest x_p_wanted x_t_length x_t_tape x_t_words x_t_places x_t_at x_t_kinds x_t_wills x_t_starts x_t_code x_t_count x_t_size x_h_sorts x_h_lengths x_h_items x_h_held x_h_things x_h_sizes x_h_bodies x_h_traced x_h_number x_h_spot x_h_parted x_g_count x_g_kinds x_g_wills x_g_starts x_g_code x_g_stack x_g_kl x_g_wl x_g_sl x_g_cl x_nr) H locs → lv_has ls 4 [(0, .ref (ar v0 0)), (1, .int v1), (2, .ref (a 75)), (3, .int v3)] → (∀ (o : Int32 × (Nat → Nat → Int32)) (H : Heap) (locs : List Loc) (ls : Array Slot), K1 o = some res → Wd D A s (cW a ar t x_q0_dials x_q0_spots x_q0_skies x_q0_reports x_q0_count x_q0_chime x_q0_end x_q0_score x_q0_reportCount x_q0_z x_q0_rules x_q0_shades x_q0_facts x_q1_dials x_q1_spots x_q1_skies x_q1_reports x_q1_count x_q1_chime x_q1_end x_q1_score x_q1_reportCount x_q1_z x_q1_rules x_q1_shades x_q1_facts x_q2_dials x_q2_spots x_q2_skies x_q2_reports x_q2_count x_q2_chime x_q2_end x_q2_score x_q2_reportCount x_q2_z x_q2_rules x_q2_shades x_q2_facts x_isKept x_marks x_p_first x_p_steps x_p_most x_p_many x_p_fewest x_p_everRight x_p_opening x_p_rows x_p_rowCount x_p_acts x_p_marks x_p_deepest x_p_wanted x_t_length x_t_tape x_t_words x_t_places x_t_at x_t_kinds x_t_wills x_t_starts x_t_code x_t_count x_t_size x_h_sorts x_h_lengths x_h_items x_h_held x_h_things x_h_sizes x_h_bodies x_h_traced x_h_number x_h_spot x_h_parted x_g_count x_g_kinds x_g_wills x_g_starts x_g_code o.2 x_g_kl x_g_wl x_g_sl x_g_cl x_nr) H locs → lv_has ls 4 [(0, .ref (ar v0 0)), (1, .int v1), (2, .ref (a 75)), (3, .int o.1)] → W p l e (rmz 2 0 0) s m args below meth c H locs 0 0 Q (F0 m 58 ls [])) → W p l e (rmz 2 0 0) s m args below meth c H locs 0 0 Q (F0 m 2 ls []) := by
    clear hf hw hl hK1 kx1
    intro k
    induction k with
    | zero => intro v1 v3 x_g_stack H locs ls hf hw hl kx; simp [X7_tell_f2_L1] at hf
    | succ k ih =>
      intro v1 v3 x_g_stack H locs ls hf hw hl kx
      rw [X7_tell_f2_L1] at hf
      refine lv_iload_n hx hb dX7_tell_2 rfl (lv_at hl 3 rfl) ?_
      refine lv_aload_n hx hb dX7_tell_3 rfl (lv_at hl 0 rfl) ?_
      refine cg_X7_15_r cx hw hv0 dX7_tell_4 ?_
      refine lv_icmp_ge (tgt := 58) hx hb dX7_tell_7 (by decide) (fun hc => ?_) (fun hc => ?_)
      · have hf := ifT hf hc
        exact kx _ _ _ _ hf hw (lv_sub hl [0, 1, 2, 3] rfl)
      · have hf := ifF hf hc
        refine lv_iload_n hx hb dX7_tell_10 rfl (lv_at hl 1 rfl) ?_
        refine lv_aload_n hx hb dX7_tell_11 rfl (lv_at hl 0 rfl) ?_
        refine cg_X7_19_r cx hw hv0 dX7_tell_12 ?_
        refine lv_iload_n hx hb dX7_tell_15 rfl (lv_at hl 3 rfl) ?_
        obtain ⟨h1, hf⟩ := ckS hf
        refine cr_kinds (j := v3.toNatClampNeg) cx hw hv0 (ib_in h1) rfl dX7_tell_16 ?_
        obtain ⟨r2, h3, hf⟩ := bnS hf
        refine calSNi cx hw hl.1 (c_X11_isUnder h3) (List.mem_of_getElem? (i := 13) rfl) k_X11_isUnder rfl dX7_tell_17 rfl (Nat.le_of_ble_eq_true rfl) ⟨Nat.le_of_ble_eq_true rfl, Nat.le_of_ble_eq_true rfl⟩ ⟨Nat.le_refl _, Nat.le_refl _⟩ (fun H locs hw => ?_)
        obtain ⟨J9, hJ9, hf⟩ := jnS hf
        have wj9 : ∀ (j9 : (Nat → Nat → Int32)) (H : Heap) (locs : List Loc) (ls : Array Slot), J9 j9 = some res → Wd D A s (cW a ar t x_q0_dials x_q0_spots x_q0_skies x_q0_reports x_q0_count x_q0_chime x_q0_end x_q0_score x_q0_reportCount x_q0_z x_q0_rules x_q0_shades x_q0_facts x_q1_dials x_q1_spots x_q1_skies x_q1_reports x_q1_count x_q1_chime x_q1_end x_q1_score x_q1_reportCount x_q1_z x_q1_rules x_q1_shades x_q1_facts x_q2_dials x_q2_spots x_q2_skies x_q2_reports x_q2_count x_q2_chime x_q2_end x_q2_score x_q2_reportCount x_q2_z x_q2_rules x_q2_shades x_q2_facts x_isKept x_marks x_p_first x_p_steps x_p_most x_p_many x_p_fewest x_p_everRight x_p_opening x_p_rows x_p_rowCount x_p_acts x_p_marks x_p_deepest x_p_wanted x_t_length x_t_tape x_t_words x_t_places x_t_at x_t_kinds x_t_wills x_t_starts x_t_code x_t_count x_t_size x_h_sorts x_h_lengths x_h_items x_h_held x_h_things x_h_sizes x_h_bodies x_h_traced x_h_number x_h_spot x_h_parted x_g_count x_g_kinds x_g_wills x_g_starts x_g_code j9 x_g_kl x_g_wl x_g_sl x_g_cl x_nr) H locs → lv_has ls 4 [(0, .ref (ar v0 0)), (1, .int v1), (2, .ref (a 75)), (3, .int v3)] → W p l e (rmz 2 0 0) s m args below meth c H locs 0 0 Q (F0 m 52 ls []) := by
          intro j9 H locs ls hf hw hl
          have hf := hJ9 _ hf
          refine lv_iinc (v := (v3 + (1 : Int32))) (lv' := [(3, .int (v3 + (1 : Int32))), (0, .ref (ar v0 0)), (1, .int v1), (2, .ref (a 75))]) hx hb dX7_tell_52 hl (k := 3) rfl rfl (by decide) rfl (fun ls hl => ?_)
          refine lv_goto (tgt := 2) hx hb dX7_tell_55 (by decide) ?_
          exact ih hf hw (lv_sub hl [1, 2, 3, 0] rfl) kx
        clear hJ9
        refine lv_if_eq (tgt := 52) hx hb dX7_tell_20 (by decide) (fun hc => ?_) (fun hc => ?_)
        · have hf := ifT hf hc
          exact wj9 _ _ _ _ hf hw (lv_sub hl [0, 1, 2, 3] rfl)
        · have hf := ifF hf hc
          refine lv_aload_n hx hb dX7_tell_23 rfl (lv_at hl 0 rfl) ?_
          refine lv_aload_n hx hb dX7_tell_24 rfl (lv_at hl 0 rfl) ?_
          refine cg_X7_25_r cx hw hv0 dX7_tell_25 ?_
          refine lv_iload_n hx hb dX7_tell_28 rfl (lv_at hl 3 rfl) ?_
          obtain ⟨h4, hf⟩ := ckS hf
          refine cr_starts (j := v3.toNatClampNeg) cx hw hv0 (ib_in h4) rfl dX7_tell_29 ?_
          refine lv_aload_n hx hb dX7_tell_30 rfl (lv_at hl 0 rfl) ?_
          refine cg_X7_25_r cx hw hv0 dX7_tell_31 ?_
          refine lv_iload_n hx hb dX7_tell_34 rfl (lv_at hl 3 rfl) ?_
          refine lv_iconst (v := 1) hx hb dX7_tell_35 (by decide) ?_
          refine lv_iadd hx hb dX7_tell_36 ?_
          obtain ⟨h5, hf⟩ := ckS hf
          refine cr_starts (j := (v3 + (1 : Int32)).toNatClampNeg) cx hw hv0 (ib_in h5) rfl dX7_tell_37 ?_
          refine lv_aload_n hx hb dX7_tell_38 rfl (lv_at hl 2 rfl) ?_
          obtain ⟨r6, h7, hf⟩ := bnS hf
          refine calVi cx hw hl.1 (c_X7_holds_f2 hv0 h7) q_459 k_X7_holds rfl (rv_r hv0) rfl dX7_tell_39 rfl (Nat.le_of_ble_eq_true rfl) ⟨Nat.le_of_ble_eq_true rfl, Nat.le_of_ble_eq_true rfl⟩ ⟨Nat.le_refl _, Nat.le_refl _⟩ (fun H locs hw => ?_)
          refine lv_if_eq (tgt := 52) hx hb dX7_tell_42 (by decide) (fun hc => ?_) (fun hc => ?_)
          · have hf := ifT hf hc
            exact wj9 _ _ _ _ hf hw (lv_sub hl [0, 1, 2, 3] rfl)
          · have hf := ifF hf hc
            refine lv_aload_n hx hb dX7_tell_45 rfl (lv_at hl 0 rfl) ?_
            refine cg_X7_22_r cx hw hv0 dX7_tell_46 ?_
            refine lv_iload_n hx hb dX7_tell_49 rfl (lv_at hl 3 rfl) ?_
            obtain ⟨h8, hf⟩ := ckS hf
            refine cr_wills (j := v3.toNatClampNeg) cx hw hv0 (ib_in h8) rfl dX7_tell_50 ?_
            have hf := Option.some.inj hf
            subst hf
            exact hR _ _ _ _ _ _ hw rfl ⟨rfl, rfl⟩ dX7_tell_51
  exact wL1 n hf hw (lv_sub hl [1, 2, 3, 0] rfl) kx1
theorem c_X9_willOf_q2 {v1 : Int32} {res : Int32 × (Nat → Int32) × (Nat → Nat → Int32)} (hf : X9_willOf_q2 n x_q2_dials x_q2_skies x_q2_chime x_q2_rules x_q2_facts x_g_count x_g_kinds x_g_wills x_g_starts x_g_code x_g_stack x_g_kl x_g_wl x_g_sl x_g_cl x_nr v1 = some res) : MC l E0 D t yX9_willOf cX9_willOf 2 (some .int) 3 0 0 [.ref (a 51), .int v1] (cW a ar t x_q0_dials x_q0_spots x_q0_skies x_q0_reports x_q0_count x_q0_chime x_q0_end x_q0_score x_q0_reportCount x_q0_z x_q0_rules x_q0_shades x_q0_facts x_q1_dials x_q1_spots x_q1_skies x_q1_reports x_q1_count x_q1_chime x_q1_end x_q1_score x_q1_reportCount x_q1_z x_q1_rules x_q1_shades x_q1_facts x_q2_dials x_q2_spots x_q2_skies x_q2_reports x_q2_count x_q2_chime x_q2_end x_q2_score x_q2_reportCount x_q2_z x_q2_rules x_q2_shades x_q2_facts x_isKept x_marks x_p_first x_p_steps x_p_most x_p_many x_p_fewest x_p_everRight x_p_opening x_p_rows x_p_rowCount x_p_acts x_p_marks x_p_deepest x_p_wanted x_t_length x_t_tape x_t_words x_t_places x_t_at x_t_kinds x_t_wills x_t_starts x_t_code x_t_count x_t_size x_h_sorts x_h_lengths x_h_items x_h_held x_h_things x_h_sizes x_h_bodies x_h_traced x_h_number x_h_spot x_h_parted x_g_count x_g_kinds x_g_wills x_g_starts x_g_code x_g_stack x_g_kl x_g_wl x_g_sl x_g_cl x_nr) (Qi res.1 (cW a ar t x_q0_dials x_q0_spots x_q0_skies x_q0_reports x_q0_count x_q0_chime x_q0_end x_q0_score x_q0_reportCount x_q0_z x_q0_rules x_q0_shades x_q0_facts x_q1_dials x_q1_spots x_q1_skies x_q1_reports x_q1_count x_q1_chime x_q1_end x_q1_score x_q1_reportCount x_q1_z x_q1_rules x_q1_shades x_q1_facts x_q2_dials x_q2_spots x_q2_skies x_q2_reports x_q2_count x_q2_chime x_q2_end x_q2_score x_q2_reportCount x_q2_z x_q2_rules x_q2_shades res.2.1 x_isKept x_marks x_p_first x_p_steps x_p_most x_p_many x_p_fewest x_p_everRight x_p_opening x_p_rows x_p_rowCount x_p_acts x_p_marks x_p_deepest x_p_wanted x_t_length x_t_tape x_t_words x_t_places x_t_at x_t_kinds x_t_wills x_t_starts x_t_code x_t_count x_t_size x_h_sorts x_h_lengths x_h_items x_h_held x_h_things x_h_sizes x_h_bodies x_h_traced x_h_number x_h_spot x_h_parted x_g_count x_g_kinds x_g_wills x_g_starts x_g_code res.2.2 x_g_kl x_g_wl x_g_sl x_g_cl x_nr)) := by
  unfold X9_willOf_q2 at hf
  refine MC.ofI pn_X9 (Nat.le_of_ble_eq_true rfl) ?_
  intro p e s m args below meth c A Q ls cx hR hw hl
  have hx := cx.1
  have hb := cx.2.1
  have hl : lv_has ls 2 [(0, .ref (a 51)), (1, .int v1)] := hl
  refine lv_aload_n hx hb dX9_willOf_0 rfl (lv_at hl 0 rfl) ?_
  refine cg_X9_36_q2 cx hw dX9_willOf_1 ?_
  refine lv_iconst (v := 0) hx hb dX9_willOf_4 (by decide) ?_
  refine lv_aload_n hx hb dX9_willOf_5 rfl (lv_at hl 0 rfl) ?_
  refine cg_X9_62_q2 cx hw dX9_willOf_6 ?_
  refine cs_q2_facts (j := 0) cx hw (ib_in (by decide)) (by decide) dX9_willOf_9 (fun H locs hw => ?_)
  refine lv_aload_n hx hb dX9_willOf_10 rfl (lv_at hl 0 rfl) ?_
  refine cg_X9_36_q2 cx hw dX9_willOf_11 ?_
  refine lv_iconst (v := 1) hx hb dX9_willOf_14 (by decide) ?_
  refine lv_aload_n hx hb dX9_willOf_15 rfl (lv_at hl 0 rfl) ?_
  refine cg_X9_11_q2 cx hw dX9_willOf_16 ?_
  refine lv_iload_n hx hb dX9_willOf_19 rfl (lv_at hl 1 rfl) ?_
  obtain ⟨h1, hf⟩ := ckS hf
  refine co_q2_dials (j := v1.toNatClampNeg) cx hw (ib_in h1) rfl dX9_willOf_20 ?_
  refine lv_iconst (v := 1) hx hb dX9_willOf_21 (by decide) ?_
  refine cm_q2_dials (j := 1) cx hw (ib_lt h1) (ib_in (by decide)) (by decide) dX9_willOf_22 ?_
  refine cs_q2_facts (j := 1) cx hw (ib_in (by decide)) (by decide) dX9_willOf_23 (fun H locs hw => ?_)
  refine lv_aload_n hx hb dX9_willOf_24 rfl (lv_at hl 0 rfl) ?_
  refine cg_X9_36_q2 cx hw dX9_willOf_25 ?_
  refine lv_iconst (v := 2) hx hb dX9_willOf_28 (by decide) ?_
  refine lv_aload_n hx hb dX9_willOf_29 rfl (lv_at hl 0 rfl) ?_
  refine cg_X9_11_q2 cx hw dX9_willOf_30 ?_
  refine lv_iload_n hx hb dX9_willOf_33 rfl (lv_at hl 1 rfl) ?_
  obtain ⟨h2, hf⟩ := ckS hf
  refine co_q2_dials (j := v1.toNatClampNeg) cx hw (ib_in h2) rfl dX9_willOf_34 ?_
  refine lv_iconst (v := 2) hx hb dX9_willOf_35 (by decide) ?_
  refine cm_q2_dials (j := 2) cx hw (ib_lt h2) (ib_in (by decide)) (by decide) dX9_willOf_36 ?_
  refine cs_q2_facts (j := 2) cx hw (ib_in (by decide)) (by decide) dX9_willOf_37 (fun H locs hw => ?_)
  refine lv_aload_n hx hb dX9_willOf_38 rfl (lv_at hl 0 rfl) ?_
  refine cg_X9_36_q2 cx hw dX9_willOf_39 ?_
  refine lv_iconst (v := 3) hx hb dX9_willOf_42 (by decide) ?_
  refine lv_aload_n hx hb dX9_willOf_43 rfl (lv_at hl 0 rfl) ?_
  refine lv_aload_n hx hb dX9_willOf_44 rfl (lv_at hl 0 rfl) ?_
  refine cg_X9_62_q2 cx hw dX9_willOf_45 ?_
  obtain ⟨r3, h4, hf⟩ := bnS hf
  refine calVi cx hw hl.1 (c_X9_skyAt_q2 h4) q_376 k_X9_skyAt rfl rv_q2 rfl dX9_willOf_48 rfl (Nat.le_of_ble_eq_true rfl) ⟨Nat.le_of_ble_eq_true rfl, Nat.le_of_ble_eq_true rfl⟩ ⟨Nat.le_refl _, Nat.le_refl _⟩ (fun H locs hw => ?_)
  refine lv_iconst (v := 4) hx hb dX9_willOf_51 (by decide) ?_
  refine lv_idiv hx hb dX9_willOf_52 (by decide) ?_
  refine cs_q2_facts (j := 3) cx hw (ib_in (by decide)) (by decide) dX9_willOf_53 (fun H locs hw => ?_)
  refine lv_aload_n hx hb dX9_willOf_54 rfl (lv_at hl 0 rfl) ?_
  refine cg_X9_36_q2 cx hw dX9_willOf_55 ?_
  refine lv_iconst (v := 4) hx hb dX9_willOf_58 (by decide) ?_
  refine lv_iload_n hx hb dX9_willOf_59 rfl (lv_at hl 1 rfl) ?_
  refine cs_q2_facts (j := 4) cx hw (ib_in (by decide)) (by decide) dX9_willOf_60 (fun H locs hw => ?_)
  refine lv_aload_n hx hb dX9_willOf_61 rfl (lv_at hl 0 rfl) ?_
  obtain ⟨h5, hf⟩ := ckS hf
  refine cg_X9_43_q2 cx hw dX9_willOf_62 ?_
  refine lv_aload_n hx hb dX9_willOf_65 rfl (lv_at hl 0 rfl) ?_
  refine cg_X9_11_q2 cx hw dX9_willOf_66 ?_
  refine lv_iload_n hx hb dX9_willOf_69 rfl (lv_at hl 1 rfl) ?_
  obtain ⟨h6, hf⟩ := ckS hf
  refine co_q2_dials (j := v1.toNatClampNeg) cx hw (ib_in h6) rfl dX9_willOf_70 ?_
  refine lv_iconst (v := 0) hx hb dX9_willOf_71 (by decide) ?_
  refine cm_q2_dials (j := 0) cx hw (ib_lt h6) (ib_in (by decide)) (by decide) dX9_willOf_72 ?_
  refine lv_aload_n hx hb dX9_willOf_73 rfl (lv_at hl 0 rfl) ?_
  refine cg_X9_36_q2 cx hw dX9_willOf_74 ?_
  obtain ⟨r7, h8, hf⟩ := bnS hf
  refine calVi cx hw hl.1 (c_X7_tell_f2 (dc h5) h8) q_452 k_X7_tell rfl (rv_r (dc h5)) rfl dX9_willOf_77 rfl (Nat.le_of_ble_eq_true rfl) ⟨Nat.le_of_ble_eq_true rfl, Nat.le_of_ble_eq_true rfl⟩ ⟨Nat.le_refl _, Nat.le_refl _⟩ (fun H locs hw => ?_)
  have hf := Option.some.inj hf
  subst hf
  exact hR _ _ _ _ _ _ hw rfl ⟨rfl, rfl⟩ dX9_willOf_80
theorem c_X9_mayBeSet_q2 {v1 : Int32} {res : Int32 × (Nat → Int32) × (Nat → Nat → Int32)} (hf : X9_mayBeSet_q2 n x_q2_dials x_q2_skies x_q2_chime x_q2_rules x_q2_facts x_g_count x_g_kinds x_g_wills x_g_starts x_g_code x_g_stack x_g_kl x_g_wl x_g_sl x_g_cl x_nr v1 = some res) : MC l E0 D t yX9_mayBeSet cX9_mayBeSet 2 (some .boolean) 4 0 0 [.ref (a 51), .int v1] (cW a ar t x_q0_dials x_q0_spots x_q0_skies x_q0_reports x_q0_count x_q0_chime x_q0_end x_q0_score x_q0_reportCount x_q0_z x_q0_rules x_q0_shades x_q0_facts x_q1_dials x_q1_spots x_q1_skies x_q1_reports x_q1_count x_q1_chime x_q1_end x_q1_score x_q1_reportCount x_q1_z x_q1_rules x_q1_shades x_q1_facts x_q2_dials x_q2_spots x_q2_skies x_q2_reports x_q2_count x_q2_chime x_q2_end x_q2_score x_q2_reportCount x_q2_z x_q2_rules x_q2_shades x_q2_facts x_isKept x_marks x_p_first x_p_steps x_p_most x_p_many x_p_fewest x_p_everRight x_p_opening x_p_rows x_p_rowCount x_p_acts x_p_marks x_p_deepest x_p_wanted x_t_length x_t_tape x_t_words x_t_places x_t_at x_t_kinds x_t_wills x_t_starts x_t_code x_t_count x_t_size x_h_sorts x_h_lengths x_h_items x_h_held x_h_things x_h_sizes x_h_bodies x_h_traced x_h_number x_h_spot x_h_parted x_g_count x_g_kinds x_g_wills x_g_starts x_g_code x_g_stack x_g_kl x_g_wl x_g_sl x_g_cl x_nr) (Qi res.1 (cW a ar t x_q0_dials x_q0_spots x_q0_skies x_q0_reports x_q0_count x_q0_chime x_q0_end x_q0_score x_q0_reportCount x_q0_z x_q0_rules x_q0_shades x_q0_facts x_q1_dials x_q1_spots x_q1_skies x_q1_reports x_q1_count x_q1_chime x_q1_end x_q1_score x_q1_reportCount x_q1_z x_q1_rules x_q1_shades x_q1_facts x_q2_dials x_q2_spots x_q2_skies x_q2_reports x_q2_count x_q2_chime x_q2_end x_q2_score x_q2_reportCount x_q2_z x_q2_rules x_q2_shades res.2.1 x_isKept x_marks x_p_first x_p_steps x_p_most x_p_many x_p_fewest x_p_everRight x_p_opening x_p_rows x_p_rowCount x_p_acts x_p_marks x_p_deepest x_p_wanted x_t_length x_t_tape x_t_words x_t_places x_t_at x_t_kinds x_t_wills x_t_starts x_t_code x_t_count x_t_size x_h_sorts x_h_lengths x_h_items x_h_held x_h_things x_h_sizes x_h_bodies x_h_traced x_h_number x_h_spot x_h_parted x_g_count x_g_kinds x_g_wills x_g_starts x_g_code res.2.2 x_g_kl x_g_wl x_g_sl x_g_cl x_nr)) := by
  unfold X9_mayBeSet_q2 at hf
  refine MC.ofI pn_X9 (Nat.le_of_ble_eq_true rfl) ?_
  intro p e s m args below meth c A Q ls cx hR hw hl
  have hx := cx.1
  have hb := cx.2.1
  have hl : lv_has ls 2 [(0, .ref (a 51)), (1, .int v1)] := hl
  refine lv_aload_n hx hb dX9_mayBeSet_0 rfl (lv_at hl 0 rfl) ?_
  refine lv_iload_n hx hb dX9_mayBeSet_1 rfl (lv_at hl 1 rfl) ?_
  obtain ⟨r1, h2, hf⟩ := bnS hf
  refine calVi cx hw hl.1 (c_X9_paysOf_q2 h2) q_447 k_X9_paysOf rfl rv_q2 rfl dX9_mayBeSet_2 rfl (Nat.le_of_ble_eq_true rfl) ⟨Nat.le_of_ble_eq_true rfl, Nat.le_of_ble_eq_true rfl⟩ ⟨Nat.le_refl _, Nat.le_refl _⟩ (fun H locs hw => ?_)
  refine lv_if_le (tgt := 20) hx hb dX9_mayBeSet_5 (by decide) (fun hc => ?_) (fun hc => ?_)
  · have hf := ifT hf hc
    refine lv_iconst (v := 0) hx hb dX9_mayBeSet_20 (by decide) ?_
    have hf := Option.some.inj hf
    subst hf
    exact hR _ _ _ _ _ _ hw rfl ⟨rfl, rfl⟩ dX9_mayBeSet_21
  · have hf := ifF hf hc
    refine lv_aload_n hx hb dX9_mayBeSet_8 rfl (lv_at hl 0 rfl) ?_
    refine lv_iload_n hx hb dX9_mayBeSet_9 rfl (lv_at hl 1 rfl) ?_
    obtain ⟨r3, h4, hf⟩ := bnS hf
    refine calVi cx hw hl.1 (c_X9_willOf_q2 h4) q_448 k_X9_willOf rfl rv_q2 rfl dX9_mayBeSet_10 rfl (Nat.le_of_ble_eq_true rfl) ⟨Nat.le_of_ble_eq_true rfl, Nat.le_of_ble_eq_true rfl⟩ ⟨Nat.le_refl _, Nat.le_refl _⟩ (fun H locs hw => ?_)
    refine lv_if_ne (tgt := 20) hx hb dX9_mayBeSet_13 (by decide) (fun hc => ?_) (fun hc => ?_)
    · have hf := ifF hf hc
      refine lv_iconst (v := 0) hx hb dX9_mayBeSet_20 (by decide) ?_
      have hf := Option.some.inj hf
      subst hf
      exact hR _ _ _ _ _ _ hw rfl ⟨rfl, rfl⟩ dX9_mayBeSet_21
    · have hf := ifT hf hc
      refine lv_iconst (v := 1) hx hb dX9_mayBeSet_16 (by decide) ?_
      refine lv_goto (tgt := 21) hx hb dX9_mayBeSet_17 (by decide) ?_
      have hf := Option.some.inj hf
      subst hf
      exact hR _ _ _ _ _ _ hw rfl ⟨rfl, rfl⟩ dX9_mayBeSet_21
theorem c_X9_restAct_q2 {res : Int32 × (Nat → Int32) × (Nat → Nat → Int32)} (hf : X9_restAct_q2 n x_q2_dials x_q2_skies x_q2_count x_q2_chime x_q2_rules x_q2_facts x_g_count x_g_kinds x_g_wills x_g_starts x_g_code x_g_stack x_g_kl x_g_wl x_g_sl x_g_cl x_nr = some res) : MC l E0 D t yX9_restAct cX9_restAct 2 (some .int) 5 0 0 [.ref (a 51)] (cW a ar t x_q0_dials x_q0_spots x_q0_skies x_q0_reports x_q0_count x_q0_chime x_q0_end x_q0_score x_q0_reportCount x_q0_z x_q0_rules x_q0_shades x_q0_facts x_q1_dials x_q1_spots x_q1_skies x_q1_reports x_q1_count x_q1_chime x_q1_end x_q1_score x_q1_reportCount x_q1_z x_q1_rules x_q1_shades x_q1_facts x_q2_dials x_q2_spots x_q2_skies x_q2_reports x_q2_count x_q2_chime x_q2_end x_q2_score x_q2_reportCount x_q2_z x_q2_rules x_q2_shades x_q2_facts x_isKept x_marks x_p_first x_p_steps x_p_most x_p_many x_p_fewest x_p_everRight x_p_opening x_p_rows x_p_rowCount x_p_acts x_p_marks x_p_deepest x_p_wanted x_t_length x_t_tape x_t_words x_t_places x_t_at x_t_kinds x_t_wills x_t_starts x_t_code x_t_count x_t_size x_h_sorts x_h_lengths x_h_items x_h_held x_h_things x_h_sizes x_h_bodies x_h_traced x_h_number x_h_spot x_h_parted x_g_count x_g_kinds x_g_wills x_g_starts x_g_code x_g_stack x_g_kl x_g_wl x_g_sl x_g_cl x_nr) (Qi res.1 (cW a ar t x_q0_dials x_q0_spots x_q0_skies x_q0_reports x_q0_count x_q0_chime x_q0_end x_q0_score x_q0_reportCount x_q0_z x_q0_rules x_q0_shades x_q0_facts x_q1_dials x_q1_spots x_q1_skies x_q1_reports x_q1_count x_q1_chime x_q1_end x_q1_score x_q1_reportCount x_q1_z x_q1_rules x_q1_shades x_q1_facts x_q2_dials x_q2_spots x_q2_skies x_q2_reports x_q2_count x_q2_chime x_q2_end x_q2_score x_q2_reportCount x_q2_z x_q2_rules x_q2_shades res.2.1 x_isKept x_marks x_p_first x_p_steps x_p_most x_p_many x_p_fewest x_p_everRight x_p_opening x_p_rows x_p_rowCount x_p_acts x_p_marks x_p_deepest x_p_wanted x_t_length x_t_tape x_t_words x_t_places x_t_at x_t_kinds x_t_wills x_t_starts x_t_code x_t_count x_t_size x_h_sorts x_h_lengths x_h_items x_h_held x_h_things x_h_sizes x_h_bodies x_h_traced x_h_number x_h_spot x_h_parted x_g_count x_g_kinds x_g_wills x_g_starts x_g_code res.2.2 x_g_kl x_g_wl x_g_sl x_g_cl x_nr)) := by
  unfold X9_restAct_q2 at hf
  refine MC.ofI pn_X9 (Nat.le_of_ble_eq_true rfl) ?_
  intro p e s m args below meth c A Q ls cx hR hw hl
  have hx := cx.1
  have hb := cx.2.1
  have hl : lv_has ls 2 [(0, .ref (a 51))] := hl
  refine lv_iconst (v := 0) hx hb dX9_restAct_0 (by decide) ?_
  refine lv_istore_n (lv' := [(1, .int (0 : Int32)), (0, .ref (a 51))]) hx hb dX9_restAct_1 rfl hl (by decide) rfl (fun ls hl => ?_)
  obtain ⟨K1, hK1, hf⟩ := jnS hf
  have kx1 : ∀ (o3 : Int32 × (Nat → Int32) × (Nat → Nat → Int32)) (H : Heap) (locs : List Loc) (ls : Array Slot), K1 o3 = some res → Wd D A s (cW a ar t x_q0_dials x_q0_spots x_q0_skies x_q0_reports x_q0_count x_q0_chime x_q0_end x_q0_score x_q0_reportCount x_q0_z x_q0_rules x_q0_shades x_q0_facts x_q1_dials x_q1_spots x_q1_skies x_q1_reports x_q1_count x_q1_chime x_q1_end x_q1_score x_q1_reportCount x_q1_z x_q1_rules x_q1_shades x_q1_facts x_q2_dials x_q2_spots x_q2_skies x_q2_reports x_q2_count x_q2_chime x_q2_end x_q2_score x_q2_reportCount x_q2_z x_q2_rules x_q2_shades o3.2.1 x_isKept x_marks x_p_first x_p_steps x_p_most x_p_many x_p_fewest x_p_everRight x_p_opening x_p_rows x_p_rowCount x_p_acts x_p_marks x_p_deepest x_p_wanted x_t_length x_t_tape x_t_words x_t_places x_t_at x_t_kinds x_t_wills x_t_starts x_t_code x_t_count x_t_size x_h_sorts x_h_lengths x_h_items x_h_held x_h_things x_h_sizes x_h_bodies x_h_traced x_h_number x_h_spot x_h_parted x_g_count x_g_kinds x_g_wills x_g_starts x_g_code o3.2.2 x_g_kl x_g_wl x_g_sl x_g_cl x_nr) H locs → lv_has ls 2 [(0, .ref (a 51)), (1, .int o3.1)] → W p l e (rmz 5 0 0) s m args below meth c H locs 0 0 Q (F0 m 28 ls []) := by
    intro o3 H locs ls hf hw hl
    have hf := hK1 _ hf
    refine lv_iconst (v := 0) hx hb dX9_restAct_28 (by decide) ?_
    have hf := Option.some.inj hf
    subst hf
    exact hR _ _ _ _ _ _ hw rfl ⟨rfl, rfl⟩ dX9_restAct_29
  have wL1 : ∀ (k : Nat) {v1 : Int32} {x_q2_facts : Nat → Int32} {x_g_stack : Nat → Nat → Int32} {H : Heap} {locs : List Loc} {ls : Array Slot}, X9_restAct_q2_L1 n x_q2_dials x_q2_skies x_q2_count x_q2_chime x_q2_rules x_g_count x_g_kinds x_g_wills x_g_starts x_g_code x_g_kl x_g_wl x_g_sl x_g_cl x_nr K1 k v1 x_q2_facts x_g_stack = some res → Wd D A s (cW a ar t x_q0_dials x_q0_spots x_q0_skies x_q0_reports x_q0_count x_q0_chime x_q0_end x_q0_score x_q0_reportCount x_q0_z x_q0_rules x_q0_shades x_q0_facts x_q1_dials x_q1_spots x_q1_skies x_q1_reports x_q1_count x_q1_chime x_q1_end x_q1_score x_q1_reportCount x_q1_z x_q1_rules x_q1_shades x_q1_facts x_q2_dials x_q2_spots x_q2_skies x_q2_reports x_q2_count x_q2_chime x_q2_end x_q2_score x_q2_reportCount x_q2_z x_q2_rules x_q2_shades x_q2_facts x_isKept x_marks x_p_first x_p_steps x_p_most x_p_many x_p_fewest x_p_everRight x_p_opening x_p_rows x_p_rowCount x_p_acts x_p_marks x_p_deepest x_p_wanted x_t_length x_t_tape x_t_words x_t_places x_t_at x_t_kinds x_t_wills x_t_starts x_t_code x_t_count x_t_size x_h_sorts x_h_lengths x_h_items x_h_held x_h_things x_h_sizes x_h_bodies x_h_traced x_h_number x_h_spot x_h_parted x_g_count x_g_kinds x_g_wills x_g_starts x_g_code x_g_stack x_g_kl x_g_wl x_g_sl x_g_cl x_nr) H locs → lv_has ls 2 [(0, .ref (a 51)), (1, .int v1)] → (∀ (o : Int32 × (Nat → Int32) × (Nat → Nat → Int32)) (H : Heap) (locs : List Loc) (ls : Array Slot), K1 o = some res → Wd D A s (cW a ar t x_q0_dials x_q0_spots x_q0_skies x_q0_reports x_q0_count x_q0_chime x_q0_end x_q0_score x_q0_reportCount x_q0_z x_q0_rules x_q0_shades x_q0_facts x_q1_dials x_q1_spots x_q1_skies x_q1_reports x_q1_count x_q1_chime x_q1_end x_q1_score x_q1_reportCount x_q1_z x_q1_rules x_q1_shades x_q1_facts x_q2_dials x_q2_spots x_q2_skies x_q2_reports x_q2_count x_q2_chime x_q2_end x_q2_score x_q2_reportCount x_q2_z x_q2_rules x_q2_shades o.2.1 x_isKept x_marks x_p_first x_p_steps x_p_most x_p_many x_p_fewest x_p_everRight x_p_opening x_p_rows x_p_rowCount x_p_acts x_p_marks x_p_deepest x_p_wanted x_t_length x_t_tape x_t_words x_t_places x_t_at x_t_kinds x_t_wills x_t_starts x_t_code x_t_count x_t_size x_h_sorts x_h_lengths x_h_items x_h_held x_h_things x_h_sizes x_h_bodies x_h_traced x_h_number x_h_spot x_h_parted x_g_count x_g_kinds x_g_wills x_g_starts x_g_code o.2.2 x_g_kl x_g_wl x_g_sl x_g_cl x_nr) H locs → lv_has ls 2 [(0, .ref (a 51)), (1, .int o.1)] → W p l e (rmz 5 0 0) s m args below meth c H locs 0 0 Q (F0 m 28 ls [])) → W p l e (rmz 5 0 0) s m args below meth c H locs 0 0 Q (F0 m 2 ls []) := by
    clear hf hw hl hK1 kx1
    intro k
    induction k with
    | zero => intro v1 x_q2_facts x_g_stack H locs ls hf hw hl kx; simp [X9_restAct_q2_L1] at hf
    | succ k ih =>
      intro v1 x_q2_facts x_g_stack H locs ls hf hw hl kx
      rw [X9_restAct_q2_L1] at hf
      refine lv_iload_n hx hb dX9_restAct_2 rfl (lv_at hl 1 rfl) ?_
      refine lv_aload_n hx hb dX9_restAct_3 rfl (lv_at hl 0 rfl) ?_
      refine cg_X9_59_q2 cx hw dX9_restAct_4 ?_
      refine lv_icmp_ge (tgt := 28) hx hb dX9_restAct_7 (by decide) (fun hc => ?_) (fun hc => ?_)
      · have hf := ifT hf hc
        exact kx _ _ _ _ hf hw (lv_sub hl [0, 1] rfl)
      · have hf := ifF hf hc
        refine lv_aload_n hx hb dX9_restAct_10 rfl (lv_at hl 0 rfl) ?_
        refine lv_iload_n hx hb dX9_restAct_11 rfl (lv_at hl 1 rfl) ?_
        obtain ⟨r1, h2, hf⟩ := bnS hf
        refine calVi cx hw hl.1 (c_X9_mayBeSet_q2 h2) q_680 k_X9_mayBeSet rfl rv_q2 rfl dX9_restAct_12 rfl (Nat.le_of_ble_eq_true rfl) ⟨Nat.le_of_ble_eq_true rfl, Nat.le_of_ble_eq_true rfl⟩ ⟨Nat.le_refl _, Nat.le_refl _⟩ (fun H locs hw => ?_)
        refine lv_if_eq (tgt := 22) hx hb dX9_restAct_15 (by decide) (fun hc => ?_) (fun hc => ?_)
        · have hf := ifT hf hc
          refine lv_iinc (v := (v1 + (1 : Int32))) (lv' := [(1, .int (v1 + (1 : Int32))), (0, .ref (a 51))]) hx hb dX9_restAct_22 hl (k := 1) rfl rfl (by decide) rfl (fun ls hl => ?_)
          refine lv_goto (tgt := 2) hx hb dX9_restAct_25 (by decide) ?_
          exact ih hf hw (lv_sub hl [1, 0] rfl) kx
        · have hf := ifF hf hc
          refine lv_iload_n hx hb dX9_restAct_18 rfl (lv_at hl 1 rfl) ?_
          refine lv_iconst (v := 1) hx hb dX9_restAct_19 (by decide) ?_
          refine lv_iadd hx hb dX9_restAct_20 ?_
          have hf := Option.some.inj hf
          subst hf
          exact hR _ _ _ _ _ _ hw rfl ⟨rfl, rfl⟩ dX9_restAct_21
  exact wL1 n hf hw (lv_sub hl [1, 0] rfl) kx1
theorem c_X9_setRight_q2 {v1 : Int32} {res : Int32 × (Nat → Nat → Int32)} (hf : X9_setRight_q2 x_q2_dials v1 = some res) : MC l E0 D t yX9_setRight cX9_setRight 3 (some .int) 3 0 0 [.ref (a 51), .int v1] (cW a ar t x_q0_dials x_q0_spots x_q0_skies x_q0_reports x_q0_count x_q0_chime x_q0_end x_q0_score x_q0_reportCount x_q0_z x_q0_rules x_q0_shades x_q0_facts x_q1_dials x_q1_spots x_q1_skies x_q1_reports x_q1_count x_q1_chime x_q1_end x_q1_score x_q1_reportCount x_q1_z x_q1_rules x_q1_shades x_q1_facts x_q2_dials x_q2_spots x_q2_skies x_q2_reports x_q2_count x_q2_chime x_q2_end x_q2_score x_q2_reportCount x_q2_z x_q2_rules x_q2_shades x_q2_facts x_isKept x_marks x_p_first x_p_steps x_p_most x_p_many x_p_fewest x_p_everRight x_p_opening x_p_rows x_p_rowCount x_p_acts x_p_marks x_p_deepest x_p_wanted x_t_length x_t_tape x_t_words x_t_places x_t_at x_t_kinds x_t_wills x_t_starts x_t_code x_t_count x_t_size x_h_sorts x_h_lengths x_h_items x_h_held x_h_things x_h_sizes x_h_bodies x_h_traced x_h_number x_h_spot x_h_parted x_g_count x_g_kinds x_g_wills x_g_starts x_g_code x_g_stack x_g_kl x_g_wl x_g_sl x_g_cl x_nr) (Qi res.1 (cW a ar t x_q0_dials x_q0_spots x_q0_skies x_q0_reports x_q0_count x_q0_chime x_q0_end x_q0_score x_q0_reportCount x_q0_z x_q0_rules x_q0_shades x_q0_facts x_q1_dials x_q1_spots x_q1_skies x_q1_reports x_q1_count x_q1_chime x_q1_end x_q1_score x_q1_reportCount x_q1_z x_q1_rules x_q1_shades x_q1_facts res.2 x_q2_spots x_q2_skies x_q2_reports x_q2_count x_q2_chime x_q2_end x_q2_score x_q2_reportCount x_q2_z x_q2_rules x_q2_shades x_q2_facts x_isKept x_marks x_p_first x_p_steps x_p_most x_p_many x_p_fewest x_p_everRight x_p_opening x_p_rows x_p_rowCount x_p_acts x_p_marks x_p_deepest x_p_wanted x_t_length x_t_tape x_t_words x_t_places x_t_at x_t_kinds x_t_wills x_t_starts x_t_code x_t_count x_t_size x_h_sorts x_h_lengths x_h_items x_h_held x_h_things x_h_sizes x_h_bodies x_h_traced x_h_number x_h_spot x_h_parted x_g_count x_g_kinds x_g_wills x_g_starts x_g_code x_g_stack x_g_kl x_g_wl x_g_sl x_g_cl x_nr)) := by
  unfold X9_setRight_q2 at hf
  refine MC.ofI pn_X9 (Nat.le_of_ble_eq_true rfl) ?_
  intro p e s m args below meth c A Q ls cx hR hw hl
  have hx := cx.1
  have hb := cx.2.1
  have hl : lv_has ls 3 [(0, .ref (a 51)), (1, .int v1)] := hl
  refine lv_aload_n hx hb dX9_setRight_0 rfl (lv_at hl 0 rfl) ?_
  refine lv_iload_n hx hb dX9_setRight_1 rfl (lv_at hl 1 rfl) ?_
  obtain ⟨r1, h2, hf⟩ := bnS hf
  refine calVi cx hw hl.1 (c_X9_paysOf_q2 h2) q_447 k_X9_paysOf rfl rv_q2 rfl dX9_setRight_2 rfl (Nat.le_of_ble_eq_true rfl) ⟨Nat.le_of_ble_eq_true rfl, Nat.le_of_ble_eq_true rfl⟩ ⟨Nat.le_refl _, Nat.le_refl _⟩ (fun H locs hw => ?_)
  refine lv_istore_n (lv' := [(2, .int r1), (0, .ref (a 51)), (1, .int v1)]) hx hb dX9_setRight_5 rfl hl (by decide) rfl (fun ls hl => ?_)
  refine lv_iload_n hx hb dX9_setRight_6 rfl (lv_at hl 0 rfl) ?_
  refine lv_if_le (tgt := 28) hx hb dX9_setRight_7 (by decide) (fun hc => ?_) (fun hc => ?_)
  · have hf := ifT hf hc
    refine lv_iload_n hx hb dX9_setRight_28 rfl (lv_at hl 0 rfl) ?_
    have hf := Option.some.inj hf
    subst hf
    exact hR _ _ _ _ _ _ hw rfl ⟨rfl, rfl⟩ dX9_setRight_29
  · have hf := ifF hf hc
    refine lv_aload_n hx hb dX9_setRight_10 rfl (lv_at hl 1 rfl) ?_
    refine cg_X9_11_q2 cx hw dX9_setRight_11 ?_
    refine lv_iload_n hx hb dX9_setRight_14 rfl (lv_at hl 2 rfl) ?_
    obtain ⟨h3, hf⟩ := ckS hf
    refine co_q2_dials (j := v1.toNatClampNeg) cx hw (ib_in h3) rfl dX9_setRight_15 ?_
    refine lv_iconst (v := 4) hx hb dX9_setRight_16 (by decide) ?_
    refine lv_iconst (v := 1) hx hb dX9_setRight_17 (by decide) ?_
    refine ct_q2_dials (j := 4) cx hw (ib_lt h3) (ib_in (by decide)) (by decide) dX9_setRight_18 (fun H locs hw => ?_)
    refine lv_aload_n hx hb dX9_setRight_19 rfl (lv_at hl 1 rfl) ?_
    refine cg_X9_11_q2 cx hw dX9_setRight_20 ?_
    refine lv_iload_n hx hb dX9_setRight_23 rfl (lv_at hl 2 rfl) ?_
    obtain ⟨h4, hf⟩ := ckS hf
    refine co_q2_dials (j := v1.toNatClampNeg) cx hw (ib_in h4) rfl dX9_setRight_24 ?_
    refine lv_iconst (v := 1) hx hb dX9_setRight_25 (by decide) ?_
    refine lv_iconst (v := 0) hx hb dX9_setRight_26 (by decide) ?_
    refine ct_q2_dials (j := 1) cx hw (ib_lt h4) (ib_in (by decide)) (by decide) dX9_setRight_27 (fun H locs hw => ?_)
    refine lv_iload_n hx hb dX9_setRight_28 rfl (lv_at hl 0 rfl) ?_
    have hf := Option.some.inj hf
    subst hf
    exact hR _ _ _ _ _ _ hw rfl ⟨rfl, rfl⟩ dX9_setRight_29
theorem c_X9_arguedBy_q2 {v1 : Int32} {res : Int32 × (Nat → Nat → Int32)} (hf : X9_arguedBy_q2 n x_q2_dials x_q2_count v1 = some res) : MC l E0 D t yX9_arguedBy cX9_arguedBy 6 (some .int) 2 0 0 [.ref (a 51), .int v1] (cW a ar t x_q0_dials x_q0_spots x_q0_skies x_q0_reports x_q0_count x_q0_chime x_q0_end x_q0_score x_q0_reportCount x_q0_z x_q0_rules x_q0_shades x_q0_facts x_q1_dials x_q1_spots x_q1_skies x_q1_reports x_q1_count x_q1_chime x_q1_end x_q1_score x_q1_reportCount x_q1_z x_q1_rules x_q1_shades x_q1_facts x_q2_dials x_q2_spots x_q2_skies x_q2_reports x_q2_count x_q2_chime x_q2_end x_q2_score x_q2_reportCount x_q2_z x_q2_rules x_q2_shades x_q2_facts x_isKept x_marks x_p_first x_p_steps x_p_most x_p_many x_p_fewest x_p_everRight x_p_opening x_p_rows x_p_rowCount x_p_acts x_p_marks x_p_deepest x_p_wanted x_t_length x_t_tape x_t_words x_t_places x_t_at x_t_kinds x_t_wills x_t_starts x_t_code x_t_count x_t_size x_h_sorts x_h_lengths x_h_items x_h_held x_h_things x_h_sizes x_h_bodies x_h_traced x_h_number x_h_spot x_h_parted x_g_count x_g_kinds x_g_wills x_g_starts x_g_code x_g_stack x_g_kl x_g_wl x_g_sl x_g_cl x_nr) (Qi res.1 (cW a ar t x_q0_dials x_q0_spots x_q0_skies x_q0_reports x_q0_count x_q0_chime x_q0_end x_q0_score x_q0_reportCount x_q0_z x_q0_rules x_q0_shades x_q0_facts x_q1_dials x_q1_spots x_q1_skies x_q1_reports x_q1_count x_q1_chime x_q1_end x_q1_score x_q1_reportCount x_q1_z x_q1_rules x_q1_shades x_q1_facts res.2 x_q2_spots x_q2_skies x_q2_reports x_q2_count x_q2_chime x_q2_end x_q2_score x_q2_reportCount x_q2_z x_q2_rules x_q2_shades x_q2_facts x_isKept x_marks x_p_first x_p_steps x_p_most x_p_many x_p_fewest x_p_everRight x_p_opening x_p_rows x_p_rowCount x_p_acts x_p_marks x_p_deepest x_p_wanted x_t_length x_t_tape x_t_words x_t_places x_t_at x_t_kinds x_t_wills x_t_starts x_t_code x_t_count x_t_size x_h_sorts x_h_lengths x_h_items x_h_held x_h_things x_h_sizes x_h_bodies x_h_traced x_h_number x_h_spot x_h_parted x_g_count x_g_kinds x_g_wills x_g_starts x_g_code x_g_stack x_g_kl x_g_wl x_g_sl x_g_cl x_nr)) := by
  unfold X9_arguedBy_q2 at hf
  refine MC.ofI pn_X9 (Nat.le_of_ble_eq_true rfl) ?_
  intro p e s m args below meth c A Q ls cx hR hw hl
  have hx := cx.1
  have hb := cx.2.1
  have hl : lv_has ls 6 [(0, .ref (a 51)), (1, .int v1)] := hl
  refine lv_iconst (v := 0) hx hb dX9_arguedBy_0 (by decide) ?_
  refine lv_istore_n (lv' := [(2, .int (0 : Int32)), (0, .ref (a 51)), (1, .int v1)]) hx hb dX9_arguedBy_1 rfl hl (by decide) rfl (fun ls hl => ?_)
  refine lv_iconst (v := 0) hx hb dX9_arguedBy_2 (by decide) ?_
  refine lv_istore_n (lv' := [(3, .int (0 : Int32)), (2, .int (0 : Int32)), (0, .ref (a 51)), (1, .int v1)]) hx hb dX9_arguedBy_3 rfl hl (by decide) rfl (fun ls hl => ?_)
  obtain ⟨o10, ho10, hf⟩ := bnS hf
  have wL1 : ∀ (k : Nat) {v1 : Int32} {v2 : Int32} {v3 : Int32} {x_q2_dials : Nat → Nat → Int32} {H : Heap} {locs : List Loc} {ls : Array Slot} {o : Int32 × Int32 × (Nat → Nat → Int32)}, X9_arguedBy_q2_L1 n x_q2_count v1 k v2 v3 x_q2_dials = some o → Wd D A s (cW a ar t x_q0_dials x_q0_spots x_q0_skies x_q0_reports x_q0_count x_q0_chime x_q0_end x_q0_score x_q0_reportCount x_q0_z x_q0_rules x_q0_shades x_q0_facts x_q1_dials x_q1_spots x_q1_skies x_q1_reports x_q1_count x_q1_chime x_q1_end x_q1_score x_q1_reportCount x_q1_z x_q1_rules x_q1_shades x_q1_facts x_q2_dials x_q2_spots x_q2_skies x_q2_reports x_q2_count x_q2_chime x_q2_end x_q2_score x_q2_reportCount x_q2_z x_q2_rules x_q2_shades x_q2_facts x_isKept x_marks x_p_first x_p_steps x_p_most x_p_many x_p_fewest x_p_everRight x_p_opening x_p_rows x_p_rowCount x_p_acts x_p_marks x_p_deepest x_p_wanted x_t_length x_t_tape x_t_words x_t_places x_t_at x_t_kinds x_t_wills x_t_starts x_t_code x_t_count x_t_size x_h_sorts x_h_lengths x_h_items x_h_held x_h_things x_h_sizes x_h_bodies x_h_traced x_h_number x_h_spot x_h_parted x_g_count x_g_kinds x_g_wills x_g_starts x_g_code x_g_stack x_g_kl x_g_wl x_g_sl x_g_cl x_nr) H locs → lv_has ls 6 [(0, .ref (a 51)), (1, .int v1), (2, .int v2), (3, .int v3)] → (∀ (H : Heap) (locs : List Loc) (ls : Array Slot), Wd D A s (cW a ar t x_q0_dials x_q0_spots x_q0_skies x_q0_reports x_q0_count x_q0_chime x_q0_end x_q0_score x_q0_reportCount x_q0_z x_q0_rules x_q0_shades x_q0_facts x_q1_dials x_q1_spots x_q1_skies x_q1_reports x_q1_count x_q1_chime x_q1_end x_q1_score x_q1_reportCount x_q1_z x_q1_rules x_q1_shades x_q1_facts o.2.2 x_q2_spots x_q2_skies x_q2_reports x_q2_count x_q2_chime x_q2_end x_q2_score x_q2_reportCount x_q2_z x_q2_rules x_q2_shades x_q2_facts x_isKept x_marks x_p_first x_p_steps x_p_most x_p_many x_p_fewest x_p_everRight x_p_opening x_p_rows x_p_rowCount x_p_acts x_p_marks x_p_deepest x_p_wanted x_t_length x_t_tape x_t_words x_t_places x_t_at x_t_kinds x_t_wills x_t_starts x_t_code x_t_count x_t_size x_h_sorts x_h_lengths x_h_items x_h_held x_h_things x_h_sizes x_h_bodies x_h_traced x_h_number x_h_spot x_h_parted x_g_count x_g_kinds x_g_wills x_g_starts x_g_code x_g_stack x_g_kl x_g_wl x_g_sl x_g_cl x_nr) H locs → lv_has ls 6 [(0, .ref (a 51)), (1, .int v1), (2, .int o.1), (3, .int o.2.1)] → W p l e (rmz 2 0 0) s m args below meth c H locs 0 0 Q (F0 m 109 ls [])) → W p l e (rmz 2 0 0) s m args below meth c H locs 0 0 Q (F0 m 4 ls []) := by
    clear hf ho10 hw hl
    intro k
    induction k with
    | zero => intro v1 v2 v3 x_q2_dials H locs ls o hf hw hl kx; simp [X9_arguedBy_q2_L1] at hf
    | succ k ih =>
      intro v1 v2 v3 x_q2_dials H locs ls o hf hw hl kx
      rw [X9_arguedBy_q2_L1] at hf
      refine lv_iload_n hx hb dX9_arguedBy_4 rfl (lv_at hl 3 rfl) ?_
      refine lv_aload_n hx hb dX9_arguedBy_5 rfl (lv_at hl 0 rfl) ?_
      refine cg_X9_59_q2 cx hw dX9_arguedBy_6 ?_
      refine lv_icmp_ge (tgt := 109) hx hb dX9_arguedBy_9 (by decide) (fun hc => ?_) (fun hc => ?_)
      · have hf := ifT hf hc
        have hf := Option.some.inj hf
        subst hf
        exact kx _ _ _ hw (lv_sub hl [0, 1, 2, 3] rfl)
      · have hf := ifF hf hc
        refine lv_aload_n hx hb dX9_arguedBy_12 rfl (lv_at hl 0 rfl) ?_
        refine cg_X9_11_q2 cx hw dX9_arguedBy_13 ?_
        refine lv_iload_n hx hb dX9_arguedBy_16 rfl (lv_at hl 3 rfl) ?_
        obtain ⟨h1, hf⟩ := ckS hf
        refine co_q2_dials (j := v3.toNatClampNeg) cx hw (ib_in h1) rfl dX9_arguedBy_17 ?_
        refine lv_iconst (v := 3) hx hb dX9_arguedBy_18 (by decide) ?_
        refine cm_q2_dials (j := 3) cx hw (ib_lt h1) (ib_in (by decide)) (by decide) dX9_arguedBy_19 ?_
        refine lv_aload_n hx hb dX9_arguedBy_20 rfl (lv_at hl 0 rfl) ?_
        refine cg_X9_11_q2 cx hw dX9_arguedBy_21 ?_
        refine lv_iload_n hx hb dX9_arguedBy_24 rfl (lv_at hl 1 rfl) ?_
        obtain ⟨h2, hf⟩ := ckS hf
        refine co_q2_dials (j := v1.toNatClampNeg) cx hw (ib_in h2) rfl dX9_arguedBy_25 ?_
        refine lv_iconst (v := 3) hx hb dX9_arguedBy_26 (by decide) ?_
        refine cm_q2_dials (j := 3) cx hw (ib_lt h2) (ib_in (by decide)) (by decide) dX9_arguedBy_27 ?_
        refine lv_isub hx hb dX9_arguedBy_28 ?_
        refine va_mabs hx hb (cx.2.2.1.trans hl.1.symm) cx.2.2.2.1 (cx.2.2.2.2.1 _ q_517) (cx.2.2.2.2.1 _ q_518) (cx.2.2.2.2.1 _ q_15) (cx.2.2.2.2.1 _ q_519) (by show 1 ≤ _; exact Nat.le_of_ble_eq_true rfl) (by show _ ≤ 64 * _; exact Nat.le_of_ble_eq_true rfl) (Nat.le_refl _) (Nat.le_refl _) dX9_arguedBy_29 ?_
        refine lv_iconst (v := 1) hx hb dX9_arguedBy_32 (by decide) ?_
        obtain ⟨j3, hj3, hf⟩ := pbS hf
        have wj3 : ∀ (H : Heap) (locs : List Loc) (ls : Array Slot), Wd D A s (cW a ar t x_q0_dials x_q0_spots x_q0_skies x_q0_reports x_q0_count x_q0_chime x_q0_end x_q0_score x_q0_reportCount x_q0_z x_q0_rules x_q0_shades x_q0_facts x_q1_dials x_q1_spots x_q1_skies x_q1_reports x_q1_count x_q1_chime x_q1_end x_q1_score x_q1_reportCount x_q1_z x_q1_rules x_q1_shades x_q1_facts x_q2_dials x_q2_spots x_q2_skies x_q2_reports x_q2_count x_q2_chime x_q2_end x_q2_score x_q2_reportCount x_q2_z x_q2_rules x_q2_shades x_q2_facts x_isKept x_marks x_p_first x_p_steps x_p_most x_p_many x_p_fewest x_p_everRight x_p_opening x_p_rows x_p_rowCount x_p_acts x_p_marks x_p_deepest x_p_wanted x_t_length x_t_tape x_t_words x_t_places x_t_at x_t_kinds x_t_wills x_t_starts x_t_code x_t_count x_t_size x_h_sorts x_h_lengths x_h_items x_h_held x_h_things x_h_sizes x_h_bodies x_h_traced x_h_number x_h_spot x_h_parted x_g_count x_g_kinds x_g_wills x_g_starts x_g_code x_g_stack x_g_kl x_g_wl x_g_sl x_g_cl x_nr) H locs → lv_has ls 6 [(0, .ref (a 51)), (1, .int v1), (2, .int v2), (3, .int v3)] → W p l e (rmz 2 0 0) s m args below meth c H locs 0 0 Q (F0 m 41 ls [.int j3]) := by
          intro H locs ls hw hl
          refine lv_istore (lv' := [(4, .int j3), (0, .ref (a 51)), (1, .int v1), (2, .int v2), (3, .int v3)]) hx hb dX9_arguedBy_41 hl (by decide) rfl (fun ls hl => ?_)
          refine lv_aload_n hx hb dX9_arguedBy_43 rfl (lv_at hl 1 rfl) ?_
          refine cg_X9_11_q2 cx hw dX9_arguedBy_44 ?_
          refine lv_iload_n hx hb dX9_arguedBy_47 rfl (lv_at hl 2 rfl) ?_
          obtain ⟨h4, hf⟩ := ckS hf
          refine co_q2_dials (j := v1.toNatClampNeg) cx hw (ib_in h4) rfl dX9_arguedBy_48 ?_
          refine lv_iconst (v := 1) hx hb dX9_arguedBy_49 (by decide) ?_
          refine cm_q2_dials (j := 1) cx hw (ib_lt h4) (ib_in (by decide)) (by decide) dX9_arguedBy_50 ?_
          refine lv_aload_n hx hb dX9_arguedBy_51 rfl (lv_at hl 1 rfl) ?_
          refine cg_X9_11_q2 cx hw dX9_arguedBy_52 ?_
          refine lv_iload_n hx hb dX9_arguedBy_55 rfl (lv_at hl 4 rfl) ?_
          obtain ⟨h5, hf⟩ := ckS hf
          refine co_q2_dials (j := v3.toNatClampNeg) cx hw (ib_in h5) rfl dX9_arguedBy_56 ?_
          refine lv_iconst (v := 1) hx hb dX9_arguedBy_57 (by decide) ?_
          refine cm_q2_dials (j := 1) cx hw (ib_lt h5) (ib_in (by decide)) (by decide) dX9_arguedBy_58 ?_
          refine lv_isub hx hb dX9_arguedBy_59 ?_
          refine lv_iconst (v := 2) hx hb dX9_arguedBy_60 (by decide) ?_
          refine lv_idiv hx hb dX9_arguedBy_61 (by decide) ?_
          refine lv_istore (lv' := [(5, .int (((x_q2_dials v1.toNatClampNeg 1) - (x_q2_dials v3.toNatClampNeg 1)) / (2 : Int32))), (4, .int j3), (0, .ref (a 51)), (1, .int v1), (2, .int v2), (3, .int v3)]) hx hb dX9_arguedBy_62 hl (by decide) rfl (fun ls hl => ?_)
          refine lv_iload_n hx hb dX9_arguedBy_64 rfl (lv_at hl 5 rfl) ?_
          refine lv_iload_n hx hb dX9_arguedBy_65 rfl (lv_at hl 3 rfl) ?_
          obtain ⟨j9, hj9, hf⟩ := bnS hf
          have wj9 : ∀ (H : Heap) (locs : List Loc) (ls : Array Slot), Wd D A s (cW a ar t x_q0_dials x_q0_spots x_q0_skies x_q0_reports x_q0_count x_q0_chime x_q0_end x_q0_score x_q0_reportCount x_q0_z x_q0_rules x_q0_shades x_q0_facts x_q1_dials x_q1_spots x_q1_skies x_q1_reports x_q1_count x_q1_chime x_q1_end x_q1_score x_q1_reportCount x_q1_z x_q1_rules x_q1_shades x_q1_facts j9.2 x_q2_spots x_q2_skies x_q2_reports x_q2_count x_q2_chime x_q2_end x_q2_score x_q2_reportCount x_q2_z x_q2_rules x_q2_shades x_q2_facts x_isKept x_marks x_p_first x_p_steps x_p_most x_p_many x_p_fewest x_p_everRight x_p_opening x_p_rows x_p_rowCount x_p_acts x_p_marks x_p_deepest x_p_wanted x_t_length x_t_tape x_t_words x_t_places x_t_at x_t_kinds x_t_wills x_t_starts x_t_code x_t_count x_t_size x_h_sorts x_h_lengths x_h_items x_h_held x_h_things x_h_sizes x_h_bodies x_h_traced x_h_number x_h_spot x_h_parted x_g_count x_g_kinds x_g_wills x_g_starts x_g_code x_g_stack x_g_kl x_g_wl x_g_sl x_g_cl x_nr) H locs → lv_has ls 6 [(0, .ref (a 51)), (1, .int v1), (2, .int j9.1), (3, .int v3), (4, .int j3), (5, .int (((x_q2_dials v1.toNatClampNeg 1) - (x_q2_dials v3.toNatClampNeg 1)) / (2 : Int32)))] → W p l e (rmz 2 0 0) s m args below meth c H locs 0 0 Q (F0 m 103 ls []) := by
            intro H locs ls hw hl
            refine lv_iinc (v := (v3 + (1 : Int32))) (lv' := [(3, .int (v3 + (1 : Int32))), (0, .ref (a 51)), (1, .int v1), (2, .int j9.1), (4, .int j3), (5, .int (((x_q2_dials v1.toNatClampNeg 1) - (x_q2_dials v3.toNatClampNeg 1)) / (2 : Int32)))]) hx hb dX9_arguedBy_103 hl (k := 3) rfl rfl (by decide) rfl (fun ls hl => ?_)
            refine lv_goto (tgt := 4) hx hb dX9_arguedBy_106 (by decide) ?_
            exact ih hf hw (lv_sub hl [1, 2, 3, 0] rfl) kx
          clear hf
          have hf := hj9
          clear hj9
          refine lv_icmp_eq (tgt := 103) hx hb dX9_arguedBy_66 (by decide) (fun hc => ?_) (fun hc => ?_)
          · have hf := ifT hf hc
            have hf := Option.some.inj hf
            subst hf
            exact wj9 _ _ _ hw (lv_sub hl [2, 3, 4, 5, 1, 0] rfl)
          · have hf := ifF hf hc
            refine lv_iload hx hb dX9_arguedBy_69 (lv_at hl 1 rfl) ?_
            refine lv_if_eq (tgt := 103) hx hb dX9_arguedBy_71 (by decide) (fun hc => ?_) (fun hc => ?_)
            · have hf := ifT hf hc
              have hf := Option.some.inj hf
              subst hf
              exact wj9 _ _ _ hw (lv_sub hl [2, 3, 4, 5, 1, 0] rfl)
            · have hf := ifF hf hc
              refine lv_aload_n hx hb dX9_arguedBy_74 rfl (lv_at hl 2 rfl) ?_
              refine lv_iload_n hx hb dX9_arguedBy_75 rfl (lv_at hl 5 rfl) ?_
              obtain ⟨r6, h7, hf⟩ := bnS hf
              refine calVi cx hw hl.1 (c_X9_isRight_q2 h7) q_439 k_X9_isRight rfl rv_q2 rfl dX9_arguedBy_76 rfl (Nat.le_of_ble_eq_true rfl) ⟨Nat.le_of_ble_eq_true rfl, Nat.le_of_ble_eq_true rfl⟩ ⟨Nat.le_refl _, Nat.le_refl _⟩ (fun H locs hw => ?_)
              refine lv_if_ne (tgt := 103) hx hb dX9_arguedBy_79 (by decide) (fun hc => ?_) (fun hc => ?_)
              · have hf := ifF hf hc
                have hf := Option.some.inj hf
                subst hf
                exact wj9 _ _ _ hw (lv_sub hl [2, 3, 4, 5, 1, 0] rfl)
              · have hf := ifT hf hc
                refine lv_iload hx hb dX9_arguedBy_82 (lv_at hl 0 rfl) ?_
                refine lv_if_eq (tgt := 103) hx hb dX9_arguedBy_84 (by decide) (fun hc => ?_) (fun hc => ?_)
                · have hf := ifT hf hc
                  have hf := Option.some.inj hf
                  subst hf
                  exact wj9 _ _ _ hw (lv_sub hl [2, 3, 4, 5, 1, 0] rfl)
                · have hf := ifF hf hc
                  refine lv_aload_n hx hb dX9_arguedBy_87 rfl (lv_at hl 2 rfl) ?_
                  refine cg_X9_11_q2 cx hw dX9_arguedBy_88 ?_
                  refine lv_iload_n hx hb dX9_arguedBy_91 rfl (lv_at hl 5 rfl) ?_
                  obtain ⟨h8, hf⟩ := ckS hf
                  refine co_q2_dials (j := v3.toNatClampNeg) cx hw (ib_in h8) rfl dX9_arguedBy_92 ?_
                  refine lv_iconst (v := 1) hx hb dX9_arguedBy_93 (by decide) ?_
                  refine lv_dup2_11 hx hb dX9_arguedBy_94 rfl rfl ?_
                  refine cm_q2_dials (j := 1) cx hw (ib_lt h8) (ib_in (by decide)) (by decide) dX9_arguedBy_95 ?_
                  refine lv_iload hx hb dX9_arguedBy_96 (lv_at hl 0 rfl) ?_
                  refine lv_iadd hx hb dX9_arguedBy_98 ?_
                  refine ct_q2_dials (j := 1) cx hw (ib_lt h8) (ib_in (by decide)) (by decide) dX9_arguedBy_99 (fun H locs hw => ?_)
                  refine lv_iinc (v := (v2 + (1 : Int32))) (lv' := [(2, .int (v2 + (1 : Int32))), (5, .int (((x_q2_dials v1.toNatClampNeg 1) - (x_q2_dials v3.toNatClampNeg 1)) / (2 : Int32))), (4, .int j3), (0, .ref (a 51)), (1, .int v1), (3, .int v3)]) hx hb dX9_arguedBy_100 hl (k := 4) rfl rfl (by decide) rfl (fun ls hl => ?_)
                  have hf := Option.some.inj hf
                  subst hf
                  exact wj9 _ _ _ hw (lv_sub hl [3, 4, 0, 5, 2, 1] rfl)
        clear hf
        have hf := hj3
        clear hj3
        refine lv_icmp_gt (tgt := 40) hx hb dX9_arguedBy_33 (by decide) (fun hc => ?_) (fun hc => ?_)
        · have hf := ifT hf hc
          refine lv_iconst (v := 0) hx hb dX9_arguedBy_40 (by decide) ?_
          subst hf
          exact wj3 _ _ _ hw (lv_sub hl [0, 1, 2, 3] rfl)
        · have hf := ifF hf hc
          refine lv_iconst (v := 1) hx hb dX9_arguedBy_36 (by decide) ?_
          refine lv_goto (tgt := 41) hx hb dX9_arguedBy_37 (by decide) ?_
          subst hf
          exact wj3 _ _ _ hw (lv_sub hl [0, 1, 2, 3] rfl)
  refine wL1 n ho10 hw (lv_sub hl [2, 3, 1, 0] rfl) (fun H locs ls hw hl => ?_)
  clear wL1 ho10
  refine lv_iload_n hx hb dX9_arguedBy_109 rfl (lv_at hl 2 rfl) ?_
  have hf := Option.some.inj hf
  subst hf
  exact hR _ _ _ _ _ _ hw rfl ⟨rfl, rfl⟩ dX9_arguedBy_110
end CW4
