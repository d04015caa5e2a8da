section CW10
variable {l : Launch} {D : va_G} {t : Nat → ClassId} {a : Nat → Nat} {ar : Nat → Nat → Nat} {n : Nat} {x_q0_dials : Nat → Nat → Int32} {x_q0_spots : Nat → Nat → Int32} {x_q0_skies : Nat → Int32} {x_q0_reports : Nat → Nat → Int32} {x_q0_count : Int32} {x_q0_chime : Int32} {x_q0_end : Int32} {x_q0_score : Int32} {x_q0_reportCount : Int32} {x_q0_z : Int32} {x_q0_rules : Nat} {x_q0_shades : Nat → Int32} {x_q0_facts : Nat → Int32} {x_q1_dials : Nat → Nat → Int32} {x_q1_spots : Nat → Nat → Int32} {x_q1_skies : Nat → Int32} {x_q1_reports : Nat → Nat → Int32} {x_q1_count : Int32} {x_q1_chime : Int32} {x_q1_end : Int32} {x_q1_score : Int32} {x_q1_reportCount : Int32} {x_q1_z : Int32} {x_q1_rules : Nat} {x_q1_shades : Nat → Int32} {x_q1_facts : Nat → Int32} {x_q2_dials : Nat → Nat → Int32} {x_q2_spots : Nat → Nat → Int32} {x_q2_skies : Nat → Int32} {x_q2_reports : Nat → Nat → Int32} {x_q2_count : Int32} {x_q2_chime : Int32} {x_q2_end : Int32} {x_q2_score : Int32} {x_q2_reportCount : Int32} {x_q2_z : Int32} {x_q2_rules : Nat} {x_q2_shades : Nat → Int32} {x_q2_facts : Nat → Int32} {x_isKept : Int32} {x_marks : Nat → Int32} {x_p_first : Nat → Int32} {x_p_steps : Int32} {x_p_most : Int32} {x_p_many : Int32} {x_p_fewest : Int32} {x_p_everRight : Int32} {x_p_opening : Int32} {x_p_rows : Nat → Nat → Int32} {x_p_rowCount : Int32} {x_p_acts : Nat → Int32} {x_p_marks : Nat → Nat → Int32} {x_p_deepest : Int32} {x_p_wanted : Int32} {x_t_length : Int32} {x_t_tape : Nat → Int32} {x_t_words : Nat → Int32} {x_t_places : Nat → Int32} {x_t_at : Int32} {x_t_kinds : Nat → Int32} {x_t_wills : Nat → Int32} {x_t_starts : Nat → Int32} {x_t_code : Nat → Int32} {x_t_count : Int32} {x_t_size : Int32} {x_h_sorts : Nat → Int32} {x_h_lengths : Nat → Int32} {x_h_items : Nat → Nat → Int32} {x_h_held : Nat → Int32} {x_h_things : Nat → Int32} {x_h_sizes : Nat → Int32} {x_h_bodies : Nat → Int32} {x_h_traced : Int32} {x_h_number : Int32} {x_h_spot : Int32} {x_h_parted : Int32} {x_g_count : Nat → Int32} {x_g_kinds : Nat → Nat → Int32} {x_g_wills : Nat → Nat → Int32} {x_g_starts : Nat → Nat → Int32} {x_g_code : Nat → Nat → Int32} {x_g_stack : Nat → Nat → Int32} {x_g_kl : Nat → Nat} {x_g_wl : Nat → Nat} {x_g_sl : Nat → Nat} {x_g_cl : Nat → Nat} {x_nr : Nat}
theorem dX2_fillShelf_0 : decode cX2_fillShelf 0 = .ok (.iload_n 2, 1) := by decide +kernel
theorem dX2_fillShelf_1 : decode cX2_fillShelf 1 = .ok (.iconst 1, 1) := by decide +kernel
theorem dX2_fillShelf_2 : decode cX2_fillShelf 2 = .ok (.if_icmp .ne 17, 3) := by decide +kernel
theorem dX2_fillShelf_5 : decode cX2_fillShelf 5 = .ok (.aload_n 0, 1) := by decide +kernel
theorem dX2_fillShelf_6 : decode cX2_fillShelf 6 = .ok (.getfield 9, 3) := by decide +kernel
theorem dX2_fillShelf_9 : decode cX2_fillShelf 9 = .ok (.iload_n 3, 1) := by decide +kernel
theorem dX2_fillShelf_10 : decode cX2_fillShelf 10 = .ok (.iaload, 1) := by decide +kernel
theorem dX2_fillShelf_11 : decode cX2_fillShelf 11 = .ok (.iconst (-1), 1) := by decide +kernel
theorem dX2_fillShelf_12 : decode cX2_fillShelf 12 = .ok (.if_icmp .ne 7, 3) := by decide +kernel
theorem dX2_fillShelf_15 : decode cX2_fillShelf 15 = .ok (.iconst 1, 1) := by decide +kernel
theorem dX2_fillShelf_16 : decode cX2_fillShelf 16 = .ok (.goto 4, 3) := by decide +kernel
theorem dX2_fillShelf_19 : decode cX2_fillShelf 19 = .ok (.iconst 0, 1) := by decide +kernel
theorem dX2_fillShelf_20 : decode cX2_fillShelf 20 = .ok (.istore 4, 2) := by decide +kernel
theorem dX2_fillShelf_22 : decode cX2_fillShelf 22 = .ok (.aload_n 0, 1) := by decide +kernel
theorem dX2_fillShelf_23 : decode cX2_fillShelf 23 = .ok (.getfield 23, 3) := by decide +kernel
theorem dX2_fillShelf_26 : decode cX2_fillShelf 26 = .ok (.iload_n 1, 1) := by decide +kernel
theorem dX2_fillShelf_27 : decode cX2_fillShelf 27 = .ok (.iload 4, 2) := by decide +kernel
theorem dX2_fillShelf_29 : decode cX2_fillShelf 29 = .ok (.ifCond .eq 7, 3) := by decide +kernel
theorem dX2_fillShelf_32 : decode cX2_fillShelf 32 = .ok (.iconst 2, 1) := by decide +kernel
theorem dX2_fillShelf_33 : decode cX2_fillShelf 33 = .ok (.goto 4, 3) := by decide +kernel
theorem dX2_fillShelf_36 : decode cX2_fillShelf 36 = .ok (.iload_n 2, 1) := by decide +kernel
theorem dX2_fillShelf_37 : decode cX2_fillShelf 37 = .ok (.iastore, 1) := by decide +kernel
theorem dX2_fillShelf_38 : decode cX2_fillShelf 38 = .ok (.aload_n 0, 1) := by decide +kernel
theorem dX2_fillShelf_39 : decode cX2_fillShelf 39 = .ok (.getfield 26, 3) := by decide +kernel
theorem dX2_fillShelf_42 : decode cX2_fillShelf 42 = .ok (.iload_n 1, 1) := by decide +kernel
theorem dX2_fillShelf_43 : decode cX2_fillShelf 43 = .ok (.iload_n 2, 1) := by decide +kernel
theorem dX2_fillShelf_44 : decode cX2_fillShelf 44 = .ok (.iconst 1, 1) := by decide +kernel
theorem dX2_fillShelf_45 : decode cX2_fillShelf 45 = .ok (.if_icmp .ne 12, 3) := by decide +kernel
theorem dX2_fillShelf_48 : decode cX2_fillShelf 48 = .ok (.aload_n 0, 1) := by decide +kernel
theorem dX2_fillShelf_49 : decode cX2_fillShelf 49 = .ok (.getfield 9, 3) := by decide +kernel
theorem dX2_fillShelf_52 : decode cX2_fillShelf 52 = .ok (.iload_n 3, 1) := by decide +kernel
theorem dX2_fillShelf_53 : decode cX2_fillShelf 53 = .ok (.iaload, 1) := by decide +kernel
theorem dX2_fillShelf_54 : decode cX2_fillShelf 54 = .ok (.goto 4, 3) := by decide +kernel
theorem dX2_fillShelf_57 : decode cX2_fillShelf 57 = .ok (.iload_n 3, 1) := by decide +kernel
theorem dX2_fillShelf_58 : decode cX2_fillShelf 58 = .ok (.iastore, 1) := by decide +kernel
theorem dX2_fillShelf_59 : decode cX2_fillShelf 59 = .ok (.iload_n 2, 1) := by decide +kernel
theorem dX2_fillShelf_60 : decode cX2_fillShelf 60 = .ok (.iconst 1, 1) := by decide +kernel
theorem dX2_fillShelf_61 : decode cX2_fillShelf 61 = .ok (.if_icmp .ne 15, 3) := by decide +kernel
theorem dX2_fillShelf_64 : decode cX2_fillShelf 64 = .ok (.aload_n 0, 1) := by decide +kernel
theorem dX2_fillShelf_65 : decode cX2_fillShelf 65 = .ok (.getfield 29, 3) := by decide +kernel
theorem dX2_fillShelf_68 : decode cX2_fillShelf 68 = .ok (.iload_n 1, 1) := by decide +kernel
theorem dX2_fillShelf_69 : decode cX2_fillShelf 69 = .ok (.aload_n 0, 1) := by decide +kernel
theorem dX2_fillShelf_70 : decode cX2_fillShelf 70 = .ok (.getfield 15, 3) := by decide +kernel
theorem dX2_fillShelf_73 : decode cX2_fillShelf 73 = .ok (.iload_n 3, 1) := by decide +kernel
theorem dX2_fillShelf_74 : decode cX2_fillShelf 74 = .ok (.iaload, 1) := by decide +kernel
theorem dX2_fillShelf_75 : decode cX2_fillShelf 75 = .ok (.iastore, 1) := by decide +kernel
theorem dX2_fillShelf_76 : decode cX2_fillShelf 76 = .ok (.return_, 1) := by decide +kernel
theorem k_X2_fillShelf : MV yX2_fillShelf cX2_fillShelf 5 none 3 := ⟨q_968, q_969, q_3, q_970, ⟨by decide, by decide, by decide +kernel⟩⟩
theorem c_X2_fillShelf {v1 : Int32} {v2 : Int32} {v3 : Int32} {res : (Nat → Int32) × (Nat → Int32) × (Nat → Int32)} (hf : X2_fillShelf x_h_sorts x_h_lengths x_h_held x_h_things x_h_sizes v1 v2 v3 = some res) : MC l E0 D t yX2_fillShelf cX2_fillShelf 5 none 1 0 0 [.ref (a 105), .int v1, .int v2, .int v3] (cW a ar t x_q0_dials x_q0_spots x_q0_skies x_q0_reports x_q0_count x_q0_chime x_q0_end x_q0_score x_q0_reportCount x_q0_z x_q0_rules x_q0_shades x_q0_facts x_q1_dials x_q1_spots x_q1_skies x_q1_reports x_q1_count x_q1_chime x_q1_end x_q1_score x_q1_reportCount x_q1_z x_q1_rules x_q1_shades x_q1_facts x_q2_dials x_q2_spots x_q2_skies x_q2_reports x_q2_count x_q2_chime x_q2_end x_q2_score x_q2_reportCount x_q2_z x_q2_rules x_q2_shades x_q2_facts x_isKept x_marks x_p_first x_p_steps x_p_most x_p_many x_p_fewest x_p_everRight x_p_opening x_p_rows x_p_rowCount x_p_acts x_p_marks x_p_deepest x_p_wanted x_t_length x_t_tape x_t_words x_t_places x_t_at x_t_kinds x_t_wills x_t_starts x_t_code x_t_count x_t_size x_h_sorts x_h_lengths x_h_items x_h_held x_h_things x_h_sizes x_h_bodies x_h_traced x_h_number x_h_spot x_h_parted x_g_count x_g_kinds x_g_wills x_g_starts x_g_code x_g_stack x_g_kl x_g_wl x_g_sl x_g_cl x_nr) (Qn (cW a ar t x_q0_dials x_q0_spots x_q0_skies x_q0_reports x_q0_count x_q0_chime x_q0_end x_q0_score x_q0_reportCount x_q0_z x_q0_rules x_q0_shades x_q0_facts x_q1_dials x_q1_spots x_q1_skies x_q1_reports x_q1_count x_q1_chime x_q1_end x_q1_score x_q1_reportCount x_q1_z x_q1_rules x_q1_shades x_q1_facts x_q2_dials x_q2_spots x_q2_skies x_q2_reports x_q2_count x_q2_chime x_q2_end x_q2_score x_q2_reportCount x_q2_z x_q2_rules x_q2_shades x_q2_facts x_isKept x_marks x_p_first x_p_steps x_p_most x_p_many x_p_fewest x_p_everRight x_p_opening x_p_rows x_p_rowCount x_p_acts x_p_marks x_p_deepest x_p_wanted x_t_length x_t_tape x_t_words x_t_places x_t_at x_t_kinds x_t_wills x_t_starts x_t_code x_t_count x_t_size x_h_sorts x_h_lengths x_h_items res.1 res.2.1 res.2.2 x_h_bodies x_h_traced x_h_number x_h_spot x_h_parted x_g_count x_g_kinds x_g_wills x_g_starts x_g_code x_g_stack x_g_kl x_g_wl x_g_sl x_g_cl x_nr)) := by
  unfold X2_fillShelf at hf
  refine MC.ofV pn_X2 (Nat.le_of_ble_eq_true rfl) ?_
  intro p e s m args below meth c A Q ls cx hR hw hl
  have hx := cx.1
  have hb := cx.2.1
  have hl : lv_has ls 5 [(0, .ref (a 105)), (1, .int v1), (2, .int v2), (3, .int v3)] := hl
  refine lv_iload_n hx hb dX2_fillShelf_0 rfl (lv_at hl 2 rfl) ?_
  refine lv_iconst (v := 1) hx hb dX2_fillShelf_1 (by decide) ?_
  obtain ⟨j2, hj2, hf⟩ := bnS hf
  have wj2 : ∀ (H : Heap) (locs : List Loc) (ls : Array Slot), Wd D A s (cW a ar t x_q0_dials x_q0_spots x_q0_skies x_q0_reports x_q0_count x_q0_chime x_q0_end x_q0_score x_q0_reportCount x_q0_z x_q0_rules x_q0_shades x_q0_facts x_q1_dials x_q1_spots x_q1_skies x_q1_reports x_q1_count x_q1_chime x_q1_end x_q1_score x_q1_reportCount x_q1_z x_q1_rules x_q1_shades x_q1_facts x_q2_dials x_q2_spots x_q2_skies x_q2_reports x_q2_count x_q2_chime x_q2_end x_q2_score x_q2_reportCount x_q2_z x_q2_rules x_q2_shades x_q2_facts x_isKept x_marks x_p_first x_p_steps x_p_most x_p_many x_p_fewest x_p_everRight x_p_opening x_p_rows x_p_rowCount x_p_acts x_p_marks x_p_deepest x_p_wanted x_t_length x_t_tape x_t_words x_t_places x_t_at x_t_kinds x_t_wills x_t_starts x_t_code x_t_count x_t_size x_h_sorts x_h_lengths x_h_items x_h_held x_h_things x_h_sizes x_h_bodies x_h_traced x_h_number x_h_spot x_h_parted x_g_count x_g_kinds x_g_wills x_g_starts x_g_code x_g_stack x_g_kl x_g_wl x_g_sl x_g_cl x_nr) H locs → lv_has ls 5 [(0, .ref (a 105)), (1, .int v1), (2, .int v2), (3, .int v3)] → W p l e (rmz 1 0 0) s m args below meth c H locs 0 0 Q (F0 m 20 ls [.int j2]) := by
    intro H locs ls hw hl
    refine lv_istore (lv' := [(4, .int j2), (0, .ref (a 105)), (1, .int v1), (2, .int v2), (3, .int v3)]) hx hb dX2_fillShelf_20 hl (by decide) rfl (fun ls hl => ?_)
    refine lv_aload_n hx hb dX2_fillShelf_22 rfl (lv_at hl 1 rfl) ?_
    refine cg_X2_23_host cx hw dX2_fillShelf_23 ?_
    refine lv_iload_n hx hb dX2_fillShelf_26 rfl (lv_at hl 2 rfl) ?_
    refine lv_iload hx hb dX2_fillShelf_27 (lv_at hl 0 rfl) ?_
    obtain ⟨j3, hj3, hf⟩ := pbS hf
    have wj3 : ∀ (H : Heap) (locs : List Loc) (ls : Array Slot), Wd D A s (cW a ar t x_q0_dials x_q0_spots x_q0_skies x_q0_reports x_q0_count x_q0_chime x_q0_end x_q0_score x_q0_reportCount x_q0_z x_q0_rules x_q0_shades x_q0_facts x_q1_dials x_q1_spots x_q1_skies x_q1_reports x_q1_count x_q1_chime x_q1_end x_q1_score x_q1_reportCount x_q1_z x_q1_rules x_q1_shades x_q1_facts x_q2_dials x_q2_spots x_q2_skies x_q2_reports x_q2_count x_q2_chime x_q2_end x_q2_score x_q2_reportCount x_q2_z x_q2_rules x_q2_shades x_q2_facts x_isKept x_marks x_p_first x_p_steps x_p_most x_p_many x_p_fewest x_p_everRight x_p_opening x_p_rows x_p_rowCount x_p_acts x_p_marks x_p_deepest x_p_wanted x_t_length x_t_tape x_t_words x_t_places x_t_at x_t_kinds x_t_wills x_t_starts x_t_code x_t_count x_t_size x_h_sorts x_h_lengths x_h_items x_h_held x_h_things x_h_sizes x_h_bodies x_h_traced x_h_number x_h_spot x_h_parted x_g_count x_g_kinds x_g_wills x_g_starts x_g_code x_g_stack x_g_kl x_g_wl x_g_sl x_g_cl x_nr) H locs → lv_has ls 5 [(0, .ref (a 105)), (1, .int v1), (2, .int v2), (3, .int v3), (4, .int j2)] → W p l e (rmz 1 0 0) s m args below meth c H locs 0 0 Q (F0 m 37 ls [.int j3, .int v1, .ref (a 113)]) := by
      intro H locs ls hw hl
      obtain ⟨h4, hf⟩ := ckS hf
      refine cs_h_held (j := v1.toNatClampNeg) cx hw (ib_in h4) rfl dX2_fillShelf_37 (fun H locs hw => ?_)
      refine lv_aload_n hx hb dX2_fillShelf_38 rfl (lv_at hl 0 rfl) ?_
      refine cg_X2_26_host cx hw dX2_fillShelf_39 ?_
      refine lv_iload_n hx hb dX2_fillShelf_42 rfl (lv_at hl 1 rfl) ?_
      refine lv_iload_n hx hb dX2_fillShelf_43 rfl (lv_at hl 2 rfl) ?_
      refine lv_iconst (v := 1) hx hb dX2_fillShelf_44 (by decide) ?_
      obtain ⟨j6, hj6, hf⟩ := bnS hf
      have wj6 : ∀ (H : Heap) (locs : List Loc) (ls : Array Slot), Wd D A s (cW a ar t x_q0_dials x_q0_spots x_q0_skies x_q0_reports x_q0_count x_q0_chime x_q0_end x_q0_score x_q0_reportCount x_q0_z x_q0_rules x_q0_shades x_q0_facts x_q1_dials x_q1_spots x_q1_skies x_q1_reports x_q1_count x_q1_chime x_q1_end x_q1_score x_q1_reportCount x_q1_z x_q1_rules x_q1_shades x_q1_facts x_q2_dials x_q2_spots x_q2_skies x_q2_reports x_q2_count x_q2_chime x_q2_end x_q2_score x_q2_reportCount x_q2_z x_q2_rules x_q2_shades x_q2_facts x_isKept x_marks x_p_first x_p_steps x_p_most x_p_many x_p_fewest x_p_everRight x_p_opening x_p_rows x_p_rowCount x_p_acts x_p_marks x_p_deepest x_p_wanted x_t_length x_t_tape x_t_words x_t_places x_t_at x_t_kinds x_t_wills x_t_starts x_t_code x_t_count x_t_size x_h_sorts x_h_lengths x_h_items (upd x_h_held v1.toNatClampNeg j3) x_h_things x_h_sizes x_h_bodies x_h_traced x_h_number x_h_spot x_h_parted x_g_count x_g_kinds x_g_wills x_g_starts x_g_code x_g_stack x_g_kl x_g_wl x_g_sl x_g_cl x_nr) H locs → lv_has ls 5 [(0, .ref (a 105)), (1, .int v1), (2, .int v2), (3, .int v3), (4, .int j2)] → W p l e (rmz 1 0 0) s m args below meth c H locs 0 0 Q (F0 m 58 ls [.int j6, .int v1, .ref (a 114)]) := by
        intro H locs ls hw hl
        obtain ⟨h7, hf⟩ := ckS hf
        refine cs_h_things (j := v1.toNatClampNeg) cx hw (ib_in h7) rfl dX2_fillShelf_58 (fun H locs hw => ?_)
        refine lv_iload_n hx hb dX2_fillShelf_59 rfl (lv_at hl 2 rfl) ?_
        refine lv_iconst (v := 1) hx hb dX2_fillShelf_60 (by decide) ?_
        refine lv_icmp_ne (tgt := 76) hx hb dX2_fillShelf_61 (by decide) (fun hc => ?_) (fun hc => ?_)
        · have hf := ifF hf hc
          have hf := Option.some.inj hf
          subst hf
          exact hR _ _ _ _ _ hw ⟨rfl, rfl⟩ dX2_fillShelf_76
        · have hf := ifT hf hc
          refine lv_aload_n hx hb dX2_fillShelf_64 rfl (lv_at hl 0 rfl) ?_
          refine cg_X2_29_host cx hw dX2_fillShelf_65 ?_
          refine lv_iload_n hx hb dX2_fillShelf_68 rfl (lv_at hl 1 rfl) ?_
          refine lv_aload_n hx hb dX2_fillShelf_69 rfl (lv_at hl 0 rfl) ?_
          refine cg_X2_15_host cx hw dX2_fillShelf_70 ?_
          refine lv_iload_n hx hb dX2_fillShelf_73 rfl (lv_at hl 3 rfl) ?_
          obtain ⟨h8, hf⟩ := ckS hf
          refine cl_h_lengths (j := v3.toNatClampNeg) cx hw (ib_in h8) rfl dX2_fillShelf_74 ?_
          obtain ⟨h9, hf⟩ := ckS hf
          refine cs_h_sizes (j := v1.toNatClampNeg) cx hw (ib_in h9) rfl dX2_fillShelf_75 (fun H locs hw => ?_)
          have hf := Option.some.inj hf
          subst hf
          exact hR _ _ _ _ _ hw ⟨rfl, rfl⟩ dX2_fillShelf_76
      clear hf
      have hf := hj6
      clear hj6
      refine lv_icmp_ne (tgt := 57) hx hb dX2_fillShelf_45 (by decide) (fun hc => ?_) (fun hc => ?_)
      · have hf := ifF hf hc
        refine lv_iload_n hx hb dX2_fillShelf_57 rfl (lv_at hl 3 rfl) ?_
        have hf := Option.some.inj hf
        subst hf
        exact wj6 _ _ _ hw (lv_sub hl [0, 1, 2, 3, 4] rfl)
      · have hf := ifT hf hc
        refine lv_aload_n hx hb dX2_fillShelf_48 rfl (lv_at hl 0 rfl) ?_
        refine cg_X2_9_host cx hw dX2_fillShelf_49 ?_
        refine lv_iload_n hx hb dX2_fillShelf_52 rfl (lv_at hl 3 rfl) ?_
        obtain ⟨h5, hf⟩ := ckS hf
        refine cl_h_sorts (j := v3.toNatClampNeg) cx hw (ib_in h5) rfl dX2_fillShelf_53 ?_
        refine lv_goto (tgt := 58) hx hb dX2_fillShelf_54 (by decide) ?_
        have hf := Option.some.inj hf
        subst hf
        exact wj6 _ _ _ hw (lv_sub hl [0, 1, 2, 3, 4] rfl)
    clear hf
    have hf := hj3
    clear hj3
    refine lv_if_eq (tgt := 36) hx hb dX2_fillShelf_29 (by decide) (fun hc => ?_) (fun hc => ?_)
    · have hf := ifT hf hc
      refine lv_iload_n hx hb dX2_fillShelf_36 rfl (lv_at hl 3 rfl) ?_
      subst hf
      exact wj3 _ _ _ hw (lv_sub hl [1, 2, 3, 4, 0] rfl)
    · have hf := ifF hf hc
      refine lv_iconst (v := 2) hx hb dX2_fillShelf_32 (by decide) ?_
      refine lv_goto (tgt := 37) hx hb dX2_fillShelf_33 (by decide) ?_
      subst hf
      exact wj3 _ _ _ hw (lv_sub hl [1, 2, 3, 4, 0] rfl)
  clear hf
  have hf := hj2
  clear hj2
  refine lv_icmp_ne (tgt := 19) hx hb dX2_fillShelf_2 (by decide) (fun hc => ?_) (fun hc => ?_)
  · have hf := ifF hf hc
    refine lv_iconst (v := 0) hx hb dX2_fillShelf_19 (by decide) ?_
    have hf := Option.some.inj hf
    subst hf
    exact wj2 _ _ _ hw (lv_sub hl [0, 1, 2, 3] rfl)
  · have hf := ifT hf hc
    refine lv_aload_n hx hb dX2_fillShelf_5 rfl (lv_at hl 0 rfl) ?_
    refine cg_X2_9_host cx hw dX2_fillShelf_6 ?_
    refine lv_iload_n hx hb dX2_fillShelf_9 rfl (lv_at hl 3 rfl) ?_
    obtain ⟨h1, hf⟩ := ckS hf
    refine cl_h_sorts (j := v3.toNatClampNeg) cx hw (ib_in h1) rfl dX2_fillShelf_10 ?_
    refine lv_iconst (v := (-1)) hx hb dX2_fillShelf_11 (by decide) ?_
    refine lv_icmp_ne (tgt := 19) hx hb dX2_fillShelf_12 (by decide) (fun hc => ?_) (fun hc => ?_)
    · have hf := ifF hf hc
      refine lv_iconst (v := 0) hx hb dX2_fillShelf_19 (by decide) ?_
      have hf := Option.some.inj hf
      subst hf
      exact wj2 _ _ _ hw (lv_sub hl [0, 1, 2, 3] rfl)
    · have hf := ifT hf hc
      refine lv_iconst (v := 1) hx hb dX2_fillShelf_15 (by decide) ?_
      refine lv_goto (tgt := 20) hx hb dX2_fillShelf_16 (by decide) ?_
      have hf := Option.some.inj hf
      subst hf
      exact wj2 _ _ _ hw (lv_sub hl [0, 1, 2, 3] rfl)
theorem dX11_shelf_0 : decode cX11_shelf 0 = .ok (.iload_n 1, 1) := by decide +kernel
theorem dX11_shelf_1 : decode cX11_shelf 1 = .ok (.invokestatic 280, 3) := by decide +kernel
theorem dX11_shelf_4 : decode cX11_shelf 4 = .ok (.ifCond .eq 12, 3) := by decide +kernel
theorem dX11_shelf_7 : decode cX11_shelf 7 = .ok (.iload_n 2, 1) := by decide +kernel
theorem dX11_shelf_8 : decode cX11_shelf 8 = .ok (.iconst 0, 1) := by decide +kernel
theorem dX11_shelf_9 : decode cX11_shelf 9 = .ok (.iconst 2, 1) := by decide +kernel
theorem dX11_shelf_10 : decode cX11_shelf 10 = .ok (.invokestatic 74, 3) := by decide +kernel
theorem dX11_shelf_13 : decode cX11_shelf 13 = .ok (.ifCond .ne 5, 3) := by decide +kernel
theorem dX11_shelf_16 : decode cX11_shelf 16 = .ok (.iconst (-1), 1) := by decide +kernel
theorem dX11_shelf_17 : decode cX11_shelf 17 = .ok (.ireturn, 1) := by decide +kernel
theorem dX11_shelf_18 : decode cX11_shelf 18 = .ok (.iload_n 2, 1) := by decide +kernel
theorem dX11_shelf_19 : decode cX11_shelf 19 = .ok (.ifCond .ne 14, 3) := by decide +kernel
theorem dX11_shelf_22 : decode cX11_shelf 22 = .ok (.aload_n 0, 1) := by decide +kernel
theorem dX11_shelf_23 : decode cX11_shelf 23 = .ok (.getfield 55, 3) := by decide +kernel
theorem dX11_shelf_26 : decode cX11_shelf 26 = .ok (.iload_n 3, 1) := by decide +kernel
theorem dX11_shelf_27 : decode cX11_shelf 27 = .ok (.invokevirtual 90, 3) := by decide +kernel
theorem dX11_shelf_30 : decode cX11_shelf 30 = .ok (.ifCond .eq 15, 3) := by decide +kernel
theorem dX11_shelf_33 : decode cX11_shelf 33 = .ok (.iload_n 2, 1) := by decide +kernel
theorem dX11_shelf_34 : decode cX11_shelf 34 = .ok (.iconst 1, 1) := by decide +kernel
theorem dX11_shelf_35 : decode cX11_shelf 35 = .ok (.if_icmp .ne 12, 3) := by decide +kernel
theorem dX11_shelf_38 : decode cX11_shelf 38 = .ok (.iload_n 3, 1) := by decide +kernel
theorem dX11_shelf_39 : decode cX11_shelf 39 = .ok (.invokestatic 280, 3) := by decide +kernel
theorem dX11_shelf_42 : decode cX11_shelf 42 = .ok (.ifCond .ne 5, 3) := by decide +kernel
theorem dX11_shelf_45 : decode cX11_shelf 45 = .ok (.iconst (-1), 1) := by decide +kernel
theorem dX11_shelf_46 : decode cX11_shelf 46 = .ok (.ireturn, 1) := by decide +kernel
theorem dX11_shelf_47 : decode cX11_shelf 47 = .ok (.aload_n 0, 1) := by decide +kernel
theorem dX11_shelf_48 : decode cX11_shelf 48 = .ok (.getfield 23, 3) := by decide +kernel
theorem dX11_shelf_51 : decode cX11_shelf 51 = .ok (.iload_n 1, 1) := by decide +kernel
theorem dX11_shelf_52 : decode cX11_shelf 52 = .ok (.iload_n 2, 1) := by decide +kernel
theorem dX11_shelf_53 : decode cX11_shelf 53 = .ok (.iload_n 3, 1) := by decide +kernel
theorem dX11_shelf_54 : decode cX11_shelf 54 = .ok (.invokevirtual 307, 3) := by decide +kernel
theorem dX11_shelf_57 : decode cX11_shelf 57 = .ok (.iconst 1, 1) := by decide +kernel
theorem dX11_shelf_58 : decode cX11_shelf 58 = .ok (.ireturn, 1) := by decide +kernel
theorem k_X11_shelf : MV yX11_shelf cX11_shelf 4 (some .int) 3 := ⟨q_964, q_965, q_1, q_966, ⟨by decide, by decide, by decide +kernel⟩⟩
theorem c_X11_shelf {v1 : Int32} {v2 : Int32} {v3 : Int32} {res : Int32 × (Nat → Int32) × (Nat → Int32) × (Nat → Int32)} (hf : X11_shelf x_q0_count x_h_sorts x_h_lengths x_h_held x_h_things x_h_sizes v1 v2 v3 = some res) : MC l E0 D t yX11_shelf cX11_shelf 4 (some .int) 3 0 0 [.ref (a 0), .int v1, .int v2, .int v3] (cW a ar t x_q0_dials x_q0_spots x_q0_skies x_q0_reports x_q0_count x_q0_chime x_q0_end x_q0_score x_q0_reportCount x_q0_z x_q0_rules x_q0_shades x_q0_facts x_q1_dials x_q1_spots x_q1_skies x_q1_reports x_q1_count x_q1_chime x_q1_end x_q1_score x_q1_reportCount x_q1_z x_q1_rules x_q1_shades x_q1_facts x_q2_dials x_q2_spots x_q2_skies x_q2_reports x_q2_count x_q2_chime x_q2_end x_q2_score x_q2_reportCount x_q2_z x_q2_rules x_q2_shades x_q2_facts x_isKept x_marks x_p_first x_p_steps x_p_most x_p_many x_p_fewest x_p_everRight x_p_opening x_p_rows x_p_rowCount x_p_acts x_p_marks x_p_deepest x_p_wanted x_t_length x_t_tape x_t_words x_t_places x_t_at x_t_kinds x_t_wills x_t_starts x_t_code x_t_count x_t_size x_h_sorts x_h_lengths x_h_items x_h_held x_h_things x_h_sizes x_h_bodies x_h_traced x_h_number x_h_spot x_h_parted x_g_count x_g_kinds x_g_wills x_g_starts x_g_code x_g_stack x_g_kl x_g_wl x_g_sl x_g_cl x_nr) (Qi res.1 (cW a ar t x_q0_dials x_q0_spots x_q0_skies x_q0_reports x_q0_count x_q0_chime x_q0_end x_q0_score x_q0_reportCount x_q0_z x_q0_rules x_q0_shades x_q0_facts x_q1_dials x_q1_spots x_q1_skies x_q1_reports x_q1_count x_q1_chime x_q1_end x_q1_score x_q1_reportCount x_q1_z x_q1_rules x_q1_shades x_q1_facts x_q2_dials x_q2_spots x_q2_skies x_q2_reports x_q2_count x_q2_chime x_q2_end x_q2_score x_q2_reportCount x_q2_z x_q2_rules x_q2_shades x_q2_facts x_isKept x_marks x_p_first x_p_steps x_p_most x_p_many x_p_fewest x_p_everRight x_p_opening x_p_rows x_p_rowCount x_p_acts x_p_marks x_p_deepest x_p_wanted x_t_length x_t_tape x_t_words x_t_places x_t_at x_t_kinds x_t_wills x_t_starts x_t_code x_t_count x_t_size x_h_sorts x_h_lengths x_h_items res.2.1 res.2.2.1 res.2.2.2 x_h_bodies x_h_traced x_h_number x_h_spot x_h_parted x_g_count x_g_kinds x_g_wills x_g_starts x_g_code x_g_stack x_g_kl x_g_wl x_g_sl x_g_cl x_nr)) := by
  unfold X11_shelf at hf
  refine MC.ofI pn_X11 (Nat.le_of_ble_eq_true rfl) ?_
  intro p e s m args below meth c A Q ls cx hR hw hl
  have hx := cx.1
  have hb := cx.2.1
  have hl : lv_has ls 4 [(0, .ref (a 0)), (1, .int v1), (2, .int v2), (3, .int v3)] := hl
  refine lv_iload_n hx hb dX11_shelf_0 rfl (lv_at hl 1 rfl) ?_
  refine calSi cx hw hl.1 (c_X11_isSheet rfl) q_926 k_X11_isSheet rfl dX11_shelf_1 rfl (Nat.le_of_ble_eq_true rfl) ⟨Nat.le_of_ble_eq_true rfl, Nat.le_of_ble_eq_true rfl⟩ ⟨Nat.le_refl _, Nat.le_refl _⟩ (fun H locs hw => ?_)
  refine lv_if_eq (tgt := 16) hx hb dX11_shelf_4 (by decide) (fun hc => ?_) (fun hc => ?_)
  · have hf := ifT hf hc
    refine lv_iconst (v := (-1)) hx hb dX11_shelf_16 (by decide) ?_
    have hf := Option.some.inj hf
    subst hf
    exact hR _ _ _ _ _ _ hw rfl ⟨rfl, rfl⟩ dX11_shelf_17
  · have hf := ifF hf hc
    refine lv_iload_n hx hb dX11_shelf_7 rfl (lv_at hl 2 rfl) ?_
    refine lv_iconst (v := 0) hx hb dX11_shelf_8 (by decide) ?_
    refine lv_iconst (v := 2) hx hb dX11_shelf_9 (by decide) ?_
    refine calSi cx hw hl.1 (c_X11_isIn rfl) q_350 k_X11_isIn rfl dX11_shelf_10 rfl (Nat.le_of_ble_eq_true rfl) ⟨Nat.le_of_ble_eq_true rfl, Nat.le_of_ble_eq_true rfl⟩ ⟨Nat.le_refl _, Nat.le_refl _⟩ (fun H locs hw => ?_)
    refine lv_if_ne (tgt := 18) hx hb dX11_shelf_13 (by decide) (fun hc => ?_) (fun hc => ?_)
    · have hf := ifF hf hc
      refine lv_iload_n hx hb dX11_shelf_18 rfl (lv_at hl 2 rfl) ?_
      obtain ⟨J1, hJ1, hf⟩ := jnS hf
      have wj1 : ∀ (j1 : Unit) (H : Heap) (locs : List Loc) (ls : Array Slot), J1 j1 = some res → Wd D A s (cW a ar t x_q0_dials x_q0_spots x_q0_skies x_q0_reports x_q0_count x_q0_chime x_q0_end x_q0_score x_q0_reportCount x_q0_z x_q0_rules x_q0_shades x_q0_facts x_q1_dials x_q1_spots x_q1_skies x_q1_reports x_q1_count x_q1_chime x_q1_end x_q1_score x_q1_reportCount x_q1_z x_q1_rules x_q1_shades x_q1_facts x_q2_dials x_q2_spots x_q2_skies x_q2_reports x_q2_count x_q2_chime x_q2_end x_q2_score x_q2_reportCount x_q2_z x_q2_rules x_q2_shades x_q2_facts x_isKept x_marks x_p_first x_p_steps x_p_most x_p_many x_p_fewest x_p_everRight x_p_opening x_p_rows x_p_rowCount x_p_acts x_p_marks x_p_deepest x_p_wanted x_t_length x_t_tape x_t_words x_t_places x_t_at x_t_kinds x_t_wills x_t_starts x_t_code x_t_count x_t_size x_h_sorts x_h_lengths x_h_items x_h_held x_h_things x_h_sizes x_h_bodies x_h_traced x_h_number x_h_spot x_h_parted x_g_count x_g_kinds x_g_wills x_g_starts x_g_code x_g_stack x_g_kl x_g_wl x_g_sl x_g_cl x_nr) H locs → lv_has ls 4 [(0, .ref (a 0)), (1, .int v1), (2, .int v2), (3, .int v3)] → W p l e (rmz 3 0 0) s m args below meth c H locs 0 0 Q (F0 m 33 ls []) := by
        intro j1 H locs ls hf hw hl
        have hf := hJ1 _ hf
        refine lv_iload_n hx hb dX11_shelf_33 rfl (lv_at hl 2 rfl) ?_
        refine lv_iconst (v := 1) hx hb dX11_shelf_34 (by decide) ?_
        obtain ⟨J2, hJ2, hf⟩ := jnS hf
        have wj2 : ∀ (j2 : Unit) (H : Heap) (locs : List Loc) (ls : Array Slot), J2 j2 = some res → Wd D A s (cW a ar t x_q0_dials x_q0_spots x_q0_skies x_q0_reports x_q0_count x_q0_chime x_q0_end x_q0_score x_q0_reportCount x_q0_z x_q0_rules x_q0_shades x_q0_facts x_q1_dials x_q1_spots x_q1_skies x_q1_reports x_q1_count x_q1_chime x_q1_end x_q1_score x_q1_reportCount x_q1_z x_q1_rules x_q1_shades x_q1_facts x_q2_dials x_q2_spots x_q2_skies x_q2_reports x_q2_count x_q2_chime x_q2_end x_q2_score x_q2_reportCount x_q2_z x_q2_rules x_q2_shades x_q2_facts x_isKept x_marks x_p_first x_p_steps x_p_most x_p_many x_p_fewest x_p_everRight x_p_opening x_p_rows x_p_rowCount x_p_acts x_p_marks x_p_deepest x_p_wanted x_t_length x_t_tape x_t_words x_t_places x_t_at x_t_kinds x_t_wills x_t_starts x_t_code x_t_count x_t_size x_h_sorts x_h_lengths x_h_items x_h_held x_h_things x_h_sizes x_h_bodies x_h_traced x_h_number x_h_spot x_h_parted x_g_count x_g_kinds x_g_wills x_g_starts x_g_code x_g_stack x_g_kl x_g_wl x_g_sl x_g_cl x_nr) H locs → lv_has ls 4 [(0, .ref (a 0)), (1, .int v1), (2, .int v2), (3, .int v3)] → W p l e (rmz 3 0 0) s m args below meth c H locs 0 0 Q (F0 m 47 ls []) := by
          intro j2 H locs ls hf hw hl
          have hf := hJ2 _ hf
          refine lv_aload_n hx hb dX11_shelf_47 rfl (lv_at hl 0 rfl) ?_
          refine cg_X11_23_ds cx hw dX11_shelf_48 ?_
          refine lv_iload_n hx hb dX11_shelf_51 rfl (lv_at hl 1 rfl) ?_
          refine lv_iload_n hx hb dX11_shelf_52 rfl (lv_at hl 2 rfl) ?_
          refine lv_iload_n hx hb dX11_shelf_53 rfl (lv_at hl 3 rfl) ?_
          obtain ⟨r3, h4, hf⟩ := bnS hf
          refine calVv cx hw hl.1 (c_X2_fillShelf h4) q_967 k_X2_fillShelf rfl rv_host rfl dX11_shelf_54 rfl (Nat.le_of_ble_eq_true rfl) ⟨Nat.le_of_ble_eq_true rfl, Nat.le_of_ble_eq_true rfl⟩ ⟨Nat.le_refl _, Nat.le_refl _⟩ (fun H locs hw => ?_)
          refine lv_iconst (v := 1) hx hb dX11_shelf_57 (by decide) ?_
          have hf := Option.some.inj hf
          subst hf
          exact hR _ _ _ _ _ _ hw rfl ⟨rfl, rfl⟩ dX11_shelf_58
        clear hJ2
        refine lv_icmp_ne (tgt := 47) hx hb dX11_shelf_35 (by decide) (fun hc => ?_) (fun hc => ?_)
        · have hf := ifF hf hc
          exact wj2 _ _ _ _ hf hw (lv_sub hl [0, 1, 2, 3] rfl)
        · have hf := ifT hf hc
          refine lv_iload_n hx hb dX11_shelf_38 rfl (lv_at hl 3 rfl) ?_
          refine calSi cx hw hl.1 (c_X11_isSheet rfl) q_926 k_X11_isSheet rfl dX11_shelf_39 rfl (Nat.le_of_ble_eq_true rfl) ⟨Nat.le_of_ble_eq_true rfl, Nat.le_of_ble_eq_true rfl⟩ ⟨Nat.le_refl _, Nat.le_refl _⟩ (fun H locs hw => ?_)
          refine lv_if_ne (tgt := 47) hx hb dX11_shelf_42 (by decide) (fun hc => ?_) (fun hc => ?_)
          · have hf := ifF hf hc
            exact wj2 _ _ _ _ hf hw (lv_sub hl [0, 1, 2, 3] rfl)
          · have hf := ifT hf hc
            refine lv_iconst (v := (-1)) hx hb dX11_shelf_45 (by decide) ?_
            have hf := Option.some.inj hf
            subst hf
            exact hR _ _ _ _ _ _ hw rfl ⟨rfl, rfl⟩ dX11_shelf_46
      clear hJ1
      refine lv_if_ne (tgt := 33) hx hb dX11_shelf_19 (by decide) (fun hc => ?_) (fun hc => ?_)
      · have hf := ifF hf hc
        exact wj1 _ _ _ _ hf hw (lv_sub hl [0, 1, 2, 3] rfl)
      · have hf := ifT hf hc
        refine lv_aload_n hx hb dX11_shelf_22 rfl (lv_at hl 0 rfl) ?_
        refine cg_X11_55_ds cx hw dX11_shelf_23 ?_
        refine lv_iload_n hx hb dX11_shelf_26 rfl (lv_at hl 3 rfl) ?_
        refine calVi cx hw hl.1 (c_X9_has_q0 rfl) q_364 k_X9_has rfl rv_q0 rfl dX11_shelf_27 rfl (Nat.le_of_ble_eq_true rfl) ⟨Nat.le_of_ble_eq_true rfl, Nat.le_of_ble_eq_true rfl⟩ ⟨Nat.le_refl _, Nat.le_refl _⟩ (fun H locs hw => ?_)
        refine lv_if_eq (tgt := 45) hx hb dX11_shelf_30 (by decide) (fun hc => ?_) (fun hc => ?_)
        · have hf := ifT hf hc
          refine lv_iconst (v := (-1)) hx hb dX11_shelf_45 (by decide) ?_
          have hf := Option.some.inj hf
          subst hf
          exact hR _ _ _ _ _ _ hw rfl ⟨rfl, rfl⟩ dX11_shelf_46
        · have hf := ifF hf hc
          exact wj1 _ _ _ _ hf hw (lv_sub hl [0, 1, 2, 3] rfl)
    · have hf := ifT hf hc
      refine lv_iconst (v := (-1)) hx hb dX11_shelf_16 (by decide) ?_
      have hf := Option.some.inj hf
      subst hf
      exact hR _ _ _ _ _ _ hw rfl ⟨rfl, rfl⟩ dX11_shelf_17
theorem dX11_holdsDial_0 : decode cX11_holdsDial 0 = .ok (.aload_n 0, 1) := by decide +kernel
theorem dX11_holdsDial_1 : decode cX11_holdsDial 1 = .ok (.getfield 23, 3) := by decide +kernel
theorem dX11_holdsDial_4 : decode cX11_holdsDial 4 = .ok (.getfield 311, 3) := by decide +kernel
theorem dX11_holdsDial_7 : decode cX11_holdsDial 7 = .ok (.iload_n 1, 1) := by decide +kernel
theorem dX11_holdsDial_8 : decode cX11_holdsDial 8 = .ok (.iaload, 1) := by decide +kernel
theorem dX11_holdsDial_9 : decode cX11_holdsDial 9 = .ok (.ifCond .ne 26, 3) := by decide +kernel
theorem dX11_holdsDial_12 : decode cX11_holdsDial 12 = .ok (.aload_n 0, 1) := by decide +kernel
theorem dX11_holdsDial_13 : decode cX11_holdsDial 13 = .ok (.getfield 55, 3) := by decide +kernel
theorem dX11_holdsDial_16 : decode cX11_holdsDial 16 = .ok (.aload_n 0, 1) := by decide +kernel
theorem dX11_holdsDial_17 : decode cX11_holdsDial 17 = .ok (.getfield 23, 3) := by decide +kernel
theorem dX11_holdsDial_20 : decode cX11_holdsDial 20 = .ok (.getfield 314, 3) := by decide +kernel
theorem dX11_holdsDial_23 : decode cX11_holdsDial 23 = .ok (.iload_n 1, 1) := by decide +kernel
theorem dX11_holdsDial_24 : decode cX11_holdsDial 24 = .ok (.iaload, 1) := by decide +kernel
theorem dX11_holdsDial_25 : decode cX11_holdsDial 25 = .ok (.invokevirtual 90, 3) := by decide +kernel
theorem dX11_holdsDial_28 : decode cX11_holdsDial 28 = .ok (.ifCond .eq 7, 3) := by decide +kernel
theorem dX11_holdsDial_31 : decode cX11_holdsDial 31 = .ok (.iconst 1, 1) := by decide +kernel
theorem dX11_holdsDial_32 : decode cX11_holdsDial 32 = .ok (.goto 4, 3) := by decide +kernel
theorem dX11_holdsDial_35 : decode cX11_holdsDial 35 = .ok (.iconst 0, 1) := by decide +kernel
theorem dX11_holdsDial_36 : decode cX11_holdsDial 36 = .ok (.ireturn, 1) := by decide +kernel
theorem k_X11_holdsDial : MV yX11_holdsDial cX11_holdsDial 2 (some .boolean) 1 := ⟨q_977, qs_29, q_1, q_978, ⟨by decide, by decide, by decide +kernel⟩⟩
theorem c_X11_holdsDial {v1 : Int32} {res : Int32} (hf : X11_holdsDial x_q0_count x_h_held x_h_things v1 = some res) : MC l E0 D t yX11_holdsDial cX11_holdsDial 2 (some .boolean) 2 0 0 [.ref (a 0), .int v1] (cW a ar t x_q0_dials x_q0_spots x_q0_skies x_q0_reports x_q0_count x_q0_chime x_q0_end x_q0_score x_q0_reportCount x_q0_z x_q0_rules x_q0_shades x_q0_facts x_q1_dials x_q1_spots x_q1_skies x_q1_reports x_q1_count x_q1_chime x_q1_end x_q1_score x_q1_reportCount x_q1_z x_q1_rules x_q1_shades x_q1_facts x_q2_dials x_q2_spots x_q2_skies x_q2_reports x_q2_count x_q2_chime x_q2_end x_q2_score x_q2_reportCount x_q2_z x_q2_rules x_q2_shades x_q2_facts x_isKept x_marks x_p_first x_p_steps x_p_most x_p_many x_p_fewest x_p_everRight x_p_opening x_p_rows x_p_rowCount x_p_acts x_p_marks x_p_deepest x_p_wanted x_t_length x_t_tape x_t_words x_t_places x_t_at x_t_kinds x_t_wills x_t_starts x_t_code x_t_count x_t_size x_h_sorts x_h_lengths x_h_items x_h_held x_h_things x_h_sizes x_h_bodies x_h_traced x_h_number x_h_spot x_h_parted x_g_count x_g_kinds x_g_wills x_g_starts x_g_code x_g_stack x_g_kl x_g_wl x_g_sl x_g_cl x_nr) (Qi res (cW a ar t x_q0_dials x_q0_spots x_q0_skies x_q0_reports x_q0_count x_q0_chime x_q0_end x_q0_score x_q0_reportCount x_q0_z x_q0_rules x_q0_shades x_q0_facts x_q1_dials x_q1_spots x_q1_skies x_q1_reports x_q1_count x_q1_chime x_q1_end x_q1_score x_q1_reportCount x_q1_z x_q1_rules x_q1_shades x_q1_facts x_q2_dials x_q2_spots x_q2_skies x_q2_reports x_q2_count x_q2_chime x_q2_end x_q2_score x_q2_reportCount x_q2_z x_q2_rules x_q2_shades x_q2_facts x_isKept x_marks x_p_first x_p_steps x_p_most x_p_many x_p_fewest x_p_everRight x_p_opening x_p_rows x_p_rowCount x_p_acts x_p_marks x_p_deepest x_p_wanted x_t_length x_t_tape x_t_words x_t_places x_t_at x_t_kinds x_t_wills x_t_starts x_t_code x_t_count x_t_size x_h_sorts x_h_lengths x_h_items x_h_held x_h_things x_h_sizes x_h_bodies x_h_traced x_h_number x_h_spot x_h_parted x_g_count x_g_kinds x_g_wills x_g_starts x_g_code x_g_stack x_g_kl x_g_wl x_g_sl x_g_cl x_nr)) := by
  unfold X11_holdsDial at hf
  refine MC.ofI pn_X11 (Nat.le_of_ble_eq_true rfl) ?_
  intro p e s m args below meth c A Q ls cx hR hw hl
  have hx := cx.1
  have hb := cx.2.1
  have hl : lv_has ls 2 [(0, .ref (a 0)), (1, .int v1)] := hl
  refine lv_aload_n hx hb dX11_holdsDial_0 rfl (lv_at hl 0 rfl) ?_
  refine cg_X11_23_ds cx hw dX11_holdsDial_1 ?_
  refine cg_X11_311_host cx hw dX11_holdsDial_4 ?_
  refine lv_iload_n hx hb dX11_holdsDial_7 rfl (lv_at hl 1 rfl) ?_
  obtain ⟨h1, hf⟩ := ckS hf
  refine cl_h_held (j := v1.toNatClampNeg) cx hw (ib_in h1) rfl dX11_holdsDial_8 ?_
  refine lv_if_ne (tgt := 35) hx hb dX11_holdsDial_9 (by decide) (fun hc => ?_) (fun hc => ?_)
  · have hf := ifF hf hc
    refine lv_iconst (v := 0) hx hb dX11_holdsDial_35 (by decide) ?_
    have hf := Option.some.inj hf
    subst hf
    exact hR _ _ _ _ _ _ hw rfl ⟨rfl, rfl⟩ dX11_holdsDial_36
  · have hf := ifT hf hc
    refine lv_aload_n hx hb dX11_holdsDial_12 rfl (lv_at hl 0 rfl) ?_
    refine cg_X11_55_ds cx hw dX11_holdsDial_13 ?_
    refine lv_aload_n hx hb dX11_holdsDial_16 rfl (lv_at hl 0 rfl) ?_
    refine cg_X11_23_ds cx hw dX11_holdsDial_17 ?_
    refine cg_X11_314_host cx hw dX11_holdsDial_20 ?_
    refine lv_iload_n hx hb dX11_holdsDial_23 rfl (lv_at hl 1 rfl) ?_
    obtain ⟨h2, hf⟩ := ckS hf
    refine cl_h_things (j := v1.toNatClampNeg) cx hw (ib_in h2) rfl dX11_holdsDial_24 ?_
    refine calVi cx hw hl.1 (c_X9_has_q0 rfl) q_364 k_X9_has rfl rv_q0 rfl dX11_holdsDial_25 rfl (Nat.le_of_ble_eq_true rfl) ⟨Nat.le_of_ble_eq_true rfl, Nat.le_of_ble_eq_true rfl⟩ ⟨Nat.le_refl _, Nat.le_refl _⟩ (fun H locs hw => ?_)
    refine lv_if_eq (tgt := 35) hx hb dX11_holdsDial_28 (by decide) (fun hc => ?_) (fun hc => ?_)
    · have hf := ifT hf hc
      refine lv_iconst (v := 0) hx hb dX11_holdsDial_35 (by decide) ?_
      have hf := Option.some.inj hf
      subst hf
      exact hR _ _ _ _ _ _ hw rfl ⟨rfl, rfl⟩ dX11_holdsDial_36
    · have hf := ifF hf hc
      refine lv_iconst (v := 1) hx hb dX11_holdsDial_31 (by decide) ?_
      refine lv_goto (tgt := 36) hx hb dX11_holdsDial_32 (by decide) ?_
      have hf := Option.some.inj hf
      subst hf
      exact hR _ _ _ _ _ _ hw rfl ⟨rfl, rfl⟩ dX11_holdsDial_36
theorem dX11_taken_0 : decode cX11_taken 0 = .ok (.iload_n 1, 1) := by decide +kernel
theorem dX11_taken_1 : decode cX11_taken 1 = .ok (.invokestatic 280, 3) := by decide +kernel
theorem dX11_taken_4 : decode cX11_taken 4 = .ok (.ifCond .eq 23, 3) := by decide +kernel
theorem dX11_taken_7 : decode cX11_taken 7 = .ok (.iload_n 2, 1) := by decide +kernel
theorem dX11_taken_8 : decode cX11_taken 8 = .ok (.iconst 0, 1) := by decide +kernel
theorem dX11_taken_9 : decode cX11_taken 9 = .ok (.iconst 5, 1) := by decide +kernel
theorem dX11_taken_10 : decode cX11_taken 10 = .ok (.invokestatic 74, 3) := by decide +kernel
theorem dX11_taken_13 : decode cX11_taken 13 = .ok (.ifCond .ne 16, 3) := by decide +kernel
theorem dX11_taken_16 : decode cX11_taken 16 = .ok (.iload_n 2, 1) := by decide +kernel
theorem dX11_taken_17 : decode cX11_taken 17 = .ok (.bipush 10, 2) := by decide +kernel
theorem dX11_taken_19 : decode cX11_taken 19 = .ok (.bipush 14, 2) := by decide +kernel
theorem dX11_taken_21 : decode cX11_taken 21 = .ok (.invokestatic 74, 3) := by decide +kernel
theorem dX11_taken_24 : decode cX11_taken 24 = .ok (.ifCond .ne 5, 3) := by decide +kernel
theorem dX11_taken_27 : decode cX11_taken 27 = .ok (.iconst (-1), 1) := by decide +kernel
theorem dX11_taken_28 : decode cX11_taken 28 = .ok (.ireturn, 1) := by decide +kernel
theorem dX11_taken_29 : decode cX11_taken 29 = .ok (.aload_n 0, 1) := by decide +kernel
theorem dX11_taken_30 : decode cX11_taken 30 = .ok (.getfield 23, 3) := by decide +kernel
theorem dX11_taken_33 : decode cX11_taken 33 = .ok (.getfield 311, 3) := by decide +kernel
theorem dX11_taken_36 : decode cX11_taken 36 = .ok (.iload_n 1, 1) := by decide +kernel
theorem dX11_taken_37 : decode cX11_taken 37 = .ok (.iaload, 1) := by decide +kernel
theorem dX11_taken_38 : decode cX11_taken 38 = .ok (.iconst 1, 1) := by decide +kernel
theorem dX11_taken_39 : decode cX11_taken 39 = .ok (.if_icmp .ne 34, 3) := by decide +kernel
theorem dX11_taken_42 : decode cX11_taken 42 = .ok (.iload_n 2, 1) := by decide +kernel
theorem dX11_taken_43 : decode cX11_taken 43 = .ok (.bipush 10, 2) := by decide +kernel
theorem dX11_taken_45 : decode cX11_taken 45 = .ok (.isub, 1) := by decide +kernel
theorem dX11_taken_46 : decode cX11_taken 46 = .ok (.aload_n 0, 1) := by decide +kernel
theorem dX11_taken_47 : decode cX11_taken 47 = .ok (.getfield 23, 3) := by decide +kernel
theorem dX11_taken_50 : decode cX11_taken 50 = .ok (.getfield 314, 3) := by decide +kernel
theorem dX11_taken_53 : decode cX11_taken 53 = .ok (.iload_n 1, 1) := by decide +kernel
theorem dX11_taken_54 : decode cX11_taken 54 = .ok (.iaload, 1) := by decide +kernel
theorem dX11_taken_55 : decode cX11_taken 55 = .ok (.if_icmp .ne 15, 3) := by decide +kernel
theorem dX11_taken_58 : decode cX11_taken 58 = .ok (.aload_n 0, 1) := by decide +kernel
theorem dX11_taken_59 : decode cX11_taken 59 = .ok (.getfield 23, 3) := by decide +kernel
theorem dX11_taken_62 : decode cX11_taken 62 = .ok (.getfield 317, 3) := by decide +kernel
theorem dX11_taken_65 : decode cX11_taken 65 = .ok (.iload_n 1, 1) := by decide +kernel
theorem dX11_taken_66 : decode cX11_taken 66 = .ok (.iaload, 1) := by decide +kernel
theorem dX11_taken_67 : decode cX11_taken 67 = .ok (.goto 5, 3) := by decide +kernel
theorem dX11_taken_70 : decode cX11_taken 70 = .ok (.bipush (-13), 2) := by decide +kernel
theorem dX11_taken_72 : decode cX11_taken 72 = .ok (.ireturn, 1) := by decide +kernel
theorem dX11_taken_73 : decode cX11_taken 73 = .ok (.aload_n 0, 1) := by decide +kernel
theorem dX11_taken_74 : decode cX11_taken 74 = .ok (.iload_n 1, 1) := by decide +kernel
theorem dX11_taken_75 : decode cX11_taken 75 = .ok (.invokevirtual 320, 3) := by decide +kernel
theorem dX11_taken_78 : decode cX11_taken 78 = .ok (.ifCond .ne 6, 3) := by decide +kernel
theorem dX11_taken_81 : decode cX11_taken 81 = .ok (.bipush (-11), 2) := by decide +kernel
theorem dX11_taken_83 : decode cX11_taken 83 = .ok (.ireturn, 1) := by decide +kernel
theorem dX11_taken_84 : decode cX11_taken 84 = .ok (.aload_n 0, 1) := by decide +kernel
theorem dX11_taken_85 : decode cX11_taken 85 = .ok (.getfield 23, 3) := by decide +kernel
theorem dX11_taken_88 : decode cX11_taken 88 = .ok (.getfield 314, 3) := by decide +kernel
theorem dX11_taken_91 : decode cX11_taken 91 = .ok (.iload_n 1, 1) := by decide +kernel
theorem dX11_taken_92 : decode cX11_taken 92 = .ok (.iaload, 1) := by decide +kernel
theorem dX11_taken_93 : decode cX11_taken 93 = .ok (.istore_n 3, 1) := by decide +kernel
theorem dX11_taken_94 : decode cX11_taken 94 = .ok (.iload_n 2, 1) := by decide +kernel
theorem dX11_taken_95 : decode cX11_taken 95 = .ok (.iconst 5, 1) := by decide +kernel
theorem dX11_taken_96 : decode cX11_taken 96 = .ok (.if_icmp .gt 25, 3) := by decide +kernel
theorem dX11_taken_99 : decode cX11_taken 99 = .ok (.aload_n 0, 1) := by decide +kernel
theorem dX11_taken_100 : decode cX11_taken 100 = .ok (.getfield 55, 3) := by decide +kernel
theorem dX11_taken_103 : decode cX11_taken 103 = .ok (.getfield 93, 3) := by decide +kernel
theorem dX11_taken_106 : decode cX11_taken 106 = .ok (.iload_n 3, 1) := by decide +kernel
theorem dX11_taken_107 : decode cX11_taken 107 = .ok (.aaload, 1) := by decide +kernel
theorem dX11_taken_108 : decode cX11_taken 108 = .ok (.iconst 0, 1) := by decide +kernel
theorem dX11_taken_109 : decode cX11_taken 109 = .ok (.iaload, 1) := by decide +kernel
theorem dX11_taken_110 : decode cX11_taken 110 = .ok (.iload_n 2, 1) := by decide +kernel
theorem dX11_taken_111 : decode cX11_taken 111 = .ok (.invokestatic 323, 3) := by decide +kernel
theorem dX11_taken_114 : decode cX11_taken 114 = .ok (.ifCond .eq 7, 3) := by decide +kernel
theorem dX11_taken_117 : decode cX11_taken 117 = .ok (.iload_n 3, 1) := by decide +kernel
theorem dX11_taken_118 : decode cX11_taken 118 = .ok (.goto 5, 3) := by decide +kernel
theorem dX11_taken_121 : decode cX11_taken 121 = .ok (.bipush (-13), 2) := by decide +kernel
theorem dX11_taken_123 : decode cX11_taken 123 = .ok (.ireturn, 1) := by decide +kernel
theorem k_X11_taken : MV yX11_taken cX11_taken 4 (some .int) 2 := ⟨q_972, q_973, q_1, q_974, ⟨by decide, by decide, by decide +kernel⟩⟩
theorem c_X11_taken {v1 : Int32} {v2 : Int32} {res : Int32} (hf : X11_taken x_q0_dials x_q0_count x_h_held x_h_things x_h_sizes v1 v2 = some res) : MC l E0 D t yX11_taken cX11_taken 4 (some .int) 3 0 0 [.ref (a 0), .int v1, .int v2] (cW a ar t x_q0_dials x_q0_spots x_q0_skies x_q0_reports x_q0_count x_q0_chime x_q0_end x_q0_score x_q0_reportCount x_q0_z x_q0_rules x_q0_shades x_q0_facts x_q1_dials x_q1_spots x_q1_skies x_q1_reports x_q1_count x_q1_chime x_q1_end x_q1_score x_q1_reportCount x_q1_z x_q1_rules x_q1_shades x_q1_facts x_q2_dials x_q2_spots x_q2_skies x_q2_reports x_q2_count x_q2_chime x_q2_end x_q2_score x_q2_reportCount x_q2_z x_q2_rules x_q2_shades x_q2_facts x_isKept x_marks x_p_first x_p_steps x_p_most x_p_many x_p_fewest x_p_everRight x_p_opening x_p_rows x_p_rowCount x_p_acts x_p_marks x_p_deepest x_p_wanted x_t_length x_t_tape x_t_words x_t_places x_t_at x_t_kinds x_t_wills x_t_starts x_t_code x_t_count x_t_size x_h_sorts x_h_lengths x_h_items x_h_held x_h_things x_h_sizes x_h_bodies x_h_traced x_h_number x_h_spot x_h_parted x_g_count x_g_kinds x_g_wills x_g_starts x_g_code x_g_stack x_g_kl x_g_wl x_g_sl x_g_cl x_nr) (Qi res (cW a ar t x_q0_dials x_q0_spots x_q0_skies x_q0_reports x_q0_count x_q0_chime x_q0_end x_q0_score x_q0_reportCount x_q0_z x_q0_rules x_q0_shades x_q0_facts x_q1_dials x_q1_spots x_q1_skies x_q1_reports x_q1_count x_q1_chime x_q1_end x_q1_score x_q1_reportCount x_q1_z x_q1_rules x_q1_shades x_q1_facts x_q2_dials x_q2_spots x_q2_skies x_q2_reports x_q2_count x_q2_chime x_q2_end x_q2_score x_q2_reportCount x_q2_z x_q2_rules x_q2_shades x_q2_facts x_isKept x_marks x_p_first x_p_steps x_p_most x_p_many x_p_fewest x_p_everRight x_p_opening x_p_rows x_p_rowCount x_p_acts x_p_marks x_p_deepest x_p_wanted x_t_length x_t_tape x_t_words x_t_places x_t_at x_t_kinds x_t_wills x_t_starts x_t_code x_t_count x_t_size x_h_sorts x_h_lengths x_h_items x_h_held x_h_things x_h_sizes x_h_bodies x_h_traced x_h_number x_h_spot x_h_parted x_g_count x_g_kinds x_g_wills x_g_starts x_g_code x_g_stack x_g_kl x_g_wl x_g_sl x_g_cl x_nr)) := by
  unfold X11_taken at hf
  refine MC.ofI pn_X11 (Nat.le_of_ble_eq_true rfl) ?_
  intro p e s m args below meth c A Q ls cx hR hw hl
  have hx := cx.1
  have hb := cx.2.1
  have hl : lv_has ls 4 [(0, .ref (a 0)), (1, .int v1), (2, .int v2)] := hl
  refine lv_iload_n hx hb dX11_taken_0 rfl (lv_at hl 1 rfl) ?_
  refine calSi cx hw hl.1 (c_X11_isSheet rfl) q_926 k_X11_isSheet rfl dX11_taken_1 rfl (Nat.le_of_ble_eq_true rfl) ⟨Nat.le_of_ble_eq_true rfl, Nat.le_of_ble_eq_true rfl⟩ ⟨Nat.le_refl _, Nat.le_refl _⟩ (fun H locs hw => ?_)
  refine lv_if_eq (tgt := 27) hx hb dX11_taken_4 (by decide) (fun hc => ?_) (fun hc => ?_)
  · have hf := ifT hf hc
    refine lv_iconst (v := (-1)) hx hb dX11_taken_27 (by decide) ?_
    have hf := Option.some.inj hf
    subst hf
    exact hR _ _ _ _ _ _ hw rfl ⟨rfl, rfl⟩ dX11_taken_28
  · have hf := ifF hf hc
    refine lv_iload_n hx hb dX11_taken_7 rfl (lv_at hl 2 rfl) ?_
    refine lv_iconst (v := 0) hx hb dX11_taken_8 (by decide) ?_
    refine lv_iconst (v := 5) hx hb dX11_taken_9 (by decide) ?_
    refine calSi cx hw hl.1 (c_X11_isIn rfl) q_350 k_X11_isIn rfl dX11_taken_10 rfl (Nat.le_of_ble_eq_true rfl) ⟨Nat.le_of_ble_eq_true rfl, Nat.le_of_ble_eq_true rfl⟩ ⟨Nat.le_refl _, Nat.le_refl _⟩ (fun H locs hw => ?_)
    obtain ⟨J1, hJ1, hf⟩ := jnS hf
    have wj1 : ∀ (j1 : Unit) (H : Heap) (locs : List Loc) (ls : Array Slot), J1 j1 = some res → Wd D A s (cW a ar t x_q0_dials x_q0_spots x_q0_skies x_q0_reports x_q0_count x_q0_chime x_q0_end x_q0_score x_q0_reportCount x_q0_z x_q0_rules x_q0_shades x_q0_facts x_q1_dials x_q1_spots x_q1_skies x_q1_reports x_q1_count x_q1_chime x_q1_end x_q1_score x_q1_reportCount x_q1_z x_q1_rules x_q1_shades x_q1_facts x_q2_dials x_q2_spots x_q2_skies x_q2_reports x_q2_count x_q2_chime x_q2_end x_q2_score x_q2_reportCount x_q2_z x_q2_rules x_q2_shades x_q2_facts x_isKept x_marks x_p_first x_p_steps x_p_most x_p_many x_p_fewest x_p_everRight x_p_opening x_p_rows x_p_rowCount x_p_acts x_p_marks x_p_deepest x_p_wanted x_t_length x_t_tape x_t_words x_t_places x_t_at x_t_kinds x_t_wills x_t_starts x_t_code x_t_count x_t_size x_h_sorts x_h_lengths x_h_items x_h_held x_h_things x_h_sizes x_h_bodies x_h_traced x_h_number x_h_spot x_h_parted x_g_count x_g_kinds x_g_wills x_g_starts x_g_code x_g_stack x_g_kl x_g_wl x_g_sl x_g_cl x_nr) H locs → lv_has ls 4 [(0, .ref (a 0)), (1, .int v1), (2, .int v2)] → W p l e (rmz 3 0 0) s m args below meth c H locs 0 0 Q (F0 m 29 ls []) := by
      intro j1 H locs ls hf hw hl
      have hf := hJ1 _ hf
      refine lv_aload_n hx hb dX11_taken_29 rfl (lv_at hl 0 rfl) ?_
      refine cg_X11_23_ds cx hw dX11_taken_30 ?_
      refine cg_X11_311_host cx hw dX11_taken_33 ?_
      refine lv_iload_n hx hb dX11_taken_36 rfl (lv_at hl 1 rfl) ?_
      obtain ⟨h2, hf⟩ := ckS hf
      refine cl_h_held (j := v1.toNatClampNeg) cx hw (ib_in h2) rfl dX11_taken_37 ?_
      refine lv_iconst (v := 1) hx hb dX11_taken_38 (by decide) ?_
      refine lv_icmp_ne (tgt := 73) hx hb dX11_taken_39 (by decide) (fun hc => ?_) (fun hc => ?_)
      · have hf := ifF hf hc
        refine lv_aload_n hx hb dX11_taken_73 rfl (lv_at hl 0 rfl) ?_
        refine lv_iload_n hx hb dX11_taken_74 rfl (lv_at hl 1 rfl) ?_
        obtain ⟨r5, h6, hf⟩ := bnS hf
        refine calVi cx hw hl.1 (c_X11_holdsDial h6) q_975 k_X11_holdsDial rfl rv_ds rfl dX11_taken_75 rfl (Nat.le_of_ble_eq_true rfl) ⟨Nat.le_of_ble_eq_true rfl, Nat.le_of_ble_eq_true rfl⟩ ⟨Nat.le_refl _, Nat.le_refl _⟩ (fun H locs hw => ?_)
        refine lv_if_ne (tgt := 84) hx hb dX11_taken_78 (by decide) (fun hc => ?_) (fun hc => ?_)
        · have hf := ifF hf hc
          refine lv_aload_n hx hb dX11_taken_84 rfl (lv_at hl 0 rfl) ?_
          refine cg_X11_23_ds cx hw dX11_taken_85 ?_
          refine cg_X11_314_host cx hw dX11_taken_88 ?_
          refine lv_iload_n hx hb dX11_taken_91 rfl (lv_at hl 1 rfl) ?_
          obtain ⟨h7, hf⟩ := ckS hf
          refine cl_h_things (j := v1.toNatClampNeg) cx hw (ib_in h7) rfl dX11_taken_92 ?_
          refine lv_istore_n (lv' := [(3, .int (x_h_things v1.toNatClampNeg)), (0, .ref (a 0)), (1, .int v1), (2, .int v2)]) hx hb dX11_taken_93 rfl hl (by decide) rfl (fun ls hl => ?_)
          refine lv_iload_n hx hb dX11_taken_94 rfl (lv_at hl 3 rfl) ?_
          refine lv_iconst (v := 5) hx hb dX11_taken_95 (by decide) ?_
          refine lv_icmp_gt (tgt := 121) hx hb dX11_taken_96 (by decide) (fun hc => ?_) (fun hc => ?_)
          · have hf := ifT hf hc
            refine lv_bipush (v := (-13)) hx hb dX11_taken_121 (by decide) ?_
            have hf := Option.some.inj hf
            subst hf
            exact hR _ _ _ _ _ _ hw rfl ⟨rfl, rfl⟩ dX11_taken_123
          · have hf := ifF hf hc
            refine lv_aload_n hx hb dX11_taken_99 rfl (lv_at hl 1 rfl) ?_
            refine cg_X11_55_ds cx hw dX11_taken_100 ?_
            refine cg_X11_93_q0 cx hw dX11_taken_103 ?_
            refine lv_iload_n hx hb dX11_taken_106 rfl (lv_at hl 0 rfl) ?_
            obtain ⟨h8, hf⟩ := ckS hf
            refine co_q0_dials (j := (x_h_things v1.toNatClampNeg).toNatClampNeg) cx hw (ib_in h8) rfl dX11_taken_107 ?_
            refine lv_iconst (v := 0) hx hb dX11_taken_108 (by decide) ?_
            refine cm_q0_dials (j := 0) cx hw (ib_lt h8) (ib_in (by decide)) (by decide) dX11_taken_109 ?_
            refine lv_iload_n hx hb dX11_taken_110 rfl (lv_at hl 3 rfl) ?_
            obtain ⟨r9, h10, hf⟩ := bnS hf
            refine calSi cx hw hl.1 (c_X11_isUnder h10) q_979 k_X11_isUnder rfl dX11_taken_111 rfl (Nat.le_of_ble_eq_true rfl) ⟨Nat.le_of_ble_eq_true rfl, Nat.le_of_ble_eq_true rfl⟩ ⟨Nat.le_refl _, Nat.le_refl _⟩ (fun H locs hw => ?_)
            refine lv_if_eq (tgt := 121) hx hb dX11_taken_114 (by decide) (fun hc => ?_) (fun hc => ?_)
            · have hf := ifT hf hc
              refine lv_bipush (v := (-13)) hx hb dX11_taken_121 (by decide) ?_
              have hf := Option.some.inj hf
              subst hf
              exact hR _ _ _ _ _ _ hw rfl ⟨rfl, rfl⟩ dX11_taken_123
            · have hf := ifF hf hc
              refine lv_iload_n hx hb dX11_taken_117 rfl (lv_at hl 0 rfl) ?_
              refine lv_goto (tgt := 123) hx hb dX11_taken_118 (by decide) ?_
              have hf := Option.some.inj hf
              subst hf
              exact hR _ _ _ _ _ _ hw rfl ⟨rfl, rfl⟩ dX11_taken_123
        · have hf := ifT hf hc
          refine lv_bipush (v := (-11)) hx hb dX11_taken_81 (by decide) ?_
          have hf := Option.some.inj hf
          subst hf
          exact hR _ _ _ _ _ _ hw rfl ⟨rfl, rfl⟩ dX11_taken_83
      · have hf := ifT hf hc
        refine lv_iload_n hx hb dX11_taken_42 rfl (lv_at hl 2 rfl) ?_
        refine lv_bipush (v := 10) hx hb dX11_taken_43 (by decide) ?_
        refine lv_isub hx hb dX11_taken_45 ?_
        refine lv_aload_n hx hb dX11_taken_46 rfl (lv_at hl 0 rfl) ?_
        refine cg_X11_23_ds cx hw dX11_taken_47 ?_
        refine cg_X11_314_host cx hw dX11_taken_50 ?_
        refine lv_iload_n hx hb dX11_taken_53 rfl (lv_at hl 1 rfl) ?_
        obtain ⟨h3, hf⟩ := ckS hf
        refine cl_h_things (j := v1.toNatClampNeg) cx hw (ib_in h3) rfl dX11_taken_54 ?_
        refine lv_icmp_ne (tgt := 70) hx hb dX11_taken_55 (by decide) (fun hc => ?_) (fun hc => ?_)
        · have hf := ifF hf hc
          refine lv_bipush (v := (-13)) hx hb dX11_taken_70 (by decide) ?_
          have hf := Option.some.inj hf
          subst hf
          exact hR _ _ _ _ _ _ hw rfl ⟨rfl, rfl⟩ dX11_taken_72
        · have hf := ifT hf hc
          refine lv_aload_n hx hb dX11_taken_58 rfl (lv_at hl 0 rfl) ?_
          refine cg_X11_23_ds cx hw dX11_taken_59 ?_
          refine cg_X11_317_host cx hw dX11_taken_62 ?_
          refine lv_iload_n hx hb dX11_taken_65 rfl (lv_at hl 1 rfl) ?_
          obtain ⟨h4, hf⟩ := ckS hf
          refine cl_h_sizes (j := v1.toNatClampNeg) cx hw (ib_in h4) rfl dX11_taken_66 ?_
          refine lv_goto (tgt := 72) hx hb dX11_taken_67 (by decide) ?_
          have hf := Option.some.inj hf
          subst hf
          exact hR _ _ _ _ _ _ hw rfl ⟨rfl, rfl⟩ dX11_taken_72
    clear hJ1
    refine lv_if_ne (tgt := 29) hx hb dX11_taken_13 (by decide) (fun hc => ?_) (fun hc => ?_)
    · have hf := ifF hf hc
      exact wj1 _ _ _ _ hf hw (lv_sub hl [0, 1, 2] rfl)
    · have hf := ifT hf hc
      refine lv_iload_n hx hb dX11_taken_16 rfl (lv_at hl 2 rfl) ?_
      refine lv_bipush (v := 10) hx hb dX11_taken_17 (by decide) ?_
      refine lv_bipush (v := 14) hx hb dX11_taken_19 (by decide) ?_
      refine calSi cx hw hl.1 (c_X11_isIn rfl) q_350 k_X11_isIn rfl dX11_taken_21 rfl (Nat.le_of_ble_eq_true rfl) ⟨Nat.le_of_ble_eq_true rfl, Nat.le_of_ble_eq_true rfl⟩ ⟨Nat.le_refl _, Nat.le_refl _⟩ (fun H locs hw => ?_)
      refine lv_if_ne (tgt := 29) hx hb dX11_taken_24 (by decide) (fun hc => ?_) (fun hc => ?_)
      · have hf := ifF hf hc
        exact wj1 _ _ _ _ hf hw (lv_sub hl [0, 1, 2] rfl)
      · have hf := ifT hf hc
        refine lv_iconst (v := (-1)) hx hb dX11_taken_27 (by decide) ?_
        have hf := Option.some.inj hf
        subst hf
        exact hR _ _ _ _ _ _ hw rfl ⟨rfl, rfl⟩ dX11_taken_28
theorem dX2_clearTrace_0 : decode cX2_clearTrace 0 = .ok (.aload_n 0, 1) := by decide +kernel
theorem dX2_clearTrace_1 : decode cX2_clearTrace 1 = .ok (.iconst 0, 1) := by decide +kernel
theorem dX2_clearTrace_2 : decode cX2_clearTrace 2 = .ok (.putfield 41, 3) := by decide +kernel
theorem dX2_clearTrace_5 : decode cX2_clearTrace 5 = .ok (.aload_n 0, 1) := by decide +kernel
theorem dX2_clearTrace_6 : decode cX2_clearTrace 6 = .ok (.iconst 0, 1) := by decide +kernel
theorem dX2_clearTrace_7 : decode cX2_clearTrace 7 = .ok (.putfield 45, 3) := by decide +kernel
theorem dX2_clearTrace_10 : decode cX2_clearTrace 10 = .ok (.return_, 1) := by decide +kernel
theorem k_X2_clearTrace : MV yX2_clearTrace cX2_clearTrace 1 none 0 := ⟨q_985, q_986, q_3, q_987, ⟨by decide, by decide, by decide +kernel⟩⟩
theorem c_X2_clearTrace {res : Int32 × Int32} (hf : X2_clearTrace = res) : MC l E0 D t yX2_clearTrace cX2_clearTrace 1 none 1 0 0 [.ref (a 105)] (cW a ar t x_q0_dials x_q0_spots x_q0_skies x_q0_reports x_q0_count x_q0_chime x_q0_end x_q0_score x_q0_reportCount x_q0_z x_q0_rules x_q0_shades x_q0_facts x_q1_dials x_q1_spots x_q1_skies x_q1_reports x_q1_count x_q1_chime x_q1_end x_q1_score x_q1_reportCount x_q1_z x_q1_rules x_q1_shades x_q1_facts x_q2_dials x_q2_spots x_q2_skies x_q2_reports x_q2_count x_q2_chime x_q2_end x_q2_score x_q2_reportCount x_q2_z x_q2_rules x_q2_shades x_q2_facts x_isKept x_marks x_p_first x_p_steps x_p_most x_p_many x_p_fewest x_p_everRight x_p_opening x_p_rows x_p_rowCount x_p_acts x_p_marks x_p_deepest x_p_wanted x_t_length x_t_tape x_t_words x_t_places x_t_at x_t_kinds x_t_wills x_t_starts x_t_code x_t_count x_t_size x_h_sorts x_h_lengths x_h_items x_h_held x_h_things x_h_sizes x_h_bodies x_h_traced x_h_number x_h_spot x_h_parted x_g_count x_g_kinds x_g_wills x_g_starts x_g_code x_g_stack x_g_kl x_g_wl x_g_sl x_g_cl x_nr) (Qn (cW a ar t x_q0_dials x_q0_spots x_q0_skies x_q0_reports x_q0_count x_q0_chime x_q0_end x_q0_score x_q0_reportCount x_q0_z x_q0_rules x_q0_shades x_q0_facts x_q1_dials x_q1_spots x_q1_skies x_q1_reports x_q1_count x_q1_chime x_q1_end x_q1_score x_q1_reportCount x_q1_z x_q1_rules x_q1_shades x_q1_facts x_q2_dials x_q2_spots x_q2_skies x_q2_reports x_q2_count x_q2_chime x_q2_end x_q2_score x_q2_reportCount x_q2_z x_q2_rules x_q2_shades x_q2_facts x_isKept x_marks x_p_first x_p_steps x_p_most x_p_many x_p_fewest x_p_everRight x_p_opening x_p_rows x_p_rowCount x_p_acts x_p_marks x_p_deepest x_p_wanted x_t_length x_t_tape x_t_words x_t_places x_t_at x_t_kinds x_t_wills x_t_starts x_t_code x_t_count x_t_size x_h_sorts x_h_lengths x_h_items x_h_held x_h_things x_h_sizes x_h_bodies res.1 x_h_number x_h_spot res.2 x_g_count x_g_kinds x_g_wills x_g_starts x_g_code x_g_stack x_g_kl x_g_wl x_g_sl x_g_cl x_nr)) := by
  unfold X2_clearTrace at hf
  refine MC.ofV pn_X2 (Nat.le_of_ble_eq_true rfl) ?_
  intro p e s m args below meth c A Q ls cx hR hw hl
  have hx := cx.1
  have hb := cx.2.1
  have hl : lv_has ls 1 [(0, .ref (a 105))] := hl
  refine lv_aload_n hx hb dX2_clearTrace_0 rfl (lv_at hl 0 rfl) ?_
  refine lv_iconst (v := 0) hx hb dX2_clearTrace_1 (by decide) ?_
  refine cp_X2_41_host cx hw dX2_clearTrace_2 (fun H locs hw => ?_)
  refine lv_aload_n hx hb dX2_clearTrace_5 rfl (lv_at hl 0 rfl) ?_
  refine lv_iconst (v := 0) hx hb dX2_clearTrace_6 (by decide) ?_
  refine cp_X2_45_host cx hw (by decide) dX2_clearTrace_7 (fun H locs hw => ?_)
  subst hf
  exact hR _ _ _ _ _ hw ⟨rfl, rfl⟩ dX2_clearTrace_10
theorem dX2_begin_0 : decode cX2_begin 0 = .ok (.aload_n 0, 1) := by decide +kernel
theorem dX2_begin_1 : decode cX2_begin 1 = .ok (.getfield 45, 3) := by decide +kernel
theorem dX2_begin_4 : decode cX2_begin 4 = .ok (.ifCond .ne 12, 3) := by decide +kernel
theorem dX2_begin_7 : decode cX2_begin 7 = .ok (.aload_n 0, 1) := by decide +kernel
theorem dX2_begin_8 : decode cX2_begin 8 = .ok (.getfield 41, 3) := by decide +kernel
theorem dX2_begin_11 : decode cX2_begin 11 = .ok (.bipush 30, 2) := by decide +kernel
theorem dX2_begin_13 : decode cX2_begin 13 = .ok (.if_icmp .lt 4, 3) := by decide +kernel
theorem dX2_begin_16 : decode cX2_begin 16 = .ok (.return_, 1) := by decide +kernel
theorem dX2_begin_17 : decode cX2_begin 17 = .ok (.aload_n 0, 1) := by decide +kernel
theorem dX2_begin_18 : decode cX2_begin 18 = .ok (.getfield 32, 3) := by decide +kernel
theorem dX2_begin_21 : decode cX2_begin 21 = .ok (.aload_n 0, 1) := by decide +kernel
theorem dX2_begin_22 : decode cX2_begin 22 = .ok (.getfield 41, 3) := by decide +kernel
theorem dX2_begin_25 : decode cX2_begin 25 = .ok (.iload_n 1, 1) := by decide +kernel
theorem dX2_begin_26 : decode cX2_begin 26 = .ok (.iastore, 1) := by decide +kernel
theorem dX2_begin_27 : decode cX2_begin 27 = .ok (.aload_n 0, 1) := by decide +kernel
theorem dX2_begin_28 : decode cX2_begin 28 = .ok (.dup, 1) := by decide +kernel
theorem dX2_begin_29 : decode cX2_begin 29 = .ok (.getfield 41, 3) := by decide +kernel
theorem dX2_begin_32 : decode cX2_begin 32 = .ok (.iconst 1, 1) := by decide +kernel
theorem dX2_begin_33 : decode cX2_begin 33 = .ok (.iadd, 1) := by decide +kernel
theorem dX2_begin_34 : decode cX2_begin 34 = .ok (.putfield 41, 3) := by decide +kernel
theorem dX2_begin_37 : decode cX2_begin 37 = .ok (.return_, 1) := by decide +kernel
theorem k_X2_begin : MV yX2_begin cX2_begin 2 none 1 := ⟨q_997, q_998, q_3, q_999, ⟨by decide, by decide, by decide +kernel⟩⟩
theorem c_X2_begin {v1 : Int32} {res : (Nat → Int32) × Int32} (hf : X2_begin x_h_bodies x_h_traced x_h_parted v1 = some res) : MC l E0 D t yX2_begin cX2_begin 2 none 1 0 0 [.ref (a 105), .int v1] (cW a ar t x_q0_dials x_q0_spots x_q0_skies x_q0_reports x_q0_count x_q0_chime x_q0_end x_q0_score x_q0_reportCount x_q0_z x_q0_rules x_q0_shades x_q0_facts x_q1_dials x_q1_spots x_q1_skies x_q1_reports x_q1_count x_q1_chime x_q1_end x_q1_score x_q1_reportCount x_q1_z x_q1_rules x_q1_shades x_q1_facts x_q2_dials x_q2_spots x_q2_skies x_q2_reports x_q2_count x_q2_chime x_q2_end x_q2_score x_q2_reportCount x_q2_z x_q2_rules x_q2_shades x_q2_facts x_isKept x_marks x_p_first x_p_steps x_p_most x_p_many x_p_fewest x_p_everRight x_p_opening x_p_rows x_p_rowCount x_p_acts x_p_marks x_p_deepest x_p_wanted x_t_length x_t_tape x_t_words x_t_places x_t_at x_t_kinds x_t_wills x_t_starts x_t_code x_t_count x_t_size x_h_sorts x_h_lengths x_h_items x_h_held x_h_things x_h_sizes x_h_bodies x_h_traced x_h_number x_h_spot x_h_parted x_g_count x_g_kinds x_g_wills x_g_starts x_g_code x_g_stack x_g_kl x_g_wl x_g_sl x_g_cl x_nr) (Qn (cW a ar t x_q0_dials x_q0_spots x_q0_skies x_q0_reports x_q0_count x_q0_chime x_q0_end x_q0_score x_q0_reportCount x_q0_z x_q0_rules x_q0_shades x_q0_facts x_q1_dials x_q1_spots x_q1_skies x_q1_reports x_q1_count x_q1_chime x_q1_end x_q1_score x_q1_reportCount x_q1_z x_q1_rules x_q1_shades x_q1_facts x_q2_dials x_q2_spots x_q2_skies x_q2_reports x_q2_count x_q2_chime x_q2_end x_q2_score x_q2_reportCount x_q2_z x_q2_rules x_q2_shades x_q2_facts x_isKept x_marks x_p_first x_p_steps x_p_most x_p_many x_p_fewest x_p_everRight x_p_opening x_p_rows x_p_rowCount x_p_acts x_p_marks x_p_deepest x_p_wanted x_t_length x_t_tape x_t_words x_t_places x_t_at x_t_kinds x_t_wills x_t_starts x_t_code x_t_count x_t_size x_h_sorts x_h_lengths x_h_items x_h_held x_h_things x_h_sizes res.1 res.2 x_h_number x_h_spot x_h_parted x_g_count x_g_kinds x_g_wills x_g_starts x_g_code x_g_stack x_g_kl x_g_wl x_g_sl x_g_cl x_nr)) := by
  unfold X2_begin at hf
  refine MC.ofV pn_X2 (Nat.le_of_ble_eq_true rfl) ?_
  intro p e s m args below meth c A Q ls cx hR hw hl
  have hx := cx.1
  have hb := cx.2.1
  have hl : lv_has ls 2 [(0, .ref (a 105)), (1, .int v1)] := hl
  refine lv_aload_n hx hb dX2_begin_0 rfl (lv_at hl 0 rfl) ?_
  refine cg_X2_45_host cx hw dX2_begin_1 ?_
  refine lv_if_ne (tgt := 16) hx hb dX2_begin_4 (by decide) (fun hc => ?_) (fun hc => ?_)
  · have hf := ifF hf hc
    have hf := Option.some.inj hf
    subst hf
    exact hR _ _ _ _ _ hw ⟨rfl, rfl⟩ dX2_begin_16
  · have hf := ifT hf hc
    refine lv_aload_n hx hb dX2_begin_7 rfl (lv_at hl 0 rfl) ?_
    refine cg_X2_41_host cx hw dX2_begin_8 ?_
    refine lv_bipush (v := 30) hx hb dX2_begin_11 (by decide) ?_
    refine lv_icmp_lt (tgt := 17) hx hb dX2_begin_13 (by decide) (fun hc => ?_) (fun hc => ?_)
    · have hf := ifT hf hc
      refine lv_aload_n hx hb dX2_begin_17 rfl (lv_at hl 0 rfl) ?_
      refine cg_X2_32_host cx hw dX2_begin_18 ?_
      refine lv_aload_n hx hb dX2_begin_21 rfl (lv_at hl 0 rfl) ?_
      refine cg_X2_41_host cx hw dX2_begin_22 ?_
      refine lv_iload_n hx hb dX2_begin_25 rfl (lv_at hl 1 rfl) ?_
      obtain ⟨h1, hf⟩ := ckS hf
      refine cs_h_bodies (j := x_h_traced.toNatClampNeg) cx hw (ib_in h1) rfl dX2_begin_26 (fun H locs hw => ?_)
      refine lv_aload_n hx hb dX2_begin_27 rfl (lv_at hl 0 rfl) ?_
      refine lv_dup hx hb dX2_begin_28 rfl ?_
      refine cg_X2_41_host cx hw dX2_begin_29 ?_
      refine lv_iconst (v := 1) hx hb dX2_begin_32 (by decide) ?_
      refine lv_iadd hx hb dX2_begin_33 ?_
      refine cp_X2_41_host cx hw dX2_begin_34 (fun H locs hw => ?_)
      have hf := Option.some.inj hf
      subst hf
      exact hR _ _ _ _ _ hw ⟨rfl, rfl⟩ dX2_begin_37
    · have hf := ifF hf hc
      have hf := Option.some.inj hf
      subst hf
      exact hR _ _ _ _ _ hw ⟨rfl, rfl⟩ dX2_begin_16
theorem dX0_points_0 : decode cX0_points 0 = .ok (.aload_n 1, 1) := by decide +kernel
theorem dX0_points_1 : decode cX0_points 1 = .ok (.bipush 10, 2) := by decide +kernel
theorem dX0_points_3 : decode cX0_points 3 = .ok (.invokevirtual 7, 3) := by decide +kernel
theorem dX0_points_6 : decode cX0_points 6 = .ok (.iload_n 2, 1) := by decide +kernel
theorem dX0_points_7 : decode cX0_points 7 = .ok (.iconst 4, 1) := by decide +kernel
theorem dX0_points_8 : decode cX0_points 8 = .ok (.imul, 1) := by decide +kernel
theorem dX0_points_9 : decode cX0_points 9 = .ok (.aload_n 1, 1) := by decide +kernel
theorem dX0_points_10 : decode cX0_points 10 = .ok (.getfield 13, 3) := by decide +kernel
theorem dX0_points_13 : decode cX0_points 13 = .ok (.isub, 1) := by decide +kernel
theorem dX0_points_14 : decode cX0_points 14 = .ok (.ireturn, 1) := by decide +kernel
theorem k_X0_points : MV yX0_points cX0_points 3 (some .int) 2 := ⟨q_990, q_991, q_4, q_1011, ⟨by decide, by decide, by decide +kernel⟩⟩
theorem c_X0_points_k0 {v2 : Int32} {res : Int32 × (Nat → Int32) × Int32} (hf : X0_points_k0 x_h_bodies x_h_traced x_h_number x_h_parted v2 = some res) : MC l E0 D t yX0_points cX0_points 3 (some .int) 2 0 0 [.ref (a (78 + 0)), .ref (a 105), .int v2] (cW a ar t x_q0_dials x_q0_spots x_q0_skies x_q0_reports x_q0_count x_q0_chime x_q0_end x_q0_score x_q0_reportCount x_q0_z x_q0_rules x_q0_shades x_q0_facts x_q1_dials x_q1_spots x_q1_skies x_q1_reports x_q1_count x_q1_chime x_q1_end x_q1_score x_q1_reportCount x_q1_z x_q1_rules x_q1_shades x_q1_facts x_q2_dials x_q2_spots x_q2_skies x_q2_reports x_q2_count x_q2_chime x_q2_end x_q2_score x_q2_reportCount x_q2_z x_q2_rules x_q2_shades x_q2_facts x_isKept x_marks x_p_first x_p_steps x_p_most x_p_many x_p_fewest x_p_everRight x_p_opening x_p_rows x_p_rowCount x_p_acts x_p_marks x_p_deepest x_p_wanted x_t_length x_t_tape x_t_words x_t_places x_t_at x_t_kinds x_t_wills x_t_starts x_t_code x_t_count x_t_size x_h_sorts x_h_lengths x_h_items x_h_held x_h_things x_h_sizes x_h_bodies x_h_traced x_h_number x_h_spot x_h_parted x_g_count x_g_kinds x_g_wills x_g_starts x_g_code x_g_stack x_g_kl x_g_wl x_g_sl x_g_cl x_nr) (Qi res.1 (cW a ar t x_q0_dials x_q0_spots x_q0_skies x_q0_reports x_q0_count x_q0_chime x_q0_end x_q0_score x_q0_reportCount x_q0_z x_q0_rules x_q0_shades x_q0_facts x_q1_dials x_q1_spots x_q1_skies x_q1_reports x_q1_count x_q1_chime x_q1_end x_q1_score x_q1_reportCount x_q1_z x_q1_rules x_q1_shades x_q1_facts x_q2_dials x_q2_spots x_q2_skies x_q2_reports x_q2_count x_q2_chime x_q2_end x_q2_score x_q2_reportCount x_q2_z x_q2_rules x_q2_shades x_q2_facts x_isKept x_marks x_p_first x_p_steps x_p_most x_p_many x_p_fewest x_p_everRight x_p_opening x_p_rows x_p_rowCount x_p_acts x_p_marks x_p_deepest x_p_wanted x_t_length x_t_tape x_t_words x_t_places x_t_at x_t_kinds x_t_wills x_t_starts x_t_code x_t_count x_t_size x_h_sorts x_h_lengths x_h_items x_h_held x_h_things x_h_sizes res.2.1 res.2.2 x_h_number x_h_spot x_h_parted x_g_count x_g_kinds x_g_wills x_g_starts x_g_code x_g_stack x_g_kl x_g_wl x_g_sl x_g_cl x_nr)) := by
  unfold X0_points_k0 at hf
  refine MC.ofI pn_X0 (Nat.le_of_ble_eq_true rfl) ?_
  intro p e s m args below meth c A Q ls cx hR hw hl
  have hx := cx.1
  have hb := cx.2.1
  have hl : lv_has ls 3 [(0, .ref (a (78 + 0))), (1, .ref (a 105)), (2, .int v2)] := hl
  refine lv_aload_n hx hb dX0_points_0 rfl (lv_at hl 1 rfl) ?_
  refine lv_bipush (v := 10) hx hb dX0_points_1 (by decide) ?_
  obtain ⟨r1, h2, hf⟩ := bnS hf
  refine calVv cx hw hl.1 (c_X2_begin h2) q_1012 k_X2_begin rfl rv_host rfl dX0_points_3 rfl (Nat.le_of_ble_eq_true rfl) ⟨Nat.le_of_ble_eq_true rfl, Nat.le_of_ble_eq_true rfl⟩ ⟨Nat.le_refl _, Nat.le_refl _⟩ (fun H locs hw => ?_)
  refine lv_iload_n hx hb dX0_points_6 rfl (lv_at hl 2 rfl) ?_
  refine lv_iconst (v := 4) hx hb dX0_points_7 (by decide) ?_
  refine lv_imul hx hb dX0_points_8 ?_
  refine lv_aload_n hx hb dX0_points_9 rfl (lv_at hl 1 rfl) ?_
  refine cg_X0_13_host cx hw dX0_points_10 ?_
  refine lv_isub hx hb dX0_points_13 ?_
  have hf := Option.some.inj hf
  subst hf
  exact hR _ _ _ _ _ _ hw rfl ⟨rfl, rfl⟩ dX0_points_14
theorem c_X0_points_k1 {v2 : Int32} {res : Int32 × (Nat → Int32) × Int32} (hf : X0_points_k1 x_h_bodies x_h_traced x_h_number x_h_parted v2 = some res) : MC l E0 D t yX0_points cX0_points 3 (some .int) 2 0 0 [.ref (a (78 + 1)), .ref (a 105), .int v2] (cW a ar t x_q0_dials x_q0_spots x_q0_skies x_q0_reports x_q0_count x_q0_chime x_q0_end x_q0_score x_q0_reportCount x_q0_z x_q0_rules x_q0_shades x_q0_facts x_q1_dials x_q1_spots x_q1_skies x_q1_reports x_q1_count x_q1_chime x_q1_end x_q1_score x_q1_reportCount x_q1_z x_q1_rules x_q1_shades x_q1_facts x_q2_dials x_q2_spots x_q2_skies x_q2_reports x_q2_count x_q2_chime x_q2_end x_q2_score x_q2_reportCount x_q2_z x_q2_rules x_q2_shades x_q2_facts x_isKept x_marks x_p_first x_p_steps x_p_most x_p_many x_p_fewest x_p_everRight x_p_opening x_p_rows x_p_rowCount x_p_acts x_p_marks x_p_deepest x_p_wanted x_t_length x_t_tape x_t_words x_t_places x_t_at x_t_kinds x_t_wills x_t_starts x_t_code x_t_count x_t_size x_h_sorts x_h_lengths x_h_items x_h_held x_h_things x_h_sizes x_h_bodies x_h_traced x_h_number x_h_spot x_h_parted x_g_count x_g_kinds x_g_wills x_g_starts x_g_code x_g_stack x_g_kl x_g_wl x_g_sl x_g_cl x_nr) (Qi res.1 (cW a ar t x_q0_dials x_q0_spots x_q0_skies x_q0_reports x_q0_count x_q0_chime x_q0_end x_q0_score x_q0_reportCount x_q0_z x_q0_rules x_q0_shades x_q0_facts x_q1_dials x_q1_spots x_q1_skies x_q1_reports x_q1_count x_q1_chime x_q1_end x_q1_score x_q1_reportCount x_q1_z x_q1_rules x_q1_shades x_q1_facts x_q2_dials x_q2_spots x_q2_skies x_q2_reports x_q2_count x_q2_chime x_q2_end x_q2_score x_q2_reportCount x_q2_z x_q2_rules x_q2_shades x_q2_facts x_isKept x_marks x_p_first x_p_steps x_p_most x_p_many x_p_fewest x_p_everRight x_p_opening x_p_rows x_p_rowCount x_p_acts x_p_marks x_p_deepest x_p_wanted x_t_length x_t_tape x_t_words x_t_places x_t_at x_t_kinds x_t_wills x_t_starts x_t_code x_t_count x_t_size x_h_sorts x_h_lengths x_h_items x_h_held x_h_things x_h_sizes res.2.1 res.2.2 x_h_number x_h_spot x_h_parted x_g_count x_g_kinds x_g_wills x_g_starts x_g_code x_g_stack x_g_kl x_g_wl x_g_sl x_g_cl x_nr)) := by
  unfold X0_points_k1 at hf
  refine MC.ofI pn_X0 (Nat.le_of_ble_eq_true rfl) ?_
  intro p e s m args below meth c A Q ls cx hR hw hl
  have hx := cx.1
  have hb := cx.2.1
  have hl : lv_has ls 3 [(0, .ref (a (78 + 1))), (1, .ref (a 105)), (2, .int v2)] := hl
  refine lv_aload_n hx hb dX0_points_0 rfl (lv_at hl 1 rfl) ?_
  refine lv_bipush (v := 10) hx hb dX0_points_1 (by decide) ?_
  obtain ⟨r1, h2, hf⟩ := bnS hf
  refine calVv cx hw hl.1 (c_X2_begin h2) q_1012 k_X2_begin rfl rv_host rfl dX0_points_3 rfl (Nat.le_of_ble_eq_true rfl) ⟨Nat.le_of_ble_eq_true rfl, Nat.le_of_ble_eq_true rfl⟩ ⟨Nat.le_refl _, Nat.le_refl _⟩ (fun H locs hw => ?_)
  refine lv_iload_n hx hb dX0_points_6 rfl (lv_at hl 2 rfl) ?_
  refine lv_iconst (v := 4) hx hb dX0_points_7 (by decide) ?_
  refine lv_imul hx hb dX0_points_8 ?_
  refine lv_aload_n hx hb dX0_points_9 rfl (lv_at hl 1 rfl) ?_
  refine cg_X0_13_host cx hw dX0_points_10 ?_
  refine lv_isub hx hb dX0_points_13 ?_
  have hf := Option.some.inj hf
  subst hf
  exact hR _ _ _ _ _ _ hw rfl ⟨rfl, rfl⟩ dX0_points_14
theorem dX4_points_0 : decode cX4_points 0 = .ok (.aload_n 1, 1) := by decide +kernel
theorem dX4_points_1 : decode cX4_points 1 = .ok (.bipush 20, 2) := by decide +kernel
theorem dX4_points_3 : decode cX4_points 3 = .ok (.invokevirtual 7, 3) := by decide +kernel
theorem dX4_points_6 : decode cX4_points 6 = .ok (.aload_n 0, 1) := by decide +kernel
theorem dX4_points_7 : decode cX4_points 7 = .ok (.aload_n 1, 1) := by decide +kernel
theorem dX4_points_8 : decode cX4_points 8 = .ok (.iload_n 2, 1) := by decide +kernel
theorem dX4_points_9 : decode cX4_points 9 = .ok (.invokespecial 13, 3) := by decide +kernel
theorem dX4_points_12 : decode cX4_points 12 = .ok (.bipush 12, 2) := by decide +kernel
theorem dX4_points_14 : decode cX4_points 14 = .ok (.iadd, 1) := by decide +kernel
theorem dX4_points_15 : decode cX4_points 15 = .ok (.ireturn, 1) := by decide +kernel
theorem c_X4_points_k1 {v2 : Int32} {res : Int32 × (Nat → Int32) × Int32} (hf : X4_points_k1 x_h_bodies x_h_traced x_h_number x_h_parted v2 = some res) : MC l E0 D t yX4_points cX4_points 3 (some .int) 3 0 0 [.ref (a (78 + 1)), .ref (a 105), .int v2] (cW a ar t x_q0_dials x_q0_spots x_q0_skies x_q0_reports x_q0_count x_q0_chime x_q0_end x_q0_score x_q0_reportCount x_q0_z x_q0_rules x_q0_shades x_q0_facts x_q1_dials x_q1_spots x_q1_skies x_q1_reports x_q1_count x_q1_chime x_q1_end x_q1_score x_q1_reportCount x_q1_z x_q1_rules x_q1_shades x_q1_facts x_q2_dials x_q2_spots x_q2_skies x_q2_reports x_q2_count x_q2_chime x_q2_end x_q2_score x_q2_reportCount x_q2_z x_q2_rules x_q2_shades x_q2_facts x_isKept x_marks x_p_first x_p_steps x_p_most x_p_many x_p_fewest x_p_everRight x_p_opening x_p_rows x_p_rowCount x_p_acts x_p_marks x_p_deepest x_p_wanted x_t_length x_t_tape x_t_words x_t_places x_t_at x_t_kinds x_t_wills x_t_starts x_t_code x_t_count x_t_size x_h_sorts x_h_lengths x_h_items x_h_held x_h_things x_h_sizes x_h_bodies x_h_traced x_h_number x_h_spot x_h_parted x_g_count x_g_kinds x_g_wills x_g_starts x_g_code x_g_stack x_g_kl x_g_wl x_g_sl x_g_cl x_nr) (Qi res.1 (cW a ar t x_q0_dials x_q0_spots x_q0_skies x_q0_reports x_q0_count x_q0_chime x_q0_end x_q0_score x_q0_reportCount x_q0_z x_q0_rules x_q0_shades x_q0_facts x_q1_dials x_q1_spots x_q1_skies x_q1_reports x_q1_count x_q1_chime x_q1_end x_q1_score x_q1_reportCount x_q1_z x_q1_rules x_q1_shades x_q1_facts x_q2_dials x_q2_spots x_q2_skies x_q2_reports x_q2_count x_q2_chime x_q2_end x_q2_score x_q2_reportCount x_q2_z x_q2_rules x_q2_shades x_q2_facts x_isKept x_marks x_p_first x_p_steps x_p_most x_p_many x_p_fewest x_p_everRight x_p_opening x_p_rows x_p_rowCount x_p_acts x_p_marks x_p_deepest x_p_wanted x_t_length x_t_tape x_t_words x_t_places x_t_at x_t_kinds x_t_wills x_t_starts x_t_code x_t_count x_t_size x_h_sorts x_h_lengths x_h_items x_h_held x_h_things x_h_sizes res.2.1 res.2.2 x_h_number x_h_spot x_h_parted x_g_count x_g_kinds x_g_wills x_g_starts x_g_code x_g_stack x_g_kl x_g_wl x_g_sl x_g_cl x_nr)) := by
  unfold X4_points_k1 at hf
  refine MC.ofI pn_X4 (Nat.le_of_ble_eq_true rfl) ?_
  intro p e s m args below meth c A Q ls cx hR hw hl
  have hx := cx.1
  have hb := cx.2.1
  have hl : lv_has ls 3 [(0, .ref (a (78 + 1))), (1, .ref (a 105)), (2, .int v2)] := hl
  refine lv_aload_n hx hb dX4_points_0 rfl (lv_at hl 1 rfl) ?_
  refine lv_bipush (v := 20) hx hb dX4_points_1 (by decide) ?_
  obtain ⟨r1, h2, hf⟩ := bnS hf
  refine calVv cx hw hl.1 (c_X2_begin h2) q_1007 k_X2_begin rfl rv_host rfl dX4_points_3 rfl (Nat.le_of_ble_eq_true rfl) ⟨Nat.le_of_ble_eq_true rfl, Nat.le_of_ble_eq_true rfl⟩ ⟨Nat.le_refl _, Nat.le_refl _⟩ (fun H locs hw => ?_)
  refine lv_aload_n hx hb dX4_points_6 rfl (lv_at hl 0 rfl) ?_
  refine lv_aload_n hx hb dX4_points_7 rfl (lv_at hl 1 rfl) ?_
  refine lv_iload_n hx hb dX4_points_8 rfl (lv_at hl 2 rfl) ?_
  obtain ⟨r3, h4, hf⟩ := bnS hf
  refine calSUi cx hw hl.1 (c_X0_points_k1 h4) ws_X4_13 q_1011 hs_X0_points rfl rv_k1 rfl dX4_points_9 rfl (Nat.le_of_ble_eq_true rfl) ⟨Nat.le_of_ble_eq_true rfl, Nat.le_of_ble_eq_true rfl⟩ ⟨Nat.le_refl _, Nat.le_refl _⟩ (fun H locs hw => ?_)
  refine lv_bipush (v := 12) hx hb dX4_points_12 (by decide) ?_
  refine lv_iadd hx hb dX4_points_14 ?_
  have hf := Option.some.inj hf
  subst hf
  exact hR _ _ _ _ _ _ hw rfl ⟨rfl, rfl⟩ dX4_points_15
theorem c_X0_points_k2 {v2 : Int32} {res : Int32 × (Nat → Int32) × Int32} (hf : X0_points_k2 x_h_bodies x_h_traced x_h_number x_h_parted v2 = some res) : MC l E0 D t yX0_points cX0_points 3 (some .int) 2 0 0 [.ref (a (78 + 2)), .ref (a 105), .int v2] (cW a ar t x_q0_dials x_q0_spots x_q0_skies x_q0_reports x_q0_count x_q0_chime x_q0_end x_q0_score x_q0_reportCount x_q0_z x_q0_rules x_q0_shades x_q0_facts x_q1_dials x_q1_spots x_q1_skies x_q1_reports x_q1_count x_q1_chime x_q1_end x_q1_score x_q1_reportCount x_q1_z x_q1_rules x_q1_shades x_q1_facts x_q2_dials x_q2_spots x_q2_skies x_q2_reports x_q2_count x_q2_chime x_q2_end x_q2_score x_q2_reportCount x_q2_z x_q2_rules x_q2_shades x_q2_facts x_isKept x_marks x_p_first x_p_steps x_p_most x_p_many x_p_fewest x_p_everRight x_p_opening x_p_rows x_p_rowCount x_p_acts x_p_marks x_p_deepest x_p_wanted x_t_length x_t_tape x_t_words x_t_places x_t_at x_t_kinds x_t_wills x_t_starts x_t_code x_t_count x_t_size x_h_sorts x_h_lengths x_h_items x_h_held x_h_things x_h_sizes x_h_bodies x_h_traced x_h_number x_h_spot x_h_parted x_g_count x_g_kinds x_g_wills x_g_starts x_g_code x_g_stack x_g_kl x_g_wl x_g_sl x_g_cl x_nr) (Qi res.1 (cW a ar t x_q0_dials x_q0_spots x_q0_skies x_q0_reports x_q0_count x_q0_chime x_q0_end x_q0_score x_q0_reportCount x_q0_z x_q0_rules x_q0_shades x_q0_facts x_q1_dials x_q1_spots x_q1_skies x_q1_reports x_q1_count x_q1_chime x_q1_end x_q1_score x_q1_reportCount x_q1_z x_q1_rules x_q1_shades x_q1_facts x_q2_dials x_q2_spots x_q2_skies x_q2_reports x_q2_count x_q2_chime x_q2_end x_q2_score x_q2_reportCount x_q2_z x_q2_rules x_q2_shades x_q2_facts x_isKept x_marks x_p_first x_p_steps x_p_most x_p_many x_p_fewest x_p_everRight x_p_opening x_p_rows x_p_rowCount x_p_acts x_p_marks x_p_deepest x_p_wanted x_t_length x_t_tape x_t_words x_t_places x_t_at x_t_kinds x_t_wills x_t_starts x_t_code x_t_count x_t_size x_h_sorts x_h_lengths x_h_items x_h_held x_h_things x_h_sizes res.2.1 res.2.2 x_h_number x_h_spot x_h_parted x_g_count x_g_kinds x_g_wills x_g_starts x_g_code x_g_stack x_g_kl x_g_wl x_g_sl x_g_cl x_nr)) := by
  unfold X0_points_k2 at hf
  refine MC.ofI pn_X0 (Nat.le_of_ble_eq_true rfl) ?_
  intro p e s m args below meth c A Q ls cx hR hw hl
  have hx := cx.1
  have hb := cx.2.1
  have hl : lv_has ls 3 [(0, .ref (a (78 + 2))), (1, .ref (a 105)), (2, .int v2)] := hl
  refine lv_aload_n hx hb dX0_points_0 rfl (lv_at hl 1 rfl) ?_
  refine lv_bipush (v := 10) hx hb dX0_points_1 (by decide) ?_
  obtain ⟨r1, h2, hf⟩ := bnS hf
  refine calVv cx hw hl.1 (c_X2_begin h2) q_1012 k_X2_begin rfl rv_host rfl dX0_points_3 rfl (Nat.le_of_ble_eq_true rfl) ⟨Nat.le_of_ble_eq_true rfl, Nat.le_of_ble_eq_true rfl⟩ ⟨Nat.le_refl _, Nat.le_refl _⟩ (fun H locs hw => ?_)
  refine lv_iload_n hx hb dX0_points_6 rfl (lv_at hl 2 rfl) ?_
  refine lv_iconst (v := 4) hx hb dX0_points_7 (by decide) ?_
  refine lv_imul hx hb dX0_points_8 ?_
  refine lv_aload_n hx hb dX0_points_9 rfl (lv_at hl 1 rfl) ?_
  refine cg_X0_13_host cx hw dX0_points_10 ?_
  refine lv_isub hx hb dX0_points_13 ?_
  have hf := Option.some.inj hf
  subst hf
  exact hR _ _ _ _ _ _ hw rfl ⟨rfl, rfl⟩ dX0_points_14
theorem c_X0_points_k3 {v2 : Int32} {res : Int32 × (Nat → Int32) × Int32} (hf : X0_points_k3 x_h_bodies x_h_traced x_h_number x_h_parted v2 = some res) : MC l E0 D t yX0_points cX0_points 3 (some .int) 2 0 0 [.ref (a (78 + 3)), .ref (a 105), .int v2] (cW a ar t x_q0_dials x_q0_spots x_q0_skies x_q0_reports x_q0_count x_q0_chime x_q0_end x_q0_score x_q0_reportCount x_q0_z x_q0_rules x_q0_shades x_q0_facts x_q1_dials x_q1_spots x_q1_skies x_q1_reports x_q1_count x_q1_chime x_q1_end x_q1_score x_q1_reportCount x_q1_z x_q1_rules x_q1_shades x_q1_facts x_q2_dials x_q2_spots x_q2_skies x_q2_reports x_q2_count x_q2_chime x_q2_end x_q2_score x_q2_reportCount x_q2_z x_q2_rules x_q2_shades x_q2_facts x_isKept x_marks x_p_first x_p_steps x_p_most x_p_many x_p_fewest x_p_everRight x_p_opening x_p_rows x_p_rowCount x_p_acts x_p_marks x_p_deepest x_p_wanted x_t_length x_t_tape x_t_words x_t_places x_t_at x_t_kinds x_t_wills x_t_starts x_t_code x_t_count x_t_size x_h_sorts x_h_lengths x_h_items x_h_held x_h_things x_h_sizes x_h_bodies x_h_traced x_h_number x_h_spot x_h_parted x_g_count x_g_kinds x_g_wills x_g_starts x_g_code x_g_stack x_g_kl x_g_wl x_g_sl x_g_cl x_nr) (Qi res.1 (cW a ar t x_q0_dials x_q0_spots x_q0_skies x_q0_reports x_q0_count x_q0_chime x_q0_end x_q0_score x_q0_reportCount x_q0_z x_q0_rules x_q0_shades x_q0_facts x_q1_dials x_q1_spots x_q1_skies x_q1_reports x_q1_count x_q1_chime x_q1_end x_q1_score x_q1_reportCount x_q1_z x_q1_rules x_q1_shades x_q1_facts x_q2_dials x_q2_spots x_q2_skies x_q2_reports x_q2_count x_q2_chime x_q2_end x_q2_score x_q2_reportCount x_q2_z x_q2_rules x_q2_shades x_q2_facts x_isKept x_marks x_p_first x_p_steps x_p_most x_p_many x_p_fewest x_p_everRight x_p_opening x_p_rows x_p_rowCount x_p_acts x_p_marks x_p_deepest x_p_wanted x_t_length x_t_tape x_t_words x_t_places x_t_at x_t_kinds x_t_wills x_t_starts x_t_code x_t_count x_t_size x_h_sorts x_h_lengths x_h_items x_h_held x_h_things x_h_sizes res.2.1 res.2.2 x_h_number x_h_spot x_h_parted x_g_count x_g_kinds x_g_wills x_g_starts x_g_code x_g_stack x_g_kl x_g_wl x_g_sl x_g_cl x_nr)) := by
  unfold X0_points_k3 at hf
  refine MC.ofI pn_X0 (Nat.le_of_ble_eq_true rfl) ?_
  intro p e s m args below meth c A Q ls cx hR hw hl
  have hx := cx.1
  have hb := cx.2.1
  have hl : lv_has ls 3 [(0, .ref (a (78 + 3))), (1, .ref (a 105)), (2, .int v2)] := hl
  refine lv_aload_n hx hb dX0_points_0 rfl (lv_at hl 1 rfl) ?_
  refine lv_bipush (v := 10) hx hb dX0_points_1 (by decide) ?_
  obtain ⟨r1, h2, hf⟩ := bnS hf
  refine calVv cx hw hl.1 (c_X2_begin h2) q_1012 k_X2_begin rfl rv_host rfl dX0_points_3 rfl (Nat.le_of_ble_eq_true rfl) ⟨Nat.le_of_ble_eq_true rfl, Nat.le_of_ble_eq_true rfl⟩ ⟨Nat.le_refl _, Nat.le_refl _⟩ (fun H locs hw => ?_)
  refine lv_iload_n hx hb dX0_points_6 rfl (lv_at hl 2 rfl) ?_
  refine lv_iconst (v := 4) hx hb dX0_points_7 (by decide) ?_
  refine lv_imul hx hb dX0_points_8 ?_
  refine lv_aload_n hx hb dX0_points_9 rfl (lv_at hl 1 rfl) ?_
  refine cg_X0_13_host cx hw dX0_points_10 ?_
  refine lv_isub hx hb dX0_points_13 ?_
  have hf := Option.some.inj hf
  subst hf
  exact hR _ _ _ _ _ _ hw rfl ⟨rfl, rfl⟩ dX0_points_14
theorem dX1_points_0 : decode cX1_points 0 = .ok (.aload_n 1, 1) := by decide +kernel
theorem dX1_points_1 : decode cX1_points 1 = .ok (.bipush 50, 2) := by decide +kernel
theorem dX1_points_3 : decode cX1_points 3 = .ok (.invokevirtual 14, 3) := by decide +kernel
theorem dX1_points_6 : decode cX1_points 6 = .ok (.aload_n 0, 1) := by decide +kernel
theorem dX1_points_7 : decode cX1_points 7 = .ok (.aload_n 1, 1) := by decide +kernel
theorem dX1_points_8 : decode cX1_points 8 = .ok (.iload_n 2, 1) := by decide +kernel
theorem dX1_points_9 : decode cX1_points 9 = .ok (.iconst 3, 1) := by decide +kernel
theorem dX1_points_10 : decode cX1_points 10 = .ok (.isub, 1) := by decide +kernel
theorem dX1_points_11 : decode cX1_points 11 = .ok (.invokespecial 20, 3) := by decide +kernel
theorem dX1_points_14 : decode cX1_points 14 = .ok (.ireturn, 1) := by decide +kernel
theorem c_X1_points_k3 {v2 : Int32} {res : Int32 × (Nat → Int32) × Int32} (hf : X1_points_k3 x_h_bodies x_h_traced x_h_number x_h_parted v2 = some res) : MC l E0 D t yX1_points cX1_points 3 (some .int) 3 0 0 [.ref (a (78 + 3)), .ref (a 105), .int v2] (cW a ar t x_q0_dials x_q0_spots x_q0_skies x_q0_reports x_q0_count x_q0_chime x_q0_end x_q0_score x_q0_reportCount x_q0_z x_q0_rules x_q0_shades x_q0_facts x_q1_dials x_q1_spots x_q1_skies x_q1_reports x_q1_count x_q1_chime x_q1_end x_q1_score x_q1_reportCount x_q1_z x_q1_rules x_q1_shades x_q1_facts x_q2_dials x_q2_spots x_q2_skies x_q2_reports x_q2_count x_q2_chime x_q2_end x_q2_score x_q2_reportCount x_q2_z x_q2_rules x_q2_shades x_q2_facts x_isKept x_marks x_p_first x_p_steps x_p_most x_p_many x_p_fewest x_p_everRight x_p_opening x_p_rows x_p_rowCount x_p_acts x_p_marks x_p_deepest x_p_wanted x_t_length x_t_tape x_t_words x_t_places x_t_at x_t_kinds x_t_wills x_t_starts x_t_code x_t_count x_t_size x_h_sorts x_h_lengths x_h_items x_h_held x_h_things x_h_sizes x_h_bodies x_h_traced x_h_number x_h_spot x_h_parted x_g_count x_g_kinds x_g_wills x_g_starts x_g_code x_g_stack x_g_kl x_g_wl x_g_sl x_g_cl x_nr) (Qi res.1 (cW a ar t x_q0_dials x_q0_spots x_q0_skies x_q0_reports x_q0_count x_q0_chime x_q0_end x_q0_score x_q0_reportCount x_q0_z x_q0_rules x_q0_shades x_q0_facts x_q1_dials x_q1_spots x_q1_skies x_q1_reports x_q1_count x_q1_chime x_q1_end x_q1_score x_q1_reportCount x_q1_z x_q1_rules x_q1_shades x_q1_facts x_q2_dials x_q2_spots x_q2_skies x_q2_reports x_q2_count x_q2_chime x_q2_end x_q2_score x_q2_reportCount x_q2_z x_q2_rules x_q2_shades x_q2_facts x_isKept x_marks x_p_first x_p_steps x_p_most x_p_many x_p_fewest x_p_everRight x_p_opening x_p_rows x_p_rowCount x_p_acts x_p_marks x_p_deepest x_p_wanted x_t_length x_t_tape x_t_words x_t_places x_t_at x_t_kinds x_t_wills x_t_starts x_t_code x_t_count x_t_size x_h_sorts x_h_lengths x_h_items x_h_held x_h_things x_h_sizes res.2.1 res.2.2 x_h_number x_h_spot x_h_parted x_g_count x_g_kinds x_g_wills x_g_starts x_g_code x_g_stack x_g_kl x_g_wl x_g_sl x_g_cl x_nr)) := by
  unfold X1_points_k3 at hf
  refine MC.ofI pn_X1 (Nat.le_of_ble_eq_true rfl) ?_
  intro p e s m args below meth c A Q ls cx hR hw hl
  have hx := cx.1
  have hb := cx.2.1
  have hl : lv_has ls 3 [(0, .ref (a (78 + 3))), (1, .ref (a 105)), (2, .int v2)] := hl
  refine lv_aload_n hx hb dX1_points_0 rfl (lv_at hl 1 rfl) ?_
  refine lv_bipush (v := 50) hx hb dX1_points_1 (by decide) ?_
  obtain ⟨r1, h2, hf⟩ := bnS hf
  refine calVv cx hw hl.1 (c_X2_begin h2) q_996 k_X2_begin rfl rv_host rfl dX1_points_3 rfl (Nat.le_of_ble_eq_true rfl) ⟨Nat.le_of_ble_eq_true rfl, Nat.le_of_ble_eq_true rfl⟩ ⟨Nat.le_refl _, Nat.le_refl _⟩ (fun H locs hw => ?_)
  refine lv_aload_n hx hb dX1_points_6 rfl (lv_at hl 0 rfl) ?_
  refine lv_aload_n hx hb dX1_points_7 rfl (lv_at hl 1 rfl) ?_
  refine lv_iload_n hx hb dX1_points_8 rfl (lv_at hl 2 rfl) ?_
  refine lv_iconst (v := 3) hx hb dX1_points_9 (by decide) ?_
  refine lv_isub hx hb dX1_points_10 ?_
  obtain ⟨r3, h4, hf⟩ := bnS hf
  refine calSWi cx hw hl.1 (c_X0_points_k3 h4) wx_X1_20 q_1011 rfl hs_X0_points rfl rv_k3 rfl dX1_points_11 rfl (Nat.le_of_ble_eq_true rfl) ⟨Nat.le_of_ble_eq_true rfl, Nat.le_of_ble_eq_true rfl⟩ ⟨Nat.le_refl _, Nat.le_refl _⟩ (fun H locs hw => ?_)
  have hf := Option.some.inj hf
  subst hf
  exact hR _ _ _ _ _ _ hw rfl ⟨rfl, rfl⟩ dX1_points_14
theorem c_X0_points_k4 {v2 : Int32} {res : Int32 × (Nat → Int32) × Int32} (hf : X0_points_k4 x_h_bodies x_h_traced x_h_number x_h_parted v2 = some res) : MC l E0 D t yX0_points cX0_points 3 (some .int) 2 0 0 [.ref (a (78 + 4)), .ref (a 105), .int v2] (cW a ar t x_q0_dials x_q0_spots x_q0_skies x_q0_reports x_q0_count x_q0_chime x_q0_end x_q0_score x_q0_reportCount x_q0_z x_q0_rules x_q0_shades x_q0_facts x_q1_dials x_q1_spots x_q1_skies x_q1_reports x_q1_count x_q1_chime x_q1_end x_q1_score x_q1_reportCount x_q1_z x_q1_rules x_q1_shades x_q1_facts x_q2_dials x_q2_spots x_q2_skies x_q2_reports x_q2_count x_q2_chime x_q2_end x_q2_score x_q2_reportCount x_q2_z x_q2_rules x_q2_shades x_q2_facts x_isKept x_marks x_p_first x_p_steps x_p_most x_p_many x_p_fewest x_p_everRight x_p_opening x_p_rows x_p_rowCount x_p_acts x_p_marks x_p_deepest x_p_wanted x_t_length x_t_tape x_t_words x_t_places x_t_at x_t_kinds x_t_wills x_t_starts x_t_code x_t_count x_t_size x_h_sorts x_h_lengths x_h_items x_h_held x_h_things x_h_sizes x_h_bodies x_h_traced x_h_number x_h_spot x_h_parted x_g_count x_g_kinds x_g_wills x_g_starts x_g_code x_g_stack x_g_kl x_g_wl x_g_sl x_g_cl x_nr) (Qi res.1 (cW a ar t x_q0_dials x_q0_spots x_q0_skies x_q0_reports x_q0_count x_q0_chime x_q0_end x_q0_score x_q0_reportCount x_q0_z x_q0_rules x_q0_shades x_q0_facts x_q1_dials x_q1_spots x_q1_skies x_q1_reports x_q1_count x_q1_chime x_q1_end x_q1_score x_q1_reportCount x_q1_z x_q1_rules x_q1_shades x_q1_facts x_q2_dials x_q2_spots x_q2_skies x_q2_reports x_q2_count x_q2_chime x_q2_end x_q2_score x_q2_reportCount x_q2_z x_q2_rules x_q2_shades x_q2_facts x_isKept x_marks x_p_first x_p_steps x_p_most x_p_many x_p_fewest x_p_everRight x_p_opening x_p_rows x_p_rowCount x_p_acts x_p_marks x_p_deepest x_p_wanted x_t_length x_t_tape x_t_words x_t_places x_t_at x_t_kinds x_t_wills x_t_starts x_t_code x_t_count x_t_size x_h_sorts x_h_lengths x_h_items x_h_held x_h_things x_h_sizes res.2.1 res.2.2 x_h_number x_h_spot x_h_parted x_g_count x_g_kinds x_g_wills x_g_starts x_g_code x_g_stack x_g_kl x_g_wl x_g_sl x_g_cl x_nr)) := by
  unfold X0_points_k4 at hf
  refine MC.ofI pn_X0 (Nat.le_of_ble_eq_true rfl) ?_
  intro p e s m args below meth c A Q ls cx hR hw hl
  have hx := cx.1
  have hb := cx.2.1
  have hl : lv_has ls 3 [(0, .ref (a (78 + 4))), (1, .ref (a 105)), (2, .int v2)] := hl
  refine lv_aload_n hx hb dX0_points_0 rfl (lv_at hl 1 rfl) ?_
  refine lv_bipush (v := 10) hx hb dX0_points_1 (by decide) ?_
  obtain ⟨r1, h2, hf⟩ := bnS hf
  refine calVv cx hw hl.1 (c_X2_begin h2) q_1012 k_X2_begin rfl rv_host rfl dX0_points_3 rfl (Nat.le_of_ble_eq_true rfl) ⟨Nat.le_of_ble_eq_true rfl, Nat.le_of_ble_eq_true rfl⟩ ⟨Nat.le_refl _, Nat.le_refl _⟩ (fun H locs hw => ?_)
  refine lv_iload_n hx hb dX0_points_6 rfl (lv_at hl 2 rfl) ?_
  refine lv_iconst (v := 4) hx hb dX0_points_7 (by decide) ?_
  refine lv_imul hx hb dX0_points_8 ?_
  refine lv_aload_n hx hb dX0_points_9 rfl (lv_at hl 1 rfl) ?_
  refine cg_X0_13_host cx hw dX0_points_10 ?_
  refine lv_isub hx hb dX0_points_13 ?_
  have hf := Option.some.inj hf
  subst hf
  exact hR _ _ _ _ _ _ hw rfl ⟨rfl, rfl⟩ dX0_points_14
theorem c_X0_points_k5 {v2 : Int32} {res : Int32 × (Nat → Int32) × Int32} (hf : X0_points_k5 x_h_bodies x_h_traced x_h_number x_h_parted v2 = some res) : MC l E0 D t yX0_points cX0_points 3 (some .int) 2 0 0 [.ref (a (78 + 5)), .ref (a 105), .int v2] (cW a ar t x_q0_dials x_q0_spots x_q0_skies x_q0_reports x_q0_count x_q0_chime x_q0_end x_q0_score x_q0_reportCount x_q0_z x_q0_rules x_q0_shades x_q0_facts x_q1_dials x_q1_spots x_q1_skies x_q1_reports x_q1_count x_q1_chime x_q1_end x_q1_score x_q1_reportCount x_q1_z x_q1_rules x_q1_shades x_q1_facts x_q2_dials x_q2_spots x_q2_skies x_q2_reports x_q2_count x_q2_chime x_q2_end x_q2_score x_q2_reportCount x_q2_z x_q2_rules x_q2_shades x_q2_facts x_isKept x_marks x_p_first x_p_steps x_p_most x_p_many x_p_fewest x_p_everRight x_p_opening x_p_rows x_p_rowCount x_p_acts x_p_marks x_p_deepest x_p_wanted x_t_length x_t_tape x_t_words x_t_places x_t_at x_t_kinds x_t_wills x_t_starts x_t_code x_t_count x_t_size x_h_sorts x_h_lengths x_h_items x_h_held x_h_things x_h_sizes x_h_bodies x_h_traced x_h_number x_h_spot x_h_parted x_g_count x_g_kinds x_g_wills x_g_starts x_g_code x_g_stack x_g_kl x_g_wl x_g_sl x_g_cl x_nr) (Qi res.1 (cW a ar t x_q0_dials x_q0_spots x_q0_skies x_q0_reports x_q0_count x_q0_chime x_q0_end x_q0_score x_q0_reportCount x_q0_z x_q0_rules x_q0_shades x_q0_facts x_q1_dials x_q1_spots x_q1_skies x_q1_reports x_q1_count x_q1_chime x_q1_end x_q1_score x_q1_reportCount x_q1_z x_q1_rules x_q1_shades x_q1_facts x_q2_dials x_q2_spots x_q2_skies x_q2_reports x_q2_count x_q2_chime x_q2_end x_q2_score x_q2_reportCount x_q2_z x_q2_rules x_q2_shades x_q2_facts x_isKept x_marks x_p_first x_p_steps x_p_most x_p_many x_p_fewest x_p_everRight x_p_opening x_p_rows x_p_rowCount x_p_acts x_p_marks x_p_deepest x_p_wanted x_t_length x_t_tape x_t_words x_t_places x_t_at x_t_kinds x_t_wills x_t_starts x_t_code x_t_count x_t_size x_h_sorts x_h_lengths x_h_items x_h_held x_h_things x_h_sizes res.2.1 res.2.2 x_h_number x_h_spot x_h_parted x_g_count x_g_kinds x_g_wills x_g_starts x_g_code x_g_stack x_g_kl x_g_wl x_g_sl x_g_cl x_nr)) := by
  unfold X0_points_k5 at hf
  refine MC.ofI pn_X0 (Nat.le_of_ble_eq_true rfl) ?_
  intro p e s m args below meth c A Q ls cx hR hw hl
  have hx := cx.1
  have hb := cx.2.1
  have hl : lv_has ls 3 [(0, .ref (a (78 + 5))), (1, .ref (a 105)), (2, .int v2)] := hl
  refine lv_aload_n hx hb dX0_points_0 rfl (lv_at hl 1 rfl) ?_
  refine lv_bipush (v := 10) hx hb dX0_points_1 (by decide) ?_
  obtain ⟨r1, h2, hf⟩ := bnS hf
  refine calVv cx hw hl.1 (c_X2_begin h2) q_1012 k_X2_begin rfl rv_host rfl dX0_points_3 rfl (Nat.le_of_ble_eq_true rfl) ⟨Nat.le_of_ble_eq_true rfl, Nat.le_of_ble_eq_true rfl⟩ ⟨Nat.le_refl _, Nat.le_refl _⟩ (fun H locs hw => ?_)
  refine lv_iload_n hx hb dX0_points_6 rfl (lv_at hl 2 rfl) ?_
  refine lv_iconst (v := 4) hx hb dX0_points_7 (by decide) ?_
  refine lv_imul hx hb dX0_points_8 ?_
  refine lv_aload_n hx hb dX0_points_9 rfl (lv_at hl 1 rfl) ?_
  refine cg_X0_13_host cx hw dX0_points_10 ?_
  refine lv_isub hx hb dX0_points_13 ?_
  have hf := Option.some.inj hf
  subst hf
  exact hR _ _ _ _ _ _ hw rfl ⟨rfl, rfl⟩ dX0_points_14
section VR_vr_points_X11_339
variable {p : Program} {l : Launch} {e : Env} {R : Room} {s : State} {m : MethodId} {args : Array Value} {below : List Frame} {meth : Method} {c : Code} {H : Heap} {locs : List Loc} {cells slots : Nat} {Q : State → Prop}
variable {E : EX} {D : va_G} {t : Nat → ClassId} {cc : ByteArray} {own nm : String} {nL pc : Nat} {A : Nat → Prop} {ls : Array Slot} {rest : List Value} {a : Nat → Nat} {ar : Nat → Nat → Nat} {x_q0_dials : Nat → Nat → Int32} {x_q0_spots : Nat → Nat → Int32} {x_q0_skies : Nat → Int32} {x_q0_reports : Nat → Nat → Int32} {x_q0_count : Int32} {x_q0_chime : Int32} {x_q0_end : Int32} {x_q0_score : Int32} {x_q0_reportCount : Int32} {x_q0_z : Int32} {x_q0_rules : Nat} {x_q0_shades : Nat → Int32} {x_q0_facts : Nat → Int32} {x_q1_dials : Nat → Nat → Int32} {x_q1_spots : Nat → Nat → Int32} {x_q1_skies : Nat → Int32} {x_q1_reports : Nat → Nat → Int32} {x_q1_count : Int32} {x_q1_chime : Int32} {x_q1_end : Int32} {x_q1_score : Int32} {x_q1_reportCount : Int32} {x_q1_z : Int32} {x_q1_rules : Nat} {x_q1_shades : Nat → Int32} {x_q1_facts : Nat → Int32} {x_q2_dials : Nat → Nat → Int32} {x_q2_spots : Nat → Nat → Int32} {x_q2_skies : Nat → Int32} {x_q2_reports : Nat → Nat → Int32} {x_q2_count : Int32} {x_q2_chime : Int32} {x_q2_end : Int32} {x_q2_score : Int32} {x_q2_reportCount : Int32} {x_q2_z : Int32} {x_q2_rules : Nat} {x_q2_shades : Nat → Int32} {x_q2_facts : Nat → Int32} {x_isKept : Int32} {x_marks : Nat → Int32} {x_p_first : Nat → Int32} {x_p_steps : Int32} {x_p_most : Int32} {x_p_many : Int32} {x_p_fewest : Int32} {x_p_everRight : Int32} {x_p_opening : Int32} {x_p_rows : Nat → Nat → Int32} {x_p_rowCount : Int32} {x_p_acts : Nat → Int32} {x_p_marks : Nat → Nat → Int32} {x_p_deepest : Int32} {x_p_wanted : Int32} {x_t_length : Int32} {x_t_tape : Nat → Int32} {x_t_words : Nat → Int32} {x_t_places : Nat → Int32} {x_t_at : Int32} {x_t_kinds : Nat → Int32} {x_t_wills : Nat → Int32} {x_t_starts : Nat → Int32} {x_t_code : Nat → Int32} {x_t_count : Int32} {x_t_size : Int32} {x_h_sorts : Nat → Int32} {x_h_lengths : Nat → Int32} {x_h_items : Nat → Nat → Int32} {x_h_held : Nat → Int32} {x_h_things : Nat → Int32} {x_h_sizes : Nat → Int32} {x_h_bodies : Nat → Int32} {x_h_traced : Int32} {x_h_number : Int32} {x_h_spot : Int32} {x_h_parted : Int32} {x_g_count : Nat → Int32} {x_g_kinds : Nat → Nat → Int32} {x_g_wills : Nat → Nat → Int32} {x_g_starts : Nat → Nat → Int32} {x_g_code : Nat → Nat → Int32} {x_g_stack : Nat → Nat → Int32} {x_g_kl : Nat → Nat} {x_g_wl : Nat → Nat} {x_g_sl : Nat → Nat} {x_g_cl : Nat → Nat} {x_nr : Nat}
theorem vr_points_X11_339 {k : Nat} {v2 : Int32} (cx : Cx E D t p s m args meth c cc RX11 nm nL A) (hw : Wd D A s (cW a ar t x_q0_dials x_q0_spots x_q0_skies x_q0_reports x_q0_count x_q0_chime x_q0_end x_q0_score x_q0_reportCount x_q0_z x_q0_rules x_q0_shades x_q0_facts x_q1_dials x_q1_spots x_q1_skies x_q1_reports x_q1_count x_q1_chime x_q1_end x_q1_score x_q1_reportCount x_q1_z x_q1_rules x_q1_shades x_q1_facts x_q2_dials x_q2_spots x_q2_skies x_q2_reports x_q2_count x_q2_chime x_q2_end x_q2_score x_q2_reportCount x_q2_z x_q2_rules x_q2_shades x_q2_facts x_isKept x_marks x_p_first x_p_steps x_p_most x_p_many x_p_fewest x_p_everRight x_p_opening x_p_rows x_p_rowCount x_p_acts x_p_marks x_p_deepest x_p_wanted x_t_length x_t_tape x_t_words x_t_places x_t_at x_t_kinds x_t_wills x_t_starts x_t_code x_t_count x_t_size x_h_sorts x_h_lengths x_h_items x_h_held x_h_things x_h_sizes x_h_bodies x_h_traced x_h_number x_h_spot x_h_parted x_g_count x_g_kinds x_g_wills x_g_starts x_g_code x_g_stack x_g_kl x_g_wl x_g_sl x_g_cl x_nr) H locs) (hl : ls.size = nL) (hk : k < 6) {res : Int32 × (Nat → Int32) × Int32} (hf : vd_points k x_h_bodies x_h_traced x_h_number x_h_parted v2 = some res) (hdg : decode cc pc = .ok (.invokevirtual 339, 3)) (hcat : (rest.map fun v => v.category).sum ≤ 8) (h1 : 4 ≤ R.frames) (h2 : 256 ≤ R.locals) (hcs : cells ≤ R.cells ∧ slots ≤ R.slots) (kk : ∀ (H : Heap) (locs : List Loc), Wd D A s (cW a ar t x_q0_dials x_q0_spots x_q0_skies x_q0_reports x_q0_count x_q0_chime x_q0_end x_q0_score x_q0_reportCount x_q0_z x_q0_rules x_q0_shades x_q0_facts x_q1_dials x_q1_spots x_q1_skies x_q1_reports x_q1_count x_q1_chime x_q1_end x_q1_score x_q1_reportCount x_q1_z x_q1_rules x_q1_shades x_q1_facts x_q2_dials x_q2_spots x_q2_skies x_q2_reports x_q2_count x_q2_chime x_q2_end x_q2_score x_q2_reportCount x_q2_z x_q2_rules x_q2_shades x_q2_facts x_isKept x_marks x_p_first x_p_steps x_p_most x_p_many x_p_fewest x_p_everRight x_p_opening x_p_rows x_p_rowCount x_p_acts x_p_marks x_p_deepest x_p_wanted x_t_length x_t_tape x_t_words x_t_places x_t_at x_t_kinds x_t_wills x_t_starts x_t_code x_t_count x_t_size x_h_sorts x_h_lengths x_h_items x_h_held x_h_things x_h_sizes res.2.1 res.2.2 x_h_number x_h_spot x_h_parted x_g_count x_g_kinds x_g_wills x_g_starts x_g_code x_g_stack x_g_kl x_g_wl x_g_sl x_g_cl x_nr) H locs → W p l e R s m args below meth c H locs cells slots Q (F0 m (pc + 3) ls (.int res.1 :: rest))) : W p l e R s m args below meth c H locs cells slots Q (F0 m pc ls (.int v2 :: .ref (a 105) :: .ref (a (78 + k)) :: rest)) := by
  match k, hk with
  | 0, _ =>
    unfold vd_points at hf
    have hf := ifT hf rfl
    exact calUi cx hw hl (c_X0_points_k0 hf) wu_X11_339_0 q_1011 q_1011 hu_X0_points rfl rv_k0 rfl hdg rfl hcat ⟨Nat.le_trans (Nat.le_of_ble_eq_true rfl) h1, Nat.le_trans (Nat.le_of_ble_eq_true rfl) h2⟩ hcs kk
  | 1, _ =>
    unfold vd_points at hf
    have hf := ifF hf (by decide)
    have hf := ifT hf rfl
    exact calUi cx hw hl (c_X4_points_k1 hf) wu_X11_339_1 q_1006 q_1011 hu_X0_points rfl rv_k1 rfl hdg rfl hcat ⟨Nat.le_trans (Nat.le_of_ble_eq_true rfl) h1, Nat.le_trans (Nat.le_of_ble_eq_true rfl) h2⟩ hcs kk
  | 2, _ =>
    unfold vd_points at hf
    have hf := ifF hf (by decide)
    have hf := ifF hf (by decide)
    have hf := ifT hf rfl
    exact calUi cx hw hl (c_X0_points_k2 hf) wu_X11_339_2 q_1011 q_1011 hu_X0_points rfl rv_k2 rfl hdg rfl hcat ⟨Nat.le_trans (Nat.le_of_ble_eq_true rfl) h1, Nat.le_trans (Nat.le_of_ble_eq_true rfl) h2⟩ hcs kk
  | 3, _ =>
    unfold vd_points at hf
    have hf := ifF hf (by decide)
    have hf := ifF hf (by decide)
    have hf := ifF hf (by decide)
    have hf := ifT hf rfl
    exact calUi cx hw hl (c_X1_points_k3 hf) wu_X11_339_3 q_995 q_1011 hu_X0_points rfl rv_k3 rfl hdg rfl hcat ⟨Nat.le_trans (Nat.le_of_ble_eq_true rfl) h1, Nat.le_trans (Nat.le_of_ble_eq_true rfl) h2⟩ hcs kk
  | 4, _ =>
    unfold vd_points at hf
    have hf := ifF hf (by decide)
    have hf := ifF hf (by decide)
    have hf := ifF hf (by decide)
    have hf := ifF hf (by decide)
    have hf := ifT hf rfl
    exact calUi cx hw hl (c_X0_points_k4 hf) wu_X11_339_4 q_1011 q_1011 hu_X0_points rfl rv_k4 rfl hdg rfl hcat ⟨Nat.le_trans (Nat.le_of_ble_eq_true rfl) h1, Nat.le_trans (Nat.le_of_ble_eq_true rfl) h2⟩ hcs kk
  | 5, _ =>
    unfold vd_points at hf
    have hf := ifF hf (by decide)
    have hf := ifF hf (by decide)
    have hf := ifF hf (by decide)
    have hf := ifF hf (by decide)
    have hf := ifF hf (by decide)
    have hf := ifT hf rfl
    exact calUi cx hw hl (c_X0_points_k5 hf) wu_X11_339_5 q_1011 q_1011 hu_X0_points rfl rv_k5 rfl hdg rfl hcat ⟨Nat.le_trans (Nat.le_of_ble_eq_true rfl) h1, Nat.le_trans (Nat.le_of_ble_eq_true rfl) h2⟩ hcs kk
  | z + 6, hk => exact absurd hk (by omega)
end VR_vr_points_X11_339
theorem dX0_slants_0 : decode cX0_slants 0 = .ok (.aload_n 1, 1) := by decide +kernel
theorem dX0_slants_1 : decode cX0_slants 1 = .ok (.bipush 11, 2) := by decide +kernel
theorem dX0_slants_3 : decode cX0_slants 3 = .ok (.invokevirtual 7, 3) := by decide +kernel
theorem dX0_slants_6 : decode cX0_slants 6 = .ok (.aload_n 0, 1) := by decide +kernel
theorem dX0_slants_7 : decode cX0_slants 7 = .ok (.aload_n 1, 1) := by decide +kernel
theorem dX0_slants_8 : decode cX0_slants 8 = .ok (.iload_n 2, 1) := by decide +kernel
theorem dX0_slants_9 : decode cX0_slants 9 = .ok (.invokevirtual 17, 3) := by decide +kernel
theorem dX0_slants_12 : decode cX0_slants 12 = .ok (.iconst 5, 1) := by decide +kernel
theorem dX0_slants_13 : decode cX0_slants 13 = .ok (.aload_n 1, 1) := by decide +kernel
theorem dX0_slants_14 : decode cX0_slants 14 = .ok (.getfield 23, 3) := by decide +kernel
theorem dX0_slants_17 : decode cX0_slants 17 = .ok (.imul, 1) := by decide +kernel
theorem dX0_slants_18 : decode cX0_slants 18 = .ok (.iadd, 1) := by decide +kernel
theorem dX0_slants_19 : decode cX0_slants 19 = .ok (.ireturn, 1) := by decide +kernel
theorem k_X0_slants : MV yX0_slants cX0_slants 3 (some .int) 2 := ⟨q_1014, q_1015, q_4, q_1032, ⟨by decide, by decide, by decide +kernel⟩⟩
theorem c_X0_slants_k0 {v2 : Int32} {res : Int32 × (Nat → Int32) × Int32} (hf : X0_slants_k0 x_h_bodies x_h_traced x_h_number x_h_spot x_h_parted v2 = some res) : MC l E0 D t yX0_slants cX0_slants 3 (some .int) 3 0 0 [.ref (a (78 + 0)), .ref (a 105), .int v2] (cW a ar t x_q0_dials x_q0_spots x_q0_skies x_q0_reports x_q0_count x_q0_chime x_q0_end x_q0_score x_q0_reportCount x_q0_z x_q0_rules x_q0_shades x_q0_facts x_q1_dials x_q1_spots x_q1_skies x_q1_reports x_q1_count x_q1_chime x_q1_end x_q1_score x_q1_reportCount x_q1_z x_q1_rules x_q1_shades x_q1_facts x_q2_dials x_q2_spots x_q2_skies x_q2_reports x_q2_count x_q2_chime x_q2_end x_q2_score x_q2_reportCount x_q2_z x_q2_rules x_q2_shades x_q2_facts x_isKept x_marks x_p_first x_p_steps x_p_most x_p_many x_p_fewest x_p_everRight x_p_opening x_p_rows x_p_rowCount x_p_acts x_p_marks x_p_deepest x_p_wanted x_t_length x_t_tape x_t_words x_t_places x_t_at x_t_kinds x_t_wills x_t_starts x_t_code x_t_count x_t_size x_h_sorts x_h_lengths x_h_items x_h_held x_h_things x_h_sizes x_h_bodies x_h_traced x_h_number x_h_spot x_h_parted x_g_count x_g_kinds x_g_wills x_g_starts x_g_code x_g_stack x_g_kl x_g_wl x_g_sl x_g_cl x_nr) (Qi res.1 (cW a ar t x_q0_dials x_q0_spots x_q0_skies x_q0_reports x_q0_count x_q0_chime x_q0_end x_q0_score x_q0_reportCount x_q0_z x_q0_rules x_q0_shades x_q0_facts x_q1_dials x_q1_spots x_q1_skies x_q1_reports x_q1_count x_q1_chime x_q1_end x_q1_score x_q1_reportCount x_q1_z x_q1_rules x_q1_shades x_q1_facts x_q2_dials x_q2_spots x_q2_skies x_q2_reports x_q2_count x_q2_chime x_q2_end x_q2_score x_q2_reportCount x_q2_z x_q2_rules x_q2_shades x_q2_facts x_isKept x_marks x_p_first x_p_steps x_p_most x_p_many x_p_fewest x_p_everRight x_p_opening x_p_rows x_p_rowCount x_p_acts x_p_marks x_p_deepest x_p_wanted x_t_length x_t_tape x_t_words x_t_places x_t_at x_t_kinds x_t_wills x_t_starts x_t_code x_t_count x_t_size x_h_sorts x_h_lengths x_h_items x_h_held x_h_things x_h_sizes res.2.1 res.2.2 x_h_number x_h_spot x_h_parted x_g_count x_g_kinds x_g_wills x_g_starts x_g_code x_g_stack x_g_kl x_g_wl x_g_sl x_g_cl x_nr)) := by
  unfold X0_slants_k0 at hf
  refine MC.ofI pn_X0 (Nat.le_of_ble_eq_true rfl) ?_
  intro p e s m args below meth c A Q ls cx hR hw hl
  have hx := cx.1
  have hb := cx.2.1
  have hl : lv_has ls 3 [(0, .ref (a (78 + 0))), (1, .ref (a 105)), (2, .int v2)] := hl
  refine lv_aload_n hx hb dX0_slants_0 rfl (lv_at hl 1 rfl) ?_
  refine lv_bipush (v := 11) hx hb dX0_slants_1 (by decide) ?_
  obtain ⟨r1, h2, hf⟩ := bnS hf
  refine calVv cx hw hl.1 (c_X2_begin h2) q_1012 k_X2_begin rfl rv_host rfl dX0_slants_3 rfl (Nat.le_of_ble_eq_true rfl) ⟨Nat.le_of_ble_eq_true rfl, Nat.le_of_ble_eq_true rfl⟩ ⟨Nat.le_refl _, Nat.le_refl _⟩ (fun H locs hw => ?_)
  refine lv_aload_n hx hb dX0_slants_6 rfl (lv_at hl 0 rfl) ?_
  refine lv_aload_n hx hb dX0_slants_7 rfl (lv_at hl 1 rfl) ?_
  refine lv_iload_n hx hb dX0_slants_8 rfl (lv_at hl 2 rfl) ?_
  obtain ⟨r3, h4, hf⟩ := bnS hf
  refine calUi cx hw hl.1 (c_X0_points_k0 h4) wu_X0_17_0 q_1011 q_1011 hu_X0_points rfl rv_k0 rfl dX0_slants_9 rfl (Nat.le_of_ble_eq_true rfl) ⟨Nat.le_of_ble_eq_true rfl, Nat.le_of_ble_eq_true rfl⟩ ⟨Nat.le_refl _, Nat.le_refl _⟩ (fun H locs hw => ?_)
  refine lv_iconst (v := 5) hx hb dX0_slants_12 (by decide) ?_
  refine lv_aload_n hx hb dX0_slants_13 rfl (lv_at hl 1 rfl) ?_
  refine cg_X0_23_host cx hw dX0_slants_14 ?_
  refine lv_imul hx hb dX0_slants_17 ?_
  refine lv_iadd hx hb dX0_slants_18 ?_
  have hf := Option.some.inj hf
  subst hf
  exact hR _ _ _ _ _ _ hw rfl ⟨rfl, rfl⟩ dX0_slants_19
theorem c_X0_slants_k1 {v2 : Int32} {res : Int32 × (Nat → Int32) × Int32} (hf : X0_slants_k1 x_h_bodies x_h_traced x_h_number x_h_spot x_h_parted v2 = some res) : MC l E0 D t yX0_slants cX0_slants 3 (some .int) 4 0 0 [.ref (a (78 + 1)), .ref (a 105), .int v2] (cW a ar t x_q0_dials x_q0_spots x_q0_skies x_q0_reports x_q0_count x_q0_chime x_q0_end x_q0_score x_q0_reportCount x_q0_z x_q0_rules x_q0_shades x_q0_facts x_q1_dials x_q1_spots x_q1_skies x_q1_reports x_q1_count x_q1_chime x_q1_end x_q1_score x_q1_reportCount x_q1_z x_q1_rules x_q1_shades x_q1_facts x_q2_dials x_q2_spots x_q2_skies x_q2_reports x_q2_count x_q2_chime x_q2_end x_q2_score x_q2_reportCount x_q2_z x_q2_rules x_q2_shades x_q2_facts x_isKept x_marks x_p_first x_p_steps x_p_most x_p_many x_p_fewest x_p_everRight x_p_opening x_p_rows x_p_rowCount x_p_acts x_p_marks x_p_deepest x_p_wanted x_t_length x_t_tape x_t_words x_t_places x_t_at x_t_kinds x_t_wills x_t_starts x_t_code x_t_count x_t_size x_h_sorts x_h_lengths x_h_items x_h_held x_h_things x_h_sizes x_h_bodies x_h_traced x_h_number x_h_spot x_h_parted x_g_count x_g_kinds x_g_wills x_g_starts x_g_code x_g_stack x_g_kl x_g_wl x_g_sl x_g_cl x_nr) (Qi res.1 (cW a ar t x_q0_dials x_q0_spots x_q0_skies x_q0_reports x_q0_count x_q0_chime x_q0_end x_q0_score x_q0_reportCount x_q0_z x_q0_rules x_q0_shades x_q0_facts x_q1_dials x_q1_spots x_q1_skies x_q1_reports x_q1_count x_q1_chime x_q1_end x_q1_score x_q1_reportCount x_q1_z x_q1_rules x_q1_shades x_q1_facts x_q2_dials x_q2_spots x_q2_skies x_q2_reports x_q2_count x_q2_chime x_q2_end x_q2_score x_q2_reportCount x_q2_z x_q2_rules x_q2_shades x_q2_facts x_isKept x_marks x_p_first x_p_steps x_p_most x_p_many x_p_fewest x_p_everRight x_p_opening x_p_rows x_p_rowCount x_p_acts x_p_marks x_p_deepest x_p_wanted x_t_length x_t_tape x_t_words x_t_places x_t_at x_t_kinds x_t_wills x_t_starts x_t_code x_t_count x_t_size x_h_sorts x_h_lengths x_h_items x_h_held x_h_things x_h_sizes res.2.1 res.2.2 x_h_number x_h_spot x_h_parted x_g_count x_g_kinds x_g_wills x_g_starts x_g_code x_g_stack x_g_kl x_g_wl x_g_sl x_g_cl x_nr)) := by
  unfold X0_slants_k1 at hf
  refine MC.ofI pn_X0 (Nat.le_of_ble_eq_true rfl) ?_
  intro p e s m args below meth c A Q ls cx hR hw hl
  have hx := cx.1
  have hb := cx.2.1
  have hl : lv_has ls 3 [(0, .ref (a (78 + 1))), (1, .ref (a 105)), (2, .int v2)] := hl
  refine lv_aload_n hx hb dX0_slants_0 rfl (lv_at hl 1 rfl) ?_
  refine lv_bipush (v := 11) hx hb dX0_slants_1 (by decide) ?_
  obtain ⟨r1, h2, hf⟩ := bnS hf
  refine calVv cx hw hl.1 (c_X2_begin h2) q_1012 k_X2_begin rfl rv_host rfl dX0_slants_3 rfl (Nat.le_of_ble_eq_true rfl) ⟨Nat.le_of_ble_eq_true rfl, Nat.le_of_ble_eq_true rfl⟩ ⟨Nat.le_refl _, Nat.le_refl _⟩ (fun H locs hw => ?_)
  refine lv_aload_n hx hb dX0_slants_6 rfl (lv_at hl 0 rfl) ?_
  refine lv_aload_n hx hb dX0_slants_7 rfl (lv_at hl 1 rfl) ?_
  refine lv_iload_n hx hb dX0_slants_8 rfl (lv_at hl 2 rfl) ?_
  obtain ⟨r3, h4, hf⟩ := bnS hf
  refine calUi cx hw hl.1 (c_X4_points_k1 h4) wu_X0_17_1 q_1006 q_1011 hu_X0_points rfl rv_k1 rfl dX0_slants_9 rfl (Nat.le_of_ble_eq_true rfl) ⟨Nat.le_of_ble_eq_true rfl, Nat.le_of_ble_eq_true rfl⟩ ⟨Nat.le_refl _, Nat.le_refl _⟩ (fun H locs hw => ?_)
  refine lv_iconst (v := 5) hx hb dX0_slants_12 (by decide) ?_
  refine lv_aload_n hx hb dX0_slants_13 rfl (lv_at hl 1 rfl) ?_
  refine cg_X0_23_host cx hw dX0_slants_14 ?_
  refine lv_imul hx hb dX0_slants_17 ?_
  refine lv_iadd hx hb dX0_slants_18 ?_
  have hf := Option.some.inj hf
  subst hf
  exact hR _ _ _ _ _ _ hw rfl ⟨rfl, rfl⟩ dX0_slants_19
theorem c_X0_slants_k2 {v2 : Int32} {res : Int32 × (Nat → Int32) × Int32} (hf : X0_slants_k2 x_h_bodies x_h_traced x_h_number x_h_spot x_h_parted v2 = some res) : MC l E0 D t yX0_slants cX0_slants 3 (some .int) 3 0 0 [.ref (a (78 + 2)), .ref (a 105), .int v2] (cW a ar t x_q0_dials x_q0_spots x_q0_skies x_q0_reports x_q0_count x_q0_chime x_q0_end x_q0_score x_q0_reportCount x_q0_z x_q0_rules x_q0_shades x_q0_facts x_q1_dials x_q1_spots x_q1_skies x_q1_reports x_q1_count x_q1_chime x_q1_end x_q1_score x_q1_reportCount x_q1_z x_q1_rules x_q1_shades x_q1_facts x_q2_dials x_q2_spots x_q2_skies x_q2_reports x_q2_count x_q2_chime x_q2_end x_q2_score x_q2_reportCount x_q2_z x_q2_rules x_q2_shades x_q2_facts x_isKept x_marks x_p_first x_p_steps x_p_most x_p_many x_p_fewest x_p_everRight x_p_opening x_p_rows x_p_rowCount x_p_acts x_p_marks x_p_deepest x_p_wanted x_t_length x_t_tape x_t_words x_t_places x_t_at x_t_kinds x_t_wills x_t_starts x_t_code x_t_count x_t_size x_h_sorts x_h_lengths x_h_items x_h_held x_h_things x_h_sizes x_h_bodies x_h_traced x_h_number x_h_spot x_h_parted x_g_count x_g_kinds x_g_wills x_g_starts x_g_code x_g_stack x_g_kl x_g_wl x_g_sl x_g_cl x_nr) (Qi res.1 (cW a ar t x_q0_dials x_q0_spots x_q0_skies x_q0_reports x_q0_count x_q0_chime x_q0_end x_q0_score x_q0_reportCount x_q0_z x_q0_rules x_q0_shades x_q0_facts x_q1_dials x_q1_spots x_q1_skies x_q1_reports x_q1_count x_q1_chime x_q1_end x_q1_score x_q1_reportCount x_q1_z x_q1_rules x_q1_shades x_q1_facts x_q2_dials x_q2_spots x_q2_skies x_q2_reports x_q2_count x_q2_chime x_q2_end x_q2_score x_q2_reportCount x_q2_z x_q2_rules x_q2_shades x_q2_facts x_isKept x_marks x_p_first x_p_steps x_p_most x_p_many x_p_fewest x_p_everRight x_p_opening x_p_rows x_p_rowCount x_p_acts x_p_marks x_p_deepest x_p_wanted x_t_length x_t_tape x_t_words x_t_places x_t_at x_t_kinds x_t_wills x_t_starts x_t_code x_t_count x_t_size x_h_sorts x_h_lengths x_h_items x_h_held x_h_things x_h_sizes res.2.1 res.2.2 x_h_number x_h_spot x_h_parted x_g_count x_g_kinds x_g_wills x_g_starts x_g_code x_g_stack x_g_kl x_g_wl x_g_sl x_g_cl x_nr)) := by
  unfold X0_slants_k2 at hf
  refine MC.ofI pn_X0 (Nat.le_of_ble_eq_true rfl) ?_
  intro p e s m args below meth c A Q ls cx hR hw hl
  have hx := cx.1
  have hb := cx.2.1
  have hl : lv_has ls 3 [(0, .ref (a (78 + 2))), (1, .ref (a 105)), (2, .int v2)] := hl
  refine lv_aload_n hx hb dX0_slants_0 rfl (lv_at hl 1 rfl) ?_
  refine lv_bipush (v := 11) hx hb dX0_slants_1 (by decide) ?_
  obtain ⟨r1, h2, hf⟩ := bnS hf
  refine calVv cx hw hl.1 (c_X2_begin h2) q_1012 k_X2_begin rfl rv_host rfl dX0_slants_3 rfl (Nat.le_of_ble_eq_true rfl) ⟨Nat.le_of_ble_eq_true rfl, Nat.le_of_ble_eq_true rfl⟩ ⟨Nat.le_refl _, Nat.le_refl _⟩ (fun H locs hw => ?_)
  refine lv_aload_n hx hb dX0_slants_6 rfl (lv_at hl 0 rfl) ?_
  refine lv_aload_n hx hb dX0_slants_7 rfl (lv_at hl 1 rfl) ?_
  refine lv_iload_n hx hb dX0_slants_8 rfl (lv_at hl 2 rfl) ?_
  obtain ⟨r3, h4, hf⟩ := bnS hf
  refine calUi cx hw hl.1 (c_X0_points_k2 h4) wu_X0_17_2 q_1011 q_1011 hu_X0_points rfl rv_k2 rfl dX0_slants_9 rfl (Nat.le_of_ble_eq_true rfl) ⟨Nat.le_of_ble_eq_true rfl, Nat.le_of_ble_eq_true rfl⟩ ⟨Nat.le_refl _, Nat.le_refl _⟩ (fun H locs hw => ?_)
  refine lv_iconst (v := 5) hx hb dX0_slants_12 (by decide) ?_
  refine lv_aload_n hx hb dX0_slants_13 rfl (lv_at hl 1 rfl) ?_
  refine cg_X0_23_host cx hw dX0_slants_14 ?_
  refine lv_imul hx hb dX0_slants_17 ?_
  refine lv_iadd hx hb dX0_slants_18 ?_
  have hf := Option.some.inj hf
  subst hf
  exact hR _ _ _ _ _ _ hw rfl ⟨rfl, rfl⟩ dX0_slants_19
theorem dX10_slants_0 : decode cX10_slants 0 = .ok (.aload_n 1, 1) := by decide +kernel
theorem dX10_slants_1 : decode cX10_slants 1 = .ok (.bipush 30, 2) := by decide +kernel
theorem dX10_slants_3 : decode cX10_slants 3 = .ok (.invokevirtual 14, 3) := by decide +kernel
theorem dX10_slants_6 : decode cX10_slants 6 = .ok (.aload_n 0, 1) := by decide +kernel
theorem dX10_slants_7 : decode cX10_slants 7 = .ok (.aload_n 1, 1) := by decide +kernel
theorem dX10_slants_8 : decode cX10_slants 8 = .ok (.iload_n 2, 1) := by decide +kernel
theorem dX10_slants_9 : decode cX10_slants 9 = .ok (.invokespecial 20, 3) := by decide +kernel
theorem dX10_slants_12 : decode cX10_slants 12 = .ok (.bipush 9, 2) := by decide +kernel
theorem dX10_slants_14 : decode cX10_slants 14 = .ok (.ixor, 1) := by decide +kernel
theorem dX10_slants_15 : decode cX10_slants 15 = .ok (.ireturn, 1) := by decide +kernel
theorem c_X10_slants_k2 {v2 : Int32} {res : Int32 × (Nat → Int32) × Int32} (hf : X10_slants_k2 x_h_bodies x_h_traced x_h_number x_h_spot x_h_parted v2 = some res) : MC l E0 D t yX10_slants cX10_slants 3 (some .int) 4 0 0 [.ref (a (78 + 2)), .ref (a 105), .int v2] (cW a ar t x_q0_dials x_q0_spots x_q0_skies x_q0_reports x_q0_count x_q0_chime x_q0_end x_q0_score x_q0_reportCount x_q0_z x_q0_rules x_q0_shades x_q0_facts x_q1_dials x_q1_spots x_q1_skies x_q1_reports x_q1_count x_q1_chime x_q1_end x_q1_score x_q1_reportCount x_q1_z x_q1_rules x_q1_shades x_q1_facts x_q2_dials x_q2_spots x_q2_skies x_q2_reports x_q2_count x_q2_chime x_q2_end x_q2_score x_q2_reportCount x_q2_z x_q2_rules x_q2_shades x_q2_facts x_isKept x_marks x_p_first x_p_steps x_p_most x_p_many x_p_fewest x_p_everRight x_p_opening x_p_rows x_p_rowCount x_p_acts x_p_marks x_p_deepest x_p_wanted x_t_length x_t_tape x_t_words x_t_places x_t_at x_t_kinds x_t_wills x_t_starts x_t_code x_t_count x_t_size x_h_sorts x_h_lengths x_h_items x_h_held x_h_things x_h_sizes x_h_bodies x_h_traced x_h_number x_h_spot x_h_parted x_g_count x_g_kinds x_g_wills x_g_starts x_g_code x_g_stack x_g_kl x_g_wl x_g_sl x_g_cl x_nr) (Qi res.1 (cW a ar t x_q0_dials x_q0_spots x_q0_skies x_q0_reports x_q0_count x_q0_chime x_q0_end x_q0_score x_q0_reportCount x_q0_z x_q0_rules x_q0_shades x_q0_facts x_q1_dials x_q1_spots x_q1_skies x_q1_reports x_q1_count x_q1_chime x_q1_end x_q1_score x_q1_reportCount x_q1_z x_q1_rules x_q1_shades x_q1_facts x_q2_dials x_q2_spots x_q2_skies x_q2_reports x_q2_count x_q2_chime x_q2_end x_q2_score x_q2_reportCount x_q2_z x_q2_rules x_q2_shades x_q2_facts x_isKept x_marks x_p_first x_p_steps x_p_most x_p_many x_p_fewest x_p_everRight x_p_opening x_p_rows x_p_rowCount x_p_acts x_p_marks x_p_deepest x_p_wanted x_t_length x_t_tape x_t_words x_t_places x_t_at x_t_kinds x_t_wills x_t_starts x_t_code x_t_count x_t_size x_h_sorts x_h_lengths x_h_items x_h_held x_h_things x_h_sizes res.2.1 res.2.2 x_h_number x_h_spot x_h_parted x_g_count x_g_kinds x_g_wills x_g_starts x_g_code x_g_stack x_g_kl x_g_wl x_g_sl x_g_cl x_nr)) := by
  unfold X10_slants_k2 at hf
  refine MC.ofI pn_X10 (Nat.le_of_ble_eq_true rfl) ?_
  intro p e s m args below meth c A Q ls cx hR hw hl
  have hx := cx.1
  have hb := cx.2.1
  have hl : lv_has ls 3 [(0, .ref (a (78 + 2))), (1, .ref (a 105)), (2, .int v2)] := hl
  refine lv_aload_n hx hb dX10_slants_0 rfl (lv_at hl 1 rfl) ?_
  refine lv_bipush (v := 30) hx hb dX10_slants_1 (by decide) ?_
  obtain ⟨r1, h2, hf⟩ := bnS hf
  refine calVv cx hw hl.1 (c_X2_begin h2) q_1020 k_X2_begin rfl rv_host rfl dX10_slants_3 rfl (Nat.le_of_ble_eq_true rfl) ⟨Nat.le_of_ble_eq_true rfl, Nat.le_of_ble_eq_true rfl⟩ ⟨Nat.le_refl _, Nat.le_refl _⟩ (fun H locs hw => ?_)
  refine lv_aload_n hx hb dX10_slants_6 rfl (lv_at hl 0 rfl) ?_
  refine lv_aload_n hx hb dX10_slants_7 rfl (lv_at hl 1 rfl) ?_
  refine lv_iload_n hx hb dX10_slants_8 rfl (lv_at hl 2 rfl) ?_
  obtain ⟨r3, h4, hf⟩ := bnS hf
  refine calSUi cx hw hl.1 (c_X0_slants_k2 h4) ws_X10_20 q_1032 hs_X0_slants rfl rv_k2 rfl dX10_slants_9 rfl (Nat.le_of_ble_eq_true rfl) ⟨Nat.le_of_ble_eq_true rfl, Nat.le_of_ble_eq_true rfl⟩ ⟨Nat.le_refl _, Nat.le_refl _⟩ (fun H locs hw => ?_)
  refine lv_bipush (v := 9) hx hb dX10_slants_12 (by decide) ?_
  refine lv_ixor hx hb dX10_slants_14 ?_
  have hf := Option.some.inj hf
  subst hf
  exact hR _ _ _ _ _ _ hw rfl ⟨rfl, rfl⟩ dX10_slants_15
theorem c_X0_slants_k3 {v2 : Int32} {res : Int32 × (Nat → Int32) × Int32} (hf : X0_slants_k3 x_h_bodies x_h_traced x_h_number x_h_spot x_h_parted v2 = some res) : MC l E0 D t yX0_slants cX0_slants 3 (some .int) 4 0 0 [.ref (a (78 + 3)), .ref (a 105), .int v2] (cW a ar t x_q0_dials x_q0_spots x_q0_skies x_q0_reports x_q0_count x_q0_chime x_q0_end x_q0_score x_q0_reportCount x_q0_z x_q0_rules x_q0_shades x_q0_facts x_q1_dials x_q1_spots x_q1_skies x_q1_reports x_q1_count x_q1_chime x_q1_end x_q1_score x_q1_reportCount x_q1_z x_q1_rules x_q1_shades x_q1_facts x_q2_dials x_q2_spots x_q2_skies x_q2_reports x_q2_count x_q2_chime x_q2_end x_q2_score x_q2_reportCount x_q2_z x_q2_rules x_q2_shades x_q2_facts x_isKept x_marks x_p_first x_p_steps x_p_most x_p_many x_p_fewest x_p_everRight x_p_opening x_p_rows x_p_rowCount x_p_acts x_p_marks x_p_deepest x_p_wanted x_t_length x_t_tape x_t_words x_t_places x_t_at x_t_kinds x_t_wills x_t_starts x_t_code x_t_count x_t_size x_h_sorts x_h_lengths x_h_items x_h_held x_h_things x_h_sizes x_h_bodies x_h_traced x_h_number x_h_spot x_h_parted x_g_count x_g_kinds x_g_wills x_g_starts x_g_code x_g_stack x_g_kl x_g_wl x_g_sl x_g_cl x_nr) (Qi res.1 (cW a ar t x_q0_dials x_q0_spots x_q0_skies x_q0_reports x_q0_count x_q0_chime x_q0_end x_q0_score x_q0_reportCount x_q0_z x_q0_rules x_q0_shades x_q0_facts x_q1_dials x_q1_spots x_q1_skies x_q1_reports x_q1_count x_q1_chime x_q1_end x_q1_score x_q1_reportCount x_q1_z x_q1_rules x_q1_shades x_q1_facts x_q2_dials x_q2_spots x_q2_skies x_q2_reports x_q2_count x_q2_chime x_q2_end x_q2_score x_q2_reportCount x_q2_z x_q2_rules x_q2_shades x_q2_facts x_isKept x_marks x_p_first x_p_steps x_p_most x_p_many x_p_fewest x_p_everRight x_p_opening x_p_rows x_p_rowCount x_p_acts x_p_marks x_p_deepest x_p_wanted x_t_length x_t_tape x_t_words x_t_places x_t_at x_t_kinds x_t_wills x_t_starts x_t_code x_t_count x_t_size x_h_sorts x_h_lengths x_h_items x_h_held x_h_things x_h_sizes res.2.1 res.2.2 x_h_number x_h_spot x_h_parted x_g_count x_g_kinds x_g_wills x_g_starts x_g_code x_g_stack x_g_kl x_g_wl x_g_sl x_g_cl x_nr)) := by
  unfold X0_slants_k3 at hf
  refine MC.ofI pn_X0 (Nat.le_of_ble_eq_true rfl) ?_
  intro p e s m args below meth c A Q ls cx hR hw hl
  have hx := cx.1
  have hb := cx.2.1
  have hl : lv_has ls 3 [(0, .ref (a (78 + 3))), (1, .ref (a 105)), (2, .int v2)] := hl
  refine lv_aload_n hx hb dX0_slants_0 rfl (lv_at hl 1 rfl) ?_
  refine lv_bipush (v := 11) hx hb dX0_slants_1 (by decide) ?_
  obtain ⟨r1, h2, hf⟩ := bnS hf
  refine calVv cx hw hl.1 (c_X2_begin h2) q_1012 k_X2_begin rfl rv_host rfl dX0_slants_3 rfl (Nat.le_of_ble_eq_true rfl) ⟨Nat.le_of_ble_eq_true rfl, Nat.le_of_ble_eq_true rfl⟩ ⟨Nat.le_refl _, Nat.le_refl _⟩ (fun H locs hw => ?_)
  refine lv_aload_n hx hb dX0_slants_6 rfl (lv_at hl 0 rfl) ?_
  refine lv_aload_n hx hb dX0_slants_7 rfl (lv_at hl 1 rfl) ?_
  refine lv_iload_n hx hb dX0_slants_8 rfl (lv_at hl 2 rfl) ?_
  obtain ⟨r3, h4, hf⟩ := bnS hf
  refine calUi cx hw hl.1 (c_X1_points_k3 h4) wu_X0_17_3 q_995 q_1011 hu_X0_points rfl rv_k3 rfl dX0_slants_9 rfl (Nat.le_of_ble_eq_true rfl) ⟨Nat.le_of_ble_eq_true rfl, Nat.le_of_ble_eq_true rfl⟩ ⟨Nat.le_refl _, Nat.le_refl _⟩ (fun H locs hw => ?_)
  refine lv_iconst (v := 5) hx hb dX0_slants_12 (by decide) ?_
  refine lv_aload_n hx hb dX0_slants_13 rfl (lv_at hl 1 rfl) ?_
  refine cg_X0_23_host cx hw dX0_slants_14 ?_
  refine lv_imul hx hb dX0_slants_17 ?_
  refine lv_iadd hx hb dX0_slants_18 ?_
  have hf := Option.some.inj hf
  subst hf
  exact hR _ _ _ _ _ _ hw rfl ⟨rfl, rfl⟩ dX0_slants_19
theorem c_X10_slants_k3 {v2 : Int32} {res : Int32 × (Nat → Int32) × Int32} (hf : X10_slants_k3 x_h_bodies x_h_traced x_h_number x_h_spot x_h_parted v2 = some res) : MC l E0 D t yX10_slants cX10_slants 3 (some .int) 5 0 0 [.ref (a (78 + 3)), .ref (a 105), .int v2] (cW a ar t x_q0_dials x_q0_spots x_q0_skies x_q0_reports x_q0_count x_q0_chime x_q0_end x_q0_score x_q0_reportCount x_q0_z x_q0_rules x_q0_shades x_q0_facts x_q1_dials x_q1_spots x_q1_skies x_q1_reports x_q1_count x_q1_chime x_q1_end x_q1_score x_q1_reportCount x_q1_z x_q1_rules x_q1_shades x_q1_facts x_q2_dials x_q2_spots x_q2_skies x_q2_reports x_q2_count x_q2_chime x_q2_end x_q2_score x_q2_reportCount x_q2_z x_q2_rules x_q2_shades x_q2_facts x_isKept x_marks x_p_first x_p_steps x_p_most x_p_many x_p_fewest x_p_everRight x_p_opening x_p_rows x_p_rowCount x_p_acts x_p_marks x_p_deepest x_p_wanted x_t_length x_t_tape x_t_words x_t_places x_t_at x_t_kinds x_t_wills x_t_starts x_t_code x_t_count x_t_size x_h_sorts x_h_lengths x_h_items x_h_held x_h_things x_h_sizes x_h_bodies x_h_traced x_h_number x_h_spot x_h_parted x_g_count x_g_kinds x_g_wills x_g_starts x_g_code x_g_stack x_g_kl x_g_wl x_g_sl x_g_cl x_nr) (Qi res.1 (cW a ar t x_q0_dials x_q0_spots x_q0_skies x_q0_reports x_q0_count x_q0_chime x_q0_end x_q0_score x_q0_reportCount x_q0_z x_q0_rules x_q0_shades x_q0_facts x_q1_dials x_q1_spots x_q1_skies x_q1_reports x_q1_count x_q1_chime x_q1_end x_q1_score x_q1_reportCount x_q1_z x_q1_rules x_q1_shades x_q1_facts x_q2_dials x_q2_spots x_q2_skies x_q2_reports x_q2_count x_q2_chime x_q2_end x_q2_score x_q2_reportCount x_q2_z x_q2_rules x_q2_shades x_q2_facts x_isKept x_marks x_p_first x_p_steps x_p_most x_p_many x_p_fewest x_p_everRight x_p_opening x_p_rows x_p_rowCount x_p_acts x_p_marks x_p_deepest x_p_wanted x_t_length x_t_tape x_t_words x_t_places x_t_at x_t_kinds x_t_wills x_t_starts x_t_code x_t_count x_t_size x_h_sorts x_h_lengths x_h_items x_h_held x_h_things x_h_sizes res.2.1 res.2.2 x_h_number x_h_spot x_h_parted x_g_count x_g_kinds x_g_wills x_g_starts x_g_code x_g_stack x_g_kl x_g_wl x_g_sl x_g_cl x_nr)) := by
  unfold X10_slants_k3 at hf
  refine MC.ofI pn_X10 (Nat.le_of_ble_eq_true rfl) ?_
  intro p e s m args below meth c A Q ls cx hR hw hl
  have hx := cx.1
  have hb := cx.2.1
  have hl : lv_has ls 3 [(0, .ref (a (78 + 3))), (1, .ref (a 105)), (2, .int v2)] := hl
  refine lv_aload_n hx hb dX10_slants_0 rfl (lv_at hl 1 rfl) ?_
  refine lv_bipush (v := 30) hx hb dX10_slants_1 (by decide) ?_
  obtain ⟨r1, h2, hf⟩ := bnS hf
  refine calVv cx hw hl.1 (c_X2_begin h2) q_1020 k_X2_begin rfl rv_host rfl dX10_slants_3 rfl (Nat.le_of_ble_eq_true rfl) ⟨Nat.le_of_ble_eq_true rfl, Nat.le_of_ble_eq_true rfl⟩ ⟨Nat.le_refl _, Nat.le_refl _⟩ (fun H locs hw => ?_)
  refine lv_aload_n hx hb dX10_slants_6 rfl (lv_at hl 0 rfl) ?_
  refine lv_aload_n hx hb dX10_slants_7 rfl (lv_at hl 1 rfl) ?_
  refine lv_iload_n hx hb dX10_slants_8 rfl (lv_at hl 2 rfl) ?_
  obtain ⟨r3, h4, hf⟩ := bnS hf
  refine calSUi cx hw hl.1 (c_X0_slants_k3 h4) ws_X10_20 q_1032 hs_X0_slants rfl rv_k3 rfl dX10_slants_9 rfl (Nat.le_of_ble_eq_true rfl) ⟨Nat.le_of_ble_eq_true rfl, Nat.le_of_ble_eq_true rfl⟩ ⟨Nat.le_refl _, Nat.le_refl _⟩ (fun H locs hw => ?_)
  refine lv_bipush (v := 9) hx hb dX10_slants_12 (by decide) ?_
  refine lv_ixor hx hb dX10_slants_14 ?_
  have hf := Option.some.inj hf
  subst hf
  exact hR _ _ _ _ _ _ hw rfl ⟨rfl, rfl⟩ dX10_slants_15
theorem c_X0_slants_k4 {v2 : Int32} {res : Int32 × (Nat → Int32) × Int32} (hf : X0_slants_k4 x_h_bodies x_h_traced x_h_number x_h_spot x_h_parted v2 = some res) : MC l E0 D t yX0_slants cX0_slants 3 (some .int) 3 0 0 [.ref (a (78 + 4)), .ref (a 105), .int v2] (cW a ar t x_q0_dials x_q0_spots x_q0_skies x_q0_reports x_q0_count x_q0_chime x_q0_end x_q0_score x_q0_reportCount x_q0_z x_q0_rules x_q0_shades x_q0_facts x_q1_dials x_q1_spots x_q1_skies x_q1_reports x_q1_count x_q1_chime x_q1_end x_q1_score x_q1_reportCount x_q1_z x_q1_rules x_q1_shades x_q1_facts x_q2_dials x_q2_spots x_q2_skies x_q2_reports x_q2_count x_q2_chime x_q2_end x_q2_score x_q2_reportCount x_q2_z x_q2_rules x_q2_shades x_q2_facts x_isKept x_marks x_p_first x_p_steps x_p_most x_p_many x_p_fewest x_p_everRight x_p_opening x_p_rows x_p_rowCount x_p_acts x_p_marks x_p_deepest x_p_wanted x_t_length x_t_tape x_t_words x_t_places x_t_at x_t_kinds x_t_wills x_t_starts x_t_code x_t_count x_t_size x_h_sorts x_h_lengths x_h_items x_h_held x_h_things x_h_sizes x_h_bodies x_h_traced x_h_number x_h_spot x_h_parted x_g_count x_g_kinds x_g_wills x_g_starts x_g_code x_g_stack x_g_kl x_g_wl x_g_sl x_g_cl x_nr) (Qi res.1 (cW a ar t x_q0_dials x_q0_spots x_q0_skies x_q0_reports x_q0_count x_q0_chime x_q0_end x_q0_score x_q0_reportCount x_q0_z x_q0_rules x_q0_shades x_q0_facts x_q1_dials x_q1_spots x_q1_skies x_q1_reports x_q1_count x_q1_chime x_q1_end x_q1_score x_q1_reportCount x_q1_z x_q1_rules x_q1_shades x_q1_facts x_q2_dials x_q2_spots x_q2_skies x_q2_reports x_q2_count x_q2_chime x_q2_end x_q2_score x_q2_reportCount x_q2_z x_q2_rules x_q2_shades x_q2_facts x_isKept x_marks x_p_first x_p_steps x_p_most x_p_many x_p_fewest x_p_everRight x_p_opening x_p_rows x_p_rowCount x_p_acts x_p_marks x_p_deepest x_p_wanted x_t_length x_t_tape x_t_words x_t_places x_t_at x_t_kinds x_t_wills x_t_starts x_t_code x_t_count x_t_size x_h_sorts x_h_lengths x_h_items x_h_held x_h_things x_h_sizes res.2.1 res.2.2 x_h_number x_h_spot x_h_parted x_g_count x_g_kinds x_g_wills x_g_starts x_g_code x_g_stack x_g_kl x_g_wl x_g_sl x_g_cl x_nr)) := by
  unfold X0_slants_k4 at hf
  refine MC.ofI pn_X0 (Nat.le_of_ble_eq_true rfl) ?_
  intro p e s m args below meth c A Q ls cx hR hw hl
  have hx := cx.1
  have hb := cx.2.1
  have hl : lv_has ls 3 [(0, .ref (a (78 + 4))), (1, .ref (a 105)), (2, .int v2)] := hl
  refine lv_aload_n hx hb dX0_slants_0 rfl (lv_at hl 1 rfl) ?_
  refine lv_bipush (v := 11) hx hb dX0_slants_1 (by decide) ?_
  obtain ⟨r1, h2, hf⟩ := bnS hf
  refine calVv cx hw hl.1 (c_X2_begin h2) q_1012 k_X2_begin rfl rv_host rfl dX0_slants_3 rfl (Nat.le_of_ble_eq_true rfl) ⟨Nat.le_of_ble_eq_true rfl, Nat.le_of_ble_eq_true rfl⟩ ⟨Nat.le_refl _, Nat.le_refl _⟩ (fun H locs hw => ?_)
  refine lv_aload_n hx hb dX0_slants_6 rfl (lv_at hl 0 rfl) ?_
  refine lv_aload_n hx hb dX0_slants_7 rfl (lv_at hl 1 rfl) ?_
  refine lv_iload_n hx hb dX0_slants_8 rfl (lv_at hl 2 rfl) ?_
  obtain ⟨r3, h4, hf⟩ := bnS hf
  refine calUi cx hw hl.1 (c_X0_points_k4 h4) wu_X0_17_4 q_1011 q_1011 hu_X0_points rfl rv_k4 rfl dX0_slants_9 rfl (Nat.le_of_ble_eq_true rfl) ⟨Nat.le_of_ble_eq_true rfl, Nat.le_of_ble_eq_true rfl⟩ ⟨Nat.le_refl _, Nat.le_refl _⟩ (fun H locs hw => ?_)
  refine lv_iconst (v := 5) hx hb dX0_slants_12 (by decide) ?_
  refine lv_aload_n hx hb dX0_slants_13 rfl (lv_at hl 1 rfl) ?_
  refine cg_X0_23_host cx hw dX0_slants_14 ?_
  refine lv_imul hx hb dX0_slants_17 ?_
  refine lv_iadd hx hb dX0_slants_18 ?_
  have hf := Option.some.inj hf
  subst hf
  exact hR _ _ _ _ _ _ hw rfl ⟨rfl, rfl⟩ dX0_slants_19
theorem c_X0_slants_k5 {v2 : Int32} {res : Int32 × (Nat → Int32) × Int32} (hf : X0_slants_k5 x_h_bodies x_h_traced x_h_number x_h_spot x_h_parted v2 = some res) : MC l E0 D t yX0_slants cX0_slants 3 (some .int) 3 0 0 [.ref (a (78 + 5)), .ref (a 105), .int v2] (cW a ar t x_q0_dials x_q0_spots x_q0_skies x_q0_reports x_q0_count x_q0_chime x_q0_end x_q0_score x_q0_reportCount x_q0_z x_q0_rules x_q0_shades x_q0_facts x_q1_dials x_q1_spots x_q1_skies x_q1_reports x_q1_count x_q1_chime x_q1_end x_q1_score x_q1_reportCount x_q1_z x_q1_rules x_q1_shades x_q1_facts x_q2_dials x_q2_spots x_q2_skies x_q2_reports x_q2_count x_q2_chime x_q2_end x_q2_score x_q2_reportCount x_q2_z x_q2_rules x_q2_shades x_q2_facts x_isKept x_marks x_p_first x_p_steps x_p_most x_p_many x_p_fewest x_p_everRight x_p_opening x_p_rows x_p_rowCount x_p_acts x_p_marks x_p_deepest x_p_wanted x_t_length x_t_tape x_t_words x_t_places x_t_at x_t_kinds x_t_wills x_t_starts x_t_code x_t_count x_t_size x_h_sorts x_h_lengths x_h_items x_h_held x_h_things x_h_sizes x_h_bodies x_h_traced x_h_number x_h_spot x_h_parted x_g_count x_g_kinds x_g_wills x_g_starts x_g_code x_g_stack x_g_kl x_g_wl x_g_sl x_g_cl x_nr) (Qi res.1 (cW a ar t x_q0_dials x_q0_spots x_q0_skies x_q0_reports x_q0_count x_q0_chime x_q0_end x_q0_score x_q0_reportCount x_q0_z x_q0_rules x_q0_shades x_q0_facts x_q1_dials x_q1_spots x_q1_skies x_q1_reports x_q1_count x_q1_chime x_q1_end x_q1_score x_q1_reportCount x_q1_z x_q1_rules x_q1_shades x_q1_facts x_q2_dials x_q2_spots x_q2_skies x_q2_reports x_q2_count x_q2_chime x_q2_end x_q2_score x_q2_reportCount x_q2_z x_q2_rules x_q2_shades x_q2_facts x_isKept x_marks x_p_first x_p_steps x_p_most x_p_many x_p_fewest x_p_everRight x_p_opening x_p_rows x_p_rowCount x_p_acts x_p_marks x_p_deepest x_p_wanted x_t_length x_t_tape x_t_words x_t_places x_t_at x_t_kinds x_t_wills x_t_starts x_t_code x_t_count x_t_size x_h_sorts x_h_lengths x_h_items x_h_held x_h_things x_h_sizes res.2.1 res.2.2 x_h_number x_h_spot x_h_parted x_g_count x_g_kinds x_g_wills x_g_starts x_g_code x_g_stack x_g_kl x_g_wl x_g_sl x_g_cl x_nr)) := by
  unfold X0_slants_k5 at hf
  refine MC.ofI pn_X0 (Nat.le_of_ble_eq_true rfl) ?_
  intro p e s m args below meth c A Q ls cx hR hw hl
  have hx := cx.1
  have hb := cx.2.1
  have hl : lv_has ls 3 [(0, .ref (a (78 + 5))), (1, .ref (a 105)), (2, .int v2)] := hl
  refine lv_aload_n hx hb dX0_slants_0 rfl (lv_at hl 1 rfl) ?_
  refine lv_bipush (v := 11) hx hb dX0_slants_1 (by decide) ?_
  obtain ⟨r1, h2, hf⟩ := bnS hf
  refine calVv cx hw hl.1 (c_X2_begin h2) q_1012 k_X2_begin rfl rv_host rfl dX0_slants_3 rfl (Nat.le_of_ble_eq_true rfl) ⟨Nat.le_of_ble_eq_true rfl, Nat.le_of_ble_eq_true rfl⟩ ⟨Nat.le_refl _, Nat.le_refl _⟩ (fun H locs hw => ?_)
  refine lv_aload_n hx hb dX0_slants_6 rfl (lv_at hl 0 rfl) ?_
  refine lv_aload_n hx hb dX0_slants_7 rfl (lv_at hl 1 rfl) ?_
  refine lv_iload_n hx hb dX0_slants_8 rfl (lv_at hl 2 rfl) ?_
  obtain ⟨r3, h4, hf⟩ := bnS hf
  refine calUi cx hw hl.1 (c_X0_points_k5 h4) wu_X0_17_5 q_1011 q_1011 hu_X0_points rfl rv_k5 rfl dX0_slants_9 rfl (Nat.le_of_ble_eq_true rfl) ⟨Nat.le_of_ble_eq_true rfl, Nat.le_of_ble_eq_true rfl⟩ ⟨Nat.le_refl _, Nat.le_refl _⟩ (fun H locs hw => ?_)
  refine lv_iconst (v := 5) hx hb dX0_slants_12 (by decide) ?_
  refine lv_aload_n hx hb dX0_slants_13 rfl (lv_at hl 1 rfl) ?_
  refine cg_X0_23_host cx hw dX0_slants_14 ?_
  refine lv_imul hx hb dX0_slants_17 ?_
  refine lv_iadd hx hb dX0_slants_18 ?_
  have hf := Option.some.inj hf
  subst hf
  exact hR _ _ _ _ _ _ hw rfl ⟨rfl, rfl⟩ dX0_slants_19
theorem dX8_slants_0 : decode cX8_slants 0 = .ok (.aload_n 1, 1) := by decide +kernel
theorem dX8_slants_1 : decode cX8_slants 1 = .ok (.bipush 60, 2) := by decide +kernel
theorem dX8_slants_3 : decode cX8_slants 3 = .ok (.invokevirtual 14, 3) := by decide +kernel
theorem dX8_slants_6 : decode cX8_slants 6 = .ok (.iconst 0, 1) := by decide +kernel
theorem dX8_slants_7 : decode cX8_slants 7 = .ok (.aload_n 0, 1) := by decide +kernel
theorem dX8_slants_8 : decode cX8_slants 8 = .ok (.aload_n 1, 1) := by decide +kernel
theorem dX8_slants_9 : decode cX8_slants 9 = .ok (.iload_n 2, 1) := by decide +kernel
theorem dX8_slants_10 : decode cX8_slants 10 = .ok (.invokespecial 20, 3) := by decide +kernel
theorem dX8_slants_13 : decode cX8_slants 13 = .ok (.isub, 1) := by decide +kernel
theorem dX8_slants_14 : decode cX8_slants 14 = .ok (.ireturn, 1) := by decide +kernel
theorem c_X8_slants_k5 {v2 : Int32} {res : Int32 × (Nat → Int32) × Int32} (hf : X8_slants_k5 x_h_bodies x_h_traced x_h_number x_h_spot x_h_parted v2 = some res) : MC l E0 D t yX8_slants cX8_slants 3 (some .int) 4 0 0 [.ref (a (78 + 5)), .ref (a 105), .int v2] (cW a ar t x_q0_dials x_q0_spots x_q0_skies x_q0_reports x_q0_count x_q0_chime x_q0_end x_q0_score x_q0_reportCount x_q0_z x_q0_rules x_q0_shades x_q0_facts x_q1_dials x_q1_spots x_q1_skies x_q1_reports x_q1_count x_q1_chime x_q1_end x_q1_score x_q1_reportCount x_q1_z x_q1_rules x_q1_shades x_q1_facts x_q2_dials x_q2_spots x_q2_skies x_q2_reports x_q2_count x_q2_chime x_q2_end x_q2_score x_q2_reportCount x_q2_z x_q2_rules x_q2_shades x_q2_facts x_isKept x_marks x_p_first x_p_steps x_p_most x_p_many x_p_fewest x_p_everRight x_p_opening x_p_rows x_p_rowCount x_p_acts x_p_marks x_p_deepest x_p_wanted x_t_length x_t_tape x_t_words x_t_places x_t_at x_t_kinds x_t_wills x_t_starts x_t_code x_t_count x_t_size x_h_sorts x_h_lengths x_h_items x_h_held x_h_things x_h_sizes x_h_bodies x_h_traced x_h_number x_h_spot x_h_parted x_g_count x_g_kinds x_g_wills x_g_starts x_g_code x_g_stack x_g_kl x_g_wl x_g_sl x_g_cl x_nr) (Qi res.1 (cW a ar t x_q0_dials x_q0_spots x_q0_skies x_q0_reports x_q0_count x_q0_chime x_q0_end x_q0_score x_q0_reportCount x_q0_z x_q0_rules x_q0_shades x_q0_facts x_q1_dials x_q1_spots x_q1_skies x_q1_reports x_q1_count x_q1_chime x_q1_end x_q1_score x_q1_reportCount x_q1_z x_q1_rules x_q1_shades x_q1_facts x_q2_dials x_q2_spots x_q2_skies x_q2_reports x_q2_count x_q2_chime x_q2_end x_q2_score x_q2_reportCount x_q2_z x_q2_rules x_q2_shades x_q2_facts x_isKept x_marks x_p_first x_p_steps x_p_most x_p_many x_p_fewest x_p_everRight x_p_opening x_p_rows x_p_rowCount x_p_acts x_p_marks x_p_deepest x_p_wanted x_t_length x_t_tape x_t_words x_t_places x_t_at x_t_kinds x_t_wills x_t_starts x_t_code x_t_count x_t_size x_h_sorts x_h_lengths x_h_items x_h_held x_h_things x_h_sizes res.2.1 res.2.2 x_h_number x_h_spot x_h_parted x_g_count x_g_kinds x_g_wills x_g_starts x_g_code x_g_stack x_g_kl x_g_wl x_g_sl x_g_cl x_nr)) := by
  unfold X8_slants_k5 at hf
  refine MC.ofI pn_X8 (Nat.le_of_ble_eq_true rfl) ?_
  intro p e s m args below meth c A Q ls cx hR hw hl
  have hx := cx.1
  have hb := cx.2.1
  have hl : lv_has ls 3 [(0, .ref (a (78 + 5))), (1, .ref (a 105)), (2, .int v2)] := hl
  refine lv_aload_n hx hb dX8_slants_0 rfl (lv_at hl 1 rfl) ?_
  refine lv_bipush (v := 60) hx hb dX8_slants_1 (by decide) ?_
  obtain ⟨r1, h2, hf⟩ := bnS hf
  refine calVv cx hw hl.1 (c_X2_begin h2) q_1027 k_X2_begin rfl rv_host rfl dX8_slants_3 rfl (Nat.le_of_ble_eq_true rfl) ⟨Nat.le_of_ble_eq_true rfl, Nat.le_of_ble_eq_true rfl⟩ ⟨Nat.le_refl _, Nat.le_refl _⟩ (fun H locs hw => ?_)
  refine lv_iconst (v := 0) hx hb dX8_slants_6 (by decide) ?_
  refine lv_aload_n hx hb dX8_slants_7 rfl (lv_at hl 0 rfl) ?_
  refine lv_aload_n hx hb dX8_slants_8 rfl (lv_at hl 1 rfl) ?_
  refine lv_iload_n hx hb dX8_slants_9 rfl (lv_at hl 2 rfl) ?_
  obtain ⟨r3, h4, hf⟩ := bnS hf
  refine calSWi cx hw hl.1 (c_X0_slants_k5 h4) wx_X8_20 q_1032 rfl hs_X0_slants rfl rv_k5 rfl dX8_slants_10 rfl (Nat.le_of_ble_eq_true rfl) ⟨Nat.le_of_ble_eq_true rfl, Nat.le_of_ble_eq_true rfl⟩ ⟨Nat.le_refl _, Nat.le_refl _⟩ (fun H locs hw => ?_)
  refine lv_isub hx hb dX8_slants_13 ?_
  have hf := Option.some.inj hf
  subst hf
  exact hR _ _ _ _ _ _ hw rfl ⟨rfl, rfl⟩ dX8_slants_14
section VR_vr_slants_X11_343
variable {p : Program} {l : Launch} {e : Env} {R : Room} {s : State} {m : MethodId} {args : Array Value} {below : List Frame} {meth : Method} {c : Code} {H : Heap} {locs : List Loc} {cells slots : Nat} {Q : State → Prop}
variable {E : EX} {D : va_G} {t : Nat → ClassId} {cc : ByteArray} {own nm : String} {nL pc : Nat} {A : Nat → Prop} {ls : Array Slot} {rest : List Value} {a : Nat → Nat} {ar : Nat → Nat → Nat} {x_q0_dials : Nat → Nat → Int32} {x_q0_spots : Nat → Nat → Int32} {x_q0_skies : Nat → Int32} {x_q0_reports : Nat → Nat → Int32} {x_q0_count : Int32} {x_q0_chime : Int32} {x_q0_end : Int32} {x_q0_score : Int32} {x_q0_reportCount : Int32} {x_q0_z : Int32} {x_q0_rules : Nat} {x_q0_shades : Nat → Int32} {x_q0_facts : Nat → Int32} {x_q1_dials : Nat → Nat → Int32} {x_q1_spots : Nat → Nat → Int32} {x_q1_skies : Nat → Int32} {x_q1_reports : Nat → Nat → Int32} {x_q1_count : Int32} {x_q1_chime : Int32} {x_q1_end : Int32} {x_q1_score : Int32} {x_q1_reportCount : Int32} {x_q1_z : Int32} {x_q1_rules : Nat} {x_q1_shades : Nat → Int32} {x_q1_facts : Nat → Int32} {x_q2_dials : Nat → Nat → Int32} {x_q2_spots : Nat → Nat → Int32} {x_q2_skies : Nat → Int32} {x_q2_reports : Nat → Nat → Int32} {x_q2_count : Int32} {x_q2_chime : Int32} {x_q2_end : Int32} {x_q2_score : Int32} {x_q2_reportCount : Int32} {x_q2_z : Int32} {x_q2_rules : Nat} {x_q2_shades : Nat → Int32} {x_q2_facts : Nat → Int32} {x_isKept : Int32} {x_marks : Nat → Int32} {x_p_first : Nat → Int32} {x_p_steps : Int32} {x_p_most : Int32} {x_p_many : Int32} {x_p_fewest : Int32} {x_p_everRight : Int32} {x_p_opening : Int32} {x_p_rows : Nat → Nat → Int32} {x_p_rowCount : Int32} {x_p_acts : Nat → Int32} {x_p_marks : Nat → Nat → Int32} {x_p_deepest : Int32} {x_p_wanted : Int32} {x_t_length : Int32} {x_t_tape : Nat → Int32} {x_t_words : Nat → Int32} {x_t_places : Nat → Int32} {x_t_at : Int32} {x_t_kinds : Nat → Int32} {x_t_wills : Nat → Int32} {x_t_starts : Nat → Int32} {x_t_code : Nat → Int32} {x_t_count : Int32} {x_t_size : Int32} {x_h_sorts : Nat → Int32} {x_h_lengths : Nat → Int32} {x_h_items : Nat → Nat → Int32} {x_h_held : Nat → Int32} {x_h_things : Nat → Int32} {x_h_sizes : Nat → Int32} {x_h_bodies : Nat → Int32} {x_h_traced : Int32} {x_h_number : Int32} {x_h_spot : Int32} {x_h_parted : Int32} {x_g_count : Nat → Int32} {x_g_kinds : Nat → Nat → Int32} {x_g_wills : Nat → Nat → Int32} {x_g_starts : Nat → Nat → Int32} {x_g_code : Nat → Nat → Int32} {x_g_stack : Nat → Nat → Int32} {x_g_kl : Nat → Nat} {x_g_wl : Nat → Nat} {x_g_sl : Nat → Nat} {x_g_cl : Nat → Nat} {x_nr : Nat}
theorem vr_slants_X11_343 {k : Nat} {v2 : Int32} (cx : Cx E D t p s m args meth c cc RX11 nm nL A) (hw : Wd D A s (cW a ar t x_q0_dials x_q0_spots x_q0_skies x_q0_reports x_q0_count x_q0_chime x_q0_end x_q0_score x_q0_reportCount x_q0_z x_q0_rules x_q0_shades x_q0_facts x_q1_dials x_q1_spots x_q1_skies x_q1_reports x_q1_count x_q1_chime x_q1_end x_q1_score x_q1_reportCount x_q1_z x_q1_rules x_q1_shades x_q1_facts x_q2_dials x_q2_spots x_q2_skies x_q2_reports x_q2_count x_q2_chime x_q2_end x_q2_score x_q2_reportCount x_q2_z x_q2_rules x_q2_shades x_q2_facts x_isKept x_marks x_p_first x_p_steps x_p_most x_p_many x_p_fewest x_p_everRight x_p_opening x_p_rows x_p_rowCount x_p_acts x_p_marks x_p_deepest x_p_wanted x_t_length x_t_tape x_t_words x_t_places x_t_at x_t_kinds x_t_wills x_t_starts x_t_code x_t_count x_t_size x_h_sorts x_h_lengths x_h_items x_h_held x_h_things x_h_sizes x_h_bodies x_h_traced x_h_number x_h_spot x_h_parted x_g_count x_g_kinds x_g_wills x_g_starts x_g_code x_g_stack x_g_kl x_g_wl x_g_sl x_g_cl x_nr) H locs) (hl : ls.size = nL) (hk : k < 6) {res : Int32 × (Nat → Int32) × Int32} (hf : vd_slants k x_h_bodies x_h_traced x_h_number x_h_spot x_h_parted v2 = some res) (hdg : decode cc pc = .ok (.invokevirtual 343, 3)) (hcat : (rest.map fun v => v.category).sum ≤ 8) (h1 : 6 ≤ R.frames) (h2 : 384 ≤ R.locals) (hcs : cells ≤ R.cells ∧ slots ≤ R.slots) (kk : ∀ (H : Heap) (locs : List Loc), Wd D A s (cW a ar t x_q0_dials x_q0_spots x_q0_skies x_q0_reports x_q0_count x_q0_chime x_q0_end x_q0_score x_q0_reportCount x_q0_z x_q0_rules x_q0_shades x_q0_facts x_q1_dials x_q1_spots x_q1_skies x_q1_reports x_q1_count x_q1_chime x_q1_end x_q1_score x_q1_reportCount x_q1_z x_q1_rules x_q1_shades x_q1_facts x_q2_dials x_q2_spots x_q2_skies x_q2_reports x_q2_count x_q2_chime x_q2_end x_q2_score x_q2_reportCount x_q2_z x_q2_rules x_q2_shades x_q2_facts x_isKept x_marks x_p_first x_p_steps x_p_most x_p_many x_p_fewest x_p_everRight x_p_opening x_p_rows x_p_rowCount x_p_acts x_p_marks x_p_deepest x_p_wanted x_t_length x_t_tape x_t_words x_t_places x_t_at x_t_kinds x_t_wills x_t_starts x_t_code x_t_count x_t_size x_h_sorts x_h_lengths x_h_items x_h_held x_h_things x_h_sizes res.2.1 res.2.2 x_h_number x_h_spot x_h_parted x_g_count x_g_kinds x_g_wills x_g_starts x_g_code x_g_stack x_g_kl x_g_wl x_g_sl x_g_cl x_nr) H locs → W p l e R s m args below meth c H locs cells slots Q (F0 m (pc + 3) ls (.int res.1 :: rest))) : W p l e R s m args below meth c H locs cells slots Q (F0 m pc ls (.int v2 :: .ref (a 105) :: .ref (a (78 + k)) :: rest)) := by
  match k, hk with
  | 0, _ =>
    unfold vd_slants at hf
    have hf := ifT hf rfl
    exact calUi cx hw hl (c_X0_slants_k0 hf) wu_X11_343_0 q_1032 q_1032 hu_X0_slants rfl rv_k0 rfl hdg rfl hcat ⟨Nat.le_trans (Nat.le_of_ble_eq_true rfl) h1, Nat.le_trans (Nat.le_of_ble_eq_true rfl) h2⟩ hcs kk
  | 1, _ =>
    unfold vd_slants at hf
    have hf := ifF hf (by decide)
    have hf := ifT hf rfl
    exact calUi cx hw hl (c_X0_slants_k1 hf) wu_X11_343_1 q_1032 q_1032 hu_X0_slants rfl rv_k1 rfl hdg rfl hcat ⟨Nat.le_trans (Nat.le_of_ble_eq_true rfl) h1, Nat.le_trans (Nat.le_of_ble_eq_true rfl) h2⟩ hcs kk
  | 2, _ =>
    unfold vd_slants at hf
    have hf := ifF hf (by decide)
    have hf := ifF hf (by decide)
    have hf := ifT hf rfl
    exact calUi cx hw hl (c_X10_slants_k2 hf) wu_X11_343_2 q_1019 q_1032 hu_X0_slants rfl rv_k2 rfl hdg rfl hcat ⟨Nat.le_trans (Nat.le_of_ble_eq_true rfl) h1, Nat.le_trans (Nat.le_of_ble_eq_true rfl) h2⟩ hcs kk
  | 3, _ =>
    unfold vd_slants at hf
    have hf := ifF hf (by decide)
    have hf := ifF hf (by decide)
    have hf := ifF hf (by decide)
    have hf := ifT hf rfl
    exact calUi cx hw hl (c_X10_slants_k3 hf) wu_X11_343_3 q_1019 q_1032 hu_X0_slants rfl rv_k3 rfl hdg rfl hcat ⟨Nat.le_trans (Nat.le_of_ble_eq_true rfl) h1, Nat.le_trans (Nat.le_of_ble_eq_true rfl) h2⟩ hcs kk
  | 4, _ =>
    unfold vd_slants at hf
    have hf := ifF hf (by decide)
    have hf := ifF hf (by decide)
    have hf := ifF hf (by decide)
    have hf := ifF hf (by decide)
    have hf := ifT hf rfl
    exact calUi cx hw hl (c_X0_slants_k4 hf) wu_X11_343_4 q_1032 q_1032 hu_X0_slants rfl rv_k4 rfl hdg rfl hcat ⟨Nat.le_trans (Nat.le_of_ble_eq_true rfl) h1, Nat.le_trans (Nat.le_of_ble_eq_true rfl) h2⟩ hcs kk
  | 5, _ =>
    unfold vd_slants at hf
    have hf := ifF hf (by decide)
    have hf := ifF hf (by decide)
    have hf := ifF hf (by decide)
    have hf := ifF hf (by decide)
    have hf := ifF hf (by decide)
    have hf := ifT hf rfl
    exact calUi cx hw hl (c_X8_slants_k5 hf) wu_X11_343_5 q_1026 q_1032 hu_X0_slants rfl rv_k5 rfl hdg rfl hcat ⟨Nat.le_trans (Nat.le_of_ble_eq_true rfl) h1, Nat.le_trans (Nat.le_of_ble_eq_true rfl) h2⟩ hcs kk
  | z + 6, hk => exact absurd hk (by omega)
end VR_vr_slants_X11_343
end CW10
