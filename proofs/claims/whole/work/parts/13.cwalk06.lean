section CW6
variable {l : Launch} {D : va_G} {t : Nat → ClassId} {a : Nat → Nat} {ar : Nat → Nat → Nat} {n : Nat} {x_q0_dials : Nat → Nat → Int32} {x_q0_spots : Nat → Nat → Int32} {x_q0_skies : Nat → Int32} {x_q0_reports : Nat → Nat → Int32} {x_q0_count : Int32} {x_q0_chime : Int32} {x_q0_end : Int32} {x_q0_score : Int32} {x_q0_reportCount : Int32} {x_q0_z : Int32} {x_q0_rules : Nat} {x_q0_shades : Nat → Int32} {x_q0_facts : Nat → Int32} {x_q1_dials : Nat → Nat → Int32} {x_q1_spots : Nat → Nat → Int32} {x_q1_skies : Nat → Int32} {x_q1_reports : Nat → Nat → Int32} {x_q1_count : Int32} {x_q1_chime : Int32} {x_q1_end : Int32} {x_q1_score : Int32} {x_q1_reportCount : Int32} {x_q1_z : Int32} {x_q1_rules : Nat} {x_q1_shades : Nat → Int32} {x_q1_facts : Nat → Int32} {x_q2_dials : Nat → Nat → Int32} {x_q2_spots : Nat → Nat → Int32} {x_q2_skies : Nat → Int32} {x_q2_reports : Nat → Nat → Int32} {x_q2_count : Int32} {x_q2_chime : Int32} {x_q2_end : Int32} {x_q2_score : Int32} {x_q2_reportCount : Int32} {x_q2_z : Int32} {x_q2_rules : Nat} {x_q2_shades : Nat → Int32} {x_q2_facts : Nat → Int32} {x_isKept : Int32} {x_marks : Nat → Int32} {x_p_first : Nat → Int32} {x_p_steps : Int32} {x_p_most : Int32} {x_p_many : Int32} {x_p_fewest : Int32} {x_p_everRight : Int32} {x_p_opening : Int32} {x_p_rows : Nat → Nat → Int32} {x_p_rowCount : Int32} {x_p_acts : Nat → Int32} {x_p_marks : Nat → Nat → Int32} {x_p_deepest : Int32} {x_p_wanted : Int32} {x_t_length : Int32} {x_t_tape : Nat → Int32} {x_t_words : Nat → Int32} {x_t_places : Nat → Int32} {x_t_at : Int32} {x_t_kinds : Nat → Int32} {x_t_wills : Nat → Int32} {x_t_starts : Nat → Int32} {x_t_code : Nat → Int32} {x_t_count : Int32} {x_t_size : Int32} {x_h_sorts : Nat → Int32} {x_h_lengths : Nat → Int32} {x_h_items : Nat → Nat → Int32} {x_h_held : Nat → Int32} {x_h_things : Nat → Int32} {x_h_sizes : Nat → Int32} {x_h_bodies : Nat → Int32} {x_h_traced : Int32} {x_h_number : Int32} {x_h_spot : Int32} {x_h_parted : Int32} {x_g_count : Nat → Int32} {x_g_kinds : Nat → Nat → Int32} {x_g_wills : Nat → Nat → Int32} {x_g_starts : Nat → Nat → Int32} {x_g_code : Nat → Nat → Int32} {x_g_stack : Nat → Nat → Int32} {x_g_kl : Nat → Nat} {x_g_wl : Nat → Nat} {x_g_sl : Nat → Nat} {x_g_cl : Nat → Nat} {x_nr : Nat}
theorem dX9_apartFromAll_0 : decode cX9_apartFromAll 0 = .ok (.iconst 0, 1) := by decide +kernel
theorem dX9_apartFromAll_1 : decode cX9_apartFromAll 1 = .ok (.istore_n 2, 1) := by decide +kernel
theorem dX9_apartFromAll_2 : decode cX9_apartFromAll 2 = .ok (.iconst 0, 1) := by decide +kernel
theorem dX9_apartFromAll_3 : decode cX9_apartFromAll 3 = .ok (.istore_n 3, 1) := by decide +kernel
theorem dX9_apartFromAll_4 : decode cX9_apartFromAll 4 = .ok (.iload_n 3, 1) := by decide +kernel
theorem dX9_apartFromAll_5 : decode cX9_apartFromAll 5 = .ok (.aload_n 0, 1) := by decide +kernel
theorem dX9_apartFromAll_6 : decode cX9_apartFromAll 6 = .ok (.getfield 59, 3) := by decide +kernel
theorem dX9_apartFromAll_9 : decode cX9_apartFromAll 9 = .ok (.if_icmp .ge 32, 3) := by decide +kernel
theorem dX9_apartFromAll_12 : decode cX9_apartFromAll 12 = .ok (.iload_n 2, 1) := by decide +kernel
theorem dX9_apartFromAll_13 : decode cX9_apartFromAll 13 = .ok (.aload_n 0, 1) := by decide +kernel
theorem dX9_apartFromAll_14 : decode cX9_apartFromAll 14 = .ok (.getfield 11, 3) := by decide +kernel
theorem dX9_apartFromAll_17 : decode cX9_apartFromAll 17 = .ok (.iload_n 3, 1) := by decide +kernel
theorem dX9_apartFromAll_18 : decode cX9_apartFromAll 18 = .ok (.aaload, 1) := by decide +kernel
theorem dX9_apartFromAll_19 : decode cX9_apartFromAll 19 = .ok (.iconst 1, 1) := by decide +kernel
theorem dX9_apartFromAll_20 : decode cX9_apartFromAll 20 = .ok (.iaload, 1) := by decide +kernel
theorem dX9_apartFromAll_21 : decode cX9_apartFromAll 21 = .ok (.aload_n 0, 1) := by decide +kernel
theorem dX9_apartFromAll_22 : decode cX9_apartFromAll 22 = .ok (.getfield 11, 3) := by decide +kernel
theorem dX9_apartFromAll_25 : decode cX9_apartFromAll 25 = .ok (.iload_n 1, 1) := by decide +kernel
theorem dX9_apartFromAll_26 : decode cX9_apartFromAll 26 = .ok (.aaload, 1) := by decide +kernel
theorem dX9_apartFromAll_27 : decode cX9_apartFromAll 27 = .ok (.iconst 1, 1) := by decide +kernel
theorem dX9_apartFromAll_28 : decode cX9_apartFromAll 28 = .ok (.iaload, 1) := by decide +kernel
theorem dX9_apartFromAll_29 : decode cX9_apartFromAll 29 = .ok (.isub, 1) := by decide +kernel
theorem dX9_apartFromAll_30 : decode cX9_apartFromAll 30 = .ok (.invokestatic 94, 3) := by decide +kernel
theorem dX9_apartFromAll_33 : decode cX9_apartFromAll 33 = .ok (.iadd, 1) := by decide +kernel
theorem dX9_apartFromAll_34 : decode cX9_apartFromAll 34 = .ok (.istore_n 2, 1) := by decide +kernel
theorem dX9_apartFromAll_35 : decode cX9_apartFromAll 35 = .ok (.iinc 3 1, 3) := by decide +kernel
theorem dX9_apartFromAll_38 : decode cX9_apartFromAll 38 = .ok (.goto (-34), 3) := by decide +kernel
theorem dX9_apartFromAll_41 : decode cX9_apartFromAll 41 = .ok (.iload_n 2, 1) := by decide +kernel
theorem dX9_apartFromAll_42 : decode cX9_apartFromAll 42 = .ok (.ireturn, 1) := by decide +kernel
theorem k_X9_apartFromAll : MV yX9_apartFromAll cX9_apartFromAll 4 (some .int) 1 := ⟨q_741, q_742, q_11, q_743, ⟨by decide, by decide, by decide +kernel⟩⟩
theorem c_X9_apartFromAll_q0 {v1 : Int32} {res : Int32} (hf : X9_apartFromAll_q0 n x_q0_dials x_q0_count v1 = some res) : MC l E0 D t yX9_apartFromAll cX9_apartFromAll 4 (some .int) 1 0 0 [.ref (a 1), .int v1] (cW a ar t x_q0_dials x_q0_spots x_q0_skies x_q0_reports x_q0_count x_q0_chime x_q0_end x_q0_score x_q0_reportCount x_q0_z x_q0_rules x_q0_shades x_q0_facts x_q1_dials x_q1_spots x_q1_skies x_q1_reports x_q1_count x_q1_chime x_q1_end x_q1_score x_q1_reportCount x_q1_z x_q1_rules x_q1_shades x_q1_facts x_q2_dials x_q2_spots x_q2_skies x_q2_reports x_q2_count x_q2_chime x_q2_end x_q2_score x_q2_reportCount x_q2_z x_q2_rules x_q2_shades x_q2_facts x_isKept x_marks x_p_first x_p_steps x_p_most x_p_many x_p_fewest x_p_everRight x_p_opening x_p_rows x_p_rowCount x_p_acts x_p_marks x_p_deepest x_p_wanted x_t_length x_t_tape x_t_words x_t_places x_t_at x_t_kinds x_t_wills x_t_starts x_t_code x_t_count x_t_size x_h_sorts x_h_lengths x_h_items x_h_held x_h_things x_h_sizes x_h_bodies x_h_traced x_h_number x_h_spot x_h_parted x_g_count x_g_kinds x_g_wills x_g_starts x_g_code x_g_stack x_g_kl x_g_wl x_g_sl x_g_cl x_nr) (Qi res (cW a ar t x_q0_dials x_q0_spots x_q0_skies x_q0_reports x_q0_count x_q0_chime x_q0_end x_q0_score x_q0_reportCount x_q0_z x_q0_rules x_q0_shades x_q0_facts x_q1_dials x_q1_spots x_q1_skies x_q1_reports x_q1_count x_q1_chime x_q1_end x_q1_score x_q1_reportCount x_q1_z x_q1_rules x_q1_shades x_q1_facts x_q2_dials x_q2_spots x_q2_skies x_q2_reports x_q2_count x_q2_chime x_q2_end x_q2_score x_q2_reportCount x_q2_z x_q2_rules x_q2_shades x_q2_facts x_isKept x_marks x_p_first x_p_steps x_p_most x_p_many x_p_fewest x_p_everRight x_p_opening x_p_rows x_p_rowCount x_p_acts x_p_marks x_p_deepest x_p_wanted x_t_length x_t_tape x_t_words x_t_places x_t_at x_t_kinds x_t_wills x_t_starts x_t_code x_t_count x_t_size x_h_sorts x_h_lengths x_h_items x_h_held x_h_things x_h_sizes x_h_bodies x_h_traced x_h_number x_h_spot x_h_parted x_g_count x_g_kinds x_g_wills x_g_starts x_g_code x_g_stack x_g_kl x_g_wl x_g_sl x_g_cl x_nr)) := by
  unfold X9_apartFromAll_q0 at hf
  refine MC.ofI pn_X9 (Nat.le_of_ble_eq_true rfl) ?_
  intro p e s m args below meth c A Q ls cx hR hw hl
  have hx := cx.1
  have hb := cx.2.1
  have hl : lv_has ls 4 [(0, .ref (a 1)), (1, .int v1)] := hl
  refine lv_iconst (v := 0) hx hb dX9_apartFromAll_0 (by decide) ?_
  refine lv_istore_n (lv' := [(2, .int (0 : Int32)), (0, .ref (a 1)), (1, .int v1)]) hx hb dX9_apartFromAll_1 rfl hl (by decide) rfl (fun ls hl => ?_)
  refine lv_iconst (v := 0) hx hb dX9_apartFromAll_2 (by decide) ?_
  refine lv_istore_n (lv' := [(3, .int (0 : Int32)), (2, .int (0 : Int32)), (0, .ref (a 1)), (1, .int v1)]) hx hb dX9_apartFromAll_3 rfl hl (by decide) rfl (fun ls hl => ?_)
  obtain ⟨o3, ho3, hf⟩ := bnS hf
  have wL1 : ∀ (k : Nat) {v1 : Int32} {v2 : Int32} {v3 : Int32} {H : Heap} {locs : List Loc} {ls : Array Slot} {o : Int32 × Int32}, X9_apartFromAll_q0_L1 n x_q0_dials x_q0_count v1 k v2 v3 = some o → Wd D A s (cW a ar t x_q0_dials x_q0_spots x_q0_skies x_q0_reports x_q0_count x_q0_chime x_q0_end x_q0_score x_q0_reportCount x_q0_z x_q0_rules x_q0_shades x_q0_facts x_q1_dials x_q1_spots x_q1_skies x_q1_reports x_q1_count x_q1_chime x_q1_end x_q1_score x_q1_reportCount x_q1_z x_q1_rules x_q1_shades x_q1_facts x_q2_dials x_q2_spots x_q2_skies x_q2_reports x_q2_count x_q2_chime x_q2_end x_q2_score x_q2_reportCount x_q2_z x_q2_rules x_q2_shades x_q2_facts x_isKept x_marks x_p_first x_p_steps x_p_most x_p_many x_p_fewest x_p_everRight x_p_opening x_p_rows x_p_rowCount x_p_acts x_p_marks x_p_deepest x_p_wanted x_t_length x_t_tape x_t_words x_t_places x_t_at x_t_kinds x_t_wills x_t_starts x_t_code x_t_count x_t_size x_h_sorts x_h_lengths x_h_items x_h_held x_h_things x_h_sizes x_h_bodies x_h_traced x_h_number x_h_spot x_h_parted x_g_count x_g_kinds x_g_wills x_g_starts x_g_code x_g_stack x_g_kl x_g_wl x_g_sl x_g_cl x_nr) H locs → lv_has ls 4 [(0, .ref (a 1)), (1, .int v1), (2, .int v2), (3, .int v3)] → (∀ (H : Heap) (locs : List Loc) (ls : Array Slot), Wd D A s (cW a ar t x_q0_dials x_q0_spots x_q0_skies x_q0_reports x_q0_count x_q0_chime x_q0_end x_q0_score x_q0_reportCount x_q0_z x_q0_rules x_q0_shades x_q0_facts x_q1_dials x_q1_spots x_q1_skies x_q1_reports x_q1_count x_q1_chime x_q1_end x_q1_score x_q1_reportCount x_q1_z x_q1_rules x_q1_shades x_q1_facts x_q2_dials x_q2_spots x_q2_skies x_q2_reports x_q2_count x_q2_chime x_q2_end x_q2_score x_q2_reportCount x_q2_z x_q2_rules x_q2_shades x_q2_facts x_isKept x_marks x_p_first x_p_steps x_p_most x_p_many x_p_fewest x_p_everRight x_p_opening x_p_rows x_p_rowCount x_p_acts x_p_marks x_p_deepest x_p_wanted x_t_length x_t_tape x_t_words x_t_places x_t_at x_t_kinds x_t_wills x_t_starts x_t_code x_t_count x_t_size x_h_sorts x_h_lengths x_h_items x_h_held x_h_things x_h_sizes x_h_bodies x_h_traced x_h_number x_h_spot x_h_parted x_g_count x_g_kinds x_g_wills x_g_starts x_g_code x_g_stack x_g_kl x_g_wl x_g_sl x_g_cl x_nr) H locs → lv_has ls 4 [(0, .ref (a 1)), (1, .int v1), (2, .int o.1), (3, .int o.2)] → W p l e (rmz 1 0 0) s m args below meth c H locs 0 0 Q (F0 m 41 ls [])) → W p l e (rmz 1 0 0) s m args below meth c H locs 0 0 Q (F0 m 4 ls []) := by
    clear hf ho3 hw hl
    intro k
    induction k with
    | zero => intro v1 v2 v3 H locs ls o hf hw hl kx; simp [X9_apartFromAll_q0_L1] at hf
    | succ k ih =>
      intro v1 v2 v3 H locs ls o hf hw hl kx
      rw [X9_apartFromAll_q0_L1] at hf
      refine lv_iload_n hx hb dX9_apartFromAll_4 rfl (lv_at hl 3 rfl) ?_
      refine lv_aload_n hx hb dX9_apartFromAll_5 rfl (lv_at hl 0 rfl) ?_
      refine cg_X9_59_q0 cx hw dX9_apartFromAll_6 ?_
      refine lv_icmp_ge (tgt := 41) hx hb dX9_apartFromAll_9 (by decide) (fun hc => ?_) (fun hc => ?_)
      · have hf := ifT hf hc
        have hf := Option.some.inj hf
        subst hf
        exact kx _ _ _ hw (lv_sub hl [0, 1, 2, 3] rfl)
      · have hf := ifF hf hc
        refine lv_iload_n hx hb dX9_apartFromAll_12 rfl (lv_at hl 2 rfl) ?_
        refine lv_aload_n hx hb dX9_apartFromAll_13 rfl (lv_at hl 0 rfl) ?_
        refine cg_X9_11_q0 cx hw dX9_apartFromAll_14 ?_
        refine lv_iload_n hx hb dX9_apartFromAll_17 rfl (lv_at hl 3 rfl) ?_
        obtain ⟨h1, hf⟩ := ckS hf
        refine co_q0_dials (j := v3.toNatClampNeg) cx hw (ib_in h1) rfl dX9_apartFromAll_18 ?_
        refine lv_iconst (v := 1) hx hb dX9_apartFromAll_19 (by decide) ?_
        refine cm_q0_dials (j := 1) cx hw (ib_lt h1) (ib_in (by decide)) (by decide) dX9_apartFromAll_20 ?_
        refine lv_aload_n hx hb dX9_apartFromAll_21 rfl (lv_at hl 0 rfl) ?_
        refine cg_X9_11_q0 cx hw dX9_apartFromAll_22 ?_
        refine lv_iload_n hx hb dX9_apartFromAll_25 rfl (lv_at hl 1 rfl) ?_
        obtain ⟨h2, hf⟩ := ckS hf
        refine co_q0_dials (j := v1.toNatClampNeg) cx hw (ib_in h2) rfl dX9_apartFromAll_26 ?_
        refine lv_iconst (v := 1) hx hb dX9_apartFromAll_27 (by decide) ?_
        refine cm_q0_dials (j := 1) cx hw (ib_lt h2) (ib_in (by decide)) (by decide) dX9_apartFromAll_28 ?_
        refine lv_isub hx hb dX9_apartFromAll_29 ?_
        refine va_mabs hx hb (cx.2.2.1.trans hl.1.symm) cx.2.2.2.1 (cx.2.2.2.2.1 _ q_517) (cx.2.2.2.2.1 _ q_518) (cx.2.2.2.2.1 _ q_15) (cx.2.2.2.2.1 _ q_519) (by show 1 ≤ _; exact Nat.le_of_ble_eq_true rfl) (by show _ ≤ 64 * _; exact Nat.le_of_ble_eq_true rfl) (Nat.le_refl _) (Nat.le_refl _) dX9_apartFromAll_30 ?_
        refine lv_iadd hx hb dX9_apartFromAll_33 ?_
        refine lv_istore_n (lv' := [(2, .int (v2 + (absi ((x_q0_dials v3.toNatClampNeg 1) - (x_q0_dials v1.toNatClampNeg 1))))), (0, .ref (a 1)), (1, .int v1), (3, .int v3)]) hx hb dX9_apartFromAll_34 rfl hl (by decide) rfl (fun ls hl => ?_)
        refine lv_iinc (v := (v3 + (1 : Int32))) (lv' := [(3, .int (v3 + (1 : Int32))), (2, .int (v2 + (absi ((x_q0_dials v3.toNatClampNeg 1) - (x_q0_dials v1.toNatClampNeg 1))))), (0, .ref (a 1)), (1, .int v1)]) hx hb dX9_apartFromAll_35 hl (k := 3) rfl rfl (by decide) rfl (fun ls hl => ?_)
        refine lv_goto (tgt := 4) hx hb dX9_apartFromAll_38 (by decide) ?_
        exact ih hf hw (lv_sub hl [2, 3, 1, 0] rfl) kx
  refine wL1 n ho3 hw (lv_sub hl [2, 3, 1, 0] rfl) (fun H locs ls hw hl => ?_)
  clear wL1 ho3
  refine lv_iload_n hx hb dX9_apartFromAll_41 rfl (lv_at hl 2 rfl) ?_
  have hf := Option.some.inj hf
  subst hf
  exact hR _ _ _ _ _ _ hw rfl ⟨rfl, rfl⟩ dX9_apartFromAll_42
theorem dX11_middle_0 : decode cX11_middle 0 = .ok (.bipush (-3), 2) := by decide +kernel
theorem dX11_middle_2 : decode cX11_middle 2 = .ok (.istore_n 1, 1) := by decide +kernel
theorem dX11_middle_3 : decode cX11_middle 3 = .ok (.iconst 0, 1) := by decide +kernel
theorem dX11_middle_4 : decode cX11_middle 4 = .ok (.istore_n 2, 1) := by decide +kernel
theorem dX11_middle_5 : decode cX11_middle 5 = .ok (.iconst 0, 1) := by decide +kernel
theorem dX11_middle_6 : decode cX11_middle 6 = .ok (.istore_n 3, 1) := by decide +kernel
theorem dX11_middle_7 : decode cX11_middle 7 = .ok (.iload_n 3, 1) := by decide +kernel
theorem dX11_middle_8 : decode cX11_middle 8 = .ok (.aload_n 0, 1) := by decide +kernel
theorem dX11_middle_9 : decode cX11_middle 9 = .ok (.getfield 55, 3) := by decide +kernel
theorem dX11_middle_12 : decode cX11_middle 12 = .ok (.getfield 82, 3) := by decide +kernel
theorem dX11_middle_15 : decode cX11_middle 15 = .ok (.if_icmp .ge 36, 3) := by decide +kernel
theorem dX11_middle_18 : decode cX11_middle 18 = .ok (.aload_n 0, 1) := by decide +kernel
theorem dX11_middle_19 : decode cX11_middle 19 = .ok (.getfield 55, 3) := by decide +kernel
theorem dX11_middle_22 : decode cX11_middle 22 = .ok (.iload_n 3, 1) := by decide +kernel
theorem dX11_middle_23 : decode cX11_middle 23 = .ok (.invokevirtual 193, 3) := by decide +kernel
theorem dX11_middle_26 : decode cX11_middle 26 = .ok (.istore 4, 2) := by decide +kernel
theorem dX11_middle_28 : decode cX11_middle 28 = .ok (.iload_n 1, 1) := by decide +kernel
theorem dX11_middle_29 : decode cX11_middle 29 = .ok (.bipush (-3), 2) := by decide +kernel
theorem dX11_middle_31 : decode cX11_middle 31 = .ok (.if_icmp .eq 9, 3) := by decide +kernel
theorem dX11_middle_34 : decode cX11_middle 34 = .ok (.iload 4, 2) := by decide +kernel
theorem dX11_middle_36 : decode cX11_middle 36 = .ok (.iload_n 2, 1) := by decide +kernel
theorem dX11_middle_37 : decode cX11_middle 37 = .ok (.if_icmp .ge 8, 3) := by decide +kernel
theorem dX11_middle_40 : decode cX11_middle 40 = .ok (.iload 4, 2) := by decide +kernel
theorem dX11_middle_42 : decode cX11_middle 42 = .ok (.istore_n 2, 1) := by decide +kernel
theorem dX11_middle_43 : decode cX11_middle 43 = .ok (.iload_n 3, 1) := by decide +kernel
theorem dX11_middle_44 : decode cX11_middle 44 = .ok (.istore_n 1, 1) := by decide +kernel
theorem dX11_middle_45 : decode cX11_middle 45 = .ok (.iinc 3 1, 3) := by decide +kernel
theorem dX11_middle_48 : decode cX11_middle 48 = .ok (.goto (-41), 3) := by decide +kernel
theorem dX11_middle_51 : decode cX11_middle 51 = .ok (.iload_n 1, 1) := by decide +kernel
theorem dX11_middle_52 : decode cX11_middle 52 = .ok (.ireturn, 1) := by decide +kernel
theorem k_X11_middle : MV yX11_middle cX11_middle 5 (some .int) 0 := ⟨q_737, q_738, q_1, q_739, ⟨by decide, by decide, by decide +kernel⟩⟩
theorem c_X11_middle {res : Int32} (hf : X11_middle n x_q0_dials x_q0_count = some res) : MC l E0 D t yX11_middle cX11_middle 5 (some .int) 2 0 0 [.ref (a 0)] (cW a ar t x_q0_dials x_q0_spots x_q0_skies x_q0_reports x_q0_count x_q0_chime x_q0_end x_q0_score x_q0_reportCount x_q0_z x_q0_rules x_q0_shades x_q0_facts x_q1_dials x_q1_spots x_q1_skies x_q1_reports x_q1_count x_q1_chime x_q1_end x_q1_score x_q1_reportCount x_q1_z x_q1_rules x_q1_shades x_q1_facts x_q2_dials x_q2_spots x_q2_skies x_q2_reports x_q2_count x_q2_chime x_q2_end x_q2_score x_q2_reportCount x_q2_z x_q2_rules x_q2_shades x_q2_facts x_isKept x_marks x_p_first x_p_steps x_p_most x_p_many x_p_fewest x_p_everRight x_p_opening x_p_rows x_p_rowCount x_p_acts x_p_marks x_p_deepest x_p_wanted x_t_length x_t_tape x_t_words x_t_places x_t_at x_t_kinds x_t_wills x_t_starts x_t_code x_t_count x_t_size x_h_sorts x_h_lengths x_h_items x_h_held x_h_things x_h_sizes x_h_bodies x_h_traced x_h_number x_h_spot x_h_parted x_g_count x_g_kinds x_g_wills x_g_starts x_g_code x_g_stack x_g_kl x_g_wl x_g_sl x_g_cl x_nr) (Qi res (cW a ar t x_q0_dials x_q0_spots x_q0_skies x_q0_reports x_q0_count x_q0_chime x_q0_end x_q0_score x_q0_reportCount x_q0_z x_q0_rules x_q0_shades x_q0_facts x_q1_dials x_q1_spots x_q1_skies x_q1_reports x_q1_count x_q1_chime x_q1_end x_q1_score x_q1_reportCount x_q1_z x_q1_rules x_q1_shades x_q1_facts x_q2_dials x_q2_spots x_q2_skies x_q2_reports x_q2_count x_q2_chime x_q2_end x_q2_score x_q2_reportCount x_q2_z x_q2_rules x_q2_shades x_q2_facts x_isKept x_marks x_p_first x_p_steps x_p_most x_p_many x_p_fewest x_p_everRight x_p_opening x_p_rows x_p_rowCount x_p_acts x_p_marks x_p_deepest x_p_wanted x_t_length x_t_tape x_t_words x_t_places x_t_at x_t_kinds x_t_wills x_t_starts x_t_code x_t_count x_t_size x_h_sorts x_h_lengths x_h_items x_h_held x_h_things x_h_sizes x_h_bodies x_h_traced x_h_number x_h_spot x_h_parted x_g_count x_g_kinds x_g_wills x_g_starts x_g_code x_g_stack x_g_kl x_g_wl x_g_sl x_g_cl x_nr)) := by
  unfold X11_middle at hf
  refine MC.ofI pn_X11 (Nat.le_of_ble_eq_true rfl) ?_
  intro p e s m args below meth c A Q ls cx hR hw hl
  have hx := cx.1
  have hb := cx.2.1
  have hl : lv_has ls 5 [(0, .ref (a 0))] := hl
  refine lv_bipush (v := (-3)) hx hb dX11_middle_0 (by decide) ?_
  refine lv_istore_n (lv' := [(1, .int (-3 : Int32)), (0, .ref (a 0))]) hx hb dX11_middle_2 rfl hl (by decide) rfl (fun ls hl => ?_)
  refine lv_iconst (v := 0) hx hb dX11_middle_3 (by decide) ?_
  refine lv_istore_n (lv' := [(2, .int (0 : Int32)), (1, .int (-3 : Int32)), (0, .ref (a 0))]) hx hb dX11_middle_4 rfl hl (by decide) rfl (fun ls hl => ?_)
  refine lv_iconst (v := 0) hx hb dX11_middle_5 (by decide) ?_
  refine lv_istore_n (lv' := [(3, .int (0 : Int32)), (2, .int (0 : Int32)), (1, .int (-3 : Int32)), (0, .ref (a 0))]) hx hb dX11_middle_6 rfl hl (by decide) rfl (fun ls hl => ?_)
  obtain ⟨o4, ho4, hf⟩ := bnS hf
  have wL1 : ∀ (k : Nat) {v1 : Int32} {v2 : Int32} {v3 : Int32} {H : Heap} {locs : List Loc} {ls : Array Slot} {o : Int32 × Int32 × Int32}, X11_middle_L1 n x_q0_dials x_q0_count k v1 v2 v3 = some o → Wd D A s (cW a ar t x_q0_dials x_q0_spots x_q0_skies x_q0_reports x_q0_count x_q0_chime x_q0_end x_q0_score x_q0_reportCount x_q0_z x_q0_rules x_q0_shades x_q0_facts x_q1_dials x_q1_spots x_q1_skies x_q1_reports x_q1_count x_q1_chime x_q1_end x_q1_score x_q1_reportCount x_q1_z x_q1_rules x_q1_shades x_q1_facts x_q2_dials x_q2_spots x_q2_skies x_q2_reports x_q2_count x_q2_chime x_q2_end x_q2_score x_q2_reportCount x_q2_z x_q2_rules x_q2_shades x_q2_facts x_isKept x_marks x_p_first x_p_steps x_p_most x_p_many x_p_fewest x_p_everRight x_p_opening x_p_rows x_p_rowCount x_p_acts x_p_marks x_p_deepest x_p_wanted x_t_length x_t_tape x_t_words x_t_places x_t_at x_t_kinds x_t_wills x_t_starts x_t_code x_t_count x_t_size x_h_sorts x_h_lengths x_h_items x_h_held x_h_things x_h_sizes x_h_bodies x_h_traced x_h_number x_h_spot x_h_parted x_g_count x_g_kinds x_g_wills x_g_starts x_g_code x_g_stack x_g_kl x_g_wl x_g_sl x_g_cl x_nr) H locs → lv_has ls 5 [(0, .ref (a 0)), (1, .int v1), (2, .int v2), (3, .int v3)] → (∀ (H : Heap) (locs : List Loc) (ls : Array Slot), Wd D A s (cW a ar t x_q0_dials x_q0_spots x_q0_skies x_q0_reports x_q0_count x_q0_chime x_q0_end x_q0_score x_q0_reportCount x_q0_z x_q0_rules x_q0_shades x_q0_facts x_q1_dials x_q1_spots x_q1_skies x_q1_reports x_q1_count x_q1_chime x_q1_end x_q1_score x_q1_reportCount x_q1_z x_q1_rules x_q1_shades x_q1_facts x_q2_dials x_q2_spots x_q2_skies x_q2_reports x_q2_count x_q2_chime x_q2_end x_q2_score x_q2_reportCount x_q2_z x_q2_rules x_q2_shades x_q2_facts x_isKept x_marks x_p_first x_p_steps x_p_most x_p_many x_p_fewest x_p_everRight x_p_opening x_p_rows x_p_rowCount x_p_acts x_p_marks x_p_deepest x_p_wanted x_t_length x_t_tape x_t_words x_t_places x_t_at x_t_kinds x_t_wills x_t_starts x_t_code x_t_count x_t_size x_h_sorts x_h_lengths x_h_items x_h_held x_h_things x_h_sizes x_h_bodies x_h_traced x_h_number x_h_spot x_h_parted x_g_count x_g_kinds x_g_wills x_g_starts x_g_code x_g_stack x_g_kl x_g_wl x_g_sl x_g_cl x_nr) H locs → lv_has ls 5 [(0, .ref (a 0)), (1, .int o.1), (2, .int o.2.1), (3, .int o.2.2)] → W p l e (rmz 2 0 0) s m args below meth c H locs 0 0 Q (F0 m 51 ls [])) → W p l e (rmz 2 0 0) s m args below meth c H locs 0 0 Q (F0 m 7 ls []) := by
    clear hf ho4 hw hl
    intro k
    induction k with
    | zero => intro v1 v2 v3 H locs ls o hf hw hl kx; simp [X11_middle_L1] at hf
    | succ k ih =>
      intro v1 v2 v3 H locs ls o hf hw hl kx
      rw [X11_middle_L1] at hf
      refine lv_iload_n hx hb dX11_middle_7 rfl (lv_at hl 3 rfl) ?_
      refine lv_aload_n hx hb dX11_middle_8 rfl (lv_at hl 0 rfl) ?_
      refine cg_X11_55_ds cx hw dX11_middle_9 ?_
      refine cg_X11_82_q0 cx hw dX11_middle_12 ?_
      refine lv_icmp_ge (tgt := 51) hx hb dX11_middle_15 (by decide) (fun hc => ?_) (fun hc => ?_)
      · have hf := ifT hf hc
        have hf := Option.some.inj hf
        subst hf
        exact kx _ _ _ hw (lv_sub hl [0, 1, 2, 3] rfl)
      · have hf := ifF hf hc
        refine lv_aload_n hx hb dX11_middle_18 rfl (lv_at hl 0 rfl) ?_
        refine cg_X11_55_ds cx hw dX11_middle_19 ?_
        refine lv_iload_n hx hb dX11_middle_22 rfl (lv_at hl 3 rfl) ?_
        obtain ⟨r1, h2, hf⟩ := bnS hf
        refine calVi cx hw hl.1 (c_X9_apartFromAll_q0 h2) q_740 k_X9_apartFromAll rfl rv_q0 rfl dX11_middle_23 rfl (Nat.le_of_ble_eq_true rfl) ⟨Nat.le_of_ble_eq_true rfl, Nat.le_of_ble_eq_true rfl⟩ ⟨Nat.le_refl _, Nat.le_refl _⟩ (fun H locs hw => ?_)
        refine lv_istore (lv' := [(4, .int r1), (0, .ref (a 0)), (1, .int v1), (2, .int v2), (3, .int v3)]) hx hb dX11_middle_26 hl (by decide) rfl (fun ls hl => ?_)
        refine lv_iload_n hx hb dX11_middle_28 rfl (lv_at hl 2 rfl) ?_
        refine lv_bipush (v := (-3)) hx hb dX11_middle_29 (by decide) ?_
        obtain ⟨j3, hj3, hf⟩ := pbS hf
        have wj3 : ∀ (H : Heap) (locs : List Loc) (ls : Array Slot), Wd D A s (cW a ar t x_q0_dials x_q0_spots x_q0_skies x_q0_reports x_q0_count x_q0_chime x_q0_end x_q0_score x_q0_reportCount x_q0_z x_q0_rules x_q0_shades x_q0_facts x_q1_dials x_q1_spots x_q1_skies x_q1_reports x_q1_count x_q1_chime x_q1_end x_q1_score x_q1_reportCount x_q1_z x_q1_rules x_q1_shades x_q1_facts x_q2_dials x_q2_spots x_q2_skies x_q2_reports x_q2_count x_q2_chime x_q2_end x_q2_score x_q2_reportCount x_q2_z x_q2_rules x_q2_shades x_q2_facts x_isKept x_marks x_p_first x_p_steps x_p_most x_p_many x_p_fewest x_p_everRight x_p_opening x_p_rows x_p_rowCount x_p_acts x_p_marks x_p_deepest x_p_wanted x_t_length x_t_tape x_t_words x_t_places x_t_at x_t_kinds x_t_wills x_t_starts x_t_code x_t_count x_t_size x_h_sorts x_h_lengths x_h_items x_h_held x_h_things x_h_sizes x_h_bodies x_h_traced x_h_number x_h_spot x_h_parted x_g_count x_g_kinds x_g_wills x_g_starts x_g_code x_g_stack x_g_kl x_g_wl x_g_sl x_g_cl x_nr) H locs → lv_has ls 5 [(0, .ref (a 0)), (1, .int j3.1), (2, .int j3.2), (3, .int v3), (4, .int r1)] → W p l e (rmz 2 0 0) s m args below meth c H locs 0 0 Q (F0 m 45 ls []) := by
          intro H locs ls hw hl
          refine lv_iinc (v := (v3 + (1 : Int32))) (lv' := [(3, .int (v3 + (1 : Int32))), (0, .ref (a 0)), (1, .int j3.1), (2, .int j3.2), (4, .int r1)]) hx hb dX11_middle_45 hl (k := 3) rfl rfl (by decide) rfl (fun ls hl => ?_)
          refine lv_goto (tgt := 7) hx hb dX11_middle_48 (by decide) ?_
          exact ih hf hw (lv_sub hl [1, 2, 3, 0] rfl) kx
        clear hf
        have hf := hj3
        clear hj3
        refine lv_icmp_eq (tgt := 40) hx hb dX11_middle_31 (by decide) (fun hc => ?_) (fun hc => ?_)
        · have hf := ifT hf hc
          refine lv_iload hx hb dX11_middle_40 (lv_at hl 0 rfl) ?_
          refine lv_istore_n (lv' := [(2, .int r1), (4, .int r1), (0, .ref (a 0)), (1, .int v1), (3, .int v3)]) hx hb dX11_middle_42 rfl hl (by decide) rfl (fun ls hl => ?_)
          refine lv_iload_n hx hb dX11_middle_43 rfl (lv_at hl 4 rfl) ?_
          refine lv_istore_n (lv' := [(1, .int v3), (2, .int r1), (4, .int r1), (0, .ref (a 0)), (3, .int v3)]) hx hb dX11_middle_44 rfl hl (by decide) rfl (fun ls hl => ?_)
          subst hf
          exact wj3 _ _ _ hw (lv_sub hl [3, 0, 1, 4, 2] rfl)
        · have hf := ifF hf hc
          refine lv_iload hx hb dX11_middle_34 (lv_at hl 0 rfl) ?_
          refine lv_iload_n hx hb dX11_middle_36 rfl (lv_at hl 3 rfl) ?_
          refine lv_icmp_ge (tgt := 45) hx hb dX11_middle_37 (by decide) (fun hc => ?_) (fun hc => ?_)
          · have hf := ifT hf hc
            subst hf
            exact wj3 _ _ _ hw (lv_sub hl [1, 2, 3, 4, 0] rfl)
          · have hf := ifF hf hc
            refine lv_iload hx hb dX11_middle_40 (lv_at hl 0 rfl) ?_
            refine lv_istore_n (lv' := [(2, .int r1), (4, .int r1), (0, .ref (a 0)), (1, .int v1), (3, .int v3)]) hx hb dX11_middle_42 rfl hl (by decide) rfl (fun ls hl => ?_)
            refine lv_iload_n hx hb dX11_middle_43 rfl (lv_at hl 4 rfl) ?_
            refine lv_istore_n (lv' := [(1, .int v3), (2, .int r1), (4, .int r1), (0, .ref (a 0)), (3, .int v3)]) hx hb dX11_middle_44 rfl hl (by decide) rfl (fun ls hl => ?_)
            subst hf
            exact wj3 _ _ _ hw (lv_sub hl [3, 0, 1, 4, 2] rfl)
  refine wL1 n ho4 hw (lv_sub hl [3, 2, 1, 0] rfl) (fun H locs ls hw hl => ?_)
  clear wL1 ho4
  refine lv_iload_n hx hb dX11_middle_51 rfl (lv_at hl 1 rfl) ?_
  have hf := Option.some.inj hf
  subst hf
  exact hR _ _ _ _ _ _ hw rfl ⟨rfl, rfl⟩ dX11_middle_52
theorem dX9_closeTo_0 : decode cX9_closeTo 0 = .ok (.iconst 0, 1) := by decide +kernel
theorem dX9_closeTo_1 : decode cX9_closeTo 1 = .ok (.istore_n 2, 1) := by decide +kernel
theorem dX9_closeTo_2 : decode cX9_closeTo 2 = .ok (.iconst 0, 1) := by decide +kernel
theorem dX9_closeTo_3 : decode cX9_closeTo 3 = .ok (.istore_n 3, 1) := by decide +kernel
theorem dX9_closeTo_4 : decode cX9_closeTo 4 = .ok (.iload_n 3, 1) := by decide +kernel
theorem dX9_closeTo_5 : decode cX9_closeTo 5 = .ok (.aload_n 0, 1) := by decide +kernel
theorem dX9_closeTo_6 : decode cX9_closeTo 6 = .ok (.getfield 59, 3) := by decide +kernel
theorem dX9_closeTo_9 : decode cX9_closeTo 9 = .ok (.if_icmp .ge 32, 3) := by decide +kernel
theorem dX9_closeTo_12 : decode cX9_closeTo 12 = .ok (.aload_n 0, 1) := by decide +kernel
theorem dX9_closeTo_13 : decode cX9_closeTo 13 = .ok (.iload_n 3, 1) := by decide +kernel
theorem dX9_closeTo_14 : decode cX9_closeTo 14 = .ok (.invokevirtual 71, 3) := by decide +kernel
theorem dX9_closeTo_17 : decode cX9_closeTo 17 = .ok (.ifCond .ne 18, 3) := by decide +kernel
theorem dX9_closeTo_20 : decode cX9_closeTo 20 = .ok (.aload_n 0, 1) := by decide +kernel
theorem dX9_closeTo_21 : decode cX9_closeTo 21 = .ok (.iload_n 1, 1) := by decide +kernel
theorem dX9_closeTo_22 : decode cX9_closeTo 22 = .ok (.iload_n 3, 1) := by decide +kernel
theorem dX9_closeTo_23 : decode cX9_closeTo 23 = .ok (.invokevirtual 99, 3) := by decide +kernel
theorem dX9_closeTo_26 : decode cX9_closeTo 26 = .ok (.ifCond .eq 9, 3) := by decide +kernel
theorem dX9_closeTo_29 : decode cX9_closeTo 29 = .ok (.iload_n 2, 1) := by decide +kernel
theorem dX9_closeTo_30 : decode cX9_closeTo 30 = .ok (.iconst 1, 1) := by decide +kernel
theorem dX9_closeTo_31 : decode cX9_closeTo 31 = .ok (.iload_n 3, 1) := by decide +kernel
theorem dX9_closeTo_32 : decode cX9_closeTo 32 = .ok (.ishl, 1) := by decide +kernel
theorem dX9_closeTo_33 : decode cX9_closeTo 33 = .ok (.ior, 1) := by decide +kernel
theorem dX9_closeTo_34 : decode cX9_closeTo 34 = .ok (.istore_n 2, 1) := by decide +kernel
theorem dX9_closeTo_35 : decode cX9_closeTo 35 = .ok (.iinc 3 1, 3) := by decide +kernel
theorem dX9_closeTo_38 : decode cX9_closeTo 38 = .ok (.goto (-34), 3) := by decide +kernel
theorem dX9_closeTo_41 : decode cX9_closeTo 41 = .ok (.iload_n 2, 1) := by decide +kernel
theorem dX9_closeTo_42 : decode cX9_closeTo 42 = .ok (.ireturn, 1) := by decide +kernel
theorem k_X9_closeTo : MV yX9_closeTo cX9_closeTo 4 (some .int) 1 := ⟨q_758, qs_20, q_11, q_759, ⟨by decide, by decide, by decide +kernel⟩⟩
theorem c_X9_closeTo_q0 {v1 : Int32} {res : Int32} (hf : X9_closeTo_q0 n x_q0_dials x_q0_count v1 = some res) : MC l E0 D t yX9_closeTo cX9_closeTo 4 (some .int) 2 0 0 [.ref (a 1), .int v1] (cW a ar t x_q0_dials x_q0_spots x_q0_skies x_q0_reports x_q0_count x_q0_chime x_q0_end x_q0_score x_q0_reportCount x_q0_z x_q0_rules x_q0_shades x_q0_facts x_q1_dials x_q1_spots x_q1_skies x_q1_reports x_q1_count x_q1_chime x_q1_end x_q1_score x_q1_reportCount x_q1_z x_q1_rules x_q1_shades x_q1_facts x_q2_dials x_q2_spots x_q2_skies x_q2_reports x_q2_count x_q2_chime x_q2_end x_q2_score x_q2_reportCount x_q2_z x_q2_rules x_q2_shades x_q2_facts x_isKept x_marks x_p_first x_p_steps x_p_most x_p_many x_p_fewest x_p_everRight x_p_opening x_p_rows x_p_rowCount x_p_acts x_p_marks x_p_deepest x_p_wanted x_t_length x_t_tape x_t_words x_t_places x_t_at x_t_kinds x_t_wills x_t_starts x_t_code x_t_count x_t_size x_h_sorts x_h_lengths x_h_items x_h_held x_h_things x_h_sizes x_h_bodies x_h_traced x_h_number x_h_spot x_h_parted x_g_count x_g_kinds x_g_wills x_g_starts x_g_code x_g_stack x_g_kl x_g_wl x_g_sl x_g_cl x_nr) (Qi res (cW a ar t x_q0_dials x_q0_spots x_q0_skies x_q0_reports x_q0_count x_q0_chime x_q0_end x_q0_score x_q0_reportCount x_q0_z x_q0_rules x_q0_shades x_q0_facts x_q1_dials x_q1_spots x_q1_skies x_q1_reports x_q1_count x_q1_chime x_q1_end x_q1_score x_q1_reportCount x_q1_z x_q1_rules x_q1_shades x_q1_facts x_q2_dials x_q2_spots x_q2_skies x_q2_reports x_q2_count x_q2_chime x_q2_end x_q2_score x_q2_reportCount x_q2_z x_q2_rules x_q2_shades x_q2_facts x_isKept x_marks x_p_first x_p_steps x_p_most x_p_many x_p_fewest x_p_everRight x_p_opening x_p_rows x_p_rowCount x_p_acts x_p_marks x_p_deepest x_p_wanted x_t_length x_t_tape x_t_words x_t_places x_t_at x_t_kinds x_t_wills x_t_starts x_t_code x_t_count x_t_size x_h_sorts x_h_lengths x_h_items x_h_held x_h_things x_h_sizes x_h_bodies x_h_traced x_h_number x_h_spot x_h_parted x_g_count x_g_kinds x_g_wills x_g_starts x_g_code x_g_stack x_g_kl x_g_wl x_g_sl x_g_cl x_nr)) := by
  unfold X9_closeTo_q0 at hf
  refine MC.ofI pn_X9 (Nat.le_of_ble_eq_true rfl) ?_
  intro p e s m args below meth c A Q ls cx hR hw hl
  have hx := cx.1
  have hb := cx.2.1
  have hl : lv_has ls 4 [(0, .ref (a 1)), (1, .int v1)] := hl
  refine lv_iconst (v := 0) hx hb dX9_closeTo_0 (by decide) ?_
  refine lv_istore_n (lv' := [(2, .int (0 : Int32)), (0, .ref (a 1)), (1, .int v1)]) hx hb dX9_closeTo_1 rfl hl (by decide) rfl (fun ls hl => ?_)
  refine lv_iconst (v := 0) hx hb dX9_closeTo_2 (by decide) ?_
  refine lv_istore_n (lv' := [(3, .int (0 : Int32)), (2, .int (0 : Int32)), (0, .ref (a 1)), (1, .int v1)]) hx hb dX9_closeTo_3 rfl hl (by decide) rfl (fun ls hl => ?_)
  obtain ⟨o6, ho6, hf⟩ := bnS hf
  have wL1 : ∀ (k : Nat) {v1 : Int32} {v2 : Int32} {v3 : Int32} {H : Heap} {locs : List Loc} {ls : Array Slot} {o : Int32 × Int32}, X9_closeTo_q0_L1 n x_q0_dials x_q0_count v1 k v2 v3 = some o → Wd D A s (cW a ar t x_q0_dials x_q0_spots x_q0_skies x_q0_reports x_q0_count x_q0_chime x_q0_end x_q0_score x_q0_reportCount x_q0_z x_q0_rules x_q0_shades x_q0_facts x_q1_dials x_q1_spots x_q1_skies x_q1_reports x_q1_count x_q1_chime x_q1_end x_q1_score x_q1_reportCount x_q1_z x_q1_rules x_q1_shades x_q1_facts x_q2_dials x_q2_spots x_q2_skies x_q2_reports x_q2_count x_q2_chime x_q2_end x_q2_score x_q2_reportCount x_q2_z x_q2_rules x_q2_shades x_q2_facts x_isKept x_marks x_p_first x_p_steps x_p_most x_p_many x_p_fewest x_p_everRight x_p_opening x_p_rows x_p_rowCount x_p_acts x_p_marks x_p_deepest x_p_wanted x_t_length x_t_tape x_t_words x_t_places x_t_at x_t_kinds x_t_wills x_t_starts x_t_code x_t_count x_t_size x_h_sorts x_h_lengths x_h_items x_h_held x_h_things x_h_sizes x_h_bodies x_h_traced x_h_number x_h_spot x_h_parted x_g_count x_g_kinds x_g_wills x_g_starts x_g_code x_g_stack x_g_kl x_g_wl x_g_sl x_g_cl x_nr) H locs → lv_has ls 4 [(0, .ref (a 1)), (1, .int v1), (2, .int v2), (3, .int v3)] → (∀ (H : Heap) (locs : List Loc) (ls : Array Slot), Wd D A s (cW a ar t x_q0_dials x_q0_spots x_q0_skies x_q0_reports x_q0_count x_q0_chime x_q0_end x_q0_score x_q0_reportCount x_q0_z x_q0_rules x_q0_shades x_q0_facts x_q1_dials x_q1_spots x_q1_skies x_q1_reports x_q1_count x_q1_chime x_q1_end x_q1_score x_q1_reportCount x_q1_z x_q1_rules x_q1_shades x_q1_facts x_q2_dials x_q2_spots x_q2_skies x_q2_reports x_q2_count x_q2_chime x_q2_end x_q2_score x_q2_reportCount x_q2_z x_q2_rules x_q2_shades x_q2_facts x_isKept x_marks x_p_first x_p_steps x_p_most x_p_many x_p_fewest x_p_everRight x_p_opening x_p_rows x_p_rowCount x_p_acts x_p_marks x_p_deepest x_p_wanted x_t_length x_t_tape x_t_words x_t_places x_t_at x_t_kinds x_t_wills x_t_starts x_t_code x_t_count x_t_size x_h_sorts x_h_lengths x_h_items x_h_held x_h_things x_h_sizes x_h_bodies x_h_traced x_h_number x_h_spot x_h_parted x_g_count x_g_kinds x_g_wills x_g_starts x_g_code x_g_stack x_g_kl x_g_wl x_g_sl x_g_cl x_nr) H locs → lv_has ls 4 [(0, .ref (a 1)), (1, .int v1), (2, .int o.1), (3, .int o.2)] → W p l e (rmz 2 0 0) s m args below meth c H locs 0 0 Q (F0 m 41 ls [])) → W p l e (rmz 2 0 0) s m args below meth c H locs 0 0 Q (F0 m 4 ls []) := by
    clear hf ho6 hw hl
    intro k
    induction k with
    | zero => intro v1 v2 v3 H locs ls o hf hw hl kx; simp [X9_closeTo_q0_L1] at hf
    | succ k ih =>
      intro v1 v2 v3 H locs ls o hf hw hl kx
      rw [X9_closeTo_q0_L1] at hf
      refine lv_iload_n hx hb dX9_closeTo_4 rfl (lv_at hl 3 rfl) ?_
      refine lv_aload_n hx hb dX9_closeTo_5 rfl (lv_at hl 0 rfl) ?_
      refine cg_X9_59_q0 cx hw dX9_closeTo_6 ?_
      refine lv_icmp_ge (tgt := 41) hx hb dX9_closeTo_9 (by decide) (fun hc => ?_) (fun hc => ?_)
      · have hf := ifT hf hc
        have hf := Option.some.inj hf
        subst hf
        exact kx _ _ _ hw (lv_sub hl [0, 1, 2, 3] rfl)
      · have hf := ifF hf hc
        refine lv_aload_n hx hb dX9_closeTo_12 rfl (lv_at hl 0 rfl) ?_
        refine lv_iload_n hx hb dX9_closeTo_13 rfl (lv_at hl 3 rfl) ?_
        obtain ⟨r1, h2, hf⟩ := bnS hf
        refine calVi cx hw hl.1 (c_X9_isRight_q0 h2) q_439 k_X9_isRight rfl rv_q0 rfl dX9_closeTo_14 rfl (Nat.le_of_ble_eq_true rfl) ⟨Nat.le_of_ble_eq_true rfl, Nat.le_of_ble_eq_true rfl⟩ ⟨Nat.le_refl _, Nat.le_refl _⟩ (fun H locs hw => ?_)
        obtain ⟨j5, hj5, hf⟩ := bnS hf
        have wj5 : ∀ (H : Heap) (locs : List Loc) (ls : Array Slot), Wd D A s (cW a ar t x_q0_dials x_q0_spots x_q0_skies x_q0_reports x_q0_count x_q0_chime x_q0_end x_q0_score x_q0_reportCount x_q0_z x_q0_rules x_q0_shades x_q0_facts x_q1_dials x_q1_spots x_q1_skies x_q1_reports x_q1_count x_q1_chime x_q1_end x_q1_score x_q1_reportCount x_q1_z x_q1_rules x_q1_shades x_q1_facts x_q2_dials x_q2_spots x_q2_skies x_q2_reports x_q2_count x_q2_chime x_q2_end x_q2_score x_q2_reportCount x_q2_z x_q2_rules x_q2_shades x_q2_facts x_isKept x_marks x_p_first x_p_steps x_p_most x_p_many x_p_fewest x_p_everRight x_p_opening x_p_rows x_p_rowCount x_p_acts x_p_marks x_p_deepest x_p_wanted x_t_length x_t_tape x_t_words x_t_places x_t_at x_t_kinds x_t_wills x_t_starts x_t_code x_t_count x_t_size x_h_sorts x_h_lengths x_h_items x_h_held x_h_things x_h_sizes x_h_bodies x_h_traced x_h_number x_h_spot x_h_parted x_g_count x_g_kinds x_g_wills x_g_starts x_g_code x_g_stack x_g_kl x_g_wl x_g_sl x_g_cl x_nr) H locs → lv_has ls 4 [(0, .ref (a 1)), (1, .int v1), (2, .int j5), (3, .int v3)] → W p l e (rmz 2 0 0) s m args below meth c H locs 0 0 Q (F0 m 35 ls []) := by
          intro H locs ls hw hl
          refine lv_iinc (v := (v3 + (1 : Int32))) (lv' := [(3, .int (v3 + (1 : Int32))), (0, .ref (a 1)), (1, .int v1), (2, .int j5)]) hx hb dX9_closeTo_35 hl (k := 3) rfl rfl (by decide) rfl (fun ls hl => ?_)
          refine lv_goto (tgt := 4) hx hb dX9_closeTo_38 (by decide) ?_
          exact ih hf hw (lv_sub hl [1, 2, 3, 0] rfl) kx
        clear hf
        have hf := hj5
        clear hj5
        refine lv_if_ne (tgt := 35) hx hb dX9_closeTo_17 (by decide) (fun hc => ?_) (fun hc => ?_)
        · have hf := ifF hf hc
          have hf := Option.some.inj hf
          subst hf
          exact wj5 _ _ _ hw (lv_sub hl [0, 1, 2, 3] rfl)
        · have hf := ifT hf hc
          refine lv_aload_n hx hb dX9_closeTo_20 rfl (lv_at hl 0 rfl) ?_
          refine lv_iload_n hx hb dX9_closeTo_21 rfl (lv_at hl 1 rfl) ?_
          refine lv_iload_n hx hb dX9_closeTo_22 rfl (lv_at hl 3 rfl) ?_
          obtain ⟨r3, h4, hf⟩ := bnS hf
          refine calVi cx hw hl.1 (c_X9_agree_q0 h4) q_513 k_X9_agree rfl rv_q0 rfl dX9_closeTo_23 rfl (Nat.le_of_ble_eq_true rfl) ⟨Nat.le_of_ble_eq_true rfl, Nat.le_of_ble_eq_true rfl⟩ ⟨Nat.le_refl _, Nat.le_refl _⟩ (fun H locs hw => ?_)
          refine lv_if_eq (tgt := 35) hx hb dX9_closeTo_26 (by decide) (fun hc => ?_) (fun hc => ?_)
          · have hf := ifT hf hc
            have hf := Option.some.inj hf
            subst hf
            exact wj5 _ _ _ hw (lv_sub hl [0, 1, 2, 3] rfl)
          · have hf := ifF hf hc
            refine lv_iload_n hx hb dX9_closeTo_29 rfl (lv_at hl 2 rfl) ?_
            refine lv_iconst (v := 1) hx hb dX9_closeTo_30 (by decide) ?_
            refine lv_iload_n hx hb dX9_closeTo_31 rfl (lv_at hl 3 rfl) ?_
            refine lv_ishl hx hb dX9_closeTo_32 ?_
            refine lv_ior hx hb dX9_closeTo_33 ?_
            refine lv_istore_n (lv' := [(2, .int (v2 ||| ((1 : Int32) <<< (v3 &&& 31)))), (0, .ref (a 1)), (1, .int v1), (3, .int v3)]) hx hb dX9_closeTo_34 rfl hl (by decide) rfl (fun ls hl => ?_)
            have hf := Option.some.inj hf
            subst hf
            exact wj5 _ _ _ hw (lv_sub hl [1, 2, 0, 3] rfl)
  refine wL1 n ho6 hw (lv_sub hl [2, 3, 1, 0] rfl) (fun H locs ls hw hl => ?_)
  clear wL1 ho6
  refine lv_iload_n hx hb dX9_closeTo_41 rfl (lv_at hl 2 rfl) ?_
  have hf := Option.some.inj hf
  subst hf
  exact hR _ _ _ _ _ _ hw rfl ⟨rfl, rfl⟩ dX9_closeTo_42
theorem dX9_knotOf_0 : decode cX9_knotOf 0 = .ok (.aload_n 0, 1) := by decide +kernel
theorem dX9_knotOf_1 : decode cX9_knotOf 1 = .ok (.iload_n 1, 1) := by decide +kernel
theorem dX9_knotOf_2 : decode cX9_knotOf 2 = .ok (.invokevirtual 71, 3) := by decide +kernel
theorem dX9_knotOf_5 : decode cX9_knotOf 5 = .ok (.ifCond .eq 5, 3) := by decide +kernel
theorem dX9_knotOf_8 : decode cX9_knotOf 8 = .ok (.iconst 0, 1) := by decide +kernel
theorem dX9_knotOf_9 : decode cX9_knotOf 9 = .ok (.ireturn, 1) := by decide +kernel
theorem dX9_knotOf_10 : decode cX9_knotOf 10 = .ok (.iconst 1, 1) := by decide +kernel
theorem dX9_knotOf_11 : decode cX9_knotOf 11 = .ok (.iload_n 1, 1) := by decide +kernel
theorem dX9_knotOf_12 : decode cX9_knotOf 12 = .ok (.ishl, 1) := by decide +kernel
theorem dX9_knotOf_13 : decode cX9_knotOf 13 = .ok (.istore_n 2, 1) := by decide +kernel
theorem dX9_knotOf_14 : decode cX9_knotOf 14 = .ok (.iconst 0, 1) := by decide +kernel
theorem dX9_knotOf_15 : decode cX9_knotOf 15 = .ok (.istore_n 3, 1) := by decide +kernel
theorem dX9_knotOf_16 : decode cX9_knotOf 16 = .ok (.iload_n 3, 1) := by decide +kernel
theorem dX9_knotOf_17 : decode cX9_knotOf 17 = .ok (.aload_n 0, 1) := by decide +kernel
theorem dX9_knotOf_18 : decode cX9_knotOf 18 = .ok (.getfield 59, 3) := by decide +kernel
theorem dX9_knotOf_21 : decode cX9_knotOf 21 = .ok (.if_icmp .ge 45, 3) := by decide +kernel
theorem dX9_knotOf_24 : decode cX9_knotOf 24 = .ok (.iconst 0, 1) := by decide +kernel
theorem dX9_knotOf_25 : decode cX9_knotOf 25 = .ok (.istore 4, 2) := by decide +kernel
theorem dX9_knotOf_27 : decode cX9_knotOf 27 = .ok (.iload 4, 2) := by decide +kernel
theorem dX9_knotOf_29 : decode cX9_knotOf 29 = .ok (.aload_n 0, 1) := by decide +kernel
theorem dX9_knotOf_30 : decode cX9_knotOf 30 = .ok (.getfield 59, 3) := by decide +kernel
theorem dX9_knotOf_33 : decode cX9_knotOf 33 = .ok (.if_icmp .ge 27, 3) := by decide +kernel
theorem dX9_knotOf_36 : decode cX9_knotOf 36 = .ok (.iload_n 2, 1) := by decide +kernel
theorem dX9_knotOf_37 : decode cX9_knotOf 37 = .ok (.iload 4, 2) := by decide +kernel
theorem dX9_knotOf_39 : decode cX9_knotOf 39 = .ok (.ishr, 1) := by decide +kernel
theorem dX9_knotOf_40 : decode cX9_knotOf 40 = .ok (.iconst 1, 1) := by decide +kernel
theorem dX9_knotOf_41 : decode cX9_knotOf 41 = .ok (.iand, 1) := by decide +kernel
theorem dX9_knotOf_42 : decode cX9_knotOf 42 = .ok (.ifCond .eq 12, 3) := by decide +kernel
theorem dX9_knotOf_45 : decode cX9_knotOf 45 = .ok (.iload_n 2, 1) := by decide +kernel
theorem dX9_knotOf_46 : decode cX9_knotOf 46 = .ok (.aload_n 0, 1) := by decide +kernel
theorem dX9_knotOf_47 : decode cX9_knotOf 47 = .ok (.iload 4, 2) := by decide +kernel
theorem dX9_knotOf_49 : decode cX9_knotOf 49 = .ok (.invokevirtual 103, 3) := by decide +kernel
theorem dX9_knotOf_52 : decode cX9_knotOf 52 = .ok (.ior, 1) := by decide +kernel
theorem dX9_knotOf_53 : decode cX9_knotOf 53 = .ok (.istore_n 2, 1) := by decide +kernel
theorem dX9_knotOf_54 : decode cX9_knotOf 54 = .ok (.iinc 4 1, 3) := by decide +kernel
theorem dX9_knotOf_57 : decode cX9_knotOf 57 = .ok (.goto (-30), 3) := by decide +kernel
theorem dX9_knotOf_60 : decode cX9_knotOf 60 = .ok (.iinc 3 1, 3) := by decide +kernel
theorem dX9_knotOf_63 : decode cX9_knotOf 63 = .ok (.goto (-47), 3) := by decide +kernel
theorem dX9_knotOf_66 : decode cX9_knotOf 66 = .ok (.iload_n 2, 1) := by decide +kernel
theorem dX9_knotOf_67 : decode cX9_knotOf 67 = .ok (.ireturn, 1) := by decide +kernel
theorem k_X9_knotOf : MV yX9_knotOf cX9_knotOf 5 (some .int) 1 := ⟨q_753, q_754, q_11, q_755, ⟨by decide, by decide, by decide +kernel⟩⟩
theorem c_X9_knotOf_q0 {v1 : Int32} {res : Int32} (hf : X9_knotOf_q0 n x_q0_dials x_q0_count v1 = some res) : MC l E0 D t yX9_knotOf cX9_knotOf 5 (some .int) 3 0 0 [.ref (a 1), .int v1] (cW a ar t x_q0_dials x_q0_spots x_q0_skies x_q0_reports x_q0_count x_q0_chime x_q0_end x_q0_score x_q0_reportCount x_q0_z x_q0_rules x_q0_shades x_q0_facts x_q1_dials x_q1_spots x_q1_skies x_q1_reports x_q1_count x_q1_chime x_q1_end x_q1_score x_q1_reportCount x_q1_z x_q1_rules x_q1_shades x_q1_facts x_q2_dials x_q2_spots x_q2_skies x_q2_reports x_q2_count x_q2_chime x_q2_end x_q2_score x_q2_reportCount x_q2_z x_q2_rules x_q2_shades x_q2_facts x_isKept x_marks x_p_first x_p_steps x_p_most x_p_many x_p_fewest x_p_everRight x_p_opening x_p_rows x_p_rowCount x_p_acts x_p_marks x_p_deepest x_p_wanted x_t_length x_t_tape x_t_words x_t_places x_t_at x_t_kinds x_t_wills x_t_starts x_t_code x_t_count x_t_size x_h_sorts x_h_lengths x_h_items x_h_held x_h_things x_h_sizes x_h_bodies x_h_traced x_h_number x_h_spot x_h_parted x_g_count x_g_kinds x_g_wills x_g_starts x_g_code x_g_stack x_g_kl x_g_wl x_g_sl x_g_cl x_nr) (Qi res (cW a ar t x_q0_dials x_q0_spots x_q0_skies x_q0_reports x_q0_count x_q0_chime x_q0_end x_q0_score x_q0_reportCount x_q0_z x_q0_rules x_q0_shades x_q0_facts x_q1_dials x_q1_spots x_q1_skies x_q1_reports x_q1_count x_q1_chime x_q1_end x_q1_score x_q1_reportCount x_q1_z x_q1_rules x_q1_shades x_q1_facts x_q2_dials x_q2_spots x_q2_skies x_q2_reports x_q2_count x_q2_chime x_q2_end x_q2_score x_q2_reportCount x_q2_z x_q2_rules x_q2_shades x_q2_facts x_isKept x_marks x_p_first x_p_steps x_p_most x_p_many x_p_fewest x_p_everRight x_p_opening x_p_rows x_p_rowCount x_p_acts x_p_marks x_p_deepest x_p_wanted x_t_length x_t_tape x_t_words x_t_places x_t_at x_t_kinds x_t_wills x_t_starts x_t_code x_t_count x_t_size x_h_sorts x_h_lengths x_h_items x_h_held x_h_things x_h_sizes x_h_bodies x_h_traced x_h_number x_h_spot x_h_parted x_g_count x_g_kinds x_g_wills x_g_starts x_g_code x_g_stack x_g_kl x_g_wl x_g_sl x_g_cl x_nr)) := by
  unfold X9_knotOf_q0 at hf
  refine MC.ofI pn_X9 (Nat.le_of_ble_eq_true rfl) ?_
  intro p e s m args below meth c A Q ls cx hR hw hl
  have hx := cx.1
  have hb := cx.2.1
  have hl : lv_has ls 5 [(0, .ref (a 1)), (1, .int v1)] := hl
  refine lv_aload_n hx hb dX9_knotOf_0 rfl (lv_at hl 0 rfl) ?_
  refine lv_iload_n hx hb dX9_knotOf_1 rfl (lv_at hl 1 rfl) ?_
  obtain ⟨r1, h2, hf⟩ := bnS hf
  refine calVi cx hw hl.1 (c_X9_isRight_q0 h2) q_439 k_X9_isRight rfl rv_q0 rfl dX9_knotOf_2 rfl (Nat.le_of_ble_eq_true rfl) ⟨Nat.le_of_ble_eq_true rfl, Nat.le_of_ble_eq_true rfl⟩ ⟨Nat.le_refl _, Nat.le_refl _⟩ (fun H locs hw => ?_)
  refine lv_if_eq (tgt := 10) hx hb dX9_knotOf_5 (by decide) (fun hc => ?_) (fun hc => ?_)
  · have hf := ifT hf hc
    refine lv_iconst (v := 1) hx hb dX9_knotOf_10 (by decide) ?_
    refine lv_iload_n hx hb dX9_knotOf_11 rfl (lv_at hl 1 rfl) ?_
    refine lv_ishl hx hb dX9_knotOf_12 ?_
    refine lv_istore_n (lv' := [(2, .int ((1 : Int32) <<< (v1 &&& 31))), (0, .ref (a 1)), (1, .int v1)]) hx hb dX9_knotOf_13 rfl hl (by decide) rfl (fun ls hl => ?_)
    refine lv_iconst (v := 0) hx hb dX9_knotOf_14 (by decide) ?_
    refine lv_istore_n (lv' := [(3, .int (0 : Int32)), (2, .int ((1 : Int32) <<< (v1 &&& 31))), (0, .ref (a 1)), (1, .int v1)]) hx hb dX9_knotOf_15 rfl hl (by decide) rfl (fun ls hl => ?_)
    obtain ⟨o7, ho7, hf⟩ := bnS hf
    have wL1 : ∀ (k : Nat) {v1 : Int32} {v2 : Int32} {v3 : Int32} {H : Heap} {locs : List Loc} {ls : Array Slot} {o : Int32 × Int32}, X9_knotOf_q0_L1 n x_q0_dials x_q0_count k v2 v3 = some o → Wd D A s (cW a ar t x_q0_dials x_q0_spots x_q0_skies x_q0_reports x_q0_count x_q0_chime x_q0_end x_q0_score x_q0_reportCount x_q0_z x_q0_rules x_q0_shades x_q0_facts x_q1_dials x_q1_spots x_q1_skies x_q1_reports x_q1_count x_q1_chime x_q1_end x_q1_score x_q1_reportCount x_q1_z x_q1_rules x_q1_shades x_q1_facts x_q2_dials x_q2_spots x_q2_skies x_q2_reports x_q2_count x_q2_chime x_q2_end x_q2_score x_q2_reportCount x_q2_z x_q2_rules x_q2_shades x_q2_facts x_isKept x_marks x_p_first x_p_steps x_p_most x_p_many x_p_fewest x_p_everRight x_p_opening x_p_rows x_p_rowCount x_p_acts x_p_marks x_p_deepest x_p_wanted x_t_length x_t_tape x_t_words x_t_places x_t_at x_t_kinds x_t_wills x_t_starts x_t_code x_t_count x_t_size x_h_sorts x_h_lengths x_h_items x_h_held x_h_things x_h_sizes x_h_bodies x_h_traced x_h_number x_h_spot x_h_parted x_g_count x_g_kinds x_g_wills x_g_starts x_g_code x_g_stack x_g_kl x_g_wl x_g_sl x_g_cl x_nr) H locs → lv_has ls 5 [(0, .ref (a 1)), (1, .int v1), (2, .int v2), (3, .int v3)] → (∀ (H : Heap) (locs : List Loc) (ls : Array Slot), Wd D A s (cW a ar t x_q0_dials x_q0_spots x_q0_skies x_q0_reports x_q0_count x_q0_chime x_q0_end x_q0_score x_q0_reportCount x_q0_z x_q0_rules x_q0_shades x_q0_facts x_q1_dials x_q1_spots x_q1_skies x_q1_reports x_q1_count x_q1_chime x_q1_end x_q1_score x_q1_reportCount x_q1_z x_q1_rules x_q1_shades x_q1_facts x_q2_dials x_q2_spots x_q2_skies x_q2_reports x_q2_count x_q2_chime x_q2_end x_q2_score x_q2_reportCount x_q2_z x_q2_rules x_q2_shades x_q2_facts x_isKept x_marks x_p_first x_p_steps x_p_most x_p_many x_p_fewest x_p_everRight x_p_opening x_p_rows x_p_rowCount x_p_acts x_p_marks x_p_deepest x_p_wanted x_t_length x_t_tape x_t_words x_t_places x_t_at x_t_kinds x_t_wills x_t_starts x_t_code x_t_count x_t_size x_h_sorts x_h_lengths x_h_items x_h_held x_h_things x_h_sizes x_h_bodies x_h_traced x_h_number x_h_spot x_h_parted x_g_count x_g_kinds x_g_wills x_g_starts x_g_code x_g_stack x_g_kl x_g_wl x_g_sl x_g_cl x_nr) H locs → lv_has ls 5 [(0, .ref (a 1)), (1, .int v1), (2, .int o.1), (3, .int o.2)] → W p l e (rmz 3 0 0) s m args below meth c H locs 0 0 Q (F0 m 66 ls [])) → W p l e (rmz 3 0 0) s m args below meth c H locs 0 0 Q (F0 m 16 ls []) := by
      clear hf ho7 hw hl
      intro k
      induction k with
      | zero => intro v1 v2 v3 H locs ls o hf hw hl kx; simp [X9_knotOf_q0_L1] at hf
      | succ k ih =>
        intro v1 v2 v3 H locs ls o hf hw hl kx
        rw [X9_knotOf_q0_L1] at hf
        refine lv_iload_n hx hb dX9_knotOf_16 rfl (lv_at hl 3 rfl) ?_
        refine lv_aload_n hx hb dX9_knotOf_17 rfl (lv_at hl 0 rfl) ?_
        refine cg_X9_59_q0 cx hw dX9_knotOf_18 ?_
        refine lv_icmp_ge (tgt := 66) hx hb dX9_knotOf_21 (by decide) (fun hc => ?_) (fun hc => ?_)
        · have hf := ifT hf hc
          have hf := Option.some.inj hf
          subst hf
          exact kx _ _ _ hw (lv_sub hl [0, 1, 2, 3] rfl)
        · have hf := ifF hf hc
          refine lv_iconst (v := 0) hx hb dX9_knotOf_24 (by decide) ?_
          refine lv_istore (lv' := [(4, .int (0 : Int32)), (0, .ref (a 1)), (1, .int v1), (2, .int v2), (3, .int v3)]) hx hb dX9_knotOf_25 hl (by decide) rfl (fun ls hl => ?_)
          obtain ⟨o6, ho6, hf⟩ := bnS hf
          have wL2 : ∀ (k : Nat) {v1 : Int32} {v2 : Int32} {v3 : Int32} {v4 : Int32} {H : Heap} {locs : List Loc} {ls : Array Slot} {o : Int32 × Int32}, X9_knotOf_q0_L2 n x_q0_dials x_q0_count k v2 v4 = some o → Wd D A s (cW a ar t x_q0_dials x_q0_spots x_q0_skies x_q0_reports x_q0_count x_q0_chime x_q0_end x_q0_score x_q0_reportCount x_q0_z x_q0_rules x_q0_shades x_q0_facts x_q1_dials x_q1_spots x_q1_skies x_q1_reports x_q1_count x_q1_chime x_q1_end x_q1_score x_q1_reportCount x_q1_z x_q1_rules x_q1_shades x_q1_facts x_q2_dials x_q2_spots x_q2_skies x_q2_reports x_q2_count x_q2_chime x_q2_end x_q2_score x_q2_reportCount x_q2_z x_q2_rules x_q2_shades x_q2_facts x_isKept x_marks x_p_first x_p_steps x_p_most x_p_many x_p_fewest x_p_everRight x_p_opening x_p_rows x_p_rowCount x_p_acts x_p_marks x_p_deepest x_p_wanted x_t_length x_t_tape x_t_words x_t_places x_t_at x_t_kinds x_t_wills x_t_starts x_t_code x_t_count x_t_size x_h_sorts x_h_lengths x_h_items x_h_held x_h_things x_h_sizes x_h_bodies x_h_traced x_h_number x_h_spot x_h_parted x_g_count x_g_kinds x_g_wills x_g_starts x_g_code x_g_stack x_g_kl x_g_wl x_g_sl x_g_cl x_nr) H locs → lv_has ls 5 [(0, .ref (a 1)), (1, .int v1), (2, .int v2), (3, .int v3), (4, .int v4)] → (∀ (H : Heap) (locs : List Loc) (ls : Array Slot), Wd D A s (cW a ar t x_q0_dials x_q0_spots x_q0_skies x_q0_reports x_q0_count x_q0_chime x_q0_end x_q0_score x_q0_reportCount x_q0_z x_q0_rules x_q0_shades x_q0_facts x_q1_dials x_q1_spots x_q1_skies x_q1_reports x_q1_count x_q1_chime x_q1_end x_q1_score x_q1_reportCount x_q1_z x_q1_rules x_q1_shades x_q1_facts x_q2_dials x_q2_spots x_q2_skies x_q2_reports x_q2_count x_q2_chime x_q2_end x_q2_score x_q2_reportCount x_q2_z x_q2_rules x_q2_shades x_q2_facts x_isKept x_marks x_p_first x_p_steps x_p_most x_p_many x_p_fewest x_p_everRight x_p_opening x_p_rows x_p_rowCount x_p_acts x_p_marks x_p_deepest x_p_wanted x_t_length x_t_tape x_t_words x_t_places x_t_at x_t_kinds x_t_wills x_t_starts x_t_code x_t_count x_t_size x_h_sorts x_h_lengths x_h_items x_h_held x_h_things x_h_sizes x_h_bodies x_h_traced x_h_number x_h_spot x_h_parted x_g_count x_g_kinds x_g_wills x_g_starts x_g_code x_g_stack x_g_kl x_g_wl x_g_sl x_g_cl x_nr) H locs → lv_has ls 5 [(0, .ref (a 1)), (1, .int v1), (2, .int o.1), (3, .int v3), (4, .int o.2)] → W p l e (rmz 3 0 0) s m args below meth c H locs 0 0 Q (F0 m 60 ls [])) → W p l e (rmz 3 0 0) s m args below meth c H locs 0 0 Q (F0 m 27 ls []) := by
            clear hf ho6 hw hl
            intro k
            induction k with
            | zero => intro v1 v2 v3 v4 H locs ls o hf hw hl kx; simp [X9_knotOf_q0_L2] at hf
            | succ k ih =>
              intro v1 v2 v3 v4 H locs ls o hf hw hl kx
              rw [X9_knotOf_q0_L2] at hf
              refine lv_iload hx hb dX9_knotOf_27 (lv_at hl 4 rfl) ?_
              refine lv_aload_n hx hb dX9_knotOf_29 rfl (lv_at hl 0 rfl) ?_
              refine cg_X9_59_q0 cx hw dX9_knotOf_30 ?_
              refine lv_icmp_ge (tgt := 60) hx hb dX9_knotOf_33 (by decide) (fun hc => ?_) (fun hc => ?_)
              · have hf := ifT hf hc
                have hf := Option.some.inj hf
                subst hf
                exact kx _ _ _ hw (lv_sub hl [0, 1, 2, 3, 4] rfl)
              · have hf := ifF hf hc
                refine lv_iload_n hx hb dX9_knotOf_36 rfl (lv_at hl 2 rfl) ?_
                refine lv_iload hx hb dX9_knotOf_37 (lv_at hl 4 rfl) ?_
                refine lv_ishr hx hb dX9_knotOf_39 ?_
                refine lv_iconst (v := 1) hx hb dX9_knotOf_40 (by decide) ?_
                refine lv_iand hx hb dX9_knotOf_41 ?_
                obtain ⟨j5, hj5, hf⟩ := bnS hf
                have wj5 : ∀ (H : Heap) (locs : List Loc) (ls : Array Slot), Wd D A s (cW a ar t x_q0_dials x_q0_spots x_q0_skies x_q0_reports x_q0_count x_q0_chime x_q0_end x_q0_score x_q0_reportCount x_q0_z x_q0_rules x_q0_shades x_q0_facts x_q1_dials x_q1_spots x_q1_skies x_q1_reports x_q1_count x_q1_chime x_q1_end x_q1_score x_q1_reportCount x_q1_z x_q1_rules x_q1_shades x_q1_facts x_q2_dials x_q2_spots x_q2_skies x_q2_reports x_q2_count x_q2_chime x_q2_end x_q2_score x_q2_reportCount x_q2_z x_q2_rules x_q2_shades x_q2_facts x_isKept x_marks x_p_first x_p_steps x_p_most x_p_many x_p_fewest x_p_everRight x_p_opening x_p_rows x_p_rowCount x_p_acts x_p_marks x_p_deepest x_p_wanted x_t_length x_t_tape x_t_words x_t_places x_t_at x_t_kinds x_t_wills x_t_starts x_t_code x_t_count x_t_size x_h_sorts x_h_lengths x_h_items x_h_held x_h_things x_h_sizes x_h_bodies x_h_traced x_h_number x_h_spot x_h_parted x_g_count x_g_kinds x_g_wills x_g_starts x_g_code x_g_stack x_g_kl x_g_wl x_g_sl x_g_cl x_nr) H locs → lv_has ls 5 [(0, .ref (a 1)), (1, .int v1), (2, .int j5), (3, .int v3), (4, .int v4)] → W p l e (rmz 3 0 0) s m args below meth c H locs 0 0 Q (F0 m 54 ls []) := by
                  intro H locs ls hw hl
                  refine lv_iinc (v := (v4 + (1 : Int32))) (lv' := [(4, .int (v4 + (1 : Int32))), (0, .ref (a 1)), (1, .int v1), (2, .int j5), (3, .int v3)]) hx hb dX9_knotOf_54 hl (k := 4) rfl rfl (by decide) rfl (fun ls hl => ?_)
                  refine lv_goto (tgt := 27) hx hb dX9_knotOf_57 (by decide) ?_
                  exact ih hf hw (lv_sub hl [1, 2, 3, 4, 0] rfl) kx
                clear hf
                have hf := hj5
                clear hj5
                refine lv_if_eq (tgt := 54) hx hb dX9_knotOf_42 (by decide) (fun hc => ?_) (fun hc => ?_)
                · have hf := ifT hf hc
                  have hf := Option.some.inj hf
                  subst hf
                  exact wj5 _ _ _ hw (lv_sub hl [0, 1, 2, 3, 4] rfl)
                · have hf := ifF hf hc
                  refine lv_iload_n hx hb dX9_knotOf_45 rfl (lv_at hl 2 rfl) ?_
                  refine lv_aload_n hx hb dX9_knotOf_46 rfl (lv_at hl 0 rfl) ?_
                  refine lv_iload hx hb dX9_knotOf_47 (lv_at hl 4 rfl) ?_
                  obtain ⟨r3, h4, hf⟩ := bnS hf
                  refine calVi cx hw hl.1 (c_X9_closeTo_q0 h4) q_756 k_X9_closeTo rfl rv_q0 rfl dX9_knotOf_49 rfl (Nat.le_of_ble_eq_true rfl) ⟨Nat.le_of_ble_eq_true rfl, Nat.le_of_ble_eq_true rfl⟩ ⟨Nat.le_refl _, Nat.le_refl _⟩ (fun H locs hw => ?_)
                  refine lv_ior hx hb dX9_knotOf_52 ?_
                  refine lv_istore_n (lv' := [(2, .int (v2 ||| r3)), (0, .ref (a 1)), (1, .int v1), (3, .int v3), (4, .int v4)]) hx hb dX9_knotOf_53 rfl hl (by decide) rfl (fun ls hl => ?_)
                  have hf := Option.some.inj hf
                  subst hf
                  exact wj5 _ _ _ hw (lv_sub hl [1, 2, 0, 3, 4] rfl)
          refine wL2 n ho6 hw (lv_sub hl [1, 2, 3, 4, 0] rfl) (fun H locs ls hw hl => ?_)
          clear wL2 ho6
          refine lv_iinc (v := (v3 + (1 : Int32))) (lv' := [(3, .int (v3 + (1 : Int32))), (0, .ref (a 1)), (1, .int v1), (2, .int o6.1), (4, .int o6.2)]) hx hb dX9_knotOf_60 hl (k := 3) rfl rfl (by decide) rfl (fun ls hl => ?_)
          refine lv_goto (tgt := 16) hx hb dX9_knotOf_63 (by decide) ?_
          exact ih hf hw (lv_sub hl [1, 2, 3, 0] rfl) kx
    refine wL1 n ho7 hw (lv_sub hl [2, 3, 1, 0] rfl) (fun H locs ls hw hl => ?_)
    clear wL1 ho7
    refine lv_iload_n hx hb dX9_knotOf_66 rfl (lv_at hl 2 rfl) ?_
    have hf := Option.some.inj hf
    subst hf
    exact hR _ _ _ _ _ _ hw rfl ⟨rfl, rfl⟩ dX9_knotOf_67
  · have hf := ifF hf hc
    refine lv_iconst (v := 0) hx hb dX9_knotOf_8 (by decide) ?_
    have hf := Option.some.inj hf
    subst hf
    exact hR _ _ _ _ _ _ hw rfl ⟨rfl, rfl⟩ dX9_knotOf_9
theorem dX11_countKnots_0 : decode cX11_countKnots 0 = .ok (.iconst 0, 1) := by decide +kernel
theorem dX11_countKnots_1 : decode cX11_countKnots 1 = .ok (.istore_n 1, 1) := by decide +kernel
theorem dX11_countKnots_2 : decode cX11_countKnots 2 = .ok (.iconst 0, 1) := by decide +kernel
theorem dX11_countKnots_3 : decode cX11_countKnots 3 = .ok (.istore_n 2, 1) := by decide +kernel
theorem dX11_countKnots_4 : decode cX11_countKnots 4 = .ok (.iload_n 2, 1) := by decide +kernel
theorem dX11_countKnots_5 : decode cX11_countKnots 5 = .ok (.aload_n 0, 1) := by decide +kernel
theorem dX11_countKnots_6 : decode cX11_countKnots 6 = .ok (.getfield 55, 3) := by decide +kernel
theorem dX11_countKnots_9 : decode cX11_countKnots 9 = .ok (.getfield 82, 3) := by decide +kernel
theorem dX11_countKnots_12 : decode cX11_countKnots 12 = .ok (.if_icmp .ge 35, 3) := by decide +kernel
theorem dX11_countKnots_15 : decode cX11_countKnots 15 = .ok (.aload_n 0, 1) := by decide +kernel
theorem dX11_countKnots_16 : decode cX11_countKnots 16 = .ok (.getfield 55, 3) := by decide +kernel
theorem dX11_countKnots_19 : decode cX11_countKnots 19 = .ok (.iload_n 2, 1) := by decide +kernel
theorem dX11_countKnots_20 : decode cX11_countKnots 20 = .ok (.invokevirtual 199, 3) := by decide +kernel
theorem dX11_countKnots_23 : decode cX11_countKnots 23 = .ok (.istore_n 3, 1) := by decide +kernel
theorem dX11_countKnots_24 : decode cX11_countKnots 24 = .ok (.iload_n 3, 1) := by decide +kernel
theorem dX11_countKnots_25 : decode cX11_countKnots 25 = .ok (.ifCond .eq 16, 3) := by decide +kernel
theorem dX11_countKnots_28 : decode cX11_countKnots 28 = .ok (.iload_n 3, 1) := by decide +kernel
theorem dX11_countKnots_29 : decode cX11_countKnots 29 = .ok (.iconst 1, 1) := by decide +kernel
theorem dX11_countKnots_30 : decode cX11_countKnots 30 = .ok (.iload_n 2, 1) := by decide +kernel
theorem dX11_countKnots_31 : decode cX11_countKnots 31 = .ok (.ishl, 1) := by decide +kernel
theorem dX11_countKnots_32 : decode cX11_countKnots 32 = .ok (.iconst 1, 1) := by decide +kernel
theorem dX11_countKnots_33 : decode cX11_countKnots 33 = .ok (.isub, 1) := by decide +kernel
theorem dX11_countKnots_34 : decode cX11_countKnots 34 = .ok (.iand, 1) := by decide +kernel
theorem dX11_countKnots_35 : decode cX11_countKnots 35 = .ok (.ifCond .ne 6, 3) := by decide +kernel
theorem dX11_countKnots_38 : decode cX11_countKnots 38 = .ok (.iinc 1 1, 3) := by decide +kernel
theorem dX11_countKnots_41 : decode cX11_countKnots 41 = .ok (.iinc 2 1, 3) := by decide +kernel
theorem dX11_countKnots_44 : decode cX11_countKnots 44 = .ok (.goto (-40), 3) := by decide +kernel
theorem dX11_countKnots_47 : decode cX11_countKnots 47 = .ok (.iload_n 1, 1) := by decide +kernel
theorem dX11_countKnots_48 : decode cX11_countKnots 48 = .ok (.ireturn, 1) := by decide +kernel
theorem k_X11_countKnots : MV yX11_countKnots cX11_countKnots 4 (some .int) 0 := ⟨q_750, qs_19, q_1, q_751, ⟨by decide, by decide, by decide +kernel⟩⟩
theorem c_X11_countKnots {res : Int32} (hf : X11_countKnots n x_q0_dials x_q0_count = some res) : MC l E0 D t yX11_countKnots cX11_countKnots 4 (some .int) 4 0 0 [.ref (a 0)] (cW a ar t x_q0_dials x_q0_spots x_q0_skies x_q0_reports x_q0_count x_q0_chime x_q0_end x_q0_score x_q0_reportCount x_q0_z x_q0_rules x_q0_shades x_q0_facts x_q1_dials x_q1_spots x_q1_skies x_q1_reports x_q1_count x_q1_chime x_q1_end x_q1_score x_q1_reportCount x_q1_z x_q1_rules x_q1_shades x_q1_facts x_q2_dials x_q2_spots x_q2_skies x_q2_reports x_q2_count x_q2_chime x_q2_end x_q2_score x_q2_reportCount x_q2_z x_q2_rules x_q2_shades x_q2_facts x_isKept x_marks x_p_first x_p_steps x_p_most x_p_many x_p_fewest x_p_everRight x_p_opening x_p_rows x_p_rowCount x_p_acts x_p_marks x_p_deepest x_p_wanted x_t_length x_t_tape x_t_words x_t_places x_t_at x_t_kinds x_t_wills x_t_starts x_t_code x_t_count x_t_size x_h_sorts x_h_lengths x_h_items x_h_held x_h_things x_h_sizes x_h_bodies x_h_traced x_h_number x_h_spot x_h_parted x_g_count x_g_kinds x_g_wills x_g_starts x_g_code x_g_stack x_g_kl x_g_wl x_g_sl x_g_cl x_nr) (Qi res (cW a ar t x_q0_dials x_q0_spots x_q0_skies x_q0_reports x_q0_count x_q0_chime x_q0_end x_q0_score x_q0_reportCount x_q0_z x_q0_rules x_q0_shades x_q0_facts x_q1_dials x_q1_spots x_q1_skies x_q1_reports x_q1_count x_q1_chime x_q1_end x_q1_score x_q1_reportCount x_q1_z x_q1_rules x_q1_shades x_q1_facts x_q2_dials x_q2_spots x_q2_skies x_q2_reports x_q2_count x_q2_chime x_q2_end x_q2_score x_q2_reportCount x_q2_z x_q2_rules x_q2_shades x_q2_facts x_isKept x_marks x_p_first x_p_steps x_p_most x_p_many x_p_fewest x_p_everRight x_p_opening x_p_rows x_p_rowCount x_p_acts x_p_marks x_p_deepest x_p_wanted x_t_length x_t_tape x_t_words x_t_places x_t_at x_t_kinds x_t_wills x_t_starts x_t_code x_t_count x_t_size x_h_sorts x_h_lengths x_h_items x_h_held x_h_things x_h_sizes x_h_bodies x_h_traced x_h_number x_h_spot x_h_parted x_g_count x_g_kinds x_g_wills x_g_starts x_g_code x_g_stack x_g_kl x_g_wl x_g_sl x_g_cl x_nr)) := by
  unfold X11_countKnots at hf
  refine MC.ofI pn_X11 (Nat.le_of_ble_eq_true rfl) ?_
  intro p e s m args below meth c A Q ls cx hR hw hl
  have hx := cx.1
  have hb := cx.2.1
  have hl : lv_has ls 4 [(0, .ref (a 0))] := hl
  refine lv_iconst (v := 0) hx hb dX11_countKnots_0 (by decide) ?_
  refine lv_istore_n (lv' := [(1, .int (0 : Int32)), (0, .ref (a 0))]) hx hb dX11_countKnots_1 rfl hl (by decide) rfl (fun ls hl => ?_)
  refine lv_iconst (v := 0) hx hb dX11_countKnots_2 (by decide) ?_
  refine lv_istore_n (lv' := [(2, .int (0 : Int32)), (1, .int (0 : Int32)), (0, .ref (a 0))]) hx hb dX11_countKnots_3 rfl hl (by decide) rfl (fun ls hl => ?_)
  obtain ⟨o4, ho4, hf⟩ := bnS hf
  have wL1 : ∀ (k : Nat) {v1 : Int32} {v2 : Int32} {H : Heap} {locs : List Loc} {ls : Array Slot} {o : Int32 × Int32}, X11_countKnots_L1 n x_q0_dials x_q0_count k v1 v2 = some o → Wd D A s (cW a ar t x_q0_dials x_q0_spots x_q0_skies x_q0_reports x_q0_count x_q0_chime x_q0_end x_q0_score x_q0_reportCount x_q0_z x_q0_rules x_q0_shades x_q0_facts x_q1_dials x_q1_spots x_q1_skies x_q1_reports x_q1_count x_q1_chime x_q1_end x_q1_score x_q1_reportCount x_q1_z x_q1_rules x_q1_shades x_q1_facts x_q2_dials x_q2_spots x_q2_skies x_q2_reports x_q2_count x_q2_chime x_q2_end x_q2_score x_q2_reportCount x_q2_z x_q2_rules x_q2_shades x_q2_facts x_isKept x_marks x_p_first x_p_steps x_p_most x_p_many x_p_fewest x_p_everRight x_p_opening x_p_rows x_p_rowCount x_p_acts x_p_marks x_p_deepest x_p_wanted x_t_length x_t_tape x_t_words x_t_places x_t_at x_t_kinds x_t_wills x_t_starts x_t_code x_t_count x_t_size x_h_sorts x_h_lengths x_h_items x_h_held x_h_things x_h_sizes x_h_bodies x_h_traced x_h_number x_h_spot x_h_parted x_g_count x_g_kinds x_g_wills x_g_starts x_g_code x_g_stack x_g_kl x_g_wl x_g_sl x_g_cl x_nr) H locs → lv_has ls 4 [(0, .ref (a 0)), (1, .int v1), (2, .int v2)] → (∀ (H : Heap) (locs : List Loc) (ls : Array Slot), Wd D A s (cW a ar t x_q0_dials x_q0_spots x_q0_skies x_q0_reports x_q0_count x_q0_chime x_q0_end x_q0_score x_q0_reportCount x_q0_z x_q0_rules x_q0_shades x_q0_facts x_q1_dials x_q1_spots x_q1_skies x_q1_reports x_q1_count x_q1_chime x_q1_end x_q1_score x_q1_reportCount x_q1_z x_q1_rules x_q1_shades x_q1_facts x_q2_dials x_q2_spots x_q2_skies x_q2_reports x_q2_count x_q2_chime x_q2_end x_q2_score x_q2_reportCount x_q2_z x_q2_rules x_q2_shades x_q2_facts x_isKept x_marks x_p_first x_p_steps x_p_most x_p_many x_p_fewest x_p_everRight x_p_opening x_p_rows x_p_rowCount x_p_acts x_p_marks x_p_deepest x_p_wanted x_t_length x_t_tape x_t_words x_t_places x_t_at x_t_kinds x_t_wills x_t_starts x_t_code x_t_count x_t_size x_h_sorts x_h_lengths x_h_items x_h_held x_h_things x_h_sizes x_h_bodies x_h_traced x_h_number x_h_spot x_h_parted x_g_count x_g_kinds x_g_wills x_g_starts x_g_code x_g_stack x_g_kl x_g_wl x_g_sl x_g_cl x_nr) H locs → lv_has ls 4 [(0, .ref (a 0)), (1, .int o.1), (2, .int o.2)] → W p l e (rmz 4 0 0) s m args below meth c H locs 0 0 Q (F0 m 47 ls [])) → W p l e (rmz 4 0 0) s m args below meth c H locs 0 0 Q (F0 m 4 ls []) := by
    clear hf ho4 hw hl
    intro k
    induction k with
    | zero => intro v1 v2 H locs ls o hf hw hl kx; simp [X11_countKnots_L1] at hf
    | succ k ih =>
      intro v1 v2 H locs ls o hf hw hl kx
      rw [X11_countKnots_L1] at hf
      refine lv_iload_n hx hb dX11_countKnots_4 rfl (lv_at hl 2 rfl) ?_
      refine lv_aload_n hx hb dX11_countKnots_5 rfl (lv_at hl 0 rfl) ?_
      refine cg_X11_55_ds cx hw dX11_countKnots_6 ?_
      refine cg_X11_82_q0 cx hw dX11_countKnots_9 ?_
      refine lv_icmp_ge (tgt := 47) hx hb dX11_countKnots_12 (by decide) (fun hc => ?_) (fun hc => ?_)
      · have hf := ifT hf hc
        have hf := Option.some.inj hf
        subst hf
        exact kx _ _ _ hw (lv_sub hl [0, 1, 2] rfl)
      · have hf := ifF hf hc
        refine lv_aload_n hx hb dX11_countKnots_15 rfl (lv_at hl 0 rfl) ?_
        refine cg_X11_55_ds cx hw dX11_countKnots_16 ?_
        refine lv_iload_n hx hb dX11_countKnots_19 rfl (lv_at hl 2 rfl) ?_
        obtain ⟨r1, h2, hf⟩ := bnS hf
        refine calVi cx hw hl.1 (c_X9_knotOf_q0 h2) q_752 k_X9_knotOf rfl rv_q0 rfl dX11_countKnots_20 rfl (Nat.le_of_ble_eq_true rfl) ⟨Nat.le_of_ble_eq_true rfl, Nat.le_of_ble_eq_true rfl⟩ ⟨Nat.le_refl _, Nat.le_refl _⟩ (fun H locs hw => ?_)
        refine lv_istore_n (lv' := [(3, .int r1), (0, .ref (a 0)), (1, .int v1), (2, .int v2)]) hx hb dX11_countKnots_23 rfl hl (by decide) rfl (fun ls hl => ?_)
        refine lv_iload_n hx hb dX11_countKnots_24 rfl (lv_at hl 0 rfl) ?_
        obtain ⟨j3, hj3, hf⟩ := pbS hf
        have wj3 : ∀ (H : Heap) (locs : List Loc) (ls : Array Slot), Wd D A s (cW a ar t x_q0_dials x_q0_spots x_q0_skies x_q0_reports x_q0_count x_q0_chime x_q0_end x_q0_score x_q0_reportCount x_q0_z x_q0_rules x_q0_shades x_q0_facts x_q1_dials x_q1_spots x_q1_skies x_q1_reports x_q1_count x_q1_chime x_q1_end x_q1_score x_q1_reportCount x_q1_z x_q1_rules x_q1_shades x_q1_facts x_q2_dials x_q2_spots x_q2_skies x_q2_reports x_q2_count x_q2_chime x_q2_end x_q2_score x_q2_reportCount x_q2_z x_q2_rules x_q2_shades x_q2_facts x_isKept x_marks x_p_first x_p_steps x_p_most x_p_many x_p_fewest x_p_everRight x_p_opening x_p_rows x_p_rowCount x_p_acts x_p_marks x_p_deepest x_p_wanted x_t_length x_t_tape x_t_words x_t_places x_t_at x_t_kinds x_t_wills x_t_starts x_t_code x_t_count x_t_size x_h_sorts x_h_lengths x_h_items x_h_held x_h_things x_h_sizes x_h_bodies x_h_traced x_h_number x_h_spot x_h_parted x_g_count x_g_kinds x_g_wills x_g_starts x_g_code x_g_stack x_g_kl x_g_wl x_g_sl x_g_cl x_nr) H locs → lv_has ls 4 [(0, .ref (a 0)), (1, .int j3), (2, .int v2), (3, .int r1)] → W p l e (rmz 4 0 0) s m args below meth c H locs 0 0 Q (F0 m 41 ls []) := by
          intro H locs ls hw hl
          refine lv_iinc (v := (v2 + (1 : Int32))) (lv' := [(2, .int (v2 + (1 : Int32))), (0, .ref (a 0)), (1, .int j3), (3, .int r1)]) hx hb dX11_countKnots_41 hl (k := 2) rfl rfl (by decide) rfl (fun ls hl => ?_)
          refine lv_goto (tgt := 4) hx hb dX11_countKnots_44 (by decide) ?_
          exact ih hf hw (lv_sub hl [1, 2, 0] rfl) kx
        clear hf
        have hf := hj3
        clear hj3
        refine lv_if_eq (tgt := 41) hx hb dX11_countKnots_25 (by decide) (fun hc => ?_) (fun hc => ?_)
        · have hf := ifT hf hc
          subst hf
          exact wj3 _ _ _ hw (lv_sub hl [1, 2, 3, 0] rfl)
        · have hf := ifF hf hc
          refine lv_iload_n hx hb dX11_countKnots_28 rfl (lv_at hl 0 rfl) ?_
          refine lv_iconst (v := 1) hx hb dX11_countKnots_29 (by decide) ?_
          refine lv_iload_n hx hb dX11_countKnots_30 rfl (lv_at hl 3 rfl) ?_
          refine lv_ishl hx hb dX11_countKnots_31 ?_
          refine lv_iconst (v := 1) hx hb dX11_countKnots_32 (by decide) ?_
          refine lv_isub hx hb dX11_countKnots_33 ?_
          refine lv_iand hx hb dX11_countKnots_34 ?_
          refine lv_if_ne (tgt := 41) hx hb dX11_countKnots_35 (by decide) (fun hc => ?_) (fun hc => ?_)
          · have hf := ifF hf hc
            subst hf
            exact wj3 _ _ _ hw (lv_sub hl [1, 2, 3, 0] rfl)
          · have hf := ifT hf hc
            refine lv_iinc (v := (v1 + (1 : Int32))) (lv' := [(1, .int (v1 + (1 : Int32))), (3, .int r1), (0, .ref (a 0)), (2, .int v2)]) hx hb dX11_countKnots_38 hl (k := 2) rfl rfl (by decide) rfl (fun ls hl => ?_)
            subst hf
            exact wj3 _ _ _ hw (lv_sub hl [2, 0, 3, 1] rfl)
  refine wL1 n ho4 hw (lv_sub hl [2, 1, 0] rfl) (fun H locs ls hw hl => ?_)
  clear wL1 ho4
  refine lv_iload_n hx hb dX11_countKnots_47 rfl (lv_at hl 1 rfl) ?_
  have hf := Option.some.inj hf
  subst hf
  exact hR _ _ _ _ _ _ hw rfl ⟨rfl, rfl⟩ dX11_countKnots_48
theorem dX11_knots_0 : decode cX11_knots 0 = .ok (.iload_n 1, 1) := by decide +kernel
theorem dX11_knots_1 : decode cX11_knots 1 = .ok (.iconst (-1), 1) := by decide +kernel
theorem dX11_knots_2 : decode cX11_knots 2 = .ok (.if_icmp .ne 8, 3) := by decide +kernel
theorem dX11_knots_5 : decode cX11_knots 5 = .ok (.aload_n 0, 1) := by decide +kernel
theorem dX11_knots_6 : decode cX11_knots 6 = .ok (.invokevirtual 196, 3) := by decide +kernel
theorem dX11_knots_9 : decode cX11_knots 9 = .ok (.ireturn, 1) := by decide +kernel
theorem dX11_knots_10 : decode cX11_knots 10 = .ok (.aload_n 0, 1) := by decide +kernel
theorem dX11_knots_11 : decode cX11_knots 11 = .ok (.getfield 55, 3) := by decide +kernel
theorem dX11_knots_14 : decode cX11_knots 14 = .ok (.iload_n 1, 1) := by decide +kernel
theorem dX11_knots_15 : decode cX11_knots 15 = .ok (.invokevirtual 90, 3) := by decide +kernel
theorem dX11_knots_18 : decode cX11_knots 18 = .ok (.ifCond .eq 14, 3) := by decide +kernel
theorem dX11_knots_21 : decode cX11_knots 21 = .ok (.aload_n 0, 1) := by decide +kernel
theorem dX11_knots_22 : decode cX11_knots 22 = .ok (.getfield 55, 3) := by decide +kernel
theorem dX11_knots_25 : decode cX11_knots 25 = .ok (.iload_n 1, 1) := by decide +kernel
theorem dX11_knots_26 : decode cX11_knots 26 = .ok (.invokevirtual 199, 3) := by decide +kernel
theorem dX11_knots_29 : decode cX11_knots 29 = .ok (.goto 4, 3) := by decide +kernel
theorem dX11_knots_32 : decode cX11_knots 32 = .ok (.iconst (-1), 1) := by decide +kernel
theorem dX11_knots_33 : decode cX11_knots 33 = .ok (.ireturn, 1) := by decide +kernel
theorem k_X11_knots : MV yX11_knots cX11_knots 2 (some .int) 1 := ⟨q_745, q_746, q_1, q_747, ⟨by decide, by decide, by decide +kernel⟩⟩
theorem c_X11_knots {v1 : Int32} {res : Int32} (hf : X11_knots n x_q0_dials x_q0_count v1 = some res) : MC l E0 D t yX11_knots cX11_knots 2 (some .int) 5 0 0 [.ref (a 0), .int v1] (cW a ar t x_q0_dials x_q0_spots x_q0_skies x_q0_reports x_q0_count x_q0_chime x_q0_end x_q0_score x_q0_reportCount x_q0_z x_q0_rules x_q0_shades x_q0_facts x_q1_dials x_q1_spots x_q1_skies x_q1_reports x_q1_count x_q1_chime x_q1_end x_q1_score x_q1_reportCount x_q1_z x_q1_rules x_q1_shades x_q1_facts x_q2_dials x_q2_spots x_q2_skies x_q2_reports x_q2_count x_q2_chime x_q2_end x_q2_score x_q2_reportCount x_q2_z x_q2_rules x_q2_shades x_q2_facts x_isKept x_marks x_p_first x_p_steps x_p_most x_p_many x_p_fewest x_p_everRight x_p_opening x_p_rows x_p_rowCount x_p_acts x_p_marks x_p_deepest x_p_wanted x_t_length x_t_tape x_t_words x_t_places x_t_at x_t_kinds x_t_wills x_t_starts x_t_code x_t_count x_t_size x_h_sorts x_h_lengths x_h_items x_h_held x_h_things x_h_sizes x_h_bodies x_h_traced x_h_number x_h_spot x_h_parted x_g_count x_g_kinds x_g_wills x_g_starts x_g_code x_g_stack x_g_kl x_g_wl x_g_sl x_g_cl x_nr) (Qi res (cW a ar t x_q0_dials x_q0_spots x_q0_skies x_q0_reports x_q0_count x_q0_chime x_q0_end x_q0_score x_q0_reportCount x_q0_z x_q0_rules x_q0_shades x_q0_facts x_q1_dials x_q1_spots x_q1_skies x_q1_reports x_q1_count x_q1_chime x_q1_end x_q1_score x_q1_reportCount x_q1_z x_q1_rules x_q1_shades x_q1_facts x_q2_dials x_q2_spots x_q2_skies x_q2_reports x_q2_count x_q2_chime x_q2_end x_q2_score x_q2_reportCount x_q2_z x_q2_rules x_q2_shades x_q2_facts x_isKept x_marks x_p_first x_p_steps x_p_most x_p_many x_p_fewest x_p_everRight x_p_opening x_p_rows x_p_rowCount x_p_acts x_p_marks x_p_deepest x_p_wanted x_t_length x_t_tape x_t_words x_t_places x_t_at x_t_kinds x_t_wills x_t_starts x_t_code x_t_count x_t_size x_h_sorts x_h_lengths x_h_items x_h_held x_h_things x_h_sizes x_h_bodies x_h_traced x_h_number x_h_spot x_h_parted x_g_count x_g_kinds x_g_wills x_g_starts x_g_code x_g_stack x_g_kl x_g_wl x_g_sl x_g_cl x_nr)) := by
  unfold X11_knots at hf
  refine MC.ofI pn_X11 (Nat.le_of_ble_eq_true rfl) ?_
  intro p e s m args below meth c A Q ls cx hR hw hl
  have hx := cx.1
  have hb := cx.2.1
  have hl : lv_has ls 2 [(0, .ref (a 0)), (1, .int v1)] := hl
  refine lv_iload_n hx hb dX11_knots_0 rfl (lv_at hl 1 rfl) ?_
  refine lv_iconst (v := (-1)) hx hb dX11_knots_1 (by decide) ?_
  refine lv_icmp_ne (tgt := 10) hx hb dX11_knots_2 (by decide) (fun hc => ?_) (fun hc => ?_)
  · have hf := ifF hf hc
    refine lv_aload_n hx hb dX11_knots_10 rfl (lv_at hl 0 rfl) ?_
    refine cg_X11_55_ds cx hw dX11_knots_11 ?_
    refine lv_iload_n hx hb dX11_knots_14 rfl (lv_at hl 1 rfl) ?_
    refine calVi cx hw hl.1 (c_X9_has_q0 rfl) q_364 k_X9_has rfl rv_q0 rfl dX11_knots_15 rfl (Nat.le_of_ble_eq_true rfl) ⟨Nat.le_of_ble_eq_true rfl, Nat.le_of_ble_eq_true rfl⟩ ⟨Nat.le_refl _, Nat.le_refl _⟩ (fun H locs hw => ?_)
    refine lv_if_eq (tgt := 32) hx hb dX11_knots_18 (by decide) (fun hc => ?_) (fun hc => ?_)
    · have hf := ifT hf hc
      refine lv_iconst (v := (-1)) hx hb dX11_knots_32 (by decide) ?_
      have hf := Option.some.inj hf
      subst hf
      exact hR _ _ _ _ _ _ hw rfl ⟨rfl, rfl⟩ dX11_knots_33
    · have hf := ifF hf hc
      refine lv_aload_n hx hb dX11_knots_21 rfl (lv_at hl 0 rfl) ?_
      refine cg_X11_55_ds cx hw dX11_knots_22 ?_
      refine lv_iload_n hx hb dX11_knots_25 rfl (lv_at hl 1 rfl) ?_
      obtain ⟨r3, h4, hf⟩ := bnS hf
      refine calVi cx hw hl.1 (c_X9_knotOf_q0 h4) q_752 k_X9_knotOf rfl rv_q0 rfl dX11_knots_26 rfl (Nat.le_of_ble_eq_true rfl) ⟨Nat.le_of_ble_eq_true rfl, Nat.le_of_ble_eq_true rfl⟩ ⟨Nat.le_refl _, Nat.le_refl _⟩ (fun H locs hw => ?_)
      refine lv_goto (tgt := 33) hx hb dX11_knots_29 (by decide) ?_
      have hf := Option.some.inj hf
      subst hf
      exact hR _ _ _ _ _ _ hw rfl ⟨rfl, rfl⟩ dX11_knots_33
  · have hf := ifT hf hc
    refine lv_aload_n hx hb dX11_knots_5 rfl (lv_at hl 0 rfl) ?_
    obtain ⟨r1, h2, hf⟩ := bnS hf
    refine calVi cx hw hl.1 (c_X11_countKnots h2) q_748 k_X11_countKnots rfl rv_ds rfl dX11_knots_6 rfl (Nat.le_of_ble_eq_true rfl) ⟨Nat.le_of_ble_eq_true rfl, Nat.le_of_ble_eq_true rfl⟩ ⟨Nat.le_refl _, Nat.le_refl _⟩ (fun H locs hw => ?_)
    have hf := Option.some.inj hf
    subst hf
    exact hR _ _ _ _ _ _ hw rfl ⟨rfl, rfl⟩ dX11_knots_9
theorem dX11_spotsInShade_0 : decode cX11_spotsInShade 0 = .ok (.aload_n 0, 1) := by decide +kernel
theorem dX11_spotsInShade_1 : decode cX11_spotsInShade 1 = .ok (.getfield 55, 3) := by decide +kernel
theorem dX11_spotsInShade_4 : decode cX11_spotsInShade 4 = .ok (.invokevirtual 122, 3) := by decide +kernel
theorem dX11_spotsInShade_7 : decode cX11_spotsInShade 7 = .ok (.iconst 0, 1) := by decide +kernel
theorem dX11_spotsInShade_8 : decode cX11_spotsInShade 8 = .ok (.istore_n 2, 1) := by decide +kernel
theorem dX11_spotsInShade_9 : decode cX11_spotsInShade 9 = .ok (.iconst 0, 1) := by decide +kernel
theorem dX11_spotsInShade_10 : decode cX11_spotsInShade 10 = .ok (.istore_n 3, 1) := by decide +kernel
theorem dX11_spotsInShade_11 : decode cX11_spotsInShade 11 = .ok (.iload_n 3, 1) := by decide +kernel
theorem dX11_spotsInShade_12 : decode cX11_spotsInShade 12 = .ok (.bipush 6, 2) := by decide +kernel
theorem dX11_spotsInShade_14 : decode cX11_spotsInShade 14 = .ok (.if_icmp .ge 28, 3) := by decide +kernel
theorem dX11_spotsInShade_17 : decode cX11_spotsInShade 17 = .ok (.aload_n 0, 1) := by decide +kernel
theorem dX11_spotsInShade_18 : decode cX11_spotsInShade 18 = .ok (.getfield 55, 3) := by decide +kernel
theorem dX11_spotsInShade_21 : decode cX11_spotsInShade 21 = .ok (.getfield 125, 3) := by decide +kernel
theorem dX11_spotsInShade_24 : decode cX11_spotsInShade 24 = .ok (.iload_n 3, 1) := by decide +kernel
theorem dX11_spotsInShade_25 : decode cX11_spotsInShade 25 = .ok (.iaload, 1) := by decide +kernel
theorem dX11_spotsInShade_26 : decode cX11_spotsInShade 26 = .ok (.iload_n 1, 1) := by decide +kernel
theorem dX11_spotsInShade_27 : decode cX11_spotsInShade 27 = .ok (.if_icmp .gt 9, 3) := by decide +kernel
theorem dX11_spotsInShade_30 : decode cX11_spotsInShade 30 = .ok (.iload_n 2, 1) := by decide +kernel
theorem dX11_spotsInShade_31 : decode cX11_spotsInShade 31 = .ok (.iconst 1, 1) := by decide +kernel
theorem dX11_spotsInShade_32 : decode cX11_spotsInShade 32 = .ok (.iload_n 3, 1) := by decide +kernel
theorem dX11_spotsInShade_33 : decode cX11_spotsInShade 33 = .ok (.ishl, 1) := by decide +kernel
theorem dX11_spotsInShade_34 : decode cX11_spotsInShade 34 = .ok (.ior, 1) := by decide +kernel
theorem dX11_spotsInShade_35 : decode cX11_spotsInShade 35 = .ok (.istore_n 2, 1) := by decide +kernel
theorem dX11_spotsInShade_36 : decode cX11_spotsInShade 36 = .ok (.iinc 3 1, 3) := by decide +kernel
theorem dX11_spotsInShade_39 : decode cX11_spotsInShade 39 = .ok (.goto (-28), 3) := by decide +kernel
theorem dX11_spotsInShade_42 : decode cX11_spotsInShade 42 = .ok (.iload_n 2, 1) := by decide +kernel
theorem dX11_spotsInShade_43 : decode cX11_spotsInShade 43 = .ok (.ireturn, 1) := by decide +kernel
theorem k_X11_spotsInShade : MV yX11_spotsInShade cX11_spotsInShade 4 (some .int) 1 := ⟨q_766, qs_21, q_1, q_767, ⟨by decide, by decide, by decide +kernel⟩⟩
theorem c_X11_spotsInShade {v1 : Int32} {res : Int32 × (Nat → Int32)} (hf : X11_spotsInShade n x_q0_dials x_q0_spots x_q0_skies x_q0_count x_q0_chime x_q0_shades v1 = some res) : MC l E0 D t yX11_spotsInShade cX11_spotsInShade 4 (some .int) 5 0 0 [.ref (a 0), .int v1] (cW a ar t x_q0_dials x_q0_spots x_q0_skies x_q0_reports x_q0_count x_q0_chime x_q0_end x_q0_score x_q0_reportCount x_q0_z x_q0_rules x_q0_shades x_q0_facts x_q1_dials x_q1_spots x_q1_skies x_q1_reports x_q1_count x_q1_chime x_q1_end x_q1_score x_q1_reportCount x_q1_z x_q1_rules x_q1_shades x_q1_facts x_q2_dials x_q2_spots x_q2_skies x_q2_reports x_q2_count x_q2_chime x_q2_end x_q2_score x_q2_reportCount x_q2_z x_q2_rules x_q2_shades x_q2_facts x_isKept x_marks x_p_first x_p_steps x_p_most x_p_many x_p_fewest x_p_everRight x_p_opening x_p_rows x_p_rowCount x_p_acts x_p_marks x_p_deepest x_p_wanted x_t_length x_t_tape x_t_words x_t_places x_t_at x_t_kinds x_t_wills x_t_starts x_t_code x_t_count x_t_size x_h_sorts x_h_lengths x_h_items x_h_held x_h_things x_h_sizes x_h_bodies x_h_traced x_h_number x_h_spot x_h_parted x_g_count x_g_kinds x_g_wills x_g_starts x_g_code x_g_stack x_g_kl x_g_wl x_g_sl x_g_cl x_nr) (Qi res.1 (cW a ar t x_q0_dials x_q0_spots x_q0_skies x_q0_reports x_q0_count x_q0_chime x_q0_end x_q0_score x_q0_reportCount x_q0_z x_q0_rules res.2 x_q0_facts x_q1_dials x_q1_spots x_q1_skies x_q1_reports x_q1_count x_q1_chime x_q1_end x_q1_score x_q1_reportCount x_q1_z x_q1_rules x_q1_shades x_q1_facts x_q2_dials x_q2_spots x_q2_skies x_q2_reports x_q2_count x_q2_chime x_q2_end x_q2_score x_q2_reportCount x_q2_z x_q2_rules x_q2_shades x_q2_facts x_isKept x_marks x_p_first x_p_steps x_p_most x_p_many x_p_fewest x_p_everRight x_p_opening x_p_rows x_p_rowCount x_p_acts x_p_marks x_p_deepest x_p_wanted x_t_length x_t_tape x_t_words x_t_places x_t_at x_t_kinds x_t_wills x_t_starts x_t_code x_t_count x_t_size x_h_sorts x_h_lengths x_h_items x_h_held x_h_things x_h_sizes x_h_bodies x_h_traced x_h_number x_h_spot x_h_parted x_g_count x_g_kinds x_g_wills x_g_starts x_g_code x_g_stack x_g_kl x_g_wl x_g_sl x_g_cl x_nr)) := by
  unfold X11_spotsInShade at hf
  refine MC.ofI pn_X11 (Nat.le_of_ble_eq_true rfl) ?_
  intro p e s m args below meth c A Q ls cx hR hw hl
  have hx := cx.1
  have hb := cx.2.1
  have hl : lv_has ls 4 [(0, .ref (a 0)), (1, .int v1)] := hl
  refine lv_aload_n hx hb dX11_spotsInShade_0 rfl (lv_at hl 0 rfl) ?_
  refine cg_X11_55_ds cx hw dX11_spotsInShade_1 ?_
  obtain ⟨r1, h2, hf⟩ := bnS hf
  refine calVv cx hw hl.1 (c_X9_measureShades_q0 h2) q_487 k_X9_measureShades rfl rv_q0 rfl dX11_spotsInShade_4 rfl (Nat.le_of_ble_eq_true rfl) ⟨Nat.le_of_ble_eq_true rfl, Nat.le_of_ble_eq_true rfl⟩ ⟨Nat.le_refl _, Nat.le_refl _⟩ (fun H locs hw => ?_)
  refine lv_iconst (v := 0) hx hb dX11_spotsInShade_7 (by decide) ?_
  refine lv_istore_n (lv' := [(2, .int (0 : Int32)), (0, .ref (a 0)), (1, .int v1)]) hx hb dX11_spotsInShade_8 rfl hl (by decide) rfl (fun ls hl => ?_)
  refine lv_iconst (v := 0) hx hb dX11_spotsInShade_9 (by decide) ?_
  refine lv_istore_n (lv' := [(3, .int (0 : Int32)), (2, .int (0 : Int32)), (0, .ref (a 0)), (1, .int v1)]) hx hb dX11_spotsInShade_10 rfl hl (by decide) rfl (fun ls hl => ?_)
  obtain ⟨o5, ho5, hf⟩ := bnS hf
  have wL1 : ∀ (k : Nat) {v1 : Int32} {v2 : Int32} {v3 : Int32} {x_q0_shades : Nat → Int32} {H : Heap} {locs : List Loc} {ls : Array Slot} {o : Int32 × Int32}, X11_spotsInShade_L1 n x_q0_shades v1 k v2 v3 = some o → Wd D A s (cW a ar t x_q0_dials x_q0_spots x_q0_skies x_q0_reports x_q0_count x_q0_chime x_q0_end x_q0_score x_q0_reportCount x_q0_z x_q0_rules x_q0_shades x_q0_facts x_q1_dials x_q1_spots x_q1_skies x_q1_reports x_q1_count x_q1_chime x_q1_end x_q1_score x_q1_reportCount x_q1_z x_q1_rules x_q1_shades x_q1_facts x_q2_dials x_q2_spots x_q2_skies x_q2_reports x_q2_count x_q2_chime x_q2_end x_q2_score x_q2_reportCount x_q2_z x_q2_rules x_q2_shades x_q2_facts x_isKept x_marks x_p_first x_p_steps x_p_most x_p_many x_p_fewest x_p_everRight x_p_opening x_p_rows x_p_rowCount x_p_acts x_p_marks x_p_deepest x_p_wanted x_t_length x_t_tape x_t_words x_t_places x_t_at x_t_kinds x_t_wills x_t_starts x_t_code x_t_count x_t_size x_h_sorts x_h_lengths x_h_items x_h_held x_h_things x_h_sizes x_h_bodies x_h_traced x_h_number x_h_spot x_h_parted x_g_count x_g_kinds x_g_wills x_g_starts x_g_code x_g_stack x_g_kl x_g_wl x_g_sl x_g_cl x_nr) H locs → lv_has ls 4 [(0, .ref (a 0)), (1, .int v1), (2, .int v2), (3, .int v3)] → (∀ (H : Heap) (locs : List Loc) (ls : Array Slot), Wd D A s (cW a ar t x_q0_dials x_q0_spots x_q0_skies x_q0_reports x_q0_count x_q0_chime x_q0_end x_q0_score x_q0_reportCount x_q0_z x_q0_rules x_q0_shades x_q0_facts x_q1_dials x_q1_spots x_q1_skies x_q1_reports x_q1_count x_q1_chime x_q1_end x_q1_score x_q1_reportCount x_q1_z x_q1_rules x_q1_shades x_q1_facts x_q2_dials x_q2_spots x_q2_skies x_q2_reports x_q2_count x_q2_chime x_q2_end x_q2_score x_q2_reportCount x_q2_z x_q2_rules x_q2_shades x_q2_facts x_isKept x_marks x_p_first x_p_steps x_p_most x_p_many x_p_fewest x_p_everRight x_p_opening x_p_rows x_p_rowCount x_p_acts x_p_marks x_p_deepest x_p_wanted x_t_length x_t_tape x_t_words x_t_places x_t_at x_t_kinds x_t_wills x_t_starts x_t_code x_t_count x_t_size x_h_sorts x_h_lengths x_h_items x_h_held x_h_things x_h_sizes x_h_bodies x_h_traced x_h_number x_h_spot x_h_parted x_g_count x_g_kinds x_g_wills x_g_starts x_g_code x_g_stack x_g_kl x_g_wl x_g_sl x_g_cl x_nr) H locs → lv_has ls 4 [(0, .ref (a 0)), (1, .int v1), (2, .int o.1), (3, .int o.2)] → W p l e (rmz 5 0 0) s m args below meth c H locs 0 0 Q (F0 m 42 ls [])) → W p l e (rmz 5 0 0) s m args below meth c H locs 0 0 Q (F0 m 11 ls []) := by
    clear hf ho5 hw hl
    intro k
    induction k with
    | zero => intro v1 v2 v3 x_q0_shades H locs ls o hf hw hl kx; simp [X11_spotsInShade_L1] at hf
    | succ k ih =>
      intro v1 v2 v3 x_q0_shades H locs ls o hf hw hl kx
      rw [X11_spotsInShade_L1] at hf
      refine lv_iload_n hx hb dX11_spotsInShade_11 rfl (lv_at hl 3 rfl) ?_
      refine lv_bipush (v := 6) hx hb dX11_spotsInShade_12 (by decide) ?_
      refine lv_icmp_ge (tgt := 42) hx hb dX11_spotsInShade_14 (by decide) (fun hc => ?_) (fun hc => ?_)
      · have hf := ifT hf hc
        have hf := Option.some.inj hf
        subst hf
        exact kx _ _ _ hw (lv_sub hl [0, 1, 2, 3] rfl)
      · have hf := ifF hf hc
        refine lv_aload_n hx hb dX11_spotsInShade_17 rfl (lv_at hl 0 rfl) ?_
        refine cg_X11_55_ds cx hw dX11_spotsInShade_18 ?_
        refine cg_X11_125_q0 cx hw dX11_spotsInShade_21 ?_
        refine lv_iload_n hx hb dX11_spotsInShade_24 rfl (lv_at hl 3 rfl) ?_
        obtain ⟨h3, hf⟩ := ckS hf
        refine cl_q0_shades (j := v3.toNatClampNeg) cx hw (ib_in h3) rfl dX11_spotsInShade_25 ?_
        refine lv_iload_n hx hb dX11_spotsInShade_26 rfl (lv_at hl 1 rfl) ?_
        obtain ⟨j4, hj4, hf⟩ := pbS hf
        have wj4 : ∀ (H : Heap) (locs : List Loc) (ls : Array Slot), Wd D A s (cW a ar t x_q0_dials x_q0_spots x_q0_skies x_q0_reports x_q0_count x_q0_chime x_q0_end x_q0_score x_q0_reportCount x_q0_z x_q0_rules x_q0_shades x_q0_facts x_q1_dials x_q1_spots x_q1_skies x_q1_reports x_q1_count x_q1_chime x_q1_end x_q1_score x_q1_reportCount x_q1_z x_q1_rules x_q1_shades x_q1_facts x_q2_dials x_q2_spots x_q2_skies x_q2_reports x_q2_count x_q2_chime x_q2_end x_q2_score x_q2_reportCount x_q2_z x_q2_rules x_q2_shades x_q2_facts x_isKept x_marks x_p_first x_p_steps x_p_most x_p_many x_p_fewest x_p_everRight x_p_opening x_p_rows x_p_rowCount x_p_acts x_p_marks x_p_deepest x_p_wanted x_t_length x_t_tape x_t_words x_t_places x_t_at x_t_kinds x_t_wills x_t_starts x_t_code x_t_count x_t_size x_h_sorts x_h_lengths x_h_items x_h_held x_h_things x_h_sizes x_h_bodies x_h_traced x_h_number x_h_spot x_h_parted x_g_count x_g_kinds x_g_wills x_g_starts x_g_code x_g_stack x_g_kl x_g_wl x_g_sl x_g_cl x_nr) H locs → lv_has ls 4 [(0, .ref (a 0)), (1, .int v1), (2, .int j4), (3, .int v3)] → W p l e (rmz 5 0 0) s m args below meth c H locs 0 0 Q (F0 m 36 ls []) := by
          intro H locs ls hw hl
          refine lv_iinc (v := (v3 + (1 : Int32))) (lv' := [(3, .int (v3 + (1 : Int32))), (0, .ref (a 0)), (1, .int v1), (2, .int j4)]) hx hb dX11_spotsInShade_36 hl (k := 3) rfl rfl (by decide) rfl (fun ls hl => ?_)
          refine lv_goto (tgt := 11) hx hb dX11_spotsInShade_39 (by decide) ?_
          exact ih hf hw (lv_sub hl [1, 2, 3, 0] rfl) kx
        clear hf
        have hf := hj4
        clear hj4
        refine lv_icmp_gt (tgt := 36) hx hb dX11_spotsInShade_27 (by decide) (fun hc => ?_) (fun hc => ?_)
        · have hf := ifT hf hc
          subst hf
          exact wj4 _ _ _ hw (lv_sub hl [0, 1, 2, 3] rfl)
        · have hf := ifF hf hc
          refine lv_iload_n hx hb dX11_spotsInShade_30 rfl (lv_at hl 2 rfl) ?_
          refine lv_iconst (v := 1) hx hb dX11_spotsInShade_31 (by decide) ?_
          refine lv_iload_n hx hb dX11_spotsInShade_32 rfl (lv_at hl 3 rfl) ?_
          refine lv_ishl hx hb dX11_spotsInShade_33 ?_
          refine lv_ior hx hb dX11_spotsInShade_34 ?_
          refine lv_istore_n (lv' := [(2, .int (v2 ||| ((1 : Int32) <<< (v3 &&& 31)))), (0, .ref (a 0)), (1, .int v1), (3, .int v3)]) hx hb dX11_spotsInShade_35 rfl hl (by decide) rfl (fun ls hl => ?_)
          subst hf
          exact wj4 _ _ _ hw (lv_sub hl [1, 2, 0, 3] rfl)
  refine wL1 n ho5 hw (lv_sub hl [2, 3, 1, 0] rfl) (fun H locs ls hw hl => ?_)
  clear wL1 ho5
  refine lv_iload_n hx hb dX11_spotsInShade_42 rfl (lv_at hl 2 rfl) ?_
  have hf := Option.some.inj hf
  subst hf
  exact hR _ _ _ _ _ _ hw rfl ⟨rfl, rfl⟩ dX11_spotsInShade_43
theorem dX11_benchesOf_0 : decode cX11_benchesOf 0 = .ok (.iconst 0, 1) := by decide +kernel
theorem dX11_benchesOf_1 : decode cX11_benchesOf 1 = .ok (.istore_n 2, 1) := by decide +kernel
theorem dX11_benchesOf_2 : decode cX11_benchesOf 2 = .ok (.iconst 0, 1) := by decide +kernel
theorem dX11_benchesOf_3 : decode cX11_benchesOf 3 = .ok (.istore_n 3, 1) := by decide +kernel
theorem dX11_benchesOf_4 : decode cX11_benchesOf 4 = .ok (.iload_n 3, 1) := by decide +kernel
theorem dX11_benchesOf_5 : decode cX11_benchesOf 5 = .ok (.bipush 6, 2) := by decide +kernel
theorem dX11_benchesOf_7 : decode cX11_benchesOf 7 = .ok (.if_icmp .ge 31, 3) := by decide +kernel
theorem dX11_benchesOf_10 : decode cX11_benchesOf 10 = .ok (.iload_n 1, 1) := by decide +kernel
theorem dX11_benchesOf_11 : decode cX11_benchesOf 11 = .ok (.iload_n 3, 1) := by decide +kernel
theorem dX11_benchesOf_12 : decode cX11_benchesOf 12 = .ok (.ishr, 1) := by decide +kernel
theorem dX11_benchesOf_13 : decode cX11_benchesOf 13 = .ok (.iconst 1, 1) := by decide +kernel
theorem dX11_benchesOf_14 : decode cX11_benchesOf 14 = .ok (.iand, 1) := by decide +kernel
theorem dX11_benchesOf_15 : decode cX11_benchesOf 15 = .ok (.ifCond .eq 17, 3) := by decide +kernel
theorem dX11_benchesOf_18 : decode cX11_benchesOf 18 = .ok (.iload_n 2, 1) := by decide +kernel
theorem dX11_benchesOf_19 : decode cX11_benchesOf 19 = .ok (.aload_n 0, 1) := by decide +kernel
theorem dX11_benchesOf_20 : decode cX11_benchesOf 20 = .ok (.getfield 55, 3) := by decide +kernel
theorem dX11_benchesOf_23 : decode cX11_benchesOf 23 = .ok (.getfield 119, 3) := by decide +kernel
theorem dX11_benchesOf_26 : decode cX11_benchesOf 26 = .ok (.iload_n 3, 1) := by decide +kernel
theorem dX11_benchesOf_27 : decode cX11_benchesOf 27 = .ok (.aaload, 1) := by decide +kernel
theorem dX11_benchesOf_28 : decode cX11_benchesOf 28 = .ok (.iconst 1, 1) := by decide +kernel
theorem dX11_benchesOf_29 : decode cX11_benchesOf 29 = .ok (.iaload, 1) := by decide +kernel
theorem dX11_benchesOf_30 : decode cX11_benchesOf 30 = .ok (.iadd, 1) := by decide +kernel
theorem dX11_benchesOf_31 : decode cX11_benchesOf 31 = .ok (.istore_n 2, 1) := by decide +kernel
theorem dX11_benchesOf_32 : decode cX11_benchesOf 32 = .ok (.iinc 3 1, 3) := by decide +kernel
theorem dX11_benchesOf_35 : decode cX11_benchesOf 35 = .ok (.goto (-31), 3) := by decide +kernel
theorem dX11_benchesOf_38 : decode cX11_benchesOf 38 = .ok (.iload_n 2, 1) := by decide +kernel
theorem dX11_benchesOf_39 : decode cX11_benchesOf 39 = .ok (.ireturn, 1) := by decide +kernel
theorem k_X11_benchesOf : MV yX11_benchesOf cX11_benchesOf 4 (some .int) 1 := ⟨q_770, qs_22, q_1, q_771, ⟨by decide, by decide, by decide +kernel⟩⟩
theorem c_X11_benchesOf {v1 : Int32} {res : Int32} (hf : X11_benchesOf n x_q0_spots v1 = some res) : MC l E0 D t yX11_benchesOf cX11_benchesOf 4 (some .int) 1 0 0 [.ref (a 0), .int v1] (cW a ar t x_q0_dials x_q0_spots x_q0_skies x_q0_reports x_q0_count x_q0_chime x_q0_end x_q0_score x_q0_reportCount x_q0_z x_q0_rules x_q0_shades x_q0_facts x_q1_dials x_q1_spots x_q1_skies x_q1_reports x_q1_count x_q1_chime x_q1_end x_q1_score x_q1_reportCount x_q1_z x_q1_rules x_q1_shades x_q1_facts x_q2_dials x_q2_spots x_q2_skies x_q2_reports x_q2_count x_q2_chime x_q2_end x_q2_score x_q2_reportCount x_q2_z x_q2_rules x_q2_shades x_q2_facts x_isKept x_marks x_p_first x_p_steps x_p_most x_p_many x_p_fewest x_p_everRight x_p_opening x_p_rows x_p_rowCount x_p_acts x_p_marks x_p_deepest x_p_wanted x_t_length x_t_tape x_t_words x_t_places x_t_at x_t_kinds x_t_wills x_t_starts x_t_code x_t_count x_t_size x_h_sorts x_h_lengths x_h_items x_h_held x_h_things x_h_sizes x_h_bodies x_h_traced x_h_number x_h_spot x_h_parted x_g_count x_g_kinds x_g_wills x_g_starts x_g_code x_g_stack x_g_kl x_g_wl x_g_sl x_g_cl x_nr) (Qi res (cW a ar t x_q0_dials x_q0_spots x_q0_skies x_q0_reports x_q0_count x_q0_chime x_q0_end x_q0_score x_q0_reportCount x_q0_z x_q0_rules x_q0_shades x_q0_facts x_q1_dials x_q1_spots x_q1_skies x_q1_reports x_q1_count x_q1_chime x_q1_end x_q1_score x_q1_reportCount x_q1_z x_q1_rules x_q1_shades x_q1_facts x_q2_dials x_q2_spots x_q2_skies x_q2_reports x_q2_count x_q2_chime x_q2_end x_q2_score x_q2_reportCount x_q2_z x_q2_rules x_q2_shades x_q2_facts x_isKept x_marks x_p_first x_p_steps x_p_most x_p_many x_p_fewest x_p_everRight x_p_opening x_p_rows x_p_rowCount x_p_acts x_p_marks x_p_deepest x_p_wanted x_t_length x_t_tape x_t_words x_t_places x_t_at x_t_kinds x_t_wills x_t_starts x_t_code x_t_count x_t_size x_h_sorts x_h_lengths x_h_items x_h_held x_h_things x_h_sizes x_h_bodies x_h_traced x_h_number x_h_spot x_h_parted x_g_count x_g_kinds x_g_wills x_g_starts x_g_code x_g_stack x_g_kl x_g_wl x_g_sl x_g_cl x_nr)) := by
  unfold X11_benchesOf at hf
  refine MC.ofI pn_X11 (Nat.le_of_ble_eq_true rfl) ?_
  intro p e s m args below meth c A Q ls cx hR hw hl
  have hx := cx.1
  have hb := cx.2.1
  have hl : lv_has ls 4 [(0, .ref (a 0)), (1, .int v1)] := hl
  refine lv_iconst (v := 0) hx hb dX11_benchesOf_0 (by decide) ?_
  refine lv_istore_n (lv' := [(2, .int (0 : Int32)), (0, .ref (a 0)), (1, .int v1)]) hx hb dX11_benchesOf_1 rfl hl (by decide) rfl (fun ls hl => ?_)
  refine lv_iconst (v := 0) hx hb dX11_benchesOf_2 (by decide) ?_
  refine lv_istore_n (lv' := [(3, .int (0 : Int32)), (2, .int (0 : Int32)), (0, .ref (a 0)), (1, .int v1)]) hx hb dX11_benchesOf_3 rfl hl (by decide) rfl (fun ls hl => ?_)
  obtain ⟨o3, ho3, hf⟩ := bnS hf
  have wL1 : ∀ (k : Nat) {v1 : Int32} {v2 : Int32} {v3 : Int32} {H : Heap} {locs : List Loc} {ls : Array Slot} {o : Int32 × Int32}, X11_benchesOf_L1 n x_q0_spots v1 k v2 v3 = some o → Wd D A s (cW a ar t x_q0_dials x_q0_spots x_q0_skies x_q0_reports x_q0_count x_q0_chime x_q0_end x_q0_score x_q0_reportCount x_q0_z x_q0_rules x_q0_shades x_q0_facts x_q1_dials x_q1_spots x_q1_skies x_q1_reports x_q1_count x_q1_chime x_q1_end x_q1_score x_q1_reportCount x_q1_z x_q1_rules x_q1_shades x_q1_facts x_q2_dials x_q2_spots x_q2_skies x_q2_reports x_q2_count x_q2_chime x_q2_end x_q2_score x_q2_reportCount x_q2_z x_q2_rules x_q2_shades x_q2_facts x_isKept x_marks x_p_first x_p_steps x_p_most x_p_many x_p_fewest x_p_everRight x_p_opening x_p_rows x_p_rowCount x_p_acts x_p_marks x_p_deepest x_p_wanted x_t_length x_t_tape x_t_words x_t_places x_t_at x_t_kinds x_t_wills x_t_starts x_t_code x_t_count x_t_size x_h_sorts x_h_lengths x_h_items x_h_held x_h_things x_h_sizes x_h_bodies x_h_traced x_h_number x_h_spot x_h_parted x_g_count x_g_kinds x_g_wills x_g_starts x_g_code x_g_stack x_g_kl x_g_wl x_g_sl x_g_cl x_nr) H locs → lv_has ls 4 [(0, .ref (a 0)), (1, .int v1), (2, .int v2), (3, .int v3)] → (∀ (H : Heap) (locs : List Loc) (ls : Array Slot), Wd D A s (cW a ar t x_q0_dials x_q0_spots x_q0_skies x_q0_reports x_q0_count x_q0_chime x_q0_end x_q0_score x_q0_reportCount x_q0_z x_q0_rules x_q0_shades x_q0_facts x_q1_dials x_q1_spots x_q1_skies x_q1_reports x_q1_count x_q1_chime x_q1_end x_q1_score x_q1_reportCount x_q1_z x_q1_rules x_q1_shades x_q1_facts x_q2_dials x_q2_spots x_q2_skies x_q2_reports x_q2_count x_q2_chime x_q2_end x_q2_score x_q2_reportCount x_q2_z x_q2_rules x_q2_shades x_q2_facts x_isKept x_marks x_p_first x_p_steps x_p_most x_p_many x_p_fewest x_p_everRight x_p_opening x_p_rows x_p_rowCount x_p_acts x_p_marks x_p_deepest x_p_wanted x_t_length x_t_tape x_t_words x_t_places x_t_at x_t_kinds x_t_wills x_t_starts x_t_code x_t_count x_t_size x_h_sorts x_h_lengths x_h_items x_h_held x_h_things x_h_sizes x_h_bodies x_h_traced x_h_number x_h_spot x_h_parted x_g_count x_g_kinds x_g_wills x_g_starts x_g_code x_g_stack x_g_kl x_g_wl x_g_sl x_g_cl x_nr) H locs → lv_has ls 4 [(0, .ref (a 0)), (1, .int v1), (2, .int o.1), (3, .int o.2)] → W p l e (rmz 1 0 0) s m args below meth c H locs 0 0 Q (F0 m 38 ls [])) → W p l e (rmz 1 0 0) s m args below meth c H locs 0 0 Q (F0 m 4 ls []) := by
    clear hf ho3 hw hl
    intro k
    induction k with
    | zero => intro v1 v2 v3 H locs ls o hf hw hl kx; simp [X11_benchesOf_L1] at hf
    | succ k ih =>
      intro v1 v2 v3 H locs ls o hf hw hl kx
      rw [X11_benchesOf_L1] at hf
      refine lv_iload_n hx hb dX11_benchesOf_4 rfl (lv_at hl 3 rfl) ?_
      refine lv_bipush (v := 6) hx hb dX11_benchesOf_5 (by decide) ?_
      refine lv_icmp_ge (tgt := 38) hx hb dX11_benchesOf_7 (by decide) (fun hc => ?_) (fun hc => ?_)
      · have hf := ifT hf hc
        have hf := Option.some.inj hf
        subst hf
        exact kx _ _ _ hw (lv_sub hl [0, 1, 2, 3] rfl)
      · have hf := ifF hf hc
        refine lv_iload_n hx hb dX11_benchesOf_10 rfl (lv_at hl 1 rfl) ?_
        refine lv_iload_n hx hb dX11_benchesOf_11 rfl (lv_at hl 3 rfl) ?_
        refine lv_ishr hx hb dX11_benchesOf_12 ?_
        refine lv_iconst (v := 1) hx hb dX11_benchesOf_13 (by decide) ?_
        refine lv_iand hx hb dX11_benchesOf_14 ?_
        obtain ⟨j2, hj2, hf⟩ := bnS hf
        have wj2 : ∀ (H : Heap) (locs : List Loc) (ls : Array Slot), Wd D A s (cW a ar t x_q0_dials x_q0_spots x_q0_skies x_q0_reports x_q0_count x_q0_chime x_q0_end x_q0_score x_q0_reportCount x_q0_z x_q0_rules x_q0_shades x_q0_facts x_q1_dials x_q1_spots x_q1_skies x_q1_reports x_q1_count x_q1_chime x_q1_end x_q1_score x_q1_reportCount x_q1_z x_q1_rules x_q1_shades x_q1_facts x_q2_dials x_q2_spots x_q2_skies x_q2_reports x_q2_count x_q2_chime x_q2_end x_q2_score x_q2_reportCount x_q2_z x_q2_rules x_q2_shades x_q2_facts x_isKept x_marks x_p_first x_p_steps x_p_most x_p_many x_p_fewest x_p_everRight x_p_opening x_p_rows x_p_rowCount x_p_acts x_p_marks x_p_deepest x_p_wanted x_t_length x_t_tape x_t_words x_t_places x_t_at x_t_kinds x_t_wills x_t_starts x_t_code x_t_count x_t_size x_h_sorts x_h_lengths x_h_items x_h_held x_h_things x_h_sizes x_h_bodies x_h_traced x_h_number x_h_spot x_h_parted x_g_count x_g_kinds x_g_wills x_g_starts x_g_code x_g_stack x_g_kl x_g_wl x_g_sl x_g_cl x_nr) H locs → lv_has ls 4 [(0, .ref (a 0)), (1, .int v1), (2, .int j2), (3, .int v3)] → W p l e (rmz 1 0 0) s m args below meth c H locs 0 0 Q (F0 m 32 ls []) := by
          intro H locs ls hw hl
          refine lv_iinc (v := (v3 + (1 : Int32))) (lv' := [(3, .int (v3 + (1 : Int32))), (0, .ref (a 0)), (1, .int v1), (2, .int j2)]) hx hb dX11_benchesOf_32 hl (k := 3) rfl rfl (by decide) rfl (fun ls hl => ?_)
          refine lv_goto (tgt := 4) hx hb dX11_benchesOf_35 (by decide) ?_
          exact ih hf hw (lv_sub hl [1, 2, 3, 0] rfl) kx
        clear hf
        have hf := hj2
        clear hj2
        refine lv_if_eq (tgt := 32) hx hb dX11_benchesOf_15 (by decide) (fun hc => ?_) (fun hc => ?_)
        · have hf := ifT hf hc
          have hf := Option.some.inj hf
          subst hf
          exact wj2 _ _ _ hw (lv_sub hl [0, 1, 2, 3] rfl)
        · have hf := ifF hf hc
          refine lv_iload_n hx hb dX11_benchesOf_18 rfl (lv_at hl 2 rfl) ?_
          refine lv_aload_n hx hb dX11_benchesOf_19 rfl (lv_at hl 0 rfl) ?_
          refine cg_X11_55_ds cx hw dX11_benchesOf_20 ?_
          refine cg_X11_119_q0 cx hw dX11_benchesOf_23 ?_
          refine lv_iload_n hx hb dX11_benchesOf_26 rfl (lv_at hl 3 rfl) ?_
          obtain ⟨h1, hf⟩ := ckS hf
          refine co_q0_spots (j := v3.toNatClampNeg) cx hw (ib_in h1) rfl dX11_benchesOf_27 ?_
          refine lv_iconst (v := 1) hx hb dX11_benchesOf_28 (by decide) ?_
          refine cm_q0_spots (j := 1) cx hw (ib_lt h1) (ib_in (by decide)) (by decide) dX11_benchesOf_29 ?_
          refine lv_iadd hx hb dX11_benchesOf_30 ?_
          refine lv_istore_n (lv' := [(2, .int (v2 + (x_q0_spots v3.toNatClampNeg 1))), (0, .ref (a 0)), (1, .int v1), (3, .int v3)]) hx hb dX11_benchesOf_31 rfl hl (by decide) rfl (fun ls hl => ?_)
          have hf := Option.some.inj hf
          subst hf
          exact wj2 _ _ _ hw (lv_sub hl [1, 2, 0, 3] rfl)
  refine wL1 n ho3 hw (lv_sub hl [2, 3, 1, 0] rfl) (fun H locs ls hw hl => ?_)
  clear wL1 ho3
  refine lv_iload_n hx hb dX11_benchesOf_38 rfl (lv_at hl 2 rfl) ?_
  have hf := Option.some.inj hf
  subst hf
  exact hR _ _ _ _ _ _ hw rfl ⟨rfl, rfl⟩ dX11_benchesOf_39
theorem dX11_seats_0 : decode cX11_seats 0 = .ok (.iload_n 1, 1) := by decide +kernel
theorem dX11_seats_1 : decode cX11_seats 1 = .ok (.iconst 0, 1) := by decide +kernel
theorem dX11_seats_2 : decode cX11_seats 2 = .ok (.bipush 99, 2) := by decide +kernel
theorem dX11_seats_4 : decode cX11_seats 4 = .ok (.invokestatic 74, 3) := by decide +kernel
theorem dX11_seats_7 : decode cX11_seats 7 = .ok (.ifCond .eq 12, 3) := by decide +kernel
theorem dX11_seats_10 : decode cX11_seats 10 = .ok (.iload_n 2, 1) := by decide +kernel
theorem dX11_seats_11 : decode cX11_seats 11 = .ok (.iconst 0, 1) := by decide +kernel
theorem dX11_seats_12 : decode cX11_seats 12 = .ok (.iconst 1, 1) := by decide +kernel
theorem dX11_seats_13 : decode cX11_seats 13 = .ok (.invokestatic 74, 3) := by decide +kernel
theorem dX11_seats_16 : decode cX11_seats 16 = .ok (.ifCond .ne 5, 3) := by decide +kernel
theorem dX11_seats_19 : decode cX11_seats 19 = .ok (.iconst (-1), 1) := by decide +kernel
theorem dX11_seats_20 : decode cX11_seats 20 = .ok (.ireturn, 1) := by decide +kernel
theorem dX11_seats_21 : decode cX11_seats 21 = .ok (.aload_n 0, 1) := by decide +kernel
theorem dX11_seats_22 : decode cX11_seats 22 = .ok (.iload_n 1, 1) := by decide +kernel
theorem dX11_seats_23 : decode cX11_seats 23 = .ok (.invokevirtual 202, 3) := by decide +kernel
theorem dX11_seats_26 : decode cX11_seats 26 = .ok (.istore_n 3, 1) := by decide +kernel
theorem dX11_seats_27 : decode cX11_seats 27 = .ok (.iconst 0, 1) := by decide +kernel
theorem dX11_seats_28 : decode cX11_seats 28 = .ok (.istore 4, 2) := by decide +kernel
theorem dX11_seats_30 : decode cX11_seats 30 = .ok (.iconst 0, 1) := by decide +kernel
theorem dX11_seats_31 : decode cX11_seats 31 = .ok (.istore 5, 2) := by decide +kernel
theorem dX11_seats_33 : decode cX11_seats 33 = .ok (.iconst 0, 1) := by decide +kernel
theorem dX11_seats_34 : decode cX11_seats 34 = .ok (.istore 6, 2) := by decide +kernel
theorem dX11_seats_36 : decode cX11_seats 36 = .ok (.iload 6, 2) := by decide +kernel
theorem dX11_seats_38 : decode cX11_seats 38 = .ok (.bipush 64, 2) := by decide +kernel
theorem dX11_seats_40 : decode cX11_seats 40 = .ok (.if_icmp .ge 63, 3) := by decide +kernel
theorem dX11_seats_43 : decode cX11_seats 43 = .ok (.iload 6, 2) := by decide +kernel
theorem dX11_seats_45 : decode cX11_seats 45 = .ok (.iload_n 3, 1) := by decide +kernel
theorem dX11_seats_46 : decode cX11_seats 46 = .ok (.iconst (-1), 1) := by decide +kernel
theorem dX11_seats_47 : decode cX11_seats 47 = .ok (.ixor, 1) := by decide +kernel
theorem dX11_seats_48 : decode cX11_seats 48 = .ok (.iand, 1) := by decide +kernel
theorem dX11_seats_49 : decode cX11_seats 49 = .ok (.ifCond .ne 17, 3) := by decide +kernel
theorem dX11_seats_52 : decode cX11_seats 52 = .ok (.iload 6, 2) := by decide +kernel
theorem dX11_seats_54 : decode cX11_seats 54 = .ok (.iload 6, 2) := by decide +kernel
theorem dX11_seats_56 : decode cX11_seats 56 = .ok (.iconst 1, 1) := by decide +kernel
theorem dX11_seats_57 : decode cX11_seats 57 = .ok (.ishl, 1) := by decide +kernel
theorem dX11_seats_58 : decode cX11_seats 58 = .ok (.iand, 1) := by decide +kernel
theorem dX11_seats_59 : decode cX11_seats 59 = .ok (.ifCond .ne 7, 3) := by decide +kernel
theorem dX11_seats_62 : decode cX11_seats 62 = .ok (.iconst 1, 1) := by decide +kernel
theorem dX11_seats_63 : decode cX11_seats 63 = .ok (.goto 4, 3) := by decide +kernel
theorem dX11_seats_66 : decode cX11_seats 66 = .ok (.iconst 0, 1) := by decide +kernel
theorem dX11_seats_67 : decode cX11_seats 67 = .ok (.istore 7, 2) := by decide +kernel
theorem dX11_seats_69 : decode cX11_seats 69 = .ok (.iload 7, 2) := by decide +kernel
theorem dX11_seats_71 : decode cX11_seats 71 = .ok (.ifCond .eq 26, 3) := by decide +kernel
theorem dX11_seats_74 : decode cX11_seats 74 = .ok (.aload_n 0, 1) := by decide +kernel
theorem dX11_seats_75 : decode cX11_seats 75 = .ok (.iload 6, 2) := by decide +kernel
theorem dX11_seats_77 : decode cX11_seats 77 = .ok (.invokevirtual 205, 3) := by decide +kernel
theorem dX11_seats_80 : decode cX11_seats 80 = .ok (.iload 5, 2) := by decide +kernel
theorem dX11_seats_82 : decode cX11_seats 82 = .ok (.if_icmp .le 15, 3) := by decide +kernel
theorem dX11_seats_85 : decode cX11_seats 85 = .ok (.aload_n 0, 1) := by decide +kernel
theorem dX11_seats_86 : decode cX11_seats 86 = .ok (.iload 6, 2) := by decide +kernel
theorem dX11_seats_88 : decode cX11_seats 88 = .ok (.invokevirtual 205, 3) := by decide +kernel
theorem dX11_seats_91 : decode cX11_seats 91 = .ok (.istore 5, 2) := by decide +kernel
theorem dX11_seats_93 : decode cX11_seats 93 = .ok (.iload 6, 2) := by decide +kernel
theorem dX11_seats_95 : decode cX11_seats 95 = .ok (.istore 4, 2) := by decide +kernel
theorem dX11_seats_97 : decode cX11_seats 97 = .ok (.iinc 6 1, 3) := by decide +kernel
theorem dX11_seats_100 : decode cX11_seats 100 = .ok (.goto (-64), 3) := by decide +kernel
theorem dX11_seats_103 : decode cX11_seats 103 = .ok (.iload_n 2, 1) := by decide +kernel
theorem dX11_seats_104 : decode cX11_seats 104 = .ok (.ifCond .ne 8, 3) := by decide +kernel
theorem dX11_seats_107 : decode cX11_seats 107 = .ok (.iload 5, 2) := by decide +kernel
theorem dX11_seats_109 : decode cX11_seats 109 = .ok (.goto 5, 3) := by decide +kernel
theorem dX11_seats_112 : decode cX11_seats 112 = .ok (.iload 4, 2) := by decide +kernel
theorem dX11_seats_114 : decode cX11_seats 114 = .ok (.ireturn, 1) := by decide +kernel
theorem k_X11_seats : MV yX11_seats cX11_seats 8 (some .int) 2 := ⟨q_761, q_762, q_1, q_763, ⟨by decide, by decide, by decide +kernel⟩⟩
theorem c_X11_seats {v1 : Int32} {v2 : Int32} {res : Int32 × (Nat → Int32)} (hf : X11_seats n x_q0_dials x_q0_spots x_q0_skies x_q0_count x_q0_chime x_q0_shades v1 v2 = some res) : MC l E0 D t yX11_seats cX11_seats 8 (some .int) 6 0 0 [.ref (a 0), .int v1, .int v2] (cW a ar t x_q0_dials x_q0_spots x_q0_skies x_q0_reports x_q0_count x_q0_chime x_q0_end x_q0_score x_q0_reportCount x_q0_z x_q0_rules x_q0_shades x_q0_facts x_q1_dials x_q1_spots x_q1_skies x_q1_reports x_q1_count x_q1_chime x_q1_end x_q1_score x_q1_reportCount x_q1_z x_q1_rules x_q1_shades x_q1_facts x_q2_dials x_q2_spots x_q2_skies x_q2_reports x_q2_count x_q2_chime x_q2_end x_q2_score x_q2_reportCount x_q2_z x_q2_rules x_q2_shades x_q2_facts x_isKept x_marks x_p_first x_p_steps x_p_most x_p_many x_p_fewest x_p_everRight x_p_opening x_p_rows x_p_rowCount x_p_acts x_p_marks x_p_deepest x_p_wanted x_t_length x_t_tape x_t_words x_t_places x_t_at x_t_kinds x_t_wills x_t_starts x_t_code x_t_count x_t_size x_h_sorts x_h_lengths x_h_items x_h_held x_h_things x_h_sizes x_h_bodies x_h_traced x_h_number x_h_spot x_h_parted x_g_count x_g_kinds x_g_wills x_g_starts x_g_code x_g_stack x_g_kl x_g_wl x_g_sl x_g_cl x_nr) (Qi res.1 (cW a ar t x_q0_dials x_q0_spots x_q0_skies x_q0_reports x_q0_count x_q0_chime x_q0_end x_q0_score x_q0_reportCount x_q0_z x_q0_rules res.2 x_q0_facts x_q1_dials x_q1_spots x_q1_skies x_q1_reports x_q1_count x_q1_chime x_q1_end x_q1_score x_q1_reportCount x_q1_z x_q1_rules x_q1_shades x_q1_facts x_q2_dials x_q2_spots x_q2_skies x_q2_reports x_q2_count x_q2_chime x_q2_end x_q2_score x_q2_reportCount x_q2_z x_q2_rules x_q2_shades x_q2_facts x_isKept x_marks x_p_first x_p_steps x_p_most x_p_many x_p_fewest x_p_everRight x_p_opening x_p_rows x_p_rowCount x_p_acts x_p_marks x_p_deepest x_p_wanted x_t_length x_t_tape x_t_words x_t_places x_t_at x_t_kinds x_t_wills x_t_starts x_t_code x_t_count x_t_size x_h_sorts x_h_lengths x_h_items x_h_held x_h_things x_h_sizes x_h_bodies x_h_traced x_h_number x_h_spot x_h_parted x_g_count x_g_kinds x_g_wills x_g_starts x_g_code x_g_stack x_g_kl x_g_wl x_g_sl x_g_cl x_nr)) := by
  unfold X11_seats at hf
  refine MC.ofI pn_X11 (Nat.le_of_ble_eq_true rfl) ?_
  intro p e s m args below meth c A Q ls cx hR hw hl
  have hx := cx.1
  have hb := cx.2.1
  have hl : lv_has ls 8 [(0, .ref (a 0)), (1, .int v1), (2, .int v2)] := hl
  refine lv_iload_n hx hb dX11_seats_0 rfl (lv_at hl 1 rfl) ?_
  refine lv_iconst (v := 0) hx hb dX11_seats_1 (by decide) ?_
  refine lv_bipush (v := 99) hx hb dX11_seats_2 (by decide) ?_
  refine calSi cx hw hl.1 (c_X11_isIn rfl) q_350 k_X11_isIn rfl dX11_seats_4 rfl (Nat.le_of_ble_eq_true rfl) ⟨Nat.le_of_ble_eq_true rfl, Nat.le_of_ble_eq_true rfl⟩ ⟨Nat.le_refl _, Nat.le_refl _⟩ (fun H locs hw => ?_)
  refine lv_if_eq (tgt := 19) hx hb dX11_seats_7 (by decide) (fun hc => ?_) (fun hc => ?_)
  · have hf := ifT hf hc
    refine lv_iconst (v := (-1)) hx hb dX11_seats_19 (by decide) ?_
    have hf := Option.some.inj hf
    subst hf
    exact hR _ _ _ _ _ _ hw rfl ⟨rfl, rfl⟩ dX11_seats_20
  · have hf := ifF hf hc
    refine lv_iload_n hx hb dX11_seats_10 rfl (lv_at hl 2 rfl) ?_
    refine lv_iconst (v := 0) hx hb dX11_seats_11 (by decide) ?_
    refine lv_iconst (v := 1) hx hb dX11_seats_12 (by decide) ?_
    refine calSi cx hw hl.1 (c_X11_isIn rfl) q_350 k_X11_isIn rfl dX11_seats_13 rfl (Nat.le_of_ble_eq_true rfl) ⟨Nat.le_of_ble_eq_true rfl, Nat.le_of_ble_eq_true rfl⟩ ⟨Nat.le_refl _, Nat.le_refl _⟩ (fun H locs hw => ?_)
    refine lv_if_ne (tgt := 21) hx hb dX11_seats_16 (by decide) (fun hc => ?_) (fun hc => ?_)
    · have hf := ifF hf hc
      refine lv_aload_n hx hb dX11_seats_21 rfl (lv_at hl 0 rfl) ?_
      refine lv_iload_n hx hb dX11_seats_22 rfl (lv_at hl 1 rfl) ?_
      obtain ⟨r1, h2, hf⟩ := bnS hf
      refine calVi cx hw hl.1 (c_X11_spotsInShade h2) q_764 k_X11_spotsInShade rfl rv_ds rfl dX11_seats_23 rfl (Nat.le_of_ble_eq_true rfl) ⟨Nat.le_of_ble_eq_true rfl, Nat.le_of_ble_eq_true rfl⟩ ⟨Nat.le_refl _, Nat.le_refl _⟩ (fun H locs hw => ?_)
      refine lv_istore_n (lv' := [(3, .int r1.1), (0, .ref (a 0)), (1, .int v1), (2, .int v2)]) hx hb dX11_seats_26 rfl hl (by decide) rfl (fun ls hl => ?_)
      refine lv_iconst (v := 0) hx hb dX11_seats_27 (by decide) ?_
      refine lv_istore (lv' := [(4, .int (0 : Int32)), (3, .int r1.1), (0, .ref (a 0)), (1, .int v1), (2, .int v2)]) hx hb dX11_seats_28 hl (by decide) rfl (fun ls hl => ?_)
      refine lv_iconst (v := 0) hx hb dX11_seats_30 (by decide) ?_
      refine lv_istore (lv' := [(5, .int (0 : Int32)), (4, .int (0 : Int32)), (3, .int r1.1), (0, .ref (a 0)), (1, .int v1), (2, .int v2)]) hx hb dX11_seats_31 hl (by decide) rfl (fun ls hl => ?_)
      refine lv_iconst (v := 0) hx hb dX11_seats_33 (by decide) ?_
      refine lv_istore (lv' := [(6, .int (0 : Int32)), (5, .int (0 : Int32)), (4, .int (0 : Int32)), (3, .int r1.1), (0, .ref (a 0)), (1, .int v1), (2, .int v2)]) hx hb dX11_seats_34 hl (by decide) rfl (fun ls hl => ?_)
      obtain ⟨o9, ho9, hf⟩ := bnS hf
      have wL1 : ∀ (k : Nat) {v1 : Int32} {v2 : Int32} {v3 : Int32} {v4 : Int32} {v5 : Int32} {v6 : Int32} {x_q0_shades : Nat → Int32} {H : Heap} {locs : List Loc} {ls : Array Slot} {o : Int32 × Int32 × Int32}, X11_seats_L1 n x_q0_spots v3 k v4 v5 v6 = some o → Wd D A s (cW a ar t x_q0_dials x_q0_spots x_q0_skies x_q0_reports x_q0_count x_q0_chime x_q0_end x_q0_score x_q0_reportCount x_q0_z x_q0_rules x_q0_shades x_q0_facts x_q1_dials x_q1_spots x_q1_skies x_q1_reports x_q1_count x_q1_chime x_q1_end x_q1_score x_q1_reportCount x_q1_z x_q1_rules x_q1_shades x_q1_facts x_q2_dials x_q2_spots x_q2_skies x_q2_reports x_q2_count x_q2_chime x_q2_end x_q2_score x_q2_reportCount x_q2_z x_q2_rules x_q2_shades x_q2_facts x_isKept x_marks x_p_first x_p_steps x_p_most x_p_many x_p_fewest x_p_everRight x_p_opening x_p_rows x_p_rowCount x_p_acts x_p_marks x_p_deepest x_p_wanted x_t_length x_t_tape x_t_words x_t_places x_t_at x_t_kinds x_t_wills x_t_starts x_t_code x_t_count x_t_size x_h_sorts x_h_lengths x_h_items x_h_held x_h_things x_h_sizes x_h_bodies x_h_traced x_h_number x_h_spot x_h_parted x_g_count x_g_kinds x_g_wills x_g_starts x_g_code x_g_stack x_g_kl x_g_wl x_g_sl x_g_cl x_nr) H locs → lv_has ls 8 [(0, .ref (a 0)), (1, .int v1), (2, .int v2), (3, .int v3), (4, .int v4), (5, .int v5), (6, .int v6)] → (∀ (H : Heap) (locs : List Loc) (ls : Array Slot), Wd D A s (cW a ar t x_q0_dials x_q0_spots x_q0_skies x_q0_reports x_q0_count x_q0_chime x_q0_end x_q0_score x_q0_reportCount x_q0_z x_q0_rules x_q0_shades x_q0_facts x_q1_dials x_q1_spots x_q1_skies x_q1_reports x_q1_count x_q1_chime x_q1_end x_q1_score x_q1_reportCount x_q1_z x_q1_rules x_q1_shades x_q1_facts x_q2_dials x_q2_spots x_q2_skies x_q2_reports x_q2_count x_q2_chime x_q2_end x_q2_score x_q2_reportCount x_q2_z x_q2_rules x_q2_shades x_q2_facts x_isKept x_marks x_p_first x_p_steps x_p_most x_p_many x_p_fewest x_p_everRight x_p_opening x_p_rows x_p_rowCount x_p_acts x_p_marks x_p_deepest x_p_wanted x_t_length x_t_tape x_t_words x_t_places x_t_at x_t_kinds x_t_wills x_t_starts x_t_code x_t_count x_t_size x_h_sorts x_h_lengths x_h_items x_h_held x_h_things x_h_sizes x_h_bodies x_h_traced x_h_number x_h_spot x_h_parted x_g_count x_g_kinds x_g_wills x_g_starts x_g_code x_g_stack x_g_kl x_g_wl x_g_sl x_g_cl x_nr) H locs → lv_has ls 8 [(0, .ref (a 0)), (1, .int v1), (2, .int v2), (3, .int v3), (4, .int o.1), (5, .int o.2.1), (6, .int o.2.2)] → W p l e (rmz 6 0 0) s m args below meth c H locs 0 0 Q (F0 m 103 ls [])) → W p l e (rmz 6 0 0) s m args below meth c H locs 0 0 Q (F0 m 36 ls []) := by
        clear hf ho9 hw hl
        intro k
        induction k with
        | zero => intro v1 v2 v3 v4 v5 v6 x_q0_shades H locs ls o hf hw hl kx; simp [X11_seats_L1] at hf
        | succ k ih =>
          intro v1 v2 v3 v4 v5 v6 x_q0_shades H locs ls o hf hw hl kx
          rw [X11_seats_L1] at hf
          refine lv_iload hx hb dX11_seats_36 (lv_at hl 6 rfl) ?_
          refine lv_bipush (v := 64) hx hb dX11_seats_38 (by decide) ?_
          refine lv_icmp_ge (tgt := 103) hx hb dX11_seats_40 (by decide) (fun hc => ?_) (fun hc => ?_)
          · have hf := ifT hf hc
            have hf := Option.some.inj hf
            subst hf
            exact kx _ _ _ hw (lv_sub hl [0, 1, 2, 3, 4, 5, 6] rfl)
          · have hf := ifF hf hc
            refine lv_iload hx hb dX11_seats_43 (lv_at hl 6 rfl) ?_
            refine lv_iload_n hx hb dX11_seats_45 rfl (lv_at hl 3 rfl) ?_
            refine lv_iconst (v := (-1)) hx hb dX11_seats_46 (by decide) ?_
            refine lv_ixor hx hb dX11_seats_47 ?_
            refine lv_iand hx hb dX11_seats_48 ?_
            obtain ⟨j3, hj3, hf⟩ := pbS hf
            have wj3 : ∀ (H : Heap) (locs : List Loc) (ls : Array Slot), Wd D A s (cW a ar t x_q0_dials x_q0_spots x_q0_skies x_q0_reports x_q0_count x_q0_chime x_q0_end x_q0_score x_q0_reportCount x_q0_z x_q0_rules x_q0_shades x_q0_facts x_q1_dials x_q1_spots x_q1_skies x_q1_reports x_q1_count x_q1_chime x_q1_end x_q1_score x_q1_reportCount x_q1_z x_q1_rules x_q1_shades x_q1_facts x_q2_dials x_q2_spots x_q2_skies x_q2_reports x_q2_count x_q2_chime x_q2_end x_q2_score x_q2_reportCount x_q2_z x_q2_rules x_q2_shades x_q2_facts x_isKept x_marks x_p_first x_p_steps x_p_most x_p_many x_p_fewest x_p_everRight x_p_opening x_p_rows x_p_rowCount x_p_acts x_p_marks x_p_deepest x_p_wanted x_t_length x_t_tape x_t_words x_t_places x_t_at x_t_kinds x_t_wills x_t_starts x_t_code x_t_count x_t_size x_h_sorts x_h_lengths x_h_items x_h_held x_h_things x_h_sizes x_h_bodies x_h_traced x_h_number x_h_spot x_h_parted x_g_count x_g_kinds x_g_wills x_g_starts x_g_code x_g_stack x_g_kl x_g_wl x_g_sl x_g_cl x_nr) H locs → lv_has ls 8 [(0, .ref (a 0)), (1, .int v1), (2, .int v2), (3, .int v3), (4, .int v4), (5, .int v5), (6, .int v6)] → W p l e (rmz 6 0 0) s m args below meth c H locs 0 0 Q (F0 m 67 ls [.int j3]) := by
              intro H locs ls hw hl
              refine lv_istore (lv' := [(7, .int j3), (0, .ref (a 0)), (1, .int v1), (2, .int v2), (3, .int v3), (4, .int v4), (5, .int v5), (6, .int v6)]) hx hb dX11_seats_67 hl (by decide) rfl (fun ls hl => ?_)
              refine lv_iload hx hb dX11_seats_69 (lv_at hl 0 rfl) ?_
              obtain ⟨j8, hj8, hf⟩ := bnS hf
              have wj8 : ∀ (H : Heap) (locs : List Loc) (ls : Array Slot), Wd D A s (cW a ar t x_q0_dials x_q0_spots x_q0_skies x_q0_reports x_q0_count x_q0_chime x_q0_end x_q0_score x_q0_reportCount x_q0_z x_q0_rules x_q0_shades x_q0_facts x_q1_dials x_q1_spots x_q1_skies x_q1_reports x_q1_count x_q1_chime x_q1_end x_q1_score x_q1_reportCount x_q1_z x_q1_rules x_q1_shades x_q1_facts x_q2_dials x_q2_spots x_q2_skies x_q2_reports x_q2_count x_q2_chime x_q2_end x_q2_score x_q2_reportCount x_q2_z x_q2_rules x_q2_shades x_q2_facts x_isKept x_marks x_p_first x_p_steps x_p_most x_p_many x_p_fewest x_p_everRight x_p_opening x_p_rows x_p_rowCount x_p_acts x_p_marks x_p_deepest x_p_wanted x_t_length x_t_tape x_t_words x_t_places x_t_at x_t_kinds x_t_wills x_t_starts x_t_code x_t_count x_t_size x_h_sorts x_h_lengths x_h_items x_h_held x_h_things x_h_sizes x_h_bodies x_h_traced x_h_number x_h_spot x_h_parted x_g_count x_g_kinds x_g_wills x_g_starts x_g_code x_g_stack x_g_kl x_g_wl x_g_sl x_g_cl x_nr) H locs → lv_has ls 8 [(0, .ref (a 0)), (1, .int v1), (2, .int v2), (3, .int v3), (4, .int j8.1), (5, .int j8.2), (6, .int v6), (7, .int j3)] → W p l e (rmz 6 0 0) s m args below meth c H locs 0 0 Q (F0 m 97 ls []) := by
                intro H locs ls hw hl
                refine lv_iinc (v := (v6 + (1 : Int32))) (lv' := [(6, .int (v6 + (1 : Int32))), (0, .ref (a 0)), (1, .int v1), (2, .int v2), (3, .int v3), (4, .int j8.1), (5, .int j8.2), (7, .int j3)]) hx hb dX11_seats_97 hl (k := 6) rfl rfl (by decide) rfl (fun ls hl => ?_)
                refine lv_goto (tgt := 36) hx hb dX11_seats_100 (by decide) ?_
                exact ih hf hw (lv_sub hl [1, 2, 3, 4, 5, 6, 0] rfl) kx
              clear hf
              have hf := hj8
              clear hj8
              refine lv_if_eq (tgt := 97) hx hb dX11_seats_71 (by decide) (fun hc => ?_) (fun hc => ?_)
              · have hf := ifT hf hc
                have hf := Option.some.inj hf
                subst hf
                exact wj8 _ _ _ hw (lv_sub hl [1, 2, 3, 4, 5, 6, 7, 0] rfl)
              · have hf := ifF hf hc
                refine lv_aload_n hx hb dX11_seats_74 rfl (lv_at hl 1 rfl) ?_
                refine lv_iload hx hb dX11_seats_75 (lv_at hl 7 rfl) ?_
                obtain ⟨r4, h5, hf⟩ := bnS hf
                refine calVi cx hw hl.1 (c_X11_benchesOf h5) q_768 k_X11_benchesOf rfl rv_ds rfl dX11_seats_77 rfl (Nat.le_of_ble_eq_true rfl) ⟨Nat.le_of_ble_eq_true rfl, Nat.le_of_ble_eq_true rfl⟩ ⟨Nat.le_refl _, Nat.le_refl _⟩ (fun H locs hw => ?_)
                refine lv_iload hx hb dX11_seats_80 (lv_at hl 6 rfl) ?_
                refine lv_icmp_le (tgt := 97) hx hb dX11_seats_82 (by decide) (fun hc => ?_) (fun hc => ?_)
                · have hf := ifT hf hc
                  have hf := Option.some.inj hf
                  subst hf
                  exact wj8 _ _ _ hw (lv_sub hl [1, 2, 3, 4, 5, 6, 7, 0] rfl)
                · have hf := ifF hf hc
                  refine lv_aload_n hx hb dX11_seats_85 rfl (lv_at hl 1 rfl) ?_
                  refine lv_iload hx hb dX11_seats_86 (lv_at hl 7 rfl) ?_
                  obtain ⟨r6, h7, hf⟩ := bnS hf
                  refine calVi cx hw hl.1 (c_X11_benchesOf h7) q_768 k_X11_benchesOf rfl rv_ds rfl dX11_seats_88 rfl (Nat.le_of_ble_eq_true rfl) ⟨Nat.le_of_ble_eq_true rfl, Nat.le_of_ble_eq_true rfl⟩ ⟨Nat.le_refl _, Nat.le_refl _⟩ (fun H locs hw => ?_)
                  refine lv_istore (lv' := [(5, .int r6), (7, .int j3), (0, .ref (a 0)), (1, .int v1), (2, .int v2), (3, .int v3), (4, .int v4), (6, .int v6)]) hx hb dX11_seats_91 hl (by decide) rfl (fun ls hl => ?_)
                  refine lv_iload hx hb dX11_seats_93 (lv_at hl 7 rfl) ?_
                  refine lv_istore (lv' := [(4, .int v6), (5, .int r6), (7, .int j3), (0, .ref (a 0)), (1, .int v1), (2, .int v2), (3, .int v3), (6, .int v6)]) hx hb dX11_seats_95 hl (by decide) rfl (fun ls hl => ?_)
                  have hf := Option.some.inj hf
                  subst hf
                  exact wj8 _ _ _ hw (lv_sub hl [3, 4, 5, 6, 0, 1, 7, 2] rfl)
            clear hf
            have hf := hj3
            clear hj3
            refine lv_if_ne (tgt := 66) hx hb dX11_seats_49 (by decide) (fun hc => ?_) (fun hc => ?_)
            · have hf := ifF hf hc
              refine lv_iconst (v := 0) hx hb dX11_seats_66 (by decide) ?_
              subst hf
              exact wj3 _ _ _ hw (lv_sub hl [0, 1, 2, 3, 4, 5, 6] rfl)
            · have hf := ifT hf hc
              refine lv_iload hx hb dX11_seats_52 (lv_at hl 6 rfl) ?_
              refine lv_iload hx hb dX11_seats_54 (lv_at hl 6 rfl) ?_
              refine lv_iconst (v := 1) hx hb dX11_seats_56 (by decide) ?_
              refine lv_ishl hx hb dX11_seats_57 ?_
              refine lv_iand hx hb dX11_seats_58 ?_
              refine lv_if_ne (tgt := 66) hx hb dX11_seats_59 (by decide) (fun hc => ?_) (fun hc => ?_)
              · have hf := ifF hf hc
                refine lv_iconst (v := 0) hx hb dX11_seats_66 (by decide) ?_
                subst hf
                exact wj3 _ _ _ hw (lv_sub hl [0, 1, 2, 3, 4, 5, 6] rfl)
              · have hf := ifT hf hc
                refine lv_iconst (v := 1) hx hb dX11_seats_62 (by decide) ?_
                refine lv_goto (tgt := 67) hx hb dX11_seats_63 (by decide) ?_
                subst hf
                exact wj3 _ _ _ hw (lv_sub hl [0, 1, 2, 3, 4, 5, 6] rfl)
      refine wL1 n ho9 hw (lv_sub hl [4, 5, 6, 3, 2, 1, 0] rfl) (fun H locs ls hw hl => ?_)
      clear wL1 ho9
      refine lv_iload_n hx hb dX11_seats_103 rfl (lv_at hl 2 rfl) ?_
      refine lv_if_ne (tgt := 112) hx hb dX11_seats_104 (by decide) (fun hc => ?_) (fun hc => ?_)
      · have hf := ifF hf hc
        refine lv_iload hx hb dX11_seats_112 (lv_at hl 4 rfl) ?_
        have hf := Option.some.inj hf
        subst hf
        exact hR _ _ _ _ _ _ hw rfl ⟨rfl, rfl⟩ dX11_seats_114
      · have hf := ifT hf hc
        refine lv_iload hx hb dX11_seats_107 (lv_at hl 5 rfl) ?_
        refine lv_goto (tgt := 114) hx hb dX11_seats_109 (by decide) ?_
        have hf := Option.some.inj hf
        subst hf
        exact hR _ _ _ _ _ _ hw rfl ⟨rfl, rfl⟩ dX11_seats_114
    · have hf := ifT hf hc
      refine lv_iconst (v := (-1)) hx hb dX11_seats_19 (by decide) ?_
      have hf := Option.some.inj hf
      subst hf
      exact hR _ _ _ _ _ _ hw rfl ⟨rfl, rfl⟩ dX11_seats_20
theorem c_X9_mark_q2_pm {v1 : Nat} (hv1 : v1 < 4) {res : (Nat → Nat → Int32)} (hf : X9_mark_q2_pm n x_q2_dials x_q2_count x_q2_chime x_p_marks v1 = some res) : MC l E0 D t yX9_mark cX9_mark 3 none 1 0 0 [.ref (a 51), .ref (a (93 + v1))] (cW a ar t x_q0_dials x_q0_spots x_q0_skies x_q0_reports x_q0_count x_q0_chime x_q0_end x_q0_score x_q0_reportCount x_q0_z x_q0_rules x_q0_shades x_q0_facts x_q1_dials x_q1_spots x_q1_skies x_q1_reports x_q1_count x_q1_chime x_q1_end x_q1_score x_q1_reportCount x_q1_z x_q1_rules x_q1_shades x_q1_facts x_q2_dials x_q2_spots x_q2_skies x_q2_reports x_q2_count x_q2_chime x_q2_end x_q2_score x_q2_reportCount x_q2_z x_q2_rules x_q2_shades x_q2_facts x_isKept x_marks x_p_first x_p_steps x_p_most x_p_many x_p_fewest x_p_everRight x_p_opening x_p_rows x_p_rowCount x_p_acts x_p_marks x_p_deepest x_p_wanted x_t_length x_t_tape x_t_words x_t_places x_t_at x_t_kinds x_t_wills x_t_starts x_t_code x_t_count x_t_size x_h_sorts x_h_lengths x_h_items x_h_held x_h_things x_h_sizes x_h_bodies x_h_traced x_h_number x_h_spot x_h_parted x_g_count x_g_kinds x_g_wills x_g_starts x_g_code x_g_stack x_g_kl x_g_wl x_g_sl x_g_cl x_nr) (Qn (cW a ar t x_q0_dials x_q0_spots x_q0_skies x_q0_reports x_q0_count x_q0_chime x_q0_end x_q0_score x_q0_reportCount x_q0_z x_q0_rules x_q0_shades x_q0_facts x_q1_dials x_q1_spots x_q1_skies x_q1_reports x_q1_count x_q1_chime x_q1_end x_q1_score x_q1_reportCount x_q1_z x_q1_rules x_q1_shades x_q1_facts x_q2_dials x_q2_spots x_q2_skies x_q2_reports x_q2_count x_q2_chime x_q2_end x_q2_score x_q2_reportCount x_q2_z x_q2_rules x_q2_shades x_q2_facts x_isKept x_marks x_p_first x_p_steps x_p_most x_p_many x_p_fewest x_p_everRight x_p_opening x_p_rows x_p_rowCount x_p_acts res x_p_deepest x_p_wanted x_t_length x_t_tape x_t_words x_t_places x_t_at x_t_kinds x_t_wills x_t_starts x_t_code x_t_count x_t_size x_h_sorts x_h_lengths x_h_items x_h_held x_h_things x_h_sizes x_h_bodies x_h_traced x_h_number x_h_spot x_h_parted x_g_count x_g_kinds x_g_wills x_g_starts x_g_code x_g_stack x_g_kl x_g_wl x_g_sl x_g_cl x_nr)) := by
  unfold X9_mark_q2_pm at hf
  refine MC.ofV pn_X9 (Nat.le_of_ble_eq_true rfl) ?_
  intro p e s m args below meth c A Q ls cx hR hw hl
  have hx := cx.1
  have hb := cx.2.1
  have hl : lv_has ls 3 [(0, .ref (a 51)), (1, .ref (a (93 + v1)))] := hl
  refine lv_aload_n hx hb dX9_mark_0 rfl (lv_at hl 1 rfl) ?_
  refine lv_iconst (v := 0) hx hb dX9_mark_1 (by decide) ?_
  refine lv_aload_n hx hb dX9_mark_2 rfl (lv_at hl 0 rfl) ?_
  refine cg_X9_62_q2 cx hw dX9_mark_3 ?_
  refine ct_p_marks (j := 0) cx hw hv1 (ib_in (by decide)) (by decide) dX9_mark_6 (fun H locs hw => ?_)
  refine lv_iconst (v := 0) hx hb dX9_mark_7 (by decide) ?_
  refine lv_istore_n (lv' := [(2, .int (0 : Int32)), (0, .ref (a 51)), (1, .ref (a (93 + v1)))]) hx hb dX9_mark_8 rfl hl (by decide) rfl (fun ls hl => ?_)
  obtain ⟨o5, ho5, hf⟩ := bnS hf
  have wL1 : ∀ (k : Nat) {v2 : Int32} {x_p_marks : Nat → Nat → Int32} {H : Heap} {locs : List Loc} {ls : Array Slot} {o : Int32 × (Nat → Nat → Int32)}, X9_mark_q2_pm_L1 n x_q2_dials x_q2_count v1 k v2 x_p_marks = some o → Wd D A s (cW a ar t x_q0_dials x_q0_spots x_q0_skies x_q0_reports x_q0_count x_q0_chime x_q0_end x_q0_score x_q0_reportCount x_q0_z x_q0_rules x_q0_shades x_q0_facts x_q1_dials x_q1_spots x_q1_skies x_q1_reports x_q1_count x_q1_chime x_q1_end x_q1_score x_q1_reportCount x_q1_z x_q1_rules x_q1_shades x_q1_facts x_q2_dials x_q2_spots x_q2_skies x_q2_reports x_q2_count x_q2_chime x_q2_end x_q2_score x_q2_reportCount x_q2_z x_q2_rules x_q2_shades x_q2_facts x_isKept x_marks x_p_first x_p_steps x_p_most x_p_many x_p_fewest x_p_everRight x_p_opening x_p_rows x_p_rowCount x_p_acts x_p_marks x_p_deepest x_p_wanted x_t_length x_t_tape x_t_words x_t_places x_t_at x_t_kinds x_t_wills x_t_starts x_t_code x_t_count x_t_size x_h_sorts x_h_lengths x_h_items x_h_held x_h_things x_h_sizes x_h_bodies x_h_traced x_h_number x_h_spot x_h_parted x_g_count x_g_kinds x_g_wills x_g_starts x_g_code x_g_stack x_g_kl x_g_wl x_g_sl x_g_cl x_nr) H locs → lv_has ls 3 [(0, .ref (a 51)), (1, .ref (a (93 + v1))), (2, .int v2)] → (∀ (H : Heap) (locs : List Loc) (ls : Array Slot), Wd D A s (cW a ar t x_q0_dials x_q0_spots x_q0_skies x_q0_reports x_q0_count x_q0_chime x_q0_end x_q0_score x_q0_reportCount x_q0_z x_q0_rules x_q0_shades x_q0_facts x_q1_dials x_q1_spots x_q1_skies x_q1_reports x_q1_count x_q1_chime x_q1_end x_q1_score x_q1_reportCount x_q1_z x_q1_rules x_q1_shades x_q1_facts x_q2_dials x_q2_spots x_q2_skies x_q2_reports x_q2_count x_q2_chime x_q2_end x_q2_score x_q2_reportCount x_q2_z x_q2_rules x_q2_shades x_q2_facts x_isKept x_marks x_p_first x_p_steps x_p_most x_p_many x_p_fewest x_p_everRight x_p_opening x_p_rows x_p_rowCount x_p_acts o.2 x_p_deepest x_p_wanted x_t_length x_t_tape x_t_words x_t_places x_t_at x_t_kinds x_t_wills x_t_starts x_t_code x_t_count x_t_size x_h_sorts x_h_lengths x_h_items x_h_held x_h_things x_h_sizes x_h_bodies x_h_traced x_h_number x_h_spot x_h_parted x_g_count x_g_kinds x_g_wills x_g_starts x_g_code x_g_stack x_g_kl x_g_wl x_g_sl x_g_cl x_nr) H locs → lv_has ls 3 [(0, .ref (a 51)), (1, .ref (a (93 + v1))), (2, .int o.1)] → W p l e (rmz 1 0 0) s m args below meth c H locs 0 0 Q (F0 m 50 ls [])) → W p l e (rmz 1 0 0) s m args below meth c H locs 0 0 Q (F0 m 9 ls []) := by
    clear hf ho5 hw hl
    intro k
    induction k with
    | zero => intro v2 x_p_marks H locs ls o hf hw hl kx; simp [X9_mark_q2_pm_L1] at hf
    | succ k ih =>
      intro v2 x_p_marks H locs ls o hf hw hl kx
      rw [X9_mark_q2_pm_L1] at hf
      refine lv_iload_n hx hb dX9_mark_9 rfl (lv_at hl 2 rfl) ?_
      refine lv_aload_n hx hb dX9_mark_10 rfl (lv_at hl 0 rfl) ?_
      refine cg_X9_59_q2 cx hw dX9_mark_11 ?_
      refine lv_icmp_ge (tgt := 50) hx hb dX9_mark_14 (by decide) (fun hc => ?_) (fun hc => ?_)
      · have hf := ifT hf hc
        have hf := Option.some.inj hf
        subst hf
        exact kx _ _ _ hw (lv_sub hl [0, 1, 2] rfl)
      · have hf := ifF hf hc
        refine lv_aload_n hx hb dX9_mark_17 rfl (lv_at hl 1 rfl) ?_
        refine lv_iconst (v := 1) hx hb dX9_mark_18 (by decide) ?_
        refine lv_iload_n hx hb dX9_mark_19 rfl (lv_at hl 2 rfl) ?_
        refine lv_iadd hx hb dX9_mark_20 ?_
        refine lv_aload_n hx hb dX9_mark_21 rfl (lv_at hl 0 rfl) ?_
        refine cg_X9_11_q2 cx hw dX9_mark_22 ?_
        refine lv_iload_n hx hb dX9_mark_25 rfl (lv_at hl 2 rfl) ?_
        obtain ⟨h1, hf⟩ := ckS hf
        refine co_q2_dials (j := v2.toNatClampNeg) cx hw (ib_in h1) rfl dX9_mark_26 ?_
        refine lv_iconst (v := 1) hx hb dX9_mark_27 (by decide) ?_
        refine cm_q2_dials (j := 1) cx hw (ib_lt h1) (ib_in (by decide)) (by decide) dX9_mark_28 ?_
        obtain ⟨h2, hf⟩ := ckS hf
        refine ct_p_marks (j := ((1 : Int32) + v2).toNatClampNeg) cx hw hv1 (ib_in h2) rfl dX9_mark_29 (fun H locs hw => ?_)
        refine lv_aload_n hx hb dX9_mark_30 rfl (lv_at hl 1 rfl) ?_
        refine lv_bipush (v := 7) hx hb dX9_mark_31 (by decide) ?_
        refine lv_iload_n hx hb dX9_mark_33 rfl (lv_at hl 2 rfl) ?_
        refine lv_iadd hx hb dX9_mark_34 ?_
        refine lv_aload_n hx hb dX9_mark_35 rfl (lv_at hl 0 rfl) ?_
        refine cg_X9_11_q2 cx hw dX9_mark_36 ?_
        refine lv_iload_n hx hb dX9_mark_39 rfl (lv_at hl 2 rfl) ?_
        obtain ⟨h3, hf⟩ := ckS hf
        refine co_q2_dials (j := v2.toNatClampNeg) cx hw (ib_in h3) rfl dX9_mark_40 ?_
        refine lv_iconst (v := 4) hx hb dX9_mark_41 (by decide) ?_
        refine cm_q2_dials (j := 4) cx hw (ib_lt h3) (ib_in (by decide)) (by decide) dX9_mark_42 ?_
        obtain ⟨h4, hf⟩ := ckS hf
        refine ct_p_marks (j := ((7 : Int32) + v2).toNatClampNeg) cx hw hv1 (ib_in h4) rfl dX9_mark_43 (fun H locs hw => ?_)
        refine lv_iinc (v := (v2 + (1 : Int32))) (lv' := [(2, .int (v2 + (1 : Int32))), (0, .ref (a 51)), (1, .ref (a (93 + v1)))]) hx hb dX9_mark_44 hl (k := 2) rfl rfl (by decide) rfl (fun ls hl => ?_)
        refine lv_goto (tgt := 9) hx hb dX9_mark_47 (by decide) ?_
        exact ih hf hw (lv_sub hl [1, 2, 0] rfl) kx
  refine wL1 n ho5 hw (lv_sub hl [1, 2, 0] rfl) (fun H locs ls hw hl => ?_)
  clear wL1 ho5
  have hf := Option.some.inj hf
  subst hf
  exact hR _ _ _ _ _ hw ⟨rfl, rfl⟩ dX9_mark_50
theorem c_X9_back_q2_pm {v1 : Nat} (hv1 : v1 < 4) {res : (Nat → Nat → Int32) × Int32} (hf : X9_back_q2_pm n x_q2_dials x_q2_count x_p_marks v1 = some res) : MC l E0 D t yX9_back cX9_back 3 none 1 0 0 [.ref (a 51), .ref (a (93 + v1))] (cW a ar t x_q0_dials x_q0_spots x_q0_skies x_q0_reports x_q0_count x_q0_chime x_q0_end x_q0_score x_q0_reportCount x_q0_z x_q0_rules x_q0_shades x_q0_facts x_q1_dials x_q1_spots x_q1_skies x_q1_reports x_q1_count x_q1_chime x_q1_end x_q1_score x_q1_reportCount x_q1_z x_q1_rules x_q1_shades x_q1_facts x_q2_dials x_q2_spots x_q2_skies x_q2_reports x_q2_count x_q2_chime x_q2_end x_q2_score x_q2_reportCount x_q2_z x_q2_rules x_q2_shades x_q2_facts x_isKept x_marks x_p_first x_p_steps x_p_most x_p_many x_p_fewest x_p_everRight x_p_opening x_p_rows x_p_rowCount x_p_acts x_p_marks x_p_deepest x_p_wanted x_t_length x_t_tape x_t_words x_t_places x_t_at x_t_kinds x_t_wills x_t_starts x_t_code x_t_count x_t_size x_h_sorts x_h_lengths x_h_items x_h_held x_h_things x_h_sizes x_h_bodies x_h_traced x_h_number x_h_spot x_h_parted x_g_count x_g_kinds x_g_wills x_g_starts x_g_code x_g_stack x_g_kl x_g_wl x_g_sl x_g_cl x_nr) (Qn (cW a ar t x_q0_dials x_q0_spots x_q0_skies x_q0_reports x_q0_count x_q0_chime x_q0_end x_q0_score x_q0_reportCount x_q0_z x_q0_rules x_q0_shades x_q0_facts x_q1_dials x_q1_spots x_q1_skies x_q1_reports x_q1_count x_q1_chime x_q1_end x_q1_score x_q1_reportCount x_q1_z x_q1_rules x_q1_shades x_q1_facts res.1 x_q2_spots x_q2_skies x_q2_reports x_q2_count res.2 x_q2_end x_q2_score x_q2_reportCount x_q2_z x_q2_rules x_q2_shades x_q2_facts x_isKept x_marks x_p_first x_p_steps x_p_most x_p_many x_p_fewest x_p_everRight x_p_opening x_p_rows x_p_rowCount x_p_acts x_p_marks x_p_deepest x_p_wanted x_t_length x_t_tape x_t_words x_t_places x_t_at x_t_kinds x_t_wills x_t_starts x_t_code x_t_count x_t_size x_h_sorts x_h_lengths x_h_items x_h_held x_h_things x_h_sizes x_h_bodies x_h_traced x_h_number x_h_spot x_h_parted x_g_count x_g_kinds x_g_wills x_g_starts x_g_code x_g_stack x_g_kl x_g_wl x_g_sl x_g_cl x_nr)) := by
  unfold X9_back_q2_pm at hf
  refine MC.ofV pn_X9 (Nat.le_of_ble_eq_true rfl) ?_
  intro p e s m args below meth c A Q ls cx hR hw hl
  have hx := cx.1
  have hb := cx.2.1
  have hl : lv_has ls 3 [(0, .ref (a 51)), (1, .ref (a (93 + v1)))] := hl
  refine lv_aload_n hx hb dX9_back_0 rfl (lv_at hl 0 rfl) ?_
  refine lv_aload_n hx hb dX9_back_1 rfl (lv_at hl 1 rfl) ?_
  refine lv_iconst (v := 0) hx hb dX9_back_2 (by decide) ?_
  refine cm_p_marks (j := 0) cx hw hv1 (ib_in (by decide)) (by decide) dX9_back_3 ?_
  refine cp_X9_62_q2 cx hw dX9_back_4 (fun H locs hw => ?_)
  refine lv_iconst (v := 0) hx hb dX9_back_7 (by decide) ?_
  refine lv_istore_n (lv' := [(2, .int (0 : Int32)), (0, .ref (a 51)), (1, .ref (a (93 + v1)))]) hx hb dX9_back_8 rfl hl (by decide) rfl (fun ls hl => ?_)
  obtain ⟨o5, ho5, hf⟩ := bnS hf
  have wL1 : ∀ (k : Nat) {v2 : Int32} {x_q2_dials : Nat → Nat → Int32} {x_q2_chime : Int32} {H : Heap} {locs : List Loc} {ls : Array Slot} {o : Int32 × (Nat → Nat → Int32)}, X9_back_q2_pm_L1 n x_q2_count x_p_marks v1 k v2 x_q2_dials = some o → Wd D A s (cW a ar t x_q0_dials x_q0_spots x_q0_skies x_q0_reports x_q0_count x_q0_chime x_q0_end x_q0_score x_q0_reportCount x_q0_z x_q0_rules x_q0_shades x_q0_facts x_q1_dials x_q1_spots x_q1_skies x_q1_reports x_q1_count x_q1_chime x_q1_end x_q1_score x_q1_reportCount x_q1_z x_q1_rules x_q1_shades x_q1_facts x_q2_dials x_q2_spots x_q2_skies x_q2_reports x_q2_count x_q2_chime x_q2_end x_q2_score x_q2_reportCount x_q2_z x_q2_rules x_q2_shades x_q2_facts x_isKept x_marks x_p_first x_p_steps x_p_most x_p_many x_p_fewest x_p_everRight x_p_opening x_p_rows x_p_rowCount x_p_acts x_p_marks x_p_deepest x_p_wanted x_t_length x_t_tape x_t_words x_t_places x_t_at x_t_kinds x_t_wills x_t_starts x_t_code x_t_count x_t_size x_h_sorts x_h_lengths x_h_items x_h_held x_h_things x_h_sizes x_h_bodies x_h_traced x_h_number x_h_spot x_h_parted x_g_count x_g_kinds x_g_wills x_g_starts x_g_code x_g_stack x_g_kl x_g_wl x_g_sl x_g_cl x_nr) H locs → lv_has ls 3 [(0, .ref (a 51)), (1, .ref (a (93 + v1))), (2, .int v2)] → (∀ (H : Heap) (locs : List Loc) (ls : Array Slot), Wd D A s (cW a ar t x_q0_dials x_q0_spots x_q0_skies x_q0_reports x_q0_count x_q0_chime x_q0_end x_q0_score x_q0_reportCount x_q0_z x_q0_rules x_q0_shades x_q0_facts x_q1_dials x_q1_spots x_q1_skies x_q1_reports x_q1_count x_q1_chime x_q1_end x_q1_score x_q1_reportCount x_q1_z x_q1_rules x_q1_shades x_q1_facts o.2 x_q2_spots x_q2_skies x_q2_reports x_q2_count x_q2_chime x_q2_end x_q2_score x_q2_reportCount x_q2_z x_q2_rules x_q2_shades x_q2_facts x_isKept x_marks x_p_first x_p_steps x_p_most x_p_many x_p_fewest x_p_everRight x_p_opening x_p_rows x_p_rowCount x_p_acts x_p_marks x_p_deepest x_p_wanted x_t_length x_t_tape x_t_words x_t_places x_t_at x_t_kinds x_t_wills x_t_starts x_t_code x_t_count x_t_size x_h_sorts x_h_lengths x_h_items x_h_held x_h_things x_h_sizes x_h_bodies x_h_traced x_h_number x_h_spot x_h_parted x_g_count x_g_kinds x_g_wills x_g_starts x_g_code x_g_stack x_g_kl x_g_wl x_g_sl x_g_cl x_nr) H locs → lv_has ls 3 [(0, .ref (a 51)), (1, .ref (a (93 + v1))), (2, .int o.1)] → W p l e (rmz 1 0 0) s m args below meth c H locs 0 0 Q (F0 m 50 ls [])) → W p l e (rmz 1 0 0) s m args below meth c H locs 0 0 Q (F0 m 9 ls []) := by
    clear hf ho5 hw hl
    intro k
    induction k with
    | zero => intro v2 x_q2_dials x_q2_chime H locs ls o hf hw hl kx; simp [X9_back_q2_pm_L1] at hf
    | succ k ih =>
      intro v2 x_q2_dials x_q2_chime H locs ls o hf hw hl kx
      rw [X9_back_q2_pm_L1] at hf
      refine lv_iload_n hx hb dX9_back_9 rfl (lv_at hl 2 rfl) ?_
      refine lv_aload_n hx hb dX9_back_10 rfl (lv_at hl 0 rfl) ?_
      refine cg_X9_59_q2 cx hw dX9_back_11 ?_
      refine lv_icmp_ge (tgt := 50) hx hb dX9_back_14 (by decide) (fun hc => ?_) (fun hc => ?_)
      · have hf := ifT hf hc
        have hf := Option.some.inj hf
        subst hf
        exact kx _ _ _ hw (lv_sub hl [0, 1, 2] rfl)
      · have hf := ifF hf hc
        refine lv_aload_n hx hb dX9_back_17 rfl (lv_at hl 0 rfl) ?_
        refine cg_X9_11_q2 cx hw dX9_back_18 ?_
        refine lv_iload_n hx hb dX9_back_21 rfl (lv_at hl 2 rfl) ?_
        obtain ⟨h1, hf⟩ := ckS hf
        refine co_q2_dials (j := v2.toNatClampNeg) cx hw (ib_in h1) rfl dX9_back_22 ?_
        refine lv_iconst (v := 1) hx hb dX9_back_23 (by decide) ?_
        refine lv_aload_n hx hb dX9_back_24 rfl (lv_at hl 1 rfl) ?_
        refine lv_iconst (v := 1) hx hb dX9_back_25 (by decide) ?_
        refine lv_iload_n hx hb dX9_back_26 rfl (lv_at hl 2 rfl) ?_
        refine lv_iadd hx hb dX9_back_27 ?_
        obtain ⟨h2, hf⟩ := ckS hf
        refine cm_p_marks (j := ((1 : Int32) + v2).toNatClampNeg) cx hw hv1 (ib_in h2) rfl dX9_back_28 ?_
        refine ct_q2_dials (j := 1) cx hw (ib_lt h1) (ib_in (by decide)) (by decide) dX9_back_29 (fun H locs hw => ?_)
        refine lv_aload_n hx hb dX9_back_30 rfl (lv_at hl 0 rfl) ?_
        refine cg_X9_11_q2 cx hw dX9_back_31 ?_
        refine lv_iload_n hx hb dX9_back_34 rfl (lv_at hl 2 rfl) ?_
        obtain ⟨h3, hf⟩ := ckS hf
        refine co_q2_dials (j := v2.toNatClampNeg) cx hw (ib_in h3) rfl dX9_back_35 ?_
        refine lv_iconst (v := 4) hx hb dX9_back_36 (by decide) ?_
        refine lv_aload_n hx hb dX9_back_37 rfl (lv_at hl 1 rfl) ?_
        refine lv_bipush (v := 7) hx hb dX9_back_38 (by decide) ?_
        refine lv_iload_n hx hb dX9_back_40 rfl (lv_at hl 2 rfl) ?_
        refine lv_iadd hx hb dX9_back_41 ?_
        obtain ⟨h4, hf⟩ := ckS hf
        refine cm_p_marks (j := ((7 : Int32) + v2).toNatClampNeg) cx hw hv1 (ib_in h4) rfl dX9_back_42 ?_
        refine ct_q2_dials (j := 4) cx hw (ib_lt h3) (ib_in (by decide)) (by decide) dX9_back_43 (fun H locs hw => ?_)
        refine lv_iinc (v := (v2 + (1 : Int32))) (lv' := [(2, .int (v2 + (1 : Int32))), (0, .ref (a 51)), (1, .ref (a (93 + v1)))]) hx hb dX9_back_44 hl (k := 2) rfl rfl (by decide) rfl (fun ls hl => ?_)
        refine lv_goto (tgt := 9) hx hb dX9_back_47 (by decide) ?_
        exact ih hf hw (lv_sub hl [1, 2, 0] rfl) kx
  refine wL1 n ho5 hw (lv_sub hl [1, 2, 0] rfl) (fun H locs ls hw hl => ?_)
  clear wL1 ho5
  have hf := Option.some.inj hf
  subst hf
  exact hR _ _ _ _ _ hw ⟨rfl, rfl⟩ dX9_back_50
theorem c_X9_rightSet_q2 {res : Int32} (hf : X9_rightSet_q2 n x_q2_dials x_q2_count = some res) : MC l E0 D t yX9_rightSet cX9_rightSet 3 (some .int) 2 0 0 [.ref (a 51)] (cW a ar t x_q0_dials x_q0_spots x_q0_skies x_q0_reports x_q0_count x_q0_chime x_q0_end x_q0_score x_q0_reportCount x_q0_z x_q0_rules x_q0_shades x_q0_facts x_q1_dials x_q1_spots x_q1_skies x_q1_reports x_q1_count x_q1_chime x_q1_end x_q1_score x_q1_reportCount x_q1_z x_q1_rules x_q1_shades x_q1_facts x_q2_dials x_q2_spots x_q2_skies x_q2_reports x_q2_count x_q2_chime x_q2_end x_q2_score x_q2_reportCount x_q2_z x_q2_rules x_q2_shades x_q2_facts x_isKept x_marks x_p_first x_p_steps x_p_most x_p_many x_p_fewest x_p_everRight x_p_opening x_p_rows x_p_rowCount x_p_acts x_p_marks x_p_deepest x_p_wanted x_t_length x_t_tape x_t_words x_t_places x_t_at x_t_kinds x_t_wills x_t_starts x_t_code x_t_count x_t_size x_h_sorts x_h_lengths x_h_items x_h_held x_h_things x_h_sizes x_h_bodies x_h_traced x_h_number x_h_spot x_h_parted x_g_count x_g_kinds x_g_wills x_g_starts x_g_code x_g_stack x_g_kl x_g_wl x_g_sl x_g_cl x_nr) (Qi res (cW a ar t x_q0_dials x_q0_spots x_q0_skies x_q0_reports x_q0_count x_q0_chime x_q0_end x_q0_score x_q0_reportCount x_q0_z x_q0_rules x_q0_shades x_q0_facts x_q1_dials x_q1_spots x_q1_skies x_q1_reports x_q1_count x_q1_chime x_q1_end x_q1_score x_q1_reportCount x_q1_z x_q1_rules x_q1_shades x_q1_facts x_q2_dials x_q2_spots x_q2_skies x_q2_reports x_q2_count x_q2_chime x_q2_end x_q2_score x_q2_reportCount x_q2_z x_q2_rules x_q2_shades x_q2_facts x_isKept x_marks x_p_first x_p_steps x_p_most x_p_many x_p_fewest x_p_everRight x_p_opening x_p_rows x_p_rowCount x_p_acts x_p_marks x_p_deepest x_p_wanted x_t_length x_t_tape x_t_words x_t_places x_t_at x_t_kinds x_t_wills x_t_starts x_t_code x_t_count x_t_size x_h_sorts x_h_lengths x_h_items x_h_held x_h_things x_h_sizes x_h_bodies x_h_traced x_h_number x_h_spot x_h_parted x_g_count x_g_kinds x_g_wills x_g_starts x_g_code x_g_stack x_g_kl x_g_wl x_g_sl x_g_cl x_nr)) := by
  unfold X9_rightSet_q2 at hf
  refine MC.ofI pn_X9 (Nat.le_of_ble_eq_true rfl) ?_
  intro p e s m args below meth c A Q ls cx hR hw hl
  have hx := cx.1
  have hb := cx.2.1
  have hl : lv_has ls 3 [(0, .ref (a 51))] := hl
  refine lv_iconst (v := 0) hx hb dX9_rightSet_0 (by decide) ?_
  refine lv_istore_n (lv' := [(1, .int (0 : Int32)), (0, .ref (a 51))]) hx hb dX9_rightSet_1 rfl hl (by decide) rfl (fun ls hl => ?_)
  refine lv_iconst (v := 0) hx hb dX9_rightSet_2 (by decide) ?_
  refine lv_istore_n (lv' := [(2, .int (0 : Int32)), (1, .int (0 : Int32)), (0, .ref (a 51))]) hx hb dX9_rightSet_3 rfl hl (by decide) rfl (fun ls hl => ?_)
  obtain ⟨o4, ho4, hf⟩ := bnS hf
  have wL1 : ∀ (k : Nat) {v1 : Int32} {v2 : Int32} {H : Heap} {locs : List Loc} {ls : Array Slot} {o : Int32 × Int32}, X9_rightSet_q2_L1 n x_q2_dials x_q2_count k v1 v2 = some o → Wd D A s (cW a ar t x_q0_dials x_q0_spots x_q0_skies x_q0_reports x_q0_count x_q0_chime x_q0_end x_q0_score x_q0_reportCount x_q0_z x_q0_rules x_q0_shades x_q0_facts x_q1_dials x_q1_spots x_q1_skies x_q1_reports x_q1_count x_q1_chime x_q1_end x_q1_score x_q1_reportCount x_q1_z x_q1_rules x_q1_shades x_q1_facts x_q2_dials x_q2_spots x_q2_skies x_q2_reports x_q2_count x_q2_chime x_q2_end x_q2_score x_q2_reportCount x_q2_z x_q2_rules x_q2_shades x_q2_facts x_isKept x_marks x_p_first x_p_steps x_p_most x_p_many x_p_fewest x_p_everRight x_p_opening x_p_rows x_p_rowCount x_p_acts x_p_marks x_p_deepest x_p_wanted x_t_length x_t_tape x_t_words x_t_places x_t_at x_t_kinds x_t_wills x_t_starts x_t_code x_t_count x_t_size x_h_sorts x_h_lengths x_h_items x_h_held x_h_things x_h_sizes x_h_bodies x_h_traced x_h_number x_h_spot x_h_parted x_g_count x_g_kinds x_g_wills x_g_starts x_g_code x_g_stack x_g_kl x_g_wl x_g_sl x_g_cl x_nr) H locs → lv_has ls 3 [(0, .ref (a 51)), (1, .int v1), (2, .int v2)] → (∀ (H : Heap) (locs : List Loc) (ls : Array Slot), Wd D A s (cW a ar t x_q0_dials x_q0_spots x_q0_skies x_q0_reports x_q0_count x_q0_chime x_q0_end x_q0_score x_q0_reportCount x_q0_z x_q0_rules x_q0_shades x_q0_facts x_q1_dials x_q1_spots x_q1_skies x_q1_reports x_q1_count x_q1_chime x_q1_end x_q1_score x_q1_reportCount x_q1_z x_q1_rules x_q1_shades x_q1_facts x_q2_dials x_q2_spots x_q2_skies x_q2_reports x_q2_count x_q2_chime x_q2_end x_q2_score x_q2_reportCount x_q2_z x_q2_rules x_q2_shades x_q2_facts x_isKept x_marks x_p_first x_p_steps x_p_most x_p_many x_p_fewest x_p_everRight x_p_opening x_p_rows x_p_rowCount x_p_acts x_p_marks x_p_deepest x_p_wanted x_t_length x_t_tape x_t_words x_t_places x_t_at x_t_kinds x_t_wills x_t_starts x_t_code x_t_count x_t_size x_h_sorts x_h_lengths x_h_items x_h_held x_h_things x_h_sizes x_h_bodies x_h_traced x_h_number x_h_spot x_h_parted x_g_count x_g_kinds x_g_wills x_g_starts x_g_code x_g_stack x_g_kl x_g_wl x_g_sl x_g_cl x_nr) H locs → lv_has ls 3 [(0, .ref (a 51)), (1, .int o.1), (2, .int o.2)] → W p l e (rmz 2 0 0) s m args below meth c H locs 0 0 Q (F0 m 32 ls [])) → W p l e (rmz 2 0 0) s m args below meth c H locs 0 0 Q (F0 m 4 ls []) := by
    clear hf ho4 hw hl
    intro k
    induction k with
    | zero => intro v1 v2 H locs ls o hf hw hl kx; simp [X9_rightSet_q2_L1] at hf
    | succ k ih =>
      intro v1 v2 H locs ls o hf hw hl kx
      rw [X9_rightSet_q2_L1] at hf
      refine lv_iload_n hx hb dX9_rightSet_4 rfl (lv_at hl 2 rfl) ?_
      refine lv_aload_n hx hb dX9_rightSet_5 rfl (lv_at hl 0 rfl) ?_
      refine cg_X9_59_q2 cx hw dX9_rightSet_6 ?_
      refine lv_icmp_ge (tgt := 32) hx hb dX9_rightSet_9 (by decide) (fun hc => ?_) (fun hc => ?_)
      · have hf := ifT hf hc
        have hf := Option.some.inj hf
        subst hf
        exact kx _ _ _ hw (lv_sub hl [0, 1, 2] rfl)
      · have hf := ifF hf hc
        refine lv_aload_n hx hb dX9_rightSet_12 rfl (lv_at hl 0 rfl) ?_
        refine lv_iload_n hx hb dX9_rightSet_13 rfl (lv_at hl 2 rfl) ?_
        obtain ⟨r1, h2, hf⟩ := bnS hf
        refine calVi cx hw hl.1 (c_X9_isRight_q2 h2) q_439 k_X9_isRight rfl rv_q2 rfl dX9_rightSet_14 rfl (Nat.le_of_ble_eq_true rfl) ⟨Nat.le_of_ble_eq_true rfl, Nat.le_of_ble_eq_true rfl⟩ ⟨Nat.le_refl _, Nat.le_refl _⟩ (fun H locs hw => ?_)
        obtain ⟨j3, hj3, hf⟩ := pbS hf
        have wj3 : ∀ (H : Heap) (locs : List Loc) (ls : Array Slot), Wd D A s (cW a ar t x_q0_dials x_q0_spots x_q0_skies x_q0_reports x_q0_count x_q0_chime x_q0_end x_q0_score x_q0_reportCount x_q0_z x_q0_rules x_q0_shades x_q0_facts x_q1_dials x_q1_spots x_q1_skies x_q1_reports x_q1_count x_q1_chime x_q1_end x_q1_score x_q1_reportCount x_q1_z x_q1_rules x_q1_shades x_q1_facts x_q2_dials x_q2_spots x_q2_skies x_q2_reports x_q2_count x_q2_chime x_q2_end x_q2_score x_q2_reportCount x_q2_z x_q2_rules x_q2_shades x_q2_facts x_isKept x_marks x_p_first x_p_steps x_p_most x_p_many x_p_fewest x_p_everRight x_p_opening x_p_rows x_p_rowCount x_p_acts x_p_marks x_p_deepest x_p_wanted x_t_length x_t_tape x_t_words x_t_places x_t_at x_t_kinds x_t_wills x_t_starts x_t_code x_t_count x_t_size x_h_sorts x_h_lengths x_h_items x_h_held x_h_things x_h_sizes x_h_bodies x_h_traced x_h_number x_h_spot x_h_parted x_g_count x_g_kinds x_g_wills x_g_starts x_g_code x_g_stack x_g_kl x_g_wl x_g_sl x_g_cl x_nr) H locs → lv_has ls 3 [(0, .ref (a 51)), (1, .int j3), (2, .int v2)] → W p l e (rmz 2 0 0) s m args below meth c H locs 0 0 Q (F0 m 26 ls []) := by
          intro H locs ls hw hl
          refine lv_iinc (v := (v2 + (1 : Int32))) (lv' := [(2, .int (v2 + (1 : Int32))), (0, .ref (a 51)), (1, .int j3)]) hx hb dX9_rightSet_26 hl (k := 2) rfl rfl (by decide) rfl (fun ls hl => ?_)
          refine lv_goto (tgt := 4) hx hb dX9_rightSet_29 (by decide) ?_
          exact ih hf hw (lv_sub hl [1, 2, 0] rfl) kx
        clear hf
        have hf := hj3
        clear hj3
        refine lv_if_eq (tgt := 26) hx hb dX9_rightSet_17 (by decide) (fun hc => ?_) (fun hc => ?_)
        · have hf := ifT hf hc
          subst hf
          exact wj3 _ _ _ hw (lv_sub hl [0, 1, 2] rfl)
        · have hf := ifF hf hc
          refine lv_iload_n hx hb dX9_rightSet_20 rfl (lv_at hl 1 rfl) ?_
          refine lv_iconst (v := 1) hx hb dX9_rightSet_21 (by decide) ?_
          refine lv_iload_n hx hb dX9_rightSet_22 rfl (lv_at hl 2 rfl) ?_
          refine lv_ishl hx hb dX9_rightSet_23 ?_
          refine lv_ior hx hb dX9_rightSet_24 ?_
          refine lv_istore_n (lv' := [(1, .int (v1 ||| ((1 : Int32) <<< (v2 &&& 31)))), (0, .ref (a 51)), (2, .int v2)]) hx hb dX9_rightSet_25 rfl hl (by decide) rfl (fun ls hl => ?_)
          subst hf
          exact wj3 _ _ _ hw (lv_sub hl [1, 0, 2] rfl)
  refine wL1 n ho4 hw (lv_sub hl [2, 1, 0] rfl) (fun H locs ls hw hl => ?_)
  clear wL1 ho4
  refine lv_iload_n hx hb dX9_rightSet_32 rfl (lv_at hl 1 rfl) ?_
  have hf := Option.some.inj hf
  subst hf
  exact hR _ _ _ _ _ _ hw rfl ⟨rfl, rfl⟩ dX9_rightSet_33
theorem dX5_weigh_0 : decode cX5_weigh 0 = .ok (.aload_n 0, 1) := by decide +kernel
theorem dX5_weigh_1 : decode cX5_weigh 1 = .ok (.getfield 49, 3) := by decide +kernel
theorem dX5_weigh_4 : decode cX5_weigh 4 = .ok (.ifCond .eq 11, 3) := by decide +kernel
theorem dX5_weigh_7 : decode cX5_weigh 7 = .ok (.iload_n 2, 1) := by decide +kernel
theorem dX5_weigh_8 : decode cX5_weigh 8 = .ok (.aload_n 0, 1) := by decide +kernel
theorem dX5_weigh_9 : decode cX5_weigh 9 = .ok (.getfield 46, 3) := by decide +kernel
theorem dX5_weigh_12 : decode cX5_weigh 12 = .ok (.if_icmp .le 32, 3) := by decide +kernel
theorem dX5_weigh_15 : decode cX5_weigh 15 = .ok (.aload_n 0, 1) := by decide +kernel
theorem dX5_weigh_16 : decode cX5_weigh 16 = .ok (.iload_n 2, 1) := by decide +kernel
theorem dX5_weigh_17 : decode cX5_weigh 17 = .ok (.putfield 46, 3) := by decide +kernel
theorem dX5_weigh_20 : decode cX5_weigh 20 = .ok (.aload_n 0, 1) := by decide +kernel
theorem dX5_weigh_21 : decode cX5_weigh 21 = .ok (.iconst 0, 1) := by decide +kernel
theorem dX5_weigh_22 : decode cX5_weigh 22 = .ok (.putfield 49, 3) := by decide +kernel
theorem dX5_weigh_25 : decode cX5_weigh 25 = .ok (.aload_n 0, 1) := by decide +kernel
theorem dX5_weigh_26 : decode cX5_weigh 26 = .ok (.iload_n 1, 1) := by decide +kernel
theorem dX5_weigh_27 : decode cX5_weigh 27 = .ok (.putfield 43, 3) := by decide +kernel
theorem dX5_weigh_30 : decode cX5_weigh 30 = .ok (.aload_n 0, 1) := by decide +kernel
theorem dX5_weigh_31 : decode cX5_weigh 31 = .ok (.getfield 20, 3) := by decide +kernel
theorem dX5_weigh_34 : decode cX5_weigh 34 = .ok (.iconst 0, 1) := by decide +kernel
theorem dX5_weigh_35 : decode cX5_weigh 35 = .ok (.aload_n 0, 1) := by decide +kernel
theorem dX5_weigh_36 : decode cX5_weigh 36 = .ok (.getfield 9, 3) := by decide +kernel
theorem dX5_weigh_39 : decode cX5_weigh 39 = .ok (.iconst 0, 1) := by decide +kernel
theorem dX5_weigh_40 : decode cX5_weigh 40 = .ok (.iload_n 1, 1) := by decide +kernel
theorem dX5_weigh_41 : decode cX5_weigh 41 = .ok (.invokestatic 83, 3) := by decide +kernel
theorem dX5_weigh_44 : decode cX5_weigh 44 = .ok (.iload_n 2, 1) := by decide +kernel
theorem dX5_weigh_45 : decode cX5_weigh 45 = .ok (.aload_n 0, 1) := by decide +kernel
theorem dX5_weigh_46 : decode cX5_weigh 46 = .ok (.getfield 46, 3) := by decide +kernel
theorem dX5_weigh_49 : decode cX5_weigh 49 = .ok (.if_icmp .ne 13, 3) := by decide +kernel
theorem dX5_weigh_52 : decode cX5_weigh 52 = .ok (.aload_n 0, 1) := by decide +kernel
theorem dX5_weigh_53 : decode cX5_weigh 53 = .ok (.dup, 1) := by decide +kernel
theorem dX5_weigh_54 : decode cX5_weigh 54 = .ok (.getfield 49, 3) := by decide +kernel
theorem dX5_weigh_57 : decode cX5_weigh 57 = .ok (.iconst 1, 1) := by decide +kernel
theorem dX5_weigh_58 : decode cX5_weigh 58 = .ok (.iadd, 1) := by decide +kernel
theorem dX5_weigh_59 : decode cX5_weigh 59 = .ok (.putfield 49, 3) := by decide +kernel
theorem dX5_weigh_62 : decode cX5_weigh 62 = .ok (.aload_n 0, 1) := by decide +kernel
theorem dX5_weigh_63 : decode cX5_weigh 63 = .ok (.getfield 26, 3) := by decide +kernel
theorem dX5_weigh_66 : decode cX5_weigh 66 = .ok (.invokevirtual 89, 3) := by decide +kernel
theorem dX5_weigh_69 : decode cX5_weigh 69 = .ok (.istore 4, 2) := by decide +kernel
theorem dX5_weigh_71 : decode cX5_weigh 71 = .ok (.aload_n 0, 1) := by decide +kernel
theorem dX5_weigh_72 : decode cX5_weigh 72 = .ok (.dup, 1) := by decide +kernel
theorem dX5_weigh_73 : decode cX5_weigh 73 = .ok (.getfield 55, 3) := by decide +kernel
theorem dX5_weigh_76 : decode cX5_weigh 76 = .ok (.iload 4, 2) := by decide +kernel
theorem dX5_weigh_78 : decode cX5_weigh 78 = .ok (.ior, 1) := by decide +kernel
theorem dX5_weigh_79 : decode cX5_weigh 79 = .ok (.putfield 55, 3) := by decide +kernel
theorem dX5_weigh_82 : decode cX5_weigh 82 = .ok (.aload_n 0, 1) := by decide +kernel
theorem dX5_weigh_83 : decode cX5_weigh 83 = .ok (.getfield 36, 3) := by decide +kernel
theorem dX5_weigh_86 : decode cX5_weigh 86 = .ok (.iload 4, 2) := by decide +kernel
theorem dX5_weigh_88 : decode cX5_weigh 88 = .ok (.iconst (-1), 1) := by decide +kernel
theorem dX5_weigh_89 : decode cX5_weigh 89 = .ok (.ixor, 1) := by decide +kernel
theorem dX5_weigh_90 : decode cX5_weigh 90 = .ok (.iand, 1) := by decide +kernel
theorem dX5_weigh_91 : decode cX5_weigh 91 = .ok (.ifCond .ne 25, 3) := by decide +kernel
theorem dX5_weigh_94 : decode cX5_weigh 94 = .ok (.aload_n 0, 1) := by decide +kernel
theorem dX5_weigh_95 : decode cX5_weigh 95 = .ok (.getfield 52, 3) := by decide +kernel
theorem dX5_weigh_98 : decode cX5_weigh 98 = .ok (.bipush (-3), 2) := by decide +kernel
theorem dX5_weigh_100 : decode cX5_weigh 100 = .ok (.if_icmp .eq 11, 3) := by decide +kernel
theorem dX5_weigh_103 : decode cX5_weigh 103 = .ok (.iload_n 3, 1) := by decide +kernel
theorem dX5_weigh_104 : decode cX5_weigh 104 = .ok (.aload_n 0, 1) := by decide +kernel
theorem dX5_weigh_105 : decode cX5_weigh 105 = .ok (.getfield 52, 3) := by decide +kernel
theorem dX5_weigh_108 : decode cX5_weigh 108 = .ok (.if_icmp .ge 8, 3) := by decide +kernel
theorem dX5_weigh_111 : decode cX5_weigh 111 = .ok (.aload_n 0, 1) := by decide +kernel
theorem dX5_weigh_112 : decode cX5_weigh 112 = .ok (.iload_n 3, 1) := by decide +kernel
theorem dX5_weigh_113 : decode cX5_weigh 113 = .ok (.putfield 52, 3) := by decide +kernel
theorem dX5_weigh_116 : decode cX5_weigh 116 = .ok (.return_, 1) := by decide +kernel
theorem k_X5_weigh : MV yX5_weigh cX5_weigh 5 none 3 := ⟨q_788, qs_24, q_13, q_789, ⟨by decide, by decide, by decide +kernel⟩⟩
theorem c_X5_weigh {v1 : Int32} {v2 : Int32} {v3 : Int32} {res : (Nat → Int32) × Int32 × Int32 × Int32 × Int32 × Int32} (hf : X5_weigh n x_q2_dials x_q2_count x_p_first x_p_steps x_p_most x_p_many x_p_fewest x_p_everRight x_p_acts x_p_wanted v1 v2 v3 = some res) : MC l E0 D t yX5_weigh cX5_weigh 5 none 3 0 0 [.ref (a 84), .int v1, .int v2, .int v3] (cW a ar t x_q0_dials x_q0_spots x_q0_skies x_q0_reports x_q0_count x_q0_chime x_q0_end x_q0_score x_q0_reportCount x_q0_z x_q0_rules x_q0_shades x_q0_facts x_q1_dials x_q1_spots x_q1_skies x_q1_reports x_q1_count x_q1_chime x_q1_end x_q1_score x_q1_reportCount x_q1_z x_q1_rules x_q1_shades x_q1_facts x_q2_dials x_q2_spots x_q2_skies x_q2_reports x_q2_count x_q2_chime x_q2_end x_q2_score x_q2_reportCount x_q2_z x_q2_rules x_q2_shades x_q2_facts x_isKept x_marks x_p_first x_p_steps x_p_most x_p_many x_p_fewest x_p_everRight x_p_opening x_p_rows x_p_rowCount x_p_acts x_p_marks x_p_deepest x_p_wanted x_t_length x_t_tape x_t_words x_t_places x_t_at x_t_kinds x_t_wills x_t_starts x_t_code x_t_count x_t_size x_h_sorts x_h_lengths x_h_items x_h_held x_h_things x_h_sizes x_h_bodies x_h_traced x_h_number x_h_spot x_h_parted x_g_count x_g_kinds x_g_wills x_g_starts x_g_code x_g_stack x_g_kl x_g_wl x_g_sl x_g_cl x_nr) (Qn (cW a ar t x_q0_dials x_q0_spots x_q0_skies x_q0_reports x_q0_count x_q0_chime x_q0_end x_q0_score x_q0_reportCount x_q0_z x_q0_rules x_q0_shades x_q0_facts x_q1_dials x_q1_spots x_q1_skies x_q1_reports x_q1_count x_q1_chime x_q1_end x_q1_score x_q1_reportCount x_q1_z x_q1_rules x_q1_shades x_q1_facts x_q2_dials x_q2_spots x_q2_skies x_q2_reports x_q2_count x_q2_chime x_q2_end x_q2_score x_q2_reportCount x_q2_z x_q2_rules x_q2_shades x_q2_facts x_isKept x_marks res.1 res.2.1 res.2.2.1 res.2.2.2.1 res.2.2.2.2.1 res.2.2.2.2.2 x_p_opening x_p_rows x_p_rowCount x_p_acts x_p_marks x_p_deepest x_p_wanted x_t_length x_t_tape x_t_words x_t_places x_t_at x_t_kinds x_t_wills x_t_starts x_t_code x_t_count x_t_size x_h_sorts x_h_lengths x_h_items x_h_held x_h_things x_h_sizes x_h_bodies x_h_traced x_h_number x_h_spot x_h_parted x_g_count x_g_kinds x_g_wills x_g_starts x_g_code x_g_stack x_g_kl x_g_wl x_g_sl x_g_cl x_nr)) := by
  unfold X5_weigh at hf
  refine MC.ofV pn_X5 (Nat.le_of_ble_eq_true rfl) ?_
  intro p e s m args below meth c A Q ls cx hR hw hl
  have hx := cx.1
  have hb := cx.2.1
  have hl : lv_has ls 5 [(0, .ref (a 84)), (1, .int v1), (2, .int v2), (3, .int v3)] := hl
  refine lv_aload_n hx hb dX5_weigh_0 rfl (lv_at hl 0 rfl) ?_
  refine cg_X5_49_plans cx hw dX5_weigh_1 ?_
  obtain ⟨j3, hj3, hf⟩ := bnS hf
  have wj3 : ∀ (H : Heap) (locs : List Loc) (ls : Array Slot), Wd D A s (cW a ar t x_q0_dials x_q0_spots x_q0_skies x_q0_reports x_q0_count x_q0_chime x_q0_end x_q0_score x_q0_reportCount x_q0_z x_q0_rules x_q0_shades x_q0_facts x_q1_dials x_q1_spots x_q1_skies x_q1_reports x_q1_count x_q1_chime x_q1_end x_q1_score x_q1_reportCount x_q1_z x_q1_rules x_q1_shades x_q1_facts x_q2_dials x_q2_spots x_q2_skies x_q2_reports x_q2_count x_q2_chime x_q2_end x_q2_score x_q2_reportCount x_q2_z x_q2_rules x_q2_shades x_q2_facts x_isKept x_marks j3.1 j3.2.1 j3.2.2.1 j3.2.2.2 x_p_fewest x_p_everRight x_p_opening x_p_rows x_p_rowCount x_p_acts x_p_marks x_p_deepest x_p_wanted x_t_length x_t_tape x_t_words x_t_places x_t_at x_t_kinds x_t_wills x_t_starts x_t_code x_t_count x_t_size x_h_sorts x_h_lengths x_h_items x_h_held x_h_things x_h_sizes x_h_bodies x_h_traced x_h_number x_h_spot x_h_parted x_g_count x_g_kinds x_g_wills x_g_starts x_g_code x_g_stack x_g_kl x_g_wl x_g_sl x_g_cl x_nr) H locs → lv_has ls 5 [(0, .ref (a 84)), (1, .int v1), (2, .int v2), (3, .int v3)] → W p l e (rmz 3 0 0) s m args below meth c H locs 0 0 Q (F0 m 44 ls []) := by
    intro H locs ls hw hl
    refine lv_iload_n hx hb dX5_weigh_44 rfl (lv_at hl 2 rfl) ?_
    refine lv_aload_n hx hb dX5_weigh_45 rfl (lv_at hl 0 rfl) ?_
    refine cg_X5_46_plans cx hw dX5_weigh_46 ?_
    obtain ⟨j4, hj4, hf⟩ := pbS hf
    have wj4 : ∀ (H : Heap) (locs : List Loc) (ls : Array Slot), Wd D A s (cW a ar t x_q0_dials x_q0_spots x_q0_skies x_q0_reports x_q0_count x_q0_chime x_q0_end x_q0_score x_q0_reportCount x_q0_z x_q0_rules x_q0_shades x_q0_facts x_q1_dials x_q1_spots x_q1_skies x_q1_reports x_q1_count x_q1_chime x_q1_end x_q1_score x_q1_reportCount x_q1_z x_q1_rules x_q1_shades x_q1_facts x_q2_dials x_q2_spots x_q2_skies x_q2_reports x_q2_count x_q2_chime x_q2_end x_q2_score x_q2_reportCount x_q2_z x_q2_rules x_q2_shades x_q2_facts x_isKept x_marks j3.1 j3.2.1 j3.2.2.1 j4 x_p_fewest x_p_everRight x_p_opening x_p_rows x_p_rowCount x_p_acts x_p_marks x_p_deepest x_p_wanted x_t_length x_t_tape x_t_words x_t_places x_t_at x_t_kinds x_t_wills x_t_starts x_t_code x_t_count x_t_size x_h_sorts x_h_lengths x_h_items x_h_held x_h_things x_h_sizes x_h_bodies x_h_traced x_h_number x_h_spot x_h_parted x_g_count x_g_kinds x_g_wills x_g_starts x_g_code x_g_stack x_g_kl x_g_wl x_g_sl x_g_cl x_nr) H locs → lv_has ls 5 [(0, .ref (a 84)), (1, .int v1), (2, .int v2), (3, .int v3)] → W p l e (rmz 3 0 0) s m args below meth c H locs 0 0 Q (F0 m 62 ls []) := by
      intro H locs ls hw hl
      refine lv_aload_n hx hb dX5_weigh_62 rfl (lv_at hl 0 rfl) ?_
      refine cg_X5_26_plans cx hw dX5_weigh_63 ?_
      obtain ⟨r5, h6, hf⟩ := bnS hf
      refine calVi cx hw hl.1 (c_X9_rightSet_q2 h6) q_791 k_X9_rightSet rfl rv_q2 rfl dX5_weigh_66 rfl (Nat.le_of_ble_eq_true rfl) ⟨Nat.le_of_ble_eq_true rfl, Nat.le_of_ble_eq_true rfl⟩ ⟨Nat.le_refl _, Nat.le_refl _⟩ (fun H locs hw => ?_)
      refine lv_istore (lv' := [(4, .int r5), (0, .ref (a 84)), (1, .int v1), (2, .int v2), (3, .int v3)]) hx hb dX5_weigh_69 hl (by decide) rfl (fun ls hl => ?_)
      refine lv_aload_n hx hb dX5_weigh_71 rfl (lv_at hl 1 rfl) ?_
      refine lv_dup hx hb dX5_weigh_72 rfl ?_
      refine cg_X5_55_plans cx hw dX5_weigh_73 ?_
      refine lv_iload hx hb dX5_weigh_76 (lv_at hl 0 rfl) ?_
      refine lv_ior hx hb dX5_weigh_78 ?_
      refine cp_X5_55_plans cx hw dX5_weigh_79 (fun H locs hw => ?_)
      refine lv_aload_n hx hb dX5_weigh_82 rfl (lv_at hl 1 rfl) ?_
      refine cg_X5_36_plans cx hw dX5_weigh_83 ?_
      refine lv_iload hx hb dX5_weigh_86 (lv_at hl 0 rfl) ?_
      refine lv_iconst (v := (-1)) hx hb dX5_weigh_88 (by decide) ?_
      refine lv_ixor hx hb dX5_weigh_89 ?_
      refine lv_iand hx hb dX5_weigh_90 ?_
      refine lv_if_ne (tgt := 116) hx hb dX5_weigh_91 (by decide) (fun hc => ?_) (fun hc => ?_)
      · have hf := ifF hf hc
        have hf := Option.some.inj hf
        subst hf
        exact hR _ _ _ _ _ hw ⟨rfl, rfl⟩ dX5_weigh_116
      · have hf := ifT hf hc
        refine lv_aload_n hx hb dX5_weigh_94 rfl (lv_at hl 1 rfl) ?_
        refine cg_X5_52_plans cx hw dX5_weigh_95 ?_
        refine lv_bipush (v := (-3)) hx hb dX5_weigh_98 (by decide) ?_
        refine lv_icmp_eq (tgt := 111) hx hb dX5_weigh_100 (by decide) (fun hc => ?_) (fun hc => ?_)
        · have hf := ifT hf hc
          refine lv_aload_n hx hb dX5_weigh_111 rfl (lv_at hl 1 rfl) ?_
          refine lv_iload_n hx hb dX5_weigh_112 rfl (lv_at hl 4 rfl) ?_
          refine cp_X5_52_plans cx hw dX5_weigh_113 (fun H locs hw => ?_)
          have hf := Option.some.inj hf
          subst hf
          exact hR _ _ _ _ _ hw ⟨rfl, rfl⟩ dX5_weigh_116
        · have hf := ifF hf hc
          refine lv_iload_n hx hb dX5_weigh_103 rfl (lv_at hl 4 rfl) ?_
          refine lv_aload_n hx hb dX5_weigh_104 rfl (lv_at hl 1 rfl) ?_
          refine cg_X5_52_plans cx hw dX5_weigh_105 ?_
          refine lv_icmp_ge (tgt := 116) hx hb dX5_weigh_108 (by decide) (fun hc => ?_) (fun hc => ?_)
          · have hf := ifT hf hc
            have hf := Option.some.inj hf
            subst hf
            exact hR _ _ _ _ _ hw ⟨rfl, rfl⟩ dX5_weigh_116
          · have hf := ifF hf hc
            refine lv_aload_n hx hb dX5_weigh_111 rfl (lv_at hl 1 rfl) ?_
            refine lv_iload_n hx hb dX5_weigh_112 rfl (lv_at hl 4 rfl) ?_
            refine cp_X5_52_plans cx hw dX5_weigh_113 (fun H locs hw => ?_)
            have hf := Option.some.inj hf
            subst hf
            exact hR _ _ _ _ _ hw ⟨rfl, rfl⟩ dX5_weigh_116
    clear hf
    have hf := hj4
    clear hj4
    refine lv_icmp_ne (tgt := 62) hx hb dX5_weigh_49 (by decide) (fun hc => ?_) (fun hc => ?_)
    · have hf := ifF hf hc
      subst hf
      exact wj4 _ _ _ hw (lv_sub hl [0, 1, 2, 3] rfl)
    · have hf := ifT hf hc
      refine lv_aload_n hx hb dX5_weigh_52 rfl (lv_at hl 0 rfl) ?_
      refine lv_dup hx hb dX5_weigh_53 rfl ?_
      refine cg_X5_49_plans cx hw dX5_weigh_54 ?_
      refine lv_iconst (v := 1) hx hb dX5_weigh_57 (by decide) ?_
      refine lv_iadd hx hb dX5_weigh_58 ?_
      refine cp_X5_49_plans cx hw dX5_weigh_59 (fun H locs hw => ?_)
      subst hf
      exact wj4 _ _ _ hw (lv_sub hl [0, 1, 2, 3] rfl)
  clear hf
  have hf := hj3
  clear hj3
  refine lv_if_eq (tgt := 15) hx hb dX5_weigh_4 (by decide) (fun hc => ?_) (fun hc => ?_)
  · have hf := ifT hf hc
    refine lv_aload_n hx hb dX5_weigh_15 rfl (lv_at hl 0 rfl) ?_
    refine lv_iload_n hx hb dX5_weigh_16 rfl (lv_at hl 2 rfl) ?_
    refine cp_X5_46_plans cx hw dX5_weigh_17 (fun H locs hw => ?_)
    refine lv_aload_n hx hb dX5_weigh_20 rfl (lv_at hl 0 rfl) ?_
    refine lv_iconst (v := 0) hx hb dX5_weigh_21 (by decide) ?_
    refine cp_X5_49_plans cx hw dX5_weigh_22 (fun H locs hw => ?_)
    refine lv_aload_n hx hb dX5_weigh_25 rfl (lv_at hl 0 rfl) ?_
    refine lv_iload_n hx hb dX5_weigh_26 rfl (lv_at hl 1 rfl) ?_
    refine cp_X5_43_plans cx hw dX5_weigh_27 (fun H locs hw => ?_)
    refine lv_aload_n hx hb dX5_weigh_30 rfl (lv_at hl 0 rfl) ?_
    refine cg_X5_20_plans cx hw dX5_weigh_31 ?_
    refine lv_iconst (v := 0) hx hb dX5_weigh_34 (by decide) ?_
    refine lv_aload_n hx hb dX5_weigh_35 rfl (lv_at hl 0 rfl) ?_
    refine cg_X5_9_plans cx hw dX5_weigh_36 ?_
    refine lv_iconst (v := 0) hx hb dX5_weigh_39 (by decide) ?_
    refine lv_iload_n hx hb dX5_weigh_40 rfl (lv_at hl 1 rfl) ?_
    obtain ⟨h1, hf⟩ := ckS hf
    refine ca_p_acts_p_first_X5_83 cx hw hl.1 h1 dX5_weigh_41 (Nat.le_of_ble_eq_true rfl) (Nat.le_of_ble_eq_true rfl) (fun H locs hw => ?_)
    have hf := Option.some.inj hf
    subst hf
    exact wj3 _ _ _ hw (lv_sub hl [0, 1, 2, 3] rfl)
  · have hf := ifF hf hc
    refine lv_iload_n hx hb dX5_weigh_7 rfl (lv_at hl 2 rfl) ?_
    refine lv_aload_n hx hb dX5_weigh_8 rfl (lv_at hl 0 rfl) ?_
    refine cg_X5_46_plans cx hw dX5_weigh_9 ?_
    refine lv_icmp_le (tgt := 44) hx hb dX5_weigh_12 (by decide) (fun hc => ?_) (fun hc => ?_)
    · have hf := ifT hf hc
      have hf := Option.some.inj hf
      subst hf
      exact wj3 _ _ _ hw (lv_sub hl [0, 1, 2, 3] rfl)
    · have hf := ifF hf hc
      refine lv_aload_n hx hb dX5_weigh_15 rfl (lv_at hl 0 rfl) ?_
      refine lv_iload_n hx hb dX5_weigh_16 rfl (lv_at hl 2 rfl) ?_
      refine cp_X5_46_plans cx hw dX5_weigh_17 (fun H locs hw => ?_)
      refine lv_aload_n hx hb dX5_weigh_20 rfl (lv_at hl 0 rfl) ?_
      refine lv_iconst (v := 0) hx hb dX5_weigh_21 (by decide) ?_
      refine cp_X5_49_plans cx hw dX5_weigh_22 (fun H locs hw => ?_)
      refine lv_aload_n hx hb dX5_weigh_25 rfl (lv_at hl 0 rfl) ?_
      refine lv_iload_n hx hb dX5_weigh_26 rfl (lv_at hl 1 rfl) ?_
      refine cp_X5_43_plans cx hw dX5_weigh_27 (fun H locs hw => ?_)
      refine lv_aload_n hx hb dX5_weigh_30 rfl (lv_at hl 0 rfl) ?_
      refine cg_X5_20_plans cx hw dX5_weigh_31 ?_
      refine lv_iconst (v := 0) hx hb dX5_weigh_34 (by decide) ?_
      refine lv_aload_n hx hb dX5_weigh_35 rfl (lv_at hl 0 rfl) ?_
      refine cg_X5_9_plans cx hw dX5_weigh_36 ?_
      refine lv_iconst (v := 0) hx hb dX5_weigh_39 (by decide) ?_
      refine lv_iload_n hx hb dX5_weigh_40 rfl (lv_at hl 1 rfl) ?_
      obtain ⟨h2, hf⟩ := ckS hf
      refine ca_p_acts_p_first_X5_83 cx hw hl.1 h2 dX5_weigh_41 (Nat.le_of_ble_eq_true rfl) (Nat.le_of_ble_eq_true rfl) (fun H locs hw => ?_)
      have hf := Option.some.inj hf
      subst hf
      exact wj3 _ _ _ hw (lv_sub hl [0, 1, 2, 3] rfl)
theorem dX5_explore_0 : decode cX5_explore 0 = .ok (.iload_n 1, 1) := by decide +kernel
theorem dX5_explore_1 : decode cX5_explore 1 = .ok (.aload_n 0, 1) := by decide +kernel
theorem dX5_explore_2 : decode cX5_explore 2 = .ok (.getfield 40, 3) := by decide +kernel
theorem dX5_explore_5 : decode cX5_explore 5 = .ok (.if_icmp .ge 18, 3) := by decide +kernel
theorem dX5_explore_8 : decode cX5_explore 8 = .ok (.iload_n 1, 1) := by decide +kernel
theorem dX5_explore_9 : decode cX5_explore 9 = .ok (.iconst 4, 1) := by decide +kernel
theorem dX5_explore_10 : decode cX5_explore 10 = .ok (.if_icmp .ge 13, 3) := by decide +kernel
theorem dX5_explore_13 : decode cX5_explore 13 = .ok (.aload_n 0, 1) := by decide +kernel
theorem dX5_explore_14 : decode cX5_explore 14 = .ok (.getfield 26, 3) := by decide +kernel
theorem dX5_explore_17 : decode cX5_explore 17 = .ok (.invokevirtual 62, 3) := by decide +kernel
theorem dX5_explore_20 : decode cX5_explore 20 = .ok (.ifCond .eq 11, 3) := by decide +kernel
theorem dX5_explore_23 : decode cX5_explore 23 = .ok (.aload_n 0, 1) := by decide +kernel
theorem dX5_explore_24 : decode cX5_explore 24 = .ok (.iload_n 1, 1) := by decide +kernel
theorem dX5_explore_25 : decode cX5_explore 25 = .ok (.iload_n 2, 1) := by decide +kernel
theorem dX5_explore_26 : decode cX5_explore 26 = .ok (.iload_n 3, 1) := by decide +kernel
theorem dX5_explore_27 : decode cX5_explore 27 = .ok (.invokevirtual 66, 3) := by decide +kernel
theorem dX5_explore_30 : decode cX5_explore 30 = .ok (.return_, 1) := by decide +kernel
theorem dX5_explore_31 : decode cX5_explore 31 = .ok (.aload_n 0, 1) := by decide +kernel
theorem dX5_explore_32 : decode cX5_explore 32 = .ok (.getfield 26, 3) := by decide +kernel
theorem dX5_explore_35 : decode cX5_explore 35 = .ok (.aload_n 0, 1) := by decide +kernel
theorem dX5_explore_36 : decode cX5_explore 36 = .ok (.getfield 23, 3) := by decide +kernel
theorem dX5_explore_39 : decode cX5_explore 39 = .ok (.iload_n 1, 1) := by decide +kernel
theorem dX5_explore_40 : decode cX5_explore 40 = .ok (.aaload, 1) := by decide +kernel
theorem dX5_explore_41 : decode cX5_explore 41 = .ok (.invokevirtual 69, 3) := by decide +kernel
theorem dX5_explore_44 : decode cX5_explore 44 = .ok (.iconst 0, 1) := by decide +kernel
theorem dX5_explore_45 : decode cX5_explore 45 = .ok (.istore 4, 2) := by decide +kernel
theorem dX5_explore_47 : decode cX5_explore 47 = .ok (.iload 4, 2) := by decide +kernel
theorem dX5_explore_49 : decode cX5_explore 49 = .ok (.aload_n 0, 1) := by decide +kernel
theorem dX5_explore_50 : decode cX5_explore 50 = .ok (.getfield 26, 3) := by decide +kernel
theorem dX5_explore_53 : decode cX5_explore 53 = .ok (.getfield 73, 3) := by decide +kernel
theorem dX5_explore_56 : decode cX5_explore 56 = .ok (.if_icmp .gt 60, 3) := by decide +kernel
theorem dX5_explore_59 : decode cX5_explore 59 = .ok (.aload_n 0, 1) := by decide +kernel
theorem dX5_explore_60 : decode cX5_explore 60 = .ok (.getfield 26, 3) := by decide +kernel
theorem dX5_explore_63 : decode cX5_explore 63 = .ok (.aload_n 0, 1) := by decide +kernel
theorem dX5_explore_64 : decode cX5_explore 64 = .ok (.getfield 23, 3) := by decide +kernel
theorem dX5_explore_67 : decode cX5_explore 67 = .ok (.iload_n 1, 1) := by decide +kernel
theorem dX5_explore_68 : decode cX5_explore 68 = .ok (.aaload, 1) := by decide +kernel
theorem dX5_explore_69 : decode cX5_explore 69 = .ok (.invokevirtual 76, 3) := by decide +kernel
theorem dX5_explore_72 : decode cX5_explore 72 = .ok (.aload_n 0, 1) := by decide +kernel
theorem dX5_explore_73 : decode cX5_explore 73 = .ok (.getfield 20, 3) := by decide +kernel
theorem dX5_explore_76 : decode cX5_explore 76 = .ok (.iload_n 1, 1) := by decide +kernel
theorem dX5_explore_77 : decode cX5_explore 77 = .ok (.iload 4, 2) := by decide +kernel
theorem dX5_explore_79 : decode cX5_explore 79 = .ok (.iastore, 1) := by decide +kernel
theorem dX5_explore_80 : decode cX5_explore 80 = .ok (.aload_n 0, 1) := by decide +kernel
theorem dX5_explore_81 : decode cX5_explore 81 = .ok (.iload_n 1, 1) := by decide +kernel
theorem dX5_explore_82 : decode cX5_explore 82 = .ok (.iconst 1, 1) := by decide +kernel
theorem dX5_explore_83 : decode cX5_explore 83 = .ok (.iadd, 1) := by decide +kernel
theorem dX5_explore_84 : decode cX5_explore 84 = .ok (.iload_n 2, 1) := by decide +kernel
theorem dX5_explore_85 : decode cX5_explore 85 = .ok (.aload_n 0, 1) := by decide +kernel
theorem dX5_explore_86 : decode cX5_explore 86 = .ok (.getfield 26, 3) := by decide +kernel
theorem dX5_explore_89 : decode cX5_explore 89 = .ok (.iload 4, 2) := by decide +kernel
theorem dX5_explore_91 : decode cX5_explore 91 = .ok (.invokevirtual 79, 3) := by decide +kernel
theorem dX5_explore_94 : decode cX5_explore 94 = .ok (.iadd, 1) := by decide +kernel
theorem dX5_explore_95 : decode cX5_explore 95 = .ok (.iload 4, 2) := by decide +kernel
theorem dX5_explore_97 : decode cX5_explore 97 = .ok (.ifCond .ne 7, 3) := by decide +kernel
theorem dX5_explore_100 : decode cX5_explore 100 = .ok (.iload_n 3, 1) := by decide +kernel
theorem dX5_explore_101 : decode cX5_explore 101 = .ok (.goto 6, 3) := by decide +kernel
theorem dX5_explore_104 : decode cX5_explore 104 = .ok (.iload_n 3, 1) := by decide +kernel
theorem dX5_explore_105 : decode cX5_explore 105 = .ok (.iconst 1, 1) := by decide +kernel
theorem dX5_explore_106 : decode cX5_explore 106 = .ok (.iadd, 1) := by decide +kernel
theorem dX5_explore_107 : decode cX5_explore 107 = .ok (.invokevirtual 58, 3) := by decide +kernel
theorem dX5_explore_110 : decode cX5_explore 110 = .ok (.iinc 4 1, 3) := by decide +kernel
theorem dX5_explore_113 : decode cX5_explore 113 = .ok (.goto (-66), 3) := by decide +kernel
theorem dX5_explore_116 : decode cX5_explore 116 = .ok (.return_, 1) := by decide +kernel
theorem k_X5_explore : MV yX5_explore cX5_explore 5 none 3 := ⟨q_783, qs_23, q_13, q_784, ⟨by decide, by decide, by decide +kernel⟩⟩
theorem cb_X5_explore {F : (Nat → Nat → Int32) → (Nat → Nat → Int32) → (Nat → Int32) → Int32 → Int32 → Int32 → Int32 → Nat → (Nat → Int32) → (Nat → Int32) → (Nat → Int32) → Int32 → Int32 → Int32 → Int32 → Int32 → (Nat → Int32) → (Nat → Nat → Int32) → Int32 → Int32 → (Nat → Int32) → (Nat → Nat → Int32) → (Nat → Nat → Int32) → (Nat → Nat → Int32) → (Nat → Nat → Int32) → (Nat → Nat → Int32) → (Nat → Nat) → (Nat → Nat) → (Nat → Nat) → (Nat → Nat) → Nat → Int32 → Int32 → Int32 → Option ((Nat → Nat → Int32) × Int32 × Int32 × (Nat → Int32) × (Nat → Int32) × (Nat → Int32) × Int32 × Int32 × Int32 × Int32 × Int32 × (Nat → Int32) × (Nat → Nat → Int32) × (Nat → Nat → Int32))} {d : Nat} (hF0 : ∀ {x_q0_dials : Nat → Nat → Int32} {x_q0_spots : Nat → Nat → Int32} {x_q0_skies : Nat → Int32} {x_q0_reports : Nat → Nat → Int32} {x_q0_count : Int32} {x_q0_chime : Int32} {x_q0_end : Int32} {x_q0_score : Int32} {x_q0_reportCount : Int32} {x_q0_z : Int32} {x_q0_rules : Nat} {x_q0_shades : Nat → Int32} {x_q0_facts : Nat → Int32} {x_q1_dials : Nat → Nat → Int32} {x_q1_spots : Nat → Nat → Int32} {x_q1_skies : Nat → Int32} {x_q1_reports : Nat → Nat → Int32} {x_q1_count : Int32} {x_q1_chime : Int32} {x_q1_end : Int32} {x_q1_score : Int32} {x_q1_reportCount : Int32} {x_q1_z : Int32} {x_q1_rules : Nat} {x_q1_shades : Nat → Int32} {x_q1_facts : Nat → Int32} {x_q2_dials : Nat → Nat → Int32} {x_q2_spots : Nat → Nat → Int32} {x_q2_skies : Nat → Int32} {x_q2_reports : Nat → Nat → Int32} {x_q2_count : Int32} {x_q2_chime : Int32} {x_q2_end : Int32} {x_q2_score : Int32} {x_q2_reportCount : Int32} {x_q2_z : Int32} {x_q2_rules : Nat} {x_q2_shades : Nat → Int32} {x_q2_facts : Nat → Int32} {x_isKept : Int32} {x_marks : Nat → Int32} {x_p_first : Nat → Int32} {x_p_steps : Int32} {x_p_most : Int32} {x_p_many : Int32} {x_p_fewest : Int32} {x_p_everRight : Int32} {x_p_opening : Int32} {x_p_rows : Nat → Nat → Int32} {x_p_rowCount : Int32} {x_p_acts : Nat → Int32} {x_p_marks : Nat → Nat → Int32} {x_p_deepest : Int32} {x_p_wanted : Int32} {x_t_length : Int32} {x_t_tape : Nat → Int32} {x_t_words : Nat → Int32} {x_t_places : Nat → Int32} {x_t_at : Int32} {x_t_kinds : Nat → Int32} {x_t_wills : Nat → Int32} {x_t_starts : Nat → Int32} {x_t_code : Nat → Int32} {x_t_count : Int32} {x_t_size : Int32} {x_h_sorts : Nat → Int32} {x_h_lengths : Nat → Int32} {x_h_items : Nat → Nat → Int32} {x_h_held : Nat → Int32} {x_h_things : Nat → Int32} {x_h_sizes : Nat → Int32} {x_h_bodies : Nat → Int32} {x_h_traced : Int32} {x_h_number : Int32} {x_h_spot : Int32} {x_h_parted : Int32} {x_g_count : Nat → Int32} {x_g_kinds : Nat → Nat → Int32} {x_g_wills : Nat → Nat → Int32} {x_g_starts : Nat → Nat → Int32} {x_g_code : Nat → Nat → Int32} {x_g_stack : Nat → Nat → Int32} {x_g_kl : Nat → Nat} {x_g_wl : Nat → Nat} {x_g_sl : Nat → Nat} {x_g_cl : Nat → Nat} {x_nr : Nat} {v1 : Int32} {v2 : Int32} {v3 : Int32} {res : (Nat → Nat → Int32) × Int32 × Int32 × (Nat → Int32) × (Nat → Int32) × (Nat → Int32) × Int32 × Int32 × Int32 × Int32 × Int32 × (Nat → Int32) × (Nat → Nat → Int32) × (Nat → Nat → Int32)}, F x_q2_dials x_q2_spots x_q2_skies x_q2_count x_q2_chime x_q2_end x_q2_score x_q2_rules x_q2_shades x_q2_facts x_p_first x_p_steps x_p_most x_p_many x_p_fewest x_p_everRight x_p_acts x_p_marks x_p_deepest x_p_wanted x_g_count x_g_kinds x_g_wills x_g_starts x_g_code x_g_stack x_g_kl x_g_wl x_g_sl x_g_cl x_nr v1 v2 v3 = some res → MC l E0 D t yX5_explore cX5_explore 5 none (6 + 4 * d) 0 0 [.ref (a 84), .int v1, .int v2, .int v3] (cW a ar t x_q0_dials x_q0_spots x_q0_skies x_q0_reports x_q0_count x_q0_chime x_q0_end x_q0_score x_q0_reportCount x_q0_z x_q0_rules x_q0_shades x_q0_facts x_q1_dials x_q1_spots x_q1_skies x_q1_reports x_q1_count x_q1_chime x_q1_end x_q1_score x_q1_reportCount x_q1_z x_q1_rules x_q1_shades x_q1_facts x_q2_dials x_q2_spots x_q2_skies x_q2_reports x_q2_count x_q2_chime x_q2_end x_q2_score x_q2_reportCount x_q2_z x_q2_rules x_q2_shades x_q2_facts x_isKept x_marks x_p_first x_p_steps x_p_most x_p_many x_p_fewest x_p_everRight x_p_opening x_p_rows x_p_rowCount x_p_acts x_p_marks x_p_deepest x_p_wanted x_t_length x_t_tape x_t_words x_t_places x_t_at x_t_kinds x_t_wills x_t_starts x_t_code x_t_count x_t_size x_h_sorts x_h_lengths x_h_items x_h_held x_h_things x_h_sizes x_h_bodies x_h_traced x_h_number x_h_spot x_h_parted x_g_count x_g_kinds x_g_wills x_g_starts x_g_code x_g_stack x_g_kl x_g_wl x_g_sl x_g_cl x_nr) (Qn (cW a ar t x_q0_dials x_q0_spots x_q0_skies x_q0_reports x_q0_count x_q0_chime x_q0_end x_q0_score x_q0_reportCount x_q0_z x_q0_rules x_q0_shades x_q0_facts x_q1_dials x_q1_spots x_q1_skies x_q1_reports x_q1_count x_q1_chime x_q1_end x_q1_score x_q1_reportCount x_q1_z x_q1_rules x_q1_shades x_q1_facts res.1 x_q2_spots x_q2_skies x_q2_reports x_q2_count res.2.1 x_q2_end res.2.2.1 x_q2_reportCount x_q2_z x_q2_rules res.2.2.2.1 res.2.2.2.2.1 x_isKept x_marks res.2.2.2.2.2.1 res.2.2.2.2.2.2.1 res.2.2.2.2.2.2.2.1 res.2.2.2.2.2.2.2.2.1 res.2.2.2.2.2.2.2.2.2.1 res.2.2.2.2.2.2.2.2.2.2.1 x_p_opening x_p_rows x_p_rowCount res.2.2.2.2.2.2.2.2.2.2.2.1 res.2.2.2.2.2.2.2.2.2.2.2.2.1 x_p_deepest x_p_wanted x_t_length x_t_tape x_t_words x_t_places x_t_at x_t_kinds x_t_wills x_t_starts x_t_code x_t_count x_t_size x_h_sorts x_h_lengths x_h_items x_h_held x_h_things x_h_sizes x_h_bodies x_h_traced x_h_number x_h_spot x_h_parted x_g_count x_g_kinds x_g_wills x_g_starts x_g_code res.2.2.2.2.2.2.2.2.2.2.2.2.2 x_g_kl x_g_wl x_g_sl x_g_cl x_nr))) {v1 : Int32} {v2 : Int32} {v3 : Int32} {res : (Nat → Nat → Int32) × Int32 × Int32 × (Nat → Int32) × (Nat → Int32) × (Nat → Int32) × Int32 × Int32 × Int32 × Int32 × Int32 × (Nat → Int32) × (Nat → Nat → Int32) × (Nat → Nat → Int32)} (hf : X5_explore_b n F x_q2_dials x_q2_spots x_q2_skies x_q2_count x_q2_chime x_q2_end x_q2_score x_q2_rules x_q2_shades x_q2_facts x_p_first x_p_steps x_p_most x_p_many x_p_fewest x_p_everRight x_p_acts x_p_marks x_p_deepest x_p_wanted x_g_count x_g_kinds x_g_wills x_g_starts x_g_code x_g_stack x_g_kl x_g_wl x_g_sl x_g_cl x_nr v1 v2 v3 = some res) : MC l E0 D t yX5_explore cX5_explore 5 none (6 + 4 * (d + 1)) 0 0 [.ref (a 84), .int v1, .int v2, .int v3] (cW a ar t x_q0_dials x_q0_spots x_q0_skies x_q0_reports x_q0_count x_q0_chime x_q0_end x_q0_score x_q0_reportCount x_q0_z x_q0_rules x_q0_shades x_q0_facts x_q1_dials x_q1_spots x_q1_skies x_q1_reports x_q1_count x_q1_chime x_q1_end x_q1_score x_q1_reportCount x_q1_z x_q1_rules x_q1_shades x_q1_facts x_q2_dials x_q2_spots x_q2_skies x_q2_reports x_q2_count x_q2_chime x_q2_end x_q2_score x_q2_reportCount x_q2_z x_q2_rules x_q2_shades x_q2_facts x_isKept x_marks x_p_first x_p_steps x_p_most x_p_many x_p_fewest x_p_everRight x_p_opening x_p_rows x_p_rowCount x_p_acts x_p_marks x_p_deepest x_p_wanted x_t_length x_t_tape x_t_words x_t_places x_t_at x_t_kinds x_t_wills x_t_starts x_t_code x_t_count x_t_size x_h_sorts x_h_lengths x_h_items x_h_held x_h_things x_h_sizes x_h_bodies x_h_traced x_h_number x_h_spot x_h_parted x_g_count x_g_kinds x_g_wills x_g_starts x_g_code x_g_stack x_g_kl x_g_wl x_g_sl x_g_cl x_nr) (Qn (cW a ar t x_q0_dials x_q0_spots x_q0_skies x_q0_reports x_q0_count x_q0_chime x_q0_end x_q0_score x_q0_reportCount x_q0_z x_q0_rules x_q0_shades x_q0_facts x_q1_dials x_q1_spots x_q1_skies x_q1_reports x_q1_count x_q1_chime x_q1_end x_q1_score x_q1_reportCount x_q1_z x_q1_rules x_q1_shades x_q1_facts res.1 x_q2_spots x_q2_skies x_q2_reports x_q2_count res.2.1 x_q2_end res.2.2.1 x_q2_reportCount x_q2_z x_q2_rules res.2.2.2.1 res.2.2.2.2.1 x_isKept x_marks res.2.2.2.2.2.1 res.2.2.2.2.2.2.1 res.2.2.2.2.2.2.2.1 res.2.2.2.2.2.2.2.2.1 res.2.2.2.2.2.2.2.2.2.1 res.2.2.2.2.2.2.2.2.2.2.1 x_p_opening x_p_rows x_p_rowCount res.2.2.2.2.2.2.2.2.2.2.2.1 res.2.2.2.2.2.2.2.2.2.2.2.2.1 x_p_deepest x_p_wanted x_t_length x_t_tape x_t_words x_t_places x_t_at x_t_kinds x_t_wills x_t_starts x_t_code x_t_count x_t_size x_h_sorts x_h_lengths x_h_items x_h_held x_h_things x_h_sizes x_h_bodies x_h_traced x_h_number x_h_spot x_h_parted x_g_count x_g_kinds x_g_wills x_g_starts x_g_code res.2.2.2.2.2.2.2.2.2.2.2.2.2 x_g_kl x_g_wl x_g_sl x_g_cl x_nr)) := by
  unfold X5_explore_b at hf
  refine MC.ofV pn_X5 (Nat.le_of_ble_eq_true rfl) ?_
  intro p e s m args below meth c A Q ls cx hR hw hl
  have hx := cx.1
  have hb := cx.2.1
  have hl : lv_has ls 5 [(0, .ref (a 84)), (1, .int v1), (2, .int v2), (3, .int v3)] := hl
  refine lv_iload_n hx hb dX5_explore_0 rfl (lv_at hl 1 rfl) ?_
  refine lv_aload_n hx hb dX5_explore_1 rfl (lv_at hl 0 rfl) ?_
  refine cg_X5_40_plans cx hw dX5_explore_2 ?_
  obtain ⟨J14, hJ14, hf⟩ := jnS hf
  have wj14 : ∀ (j14 : Unit) (H : Heap) (locs : List Loc) (ls : Array Slot), J14 j14 = some res → Wd D A s (cW a ar t x_q0_dials x_q0_spots x_q0_skies x_q0_reports x_q0_count x_q0_chime x_q0_end x_q0_score x_q0_reportCount x_q0_z x_q0_rules x_q0_shades x_q0_facts x_q1_dials x_q1_spots x_q1_skies x_q1_reports x_q1_count x_q1_chime x_q1_end x_q1_score x_q1_reportCount x_q1_z x_q1_rules x_q1_shades x_q1_facts x_q2_dials x_q2_spots x_q2_skies x_q2_reports x_q2_count x_q2_chime x_q2_end x_q2_score x_q2_reportCount x_q2_z x_q2_rules x_q2_shades x_q2_facts x_isKept x_marks x_p_first x_p_steps x_p_most x_p_many x_p_fewest x_p_everRight x_p_opening x_p_rows x_p_rowCount x_p_acts x_p_marks x_p_deepest x_p_wanted x_t_length x_t_tape x_t_words x_t_places x_t_at x_t_kinds x_t_wills x_t_starts x_t_code x_t_count x_t_size x_h_sorts x_h_lengths x_h_items x_h_held x_h_things x_h_sizes x_h_bodies x_h_traced x_h_number x_h_spot x_h_parted x_g_count x_g_kinds x_g_wills x_g_starts x_g_code x_g_stack x_g_kl x_g_wl x_g_sl x_g_cl x_nr) H locs → lv_has ls 5 [(0, .ref (a 84)), (1, .int v1), (2, .int v2), (3, .int v3)] → W p l e (rmz (6 + 4 * (d + 1)) 0 0) s m args below meth c H locs 0 0 Q (F0 m 23 ls []) := by
    intro j14 H locs ls hf hw hl
    have hf := hJ14 _ hf
    refine lv_aload_n hx hb dX5_explore_23 rfl (lv_at hl 0 rfl) ?_
    refine lv_iload_n hx hb dX5_explore_24 rfl (lv_at hl 1 rfl) ?_
    refine lv_iload_n hx hb dX5_explore_25 rfl (lv_at hl 2 rfl) ?_
    refine lv_iload_n hx hb dX5_explore_26 rfl (lv_at hl 3 rfl) ?_
    obtain ⟨r15, h16, hf⟩ := bnS hf
    refine calVv cx hw hl.1 (c_X5_weigh h16) q_786 k_X5_weigh rfl rv_plans rfl dX5_explore_27 rfl (Nat.le_of_ble_eq_true rfl) ⟨by show _ ≤ 6 + 4 * (d + 1); omega, by show _ ≤ 64 * (6 + 4 * (d + 1)); omega⟩ ⟨Nat.le_refl _, Nat.le_refl _⟩ (fun H locs hw => ?_)
    have hf := Option.some.inj hf
    subst hf
    exact hR _ _ _ _ _ hw ⟨rfl, rfl⟩ dX5_explore_30
  clear hJ14
  refine lv_icmp_ge (tgt := 23) hx hb dX5_explore_5 (by decide) (fun hc => ?_) (fun hc => ?_)
  · have hf := ifT hf hc
    exact wj14 _ _ _ _ hf hw (lv_sub hl [0, 1, 2, 3] rfl)
  · have hf := ifF hf hc
    refine lv_iload_n hx hb dX5_explore_8 rfl (lv_at hl 1 rfl) ?_
    refine lv_iconst (v := 4) hx hb dX5_explore_9 (by decide) ?_
    refine lv_icmp_ge (tgt := 23) hx hb dX5_explore_10 (by decide) (fun hc => ?_) (fun hc => ?_)
    · have hf := ifT hf hc
      exact wj14 _ _ _ _ hf hw (lv_sub hl [0, 1, 2, 3] rfl)
    · have hf := ifF hf hc
      refine lv_aload_n hx hb dX5_explore_13 rfl (lv_at hl 0 rfl) ?_
      refine cg_X5_26_plans cx hw dX5_explore_14 ?_
      refine calVi cx hw hl.1 (c_X9_isOver_q2 rfl) q_785 k_X9_isOver rfl rv_q2 rfl dX5_explore_17 rfl (Nat.le_of_ble_eq_true rfl) ⟨by show _ ≤ 6 + 4 * (d + 1); omega, by show _ ≤ 64 * (6 + 4 * (d + 1)); omega⟩ ⟨Nat.le_refl _, Nat.le_refl _⟩ (fun H locs hw => ?_)
      refine lv_if_eq (tgt := 31) hx hb dX5_explore_20 (by decide) (fun hc => ?_) (fun hc => ?_)
      · have hf := ifT hf hc
        refine lv_aload_n hx hb dX5_explore_31 rfl (lv_at hl 0 rfl) ?_
        refine cg_X5_26_plans cx hw dX5_explore_32 ?_
        refine lv_aload_n hx hb dX5_explore_35 rfl (lv_at hl 0 rfl) ?_
        refine cg_X5_23_plans cx hw dX5_explore_36 ?_
        refine lv_iload_n hx hb dX5_explore_39 rfl (lv_at hl 1 rfl) ?_
        obtain ⟨h1, hf⟩ := ckS hf
        refine co_p_marks (j := v1.toNatClampNeg) cx hw (ib_in h1) rfl dX5_explore_40 ?_
        obtain ⟨r2, h3, hf⟩ := bnS hf
        refine calVv cx hw hl.1 (c_X9_mark_q2_pm (ib_lt h1) h3) q_792 k_X9_mark rfl rv_q2 rfl dX5_explore_41 rfl (Nat.le_of_ble_eq_true rfl) ⟨by show _ ≤ 6 + 4 * (d + 1); omega, by show _ ≤ 64 * (6 + 4 * (d + 1)); omega⟩ ⟨Nat.le_refl _, Nat.le_refl _⟩ (fun H locs hw => ?_)
        refine lv_iconst (v := 0) hx hb dX5_explore_44 (by decide) ?_
        refine lv_istore (lv' := [(4, .int (0 : Int32)), (0, .ref (a 84)), (1, .int v1), (2, .int v2), (3, .int v3)]) hx hb dX5_explore_45 hl (by decide) rfl (fun ls hl => ?_)
        obtain ⟨o13, ho13, hf⟩ := bnS hf
        have wL1 : ∀ (k : Nat) {v1 : Int32} {v2 : Int32} {v3 : Int32} {v4 : Int32} {x_q2_dials : Nat → Nat → Int32} {x_q2_chime : Int32} {x_q2_score : Int32} {x_q2_shades : Nat → Int32} {x_q2_facts : Nat → Int32} {x_p_first : Nat → Int32} {x_p_steps : Int32} {x_p_most : Int32} {x_p_many : Int32} {x_p_fewest : Int32} {x_p_everRight : Int32} {x_p_acts : Nat → Int32} {x_p_marks : Nat → Nat → Int32} {x_g_stack : Nat → Nat → Int32} {H : Heap} {locs : List Loc} {ls : Array Slot} {o : Int32 × (Nat → Nat → Int32) × Int32 × Int32 × (Nat → Int32) × (Nat → Int32) × (Nat → Int32) × Int32 × Int32 × Int32 × Int32 × Int32 × (Nat → Int32) × (Nat → Nat → Int32) × (Nat → Nat → Int32)}, X5_explore_L1 n F x_q2_spots x_q2_skies x_q2_count x_q2_end x_q2_rules x_p_deepest x_p_wanted x_g_count x_g_kinds x_g_wills x_g_starts x_g_code x_g_kl x_g_wl x_g_sl x_g_cl x_nr v1 v2 v3 k v4 x_q2_dials x_q2_chime x_q2_score x_q2_shades x_q2_facts x_p_first x_p_steps x_p_most x_p_many x_p_fewest x_p_everRight x_p_acts x_p_marks x_g_stack = some o → Wd D A s (cW a ar t x_q0_dials x_q0_spots x_q0_skies x_q0_reports x_q0_count x_q0_chime x_q0_end x_q0_score x_q0_reportCount x_q0_z x_q0_rules x_q0_shades x_q0_facts x_q1_dials x_q1_spots x_q1_skies x_q1_reports x_q1_count x_q1_chime x_q1_end x_q1_score x_q1_reportCount x_q1_z x_q1_rules x_q1_shades x_q1_facts x_q2_dials x_q2_spots x_q2_skies x_q2_reports x_q2_count x_q2_chime x_q2_end x_q2_score x_q2_reportCount x_q2_z x_q2_rules x_q2_shades x_q2_facts x_isKept x_marks x_p_first x_p_steps x_p_most x_p_many x_p_fewest x_p_everRight x_p_opening x_p_rows x_p_rowCount x_p_acts x_p_marks x_p_deepest x_p_wanted x_t_length x_t_tape x_t_words x_t_places x_t_at x_t_kinds x_t_wills x_t_starts x_t_code x_t_count x_t_size x_h_sorts x_h_lengths x_h_items x_h_held x_h_things x_h_sizes x_h_bodies x_h_traced x_h_number x_h_spot x_h_parted x_g_count x_g_kinds x_g_wills x_g_starts x_g_code x_g_stack x_g_kl x_g_wl x_g_sl x_g_cl x_nr) H locs → lv_has ls 5 [(0, .ref (a 84)), (1, .int v1), (2, .int v2), (3, .int v3), (4, .int v4)] → (∀ (H : Heap) (locs : List Loc) (ls : Array Slot), Wd D A s (cW a ar t x_q0_dials x_q0_spots x_q0_skies x_q0_reports x_q0_count x_q0_chime x_q0_end x_q0_score x_q0_reportCount x_q0_z x_q0_rules x_q0_shades x_q0_facts x_q1_dials x_q1_spots x_q1_skies x_q1_reports x_q1_count x_q1_chime x_q1_end x_q1_score x_q1_reportCount x_q1_z x_q1_rules x_q1_shades x_q1_facts o.2.1 x_q2_spots x_q2_skies x_q2_reports x_q2_count o.2.2.1 x_q2_end o.2.2.2.1 x_q2_reportCount x_q2_z x_q2_rules o.2.2.2.2.1 o.2.2.2.2.2.1 x_isKept x_marks o.2.2.2.2.2.2.1 o.2.2.2.2.2.2.2.1 o.2.2.2.2.2.2.2.2.1 o.2.2.2.2.2.2.2.2.2.1 o.2.2.2.2.2.2.2.2.2.2.1 o.2.2.2.2.2.2.2.2.2.2.2.1 x_p_opening x_p_rows x_p_rowCount o.2.2.2.2.2.2.2.2.2.2.2.2.1 o.2.2.2.2.2.2.2.2.2.2.2.2.2.1 x_p_deepest x_p_wanted x_t_length x_t_tape x_t_words x_t_places x_t_at x_t_kinds x_t_wills x_t_starts x_t_code x_t_count x_t_size x_h_sorts x_h_lengths x_h_items x_h_held x_h_things x_h_sizes x_h_bodies x_h_traced x_h_number x_h_spot x_h_parted x_g_count x_g_kinds x_g_wills x_g_starts x_g_code o.2.2.2.2.2.2.2.2.2.2.2.2.2.2 x_g_kl x_g_wl x_g_sl x_g_cl x_nr) H locs → lv_has ls 5 [(0, .ref (a 84)), (1, .int v1), (2, .int v2), (3, .int v3), (4, .int o.1)] → W p l e (rmz (6 + 4 * (d + 1)) 0 0) s m args below meth c H locs 0 0 Q (F0 m 116 ls [])) → W p l e (rmz (6 + 4 * (d + 1)) 0 0) s m args below meth c H locs 0 0 Q (F0 m 47 ls []) := by
          clear hf ho13 hw hl
          intro k
          induction k with
          | zero => intro v1 v2 v3 v4 x_q2_dials x_q2_chime x_q2_score x_q2_shades x_q2_facts x_p_first x_p_steps x_p_most x_p_many x_p_fewest x_p_everRight x_p_acts x_p_marks x_g_stack H locs ls o hf hw hl kx; simp [X5_explore_L1] at hf
          | succ k ih =>
            intro v1 v2 v3 v4 x_q2_dials x_q2_chime x_q2_score x_q2_shades x_q2_facts x_p_first x_p_steps x_p_most x_p_many x_p_fewest x_p_everRight x_p_acts x_p_marks x_g_stack H locs ls o hf hw hl kx
            rw [X5_explore_L1] at hf
            refine lv_iload hx hb dX5_explore_47 (lv_at hl 4 rfl) ?_
            refine lv_aload_n hx hb dX5_explore_49 rfl (lv_at hl 0 rfl) ?_
            refine cg_X5_26_plans cx hw dX5_explore_50 ?_
            refine cg_X5_73_q2 cx hw dX5_explore_53 ?_
            refine lv_icmp_gt (tgt := 116) hx hb dX5_explore_56 (by decide) (fun hc => ?_) (fun hc => ?_)
            · have hf := ifT hf hc
              have hf := Option.some.inj hf
              subst hf
              exact kx _ _ _ hw (lv_sub hl [0, 1, 2, 3, 4] rfl)
            · have hf := ifF hf hc
              refine lv_aload_n hx hb dX5_explore_59 rfl (lv_at hl 0 rfl) ?_
              refine cg_X5_26_plans cx hw dX5_explore_60 ?_
              refine lv_aload_n hx hb dX5_explore_63 rfl (lv_at hl 0 rfl) ?_
              refine cg_X5_23_plans cx hw dX5_explore_64 ?_
              refine lv_iload_n hx hb dX5_explore_67 rfl (lv_at hl 1 rfl) ?_
              obtain ⟨h4, hf⟩ := ckS hf
              refine co_p_marks (j := v1.toNatClampNeg) cx hw (ib_in h4) rfl dX5_explore_68 ?_
              obtain ⟨r5, h6, hf⟩ := bnS hf
              refine calVv cx hw hl.1 (c_X9_back_q2_pm (ib_lt h4) h6) q_793 k_X9_back rfl rv_q2 rfl dX5_explore_69 rfl (Nat.le_of_ble_eq_true rfl) ⟨by show _ ≤ 6 + 4 * (d + 1); omega, by show _ ≤ 64 * (6 + 4 * (d + 1)); omega⟩ ⟨Nat.le_refl _, Nat.le_refl _⟩ (fun H locs hw => ?_)
              refine lv_aload_n hx hb dX5_explore_72 rfl (lv_at hl 0 rfl) ?_
              refine cg_X5_20_plans cx hw dX5_explore_73 ?_
              refine lv_iload_n hx hb dX5_explore_76 rfl (lv_at hl 1 rfl) ?_
              refine lv_iload hx hb dX5_explore_77 (lv_at hl 4 rfl) ?_
              obtain ⟨h7, hf⟩ := ckS hf
              refine cs_p_acts (j := v1.toNatClampNeg) cx hw (ib_in h7) rfl dX5_explore_79 (fun H locs hw => ?_)
              refine lv_aload_n hx hb dX5_explore_80 rfl (lv_at hl 0 rfl) ?_
              refine lv_iload_n hx hb dX5_explore_81 rfl (lv_at hl 1 rfl) ?_
              refine lv_iconst (v := 1) hx hb dX5_explore_82 (by decide) ?_
              refine lv_iadd hx hb dX5_explore_83 ?_
              refine lv_iload_n hx hb dX5_explore_84 rfl (lv_at hl 2 rfl) ?_
              refine lv_aload_n hx hb dX5_explore_85 rfl (lv_at hl 0 rfl) ?_
              refine cg_X5_26_plans cx hw dX5_explore_86 ?_
              refine lv_iload hx hb dX5_explore_89 (lv_at hl 4 rfl) ?_
              obtain ⟨r8, h9, hf⟩ := bnS hf
              refine calVi cx hw hl.1 (c_X9_goBy_q2 h9) q_794 k_X9_goBy rfl rv_q2 rfl dX5_explore_91 rfl (Nat.le_of_ble_eq_true rfl) ⟨by show _ ≤ 6 + 4 * (d + 1); omega, by show _ ≤ 64 * (6 + 4 * (d + 1)); omega⟩ ⟨Nat.le_refl _, Nat.le_refl _⟩ (fun H locs hw => ?_)
              refine lv_iadd hx hb dX5_explore_94 ?_
              refine lv_iload hx hb dX5_explore_95 (lv_at hl 4 rfl) ?_
              obtain ⟨j10, hj10, hf⟩ := pbS hf
              have wj10 : ∀ (H : Heap) (locs : List Loc) (ls : Array Slot), Wd D A s (cW a ar t x_q0_dials x_q0_spots x_q0_skies x_q0_reports x_q0_count x_q0_chime x_q0_end x_q0_score x_q0_reportCount x_q0_z x_q0_rules x_q0_shades x_q0_facts x_q1_dials x_q1_spots x_q1_skies x_q1_reports x_q1_count x_q1_chime x_q1_end x_q1_score x_q1_reportCount x_q1_z x_q1_rules x_q1_shades x_q1_facts r8.2.1 x_q2_spots x_q2_skies x_q2_reports x_q2_count r8.2.2.1 x_q2_end r8.2.2.2.1 x_q2_reportCount x_q2_z x_q2_rules r8.2.2.2.2.1 r8.2.2.2.2.2.1 x_isKept x_marks x_p_first x_p_steps x_p_most x_p_many x_p_fewest x_p_everRight x_p_opening x_p_rows x_p_rowCount (upd x_p_acts v1.toNatClampNeg v4) x_p_marks x_p_deepest x_p_wanted x_t_length x_t_tape x_t_words x_t_places x_t_at x_t_kinds x_t_wills x_t_starts x_t_code x_t_count x_t_size x_h_sorts x_h_lengths x_h_items x_h_held x_h_things x_h_sizes x_h_bodies x_h_traced x_h_number x_h_spot x_h_parted x_g_count x_g_kinds x_g_wills x_g_starts x_g_code r8.2.2.2.2.2.2 x_g_kl x_g_wl x_g_sl x_g_cl x_nr) H locs → lv_has ls 5 [(0, .ref (a 84)), (1, .int v1), (2, .int v2), (3, .int v3), (4, .int v4)] → W p l e (rmz (6 + 4 * (d + 1)) 0 0) s m args below meth c H locs 0 0 Q (F0 m 107 ls [.int j10, .int (v2 + r8.1), .int (v1 + (1 : Int32)), .ref (a 84)]) := by
                intro H locs ls hw hl
                obtain ⟨r11, h12, hf⟩ := bnS hf
                refine calVv cx hw hl.1 (hF0 h12) q_781 k_X5_explore rfl rv_plans rfl dX5_explore_107 rfl (Nat.le_of_ble_eq_true rfl) ⟨by show _ ≤ 6 + 4 * (d + 1); omega, by show _ ≤ 64 * (6 + 4 * (d + 1)); omega⟩ ⟨Nat.le_refl _, Nat.le_refl _⟩ (fun H locs hw => ?_)
                refine lv_iinc (v := (v4 + (1 : Int32))) (lv' := [(4, .int (v4 + (1 : Int32))), (0, .ref (a 84)), (1, .int v1), (2, .int v2), (3, .int v3)]) hx hb dX5_explore_110 hl (k := 4) rfl rfl (by decide) rfl (fun ls hl => ?_)
                refine lv_goto (tgt := 47) hx hb dX5_explore_113 (by decide) ?_
                exact ih hf hw (lv_sub hl [1, 2, 3, 4, 0] rfl) kx
              clear hf
              have hf := hj10
              clear hj10
              refine lv_if_ne (tgt := 104) hx hb dX5_explore_97 (by decide) (fun hc => ?_) (fun hc => ?_)
              · have hf := ifF hf hc
                refine lv_iload_n hx hb dX5_explore_104 rfl (lv_at hl 3 rfl) ?_
                refine lv_iconst (v := 1) hx hb dX5_explore_105 (by decide) ?_
                refine lv_iadd hx hb dX5_explore_106 ?_
                subst hf
                exact wj10 _ _ _ hw (lv_sub hl [0, 1, 2, 3, 4] rfl)
              · have hf := ifT hf hc
                refine lv_iload_n hx hb dX5_explore_100 rfl (lv_at hl 3 rfl) ?_
                refine lv_goto (tgt := 107) hx hb dX5_explore_101 (by decide) ?_
                subst hf
                exact wj10 _ _ _ hw (lv_sub hl [0, 1, 2, 3, 4] rfl)
        refine wL1 n ho13 hw (lv_sub hl [1, 2, 3, 4, 0] rfl) (fun H locs ls hw hl => ?_)
        clear wL1 ho13
        have hf := Option.some.inj hf
        subst hf
        exact hR _ _ _ _ _ hw ⟨rfl, rfl⟩ dX5_explore_116
      · have hf := ifF hf hc
        exact wj14 _ _ _ _ hf hw (lv_sub hl [0, 1, 2, 3] rfl)
theorem c_X5_explore : ∀ {d : Nat} {x_q0_dials : Nat → Nat → Int32} {x_q0_spots : Nat → Nat → Int32} {x_q0_skies : Nat → Int32} {x_q0_reports : Nat → Nat → Int32} {x_q0_count : Int32} {x_q0_chime : Int32} {x_q0_end : Int32} {x_q0_score : Int32} {x_q0_reportCount : Int32} {x_q0_z : Int32} {x_q0_rules : Nat} {x_q0_shades : Nat → Int32} {x_q0_facts : Nat → Int32} {x_q1_dials : Nat → Nat → Int32} {x_q1_spots : Nat → Nat → Int32} {x_q1_skies : Nat → Int32} {x_q1_reports : Nat → Nat → Int32} {x_q1_count : Int32} {x_q1_chime : Int32} {x_q1_end : Int32} {x_q1_score : Int32} {x_q1_reportCount : Int32} {x_q1_z : Int32} {x_q1_rules : Nat} {x_q1_shades : Nat → Int32} {x_q1_facts : Nat → Int32} {x_q2_dials : Nat → Nat → Int32} {x_q2_spots : Nat → Nat → Int32} {x_q2_skies : Nat → Int32} {x_q2_reports : Nat → Nat → Int32} {x_q2_count : Int32} {x_q2_chime : Int32} {x_q2_end : Int32} {x_q2_score : Int32} {x_q2_reportCount : Int32} {x_q2_z : Int32} {x_q2_rules : Nat} {x_q2_shades : Nat → Int32} {x_q2_facts : Nat → Int32} {x_isKept : Int32} {x_marks : Nat → Int32} {x_p_first : Nat → Int32} {x_p_steps : Int32} {x_p_most : Int32} {x_p_many : Int32} {x_p_fewest : Int32} {x_p_everRight : Int32} {x_p_opening : Int32} {x_p_rows : Nat → Nat → Int32} {x_p_rowCount : Int32} {x_p_acts : Nat → Int32} {x_p_marks : Nat → Nat → Int32} {x_p_deepest : Int32} {x_p_wanted : Int32} {x_t_length : Int32} {x_t_tape : Nat → Int32} {x_t_words : Nat → Int32} {x_t_places : Nat → Int32} {x_t_at : Int32} {x_t_kinds : Nat → Int32} {x_t_wills : Nat → Int32} {x_t_starts : Nat → Int32} {x_t_code : Nat → Int32} {x_t_count : Int32} {x_t_size : Int32} {x_h_sorts : Nat → Int32} {x_h_lengths : Nat → Int32} {x_h_items : Nat → Nat → Int32} {x_h_held : Nat → Int32} {x_h_things : Nat → Int32} {x_h_sizes : Nat → Int32} {x_h_bodies : Nat → Int32} {x_h_traced : Int32} {x_h_number : Int32} {x_h_spot : Int32} {x_h_parted : Int32} {x_g_count : Nat → Int32} {x_g_kinds : Nat → Nat → Int32} {x_g_wills : Nat → Nat → Int32} {x_g_starts : Nat → Nat → Int32} {x_g_code : Nat → Nat → Int32} {x_g_stack : Nat → Nat → Int32} {x_g_kl : Nat → Nat} {x_g_wl : Nat → Nat} {x_g_sl : Nat → Nat} {x_g_cl : Nat → Nat} {x_nr : Nat} {v1 : Int32} {v2 : Int32} {v3 : Int32} {res : (Nat → Nat → Int32) × Int32 × Int32 × (Nat → Int32) × (Nat → Int32) × (Nat → Int32) × Int32 × Int32 × Int32 × Int32 × Int32 × (Nat → Int32) × (Nat → Nat → Int32) × (Nat → Nat → Int32)} (hf : X5_explore n d x_q2_dials x_q2_spots x_q2_skies x_q2_count x_q2_chime x_q2_end x_q2_score x_q2_rules x_q2_shades x_q2_facts x_p_first x_p_steps x_p_most x_p_many x_p_fewest x_p_everRight x_p_acts x_p_marks x_p_deepest x_p_wanted x_g_count x_g_kinds x_g_wills x_g_starts x_g_code x_g_stack x_g_kl x_g_wl x_g_sl x_g_cl x_nr v1 v2 v3 = some res), MC l E0 D t yX5_explore cX5_explore 5 none (6 + 4 * d) 0 0 [.ref (a 84), .int v1, .int v2, .int v3] (cW a ar t x_q0_dials x_q0_spots x_q0_skies x_q0_reports x_q0_count x_q0_chime x_q0_end x_q0_score x_q0_reportCount x_q0_z x_q0_rules x_q0_shades x_q0_facts x_q1_dials x_q1_spots x_q1_skies x_q1_reports x_q1_count x_q1_chime x_q1_end x_q1_score x_q1_reportCount x_q1_z x_q1_rules x_q1_shades x_q1_facts x_q2_dials x_q2_spots x_q2_skies x_q2_reports x_q2_count x_q2_chime x_q2_end x_q2_score x_q2_reportCount x_q2_z x_q2_rules x_q2_shades x_q2_facts x_isKept x_marks x_p_first x_p_steps x_p_most x_p_many x_p_fewest x_p_everRight x_p_opening x_p_rows x_p_rowCount x_p_acts x_p_marks x_p_deepest x_p_wanted x_t_length x_t_tape x_t_words x_t_places x_t_at x_t_kinds x_t_wills x_t_starts x_t_code x_t_count x_t_size x_h_sorts x_h_lengths x_h_items x_h_held x_h_things x_h_sizes x_h_bodies x_h_traced x_h_number x_h_spot x_h_parted x_g_count x_g_kinds x_g_wills x_g_starts x_g_code x_g_stack x_g_kl x_g_wl x_g_sl x_g_cl x_nr) (Qn (cW a ar t x_q0_dials x_q0_spots x_q0_skies x_q0_reports x_q0_count x_q0_chime x_q0_end x_q0_score x_q0_reportCount x_q0_z x_q0_rules x_q0_shades x_q0_facts x_q1_dials x_q1_spots x_q1_skies x_q1_reports x_q1_count x_q1_chime x_q1_end x_q1_score x_q1_reportCount x_q1_z x_q1_rules x_q1_shades x_q1_facts res.1 x_q2_spots x_q2_skies x_q2_reports x_q2_count res.2.1 x_q2_end res.2.2.1 x_q2_reportCount x_q2_z x_q2_rules res.2.2.2.1 res.2.2.2.2.1 x_isKept x_marks res.2.2.2.2.2.1 res.2.2.2.2.2.2.1 res.2.2.2.2.2.2.2.1 res.2.2.2.2.2.2.2.2.1 res.2.2.2.2.2.2.2.2.2.1 res.2.2.2.2.2.2.2.2.2.2.1 x_p_opening x_p_rows x_p_rowCount res.2.2.2.2.2.2.2.2.2.2.2.1 res.2.2.2.2.2.2.2.2.2.2.2.2.1 x_p_deepest x_p_wanted x_t_length x_t_tape x_t_words x_t_places x_t_at x_t_kinds x_t_wills x_t_starts x_t_code x_t_count x_t_size x_h_sorts x_h_lengths x_h_items x_h_held x_h_things x_h_sizes x_h_bodies x_h_traced x_h_number x_h_spot x_h_parted x_g_count x_g_kinds x_g_wills x_g_starts x_g_code res.2.2.2.2.2.2.2.2.2.2.2.2.2 x_g_kl x_g_wl x_g_sl x_g_cl x_nr)) := by
  intro d
  induction d with
  | zero => intros; rename_i hf; simp [X5_explore] at hf
  | succ d ih => intros; rename_i hf; rw [X5_explore] at hf; exact cb_X5_explore (fun h => ih h) hf
end CW6
