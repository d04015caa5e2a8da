section CTOR
variable {l : Launch} {D : va_G} {t : Nat → ClassId} {ws : va_W}
theorem dX6_init_0 : decode cX6_init 0 = .ok (.aload_n 0, 1) := by decide +kernel
theorem dX6_init_1 : decode cX6_init 1 = .ok (.invokespecial 3, 3) := by decide +kernel
theorem dX6_init_4 : decode cX6_init 4 = .ok (.aload_n 0, 1) := by decide +kernel
theorem dX6_init_5 : decode cX6_init 5 = .ok (.sipush 200, 3) := by decide +kernel
theorem dX6_init_8 : decode cX6_init 8 = .ok (.newarray .byte, 2) := by decide +kernel
theorem dX6_init_10 : decode cX6_init 10 = .ok (.putfield 9, 3) := by decide +kernel
theorem dX6_init_13 : decode cX6_init 13 = .ok (.aload_n 0, 1) := by decide +kernel
theorem dX6_init_14 : decode cX6_init 14 = .ok (.sipush 201, 3) := by decide +kernel
theorem dX6_init_17 : decode cX6_init 17 = .ok (.newarray .int, 2) := by decide +kernel
theorem dX6_init_19 : decode cX6_init 19 = .ok (.putfield 15, 3) := by decide +kernel
theorem dX6_init_22 : decode cX6_init 22 = .ok (.aload_n 0, 1) := by decide +kernel
theorem dX6_init_23 : decode cX6_init 23 = .ok (.sipush 201, 3) := by decide +kernel
theorem dX6_init_26 : decode cX6_init 26 = .ok (.newarray .int, 2) := by decide +kernel
theorem dX6_init_28 : decode cX6_init 28 = .ok (.putfield 19, 3) := by decide +kernel
theorem dX6_init_31 : decode cX6_init 31 = .ok (.aload_n 0, 1) := by decide +kernel
theorem dX6_init_32 : decode cX6_init 32 = .ok (.bipush 8, 2) := by decide +kernel
theorem dX6_init_34 : decode cX6_init 34 = .ok (.newarray .int, 2) := by decide +kernel
theorem dX6_init_36 : decode cX6_init 36 = .ok (.putfield 22, 3) := by decide +kernel
theorem dX6_init_39 : decode cX6_init 39 = .ok (.aload_n 0, 1) := by decide +kernel
theorem dX6_init_40 : decode cX6_init 40 = .ok (.bipush 8, 2) := by decide +kernel
theorem dX6_init_42 : decode cX6_init 42 = .ok (.newarray .int, 2) := by decide +kernel
theorem dX6_init_44 : decode cX6_init 44 = .ok (.putfield 25, 3) := by decide +kernel
theorem dX6_init_47 : decode cX6_init 47 = .ok (.aload_n 0, 1) := by decide +kernel
theorem dX6_init_48 : decode cX6_init 48 = .ok (.bipush 9, 2) := by decide +kernel
theorem dX6_init_50 : decode cX6_init 50 = .ok (.newarray .int, 2) := by decide +kernel
theorem dX6_init_52 : decode cX6_init 52 = .ok (.putfield 28, 3) := by decide +kernel
theorem dX6_init_55 : decode cX6_init 55 = .ok (.aload_n 0, 1) := by decide +kernel
theorem dX6_init_56 : decode cX6_init 56 = .ok (.sipush 200, 3) := by decide +kernel
theorem dX6_init_59 : decode cX6_init 59 = .ok (.newarray .int, 2) := by decide +kernel
theorem dX6_init_61 : decode cX6_init 61 = .ok (.putfield 31, 3) := by decide +kernel
theorem dX6_init_64 : decode cX6_init 64 = .ok (.return_, 1) := by decide +kernel
theorem k_X6_init : MI yX6_init cX6_init 1 0 := ⟨q_33, q_2, q_34, rfl, ⟨by decide, by decide, by decide +kernel⟩⟩
theorem c_X6_init {q0 k0 : Nat} (hs : ws[k0]? = some (q0, .inr (6, [.int 0, .null, .null, .null, .int 0, .null, .null, .null, .null, .int 0, .int 0]))) : MC l E0 D t yX6_init cX6_init 1 none 1 7 827 [.ref q0] ws (fun v ws' => ∃ q11 q12 q13 q14 q15 q16 q17 : Nat, v = none ∧ ws' = cs ws [(q11, .inl (t 1, 200, .inl (fun _ => 0))), (q12, .inl (t 0, 201, .inl (fun _ => 0))), (q13, .inl (t 0, 201, .inl (fun _ => 0))), (q14, .inl (t 0, 8, .inl (fun _ => 0))), (q15, .inl (t 0, 8, .inl (fun _ => 0))), (q16, .inl (t 0, 9, .inl (fun _ => 0))), (q17, .inl (t 0, 200, .inl (fun _ => 0)))] k0 (q0, .inr (6, [.int 0, .ref q11, .ref q12, .ref q13, .int 0, .ref q14, .ref q15, .ref q16, .ref q17, .int 0, .int 0]))) := by
  have hk : k0 < ws.length := (List.getElem?_eq_some_iff.mp hs).1
  refine MC.ofV pn_X6 (Nat.le_of_ble_eq_true rfl) ?_
  intro p e s m args below meth c A Q ls cx hR hw hl
  have hx := cx.1
  have hb := cx.2.1
  have hl : lv_has ls 1 [(0, .ref q0)] := hl
  have hw : Wd D A s (cs ws [] k0 (q0, .inr (6, [.int 0, .null, .null, .null, .int 0, .null, .null, .null, .null, .int 0, .int 0]))) s.heap [] := by rw [cs_of hs]; exact hw
  refine lv_aload_n hx hb dX6_init_0 rfl (lv_at hl 0 rfl) ?_
  refine W.objInit hx hb cx.2.2.2.1 (cx.2.2.2.2.1 _ q_35) (cx.2.2.2.2.1 _ q_28) (cx.2.2.2.2.1 _ q_29) rfl (hl.1.trans cx.2.2.1.symm) rfl dX6_init_1 (Nat.le_of_ble_eq_true rfl) (Nat.le_of_ble_eq_true rfl) ?_
  refine W.eq (g2 := F0 m 4 ls []) rfl ?_
  refine lv_aload_n hx hb dX6_init_4 rfl (lv_at hl 0 rfl) ?_
  refine lv_sipush (v := (200)) hx hb dX6_init_5 (by decide) ?_
  refine newB cx hw (by decide) (N := 200) (by decide) (by omega) (Nat.le_of_ble_eq_true rfl) (Nat.le_of_ble_eq_true rfl) dX6_init_8 (fun q11 H hw => ?_)
  have hw : Wd D A s (cs ws [(q11, .inl (t 1, 200, .inl (fun _ => 0)))] k0 (q0, .inr (6, [.int 0, .null, .null, .null, .int 0, .null, .null, .null, .null, .int 0, .int 0]))) H [] := by rw [cs_app] at hw; exact hw
  refine va_putF (ref := "DialSquare$RuleText") (C := RX6) (T := TX6) (N := 11) (ci := 6) cx.1 cx.2.1 cx.2.2.2.2.1 lay_6 tyX6 tyX6_ok nmX6 cx.2.2.2.1 cx.2.2.2.2.2.1.1 hw.1 hw.2.1 hw.2.2 k0 (cs_0 hk) rfl 1 (by decide) (cx.2.2.2.2.1 _ q_38) (fun _ h => h) rfl cx.2.2.2.2.2.2.2.2.2 rfl rfl rfl rfl (Nat.le_of_ble_eq_true rfl) dX6_init_10 (fun H l1 hP hD hS => ?_)
  have hw : Wd D A s (cs ws [(q11, .inl (t 1, 200, .inl (fun _ => 0)))] k0 (q0, .inr (6, [.int 0, .ref q11, .null, .null, .int 0, .null, .null, .null, .null, .int 0, .int 0]))) H l1 := ⟨by rw [cs_set0 hk] at hP; exact hP, by rw [cs_set0 hk] at hD; exact hD, hS⟩
  refine lv_aload_n hx hb dX6_init_13 rfl (lv_at hl 0 rfl) ?_
  refine lv_sipush (v := (201)) hx hb dX6_init_14 (by decide) ?_
  refine newI cx hw (by decide) (N := 201) (by decide) (by omega) (Nat.le_of_ble_eq_true rfl) (Nat.le_of_ble_eq_true rfl) dX6_init_17 (fun q12 H hw => ?_)
  have hw : Wd D A s (cs ws [(q11, .inl (t 1, 200, .inl (fun _ => 0))), (q12, .inl (t 0, 201, .inl (fun _ => 0)))] k0 (q0, .inr (6, [.int 0, .ref q11, .null, .null, .int 0, .null, .null, .null, .null, .int 0, .int 0]))) H l1 := by rw [cs_app] at hw; exact hw
  refine va_putF (ref := "DialSquare$RuleText") (C := RX6) (T := TX6) (N := 11) (ci := 6) cx.1 cx.2.1 cx.2.2.2.2.1 lay_6 tyX6 tyX6_ok nmX6 cx.2.2.2.1 cx.2.2.2.2.2.1.1 hw.1 hw.2.1 hw.2.2 k0 (cs_0 hk) rfl 2 (by decide) (cx.2.2.2.2.1 _ q_39) (fun _ h => h) rfl cx.2.2.2.2.2.2.2.2.2 rfl rfl rfl rfl (Nat.le_of_ble_eq_true rfl) dX6_init_19 (fun H l1 hP hD hS => ?_)
  have hw : Wd D A s (cs ws [(q11, .inl (t 1, 200, .inl (fun _ => 0))), (q12, .inl (t 0, 201, .inl (fun _ => 0)))] k0 (q0, .inr (6, [.int 0, .ref q11, .ref q12, .null, .int 0, .null, .null, .null, .null, .int 0, .int 0]))) H l1 := ⟨by rw [cs_set0 hk] at hP; exact hP, by rw [cs_set0 hk] at hD; exact hD, hS⟩
  refine lv_aload_n hx hb dX6_init_22 rfl (lv_at hl 0 rfl) ?_
  refine lv_sipush (v := (201)) hx hb dX6_init_23 (by decide) ?_
  refine newI cx hw (by decide) (N := 201) (by decide) (by omega) (Nat.le_of_ble_eq_true rfl) (Nat.le_of_ble_eq_true rfl) dX6_init_26 (fun q13 H hw => ?_)
  have hw : Wd D A s (cs ws [(q11, .inl (t 1, 200, .inl (fun _ => 0))), (q12, .inl (t 0, 201, .inl (fun _ => 0))), (q13, .inl (t 0, 201, .inl (fun _ => 0)))] k0 (q0, .inr (6, [.int 0, .ref q11, .ref q12, .null, .int 0, .null, .null, .null, .null, .int 0, .int 0]))) H l1 := by rw [cs_app] at hw; exact hw
  refine va_putF (ref := "DialSquare$RuleText") (C := RX6) (T := TX6) (N := 11) (ci := 6) cx.1 cx.2.1 cx.2.2.2.2.1 lay_6 tyX6 tyX6_ok nmX6 cx.2.2.2.1 cx.2.2.2.2.2.1.1 hw.1 hw.2.1 hw.2.2 k0 (cs_0 hk) rfl 3 (by decide) (cx.2.2.2.2.1 _ q_40) (fun _ h => h) rfl cx.2.2.2.2.2.2.2.2.2 rfl rfl rfl rfl (Nat.le_of_ble_eq_true rfl) dX6_init_28 (fun H l1 hP hD hS => ?_)
  have hw : Wd D A s (cs ws [(q11, .inl (t 1, 200, .inl (fun _ => 0))), (q12, .inl (t 0, 201, .inl (fun _ => 0))), (q13, .inl (t 0, 201, .inl (fun _ => 0)))] k0 (q0, .inr (6, [.int 0, .ref q11, .ref q12, .ref q13, .int 0, .null, .null, .null, .null, .int 0, .int 0]))) H l1 := ⟨by rw [cs_set0 hk] at hP; exact hP, by rw [cs_set0 hk] at hD; exact hD, hS⟩
  refine lv_aload_n hx hb dX6_init_31 rfl (lv_at hl 0 rfl) ?_
  refine lv_bipush (v := (8)) hx hb dX6_init_32 (by decide) ?_
  refine newI cx hw (by decide) (N := 8) (by decide) (by omega) (Nat.le_of_ble_eq_true rfl) (Nat.le_of_ble_eq_true rfl) dX6_init_34 (fun q14 H hw => ?_)
  have hw : Wd D A s (cs ws [(q11, .inl (t 1, 200, .inl (fun _ => 0))), (q12, .inl (t 0, 201, .inl (fun _ => 0))), (q13, .inl (t 0, 201, .inl (fun _ => 0))), (q14, .inl (t 0, 8, .inl (fun _ => 0)))] k0 (q0, .inr (6, [.int 0, .ref q11, .ref q12, .ref q13, .int 0, .null, .null, .null, .null, .int 0, .int 0]))) H l1 := by rw [cs_app] at hw; exact hw
  refine va_putF (ref := "DialSquare$RuleText") (C := RX6) (T := TX6) (N := 11) (ci := 6) cx.1 cx.2.1 cx.2.2.2.2.1 lay_6 tyX6 tyX6_ok nmX6 cx.2.2.2.1 cx.2.2.2.2.2.1.1 hw.1 hw.2.1 hw.2.2 k0 (cs_0 hk) rfl 5 (by decide) (cx.2.2.2.2.1 _ q_42) (fun _ h => h) rfl cx.2.2.2.2.2.2.2.2.2 rfl rfl rfl rfl (Nat.le_of_ble_eq_true rfl) dX6_init_36 (fun H l1 hP hD hS => ?_)
  have hw : Wd D A s (cs ws [(q11, .inl (t 1, 200, .inl (fun _ => 0))), (q12, .inl (t 0, 201, .inl (fun _ => 0))), (q13, .inl (t 0, 201, .inl (fun _ => 0))), (q14, .inl (t 0, 8, .inl (fun _ => 0)))] k0 (q0, .inr (6, [.int 0, .ref q11, .ref q12, .ref q13, .int 0, .ref q14, .null, .null, .null, .int 0, .int 0]))) H l1 := ⟨by rw [cs_set0 hk] at hP; exact hP, by rw [cs_set0 hk] at hD; exact hD, hS⟩
  refine lv_aload_n hx hb dX6_init_39 rfl (lv_at hl 0 rfl) ?_
  refine lv_bipush (v := (8)) hx hb dX6_init_40 (by decide) ?_
  refine newI cx hw (by decide) (N := 8) (by decide) (by omega) (Nat.le_of_ble_eq_true rfl) (Nat.le_of_ble_eq_true rfl) dX6_init_42 (fun q15 H hw => ?_)
  have hw : Wd D A s (cs ws [(q11, .inl (t 1, 200, .inl (fun _ => 0))), (q12, .inl (t 0, 201, .inl (fun _ => 0))), (q13, .inl (t 0, 201, .inl (fun _ => 0))), (q14, .inl (t 0, 8, .inl (fun _ => 0))), (q15, .inl (t 0, 8, .inl (fun _ => 0)))] k0 (q0, .inr (6, [.int 0, .ref q11, .ref q12, .ref q13, .int 0, .ref q14, .null, .null, .null, .int 0, .int 0]))) H l1 := by rw [cs_app] at hw; exact hw
  refine va_putF (ref := "DialSquare$RuleText") (C := RX6) (T := TX6) (N := 11) (ci := 6) cx.1 cx.2.1 cx.2.2.2.2.1 lay_6 tyX6 tyX6_ok nmX6 cx.2.2.2.1 cx.2.2.2.2.2.1.1 hw.1 hw.2.1 hw.2.2 k0 (cs_0 hk) rfl 6 (by decide) (cx.2.2.2.2.1 _ q_43) (fun _ h => h) rfl cx.2.2.2.2.2.2.2.2.2 rfl rfl rfl rfl (Nat.le_of_ble_eq_true rfl) dX6_init_44 (fun H l1 hP hD hS => ?_)
  have hw : Wd D A s (cs ws [(q11, .inl (t 1, 200, .inl (fun _ => 0))), (q12, .inl (t 0, 201, .inl (fun _ => 0))), (q13, .inl (t 0, 201, .inl (fun _ => 0))), (q14, .inl (t 0, 8, .inl (fun _ => 0))), (q15, .inl (t 0, 8, .inl (fun _ => 0)))] k0 (q0, .inr (6, [.int 0, .ref q11, .ref q12, .ref q13, .int 0, .ref q14, .ref q15, .null, .null, .int 0, .int 0]))) H l1 := ⟨by rw [cs_set0 hk] at hP; exact hP, by rw [cs_set0 hk] at hD; exact hD, hS⟩
  refine lv_aload_n hx hb dX6_init_47 rfl (lv_at hl 0 rfl) ?_
  refine lv_bipush (v := (9)) hx hb dX6_init_48 (by decide) ?_
  refine newI cx hw (by decide) (N := 9) (by decide) (by omega) (Nat.le_of_ble_eq_true rfl) (Nat.le_of_ble_eq_true rfl) dX6_init_50 (fun q16 H hw => ?_)
  have hw : Wd D A s (cs ws [(q11, .inl (t 1, 200, .inl (fun _ => 0))), (q12, .inl (t 0, 201, .inl (fun _ => 0))), (q13, .inl (t 0, 201, .inl (fun _ => 0))), (q14, .inl (t 0, 8, .inl (fun _ => 0))), (q15, .inl (t 0, 8, .inl (fun _ => 0))), (q16, .inl (t 0, 9, .inl (fun _ => 0)))] k0 (q0, .inr (6, [.int 0, .ref q11, .ref q12, .ref q13, .int 0, .ref q14, .ref q15, .null, .null, .int 0, .int 0]))) H l1 := by rw [cs_app] at hw; exact hw
  refine va_putF (ref := "DialSquare$RuleText") (C := RX6) (T := TX6) (N := 11) (ci := 6) cx.1 cx.2.1 cx.2.2.2.2.1 lay_6 tyX6 tyX6_ok nmX6 cx.2.2.2.1 cx.2.2.2.2.2.1.1 hw.1 hw.2.1 hw.2.2 k0 (cs_0 hk) rfl 7 (by decide) (cx.2.2.2.2.1 _ q_44) (fun _ h => h) rfl cx.2.2.2.2.2.2.2.2.2 rfl rfl rfl rfl (Nat.le_of_ble_eq_true rfl) dX6_init_52 (fun H l1 hP hD hS => ?_)
  have hw : Wd D A s (cs ws [(q11, .inl (t 1, 200, .inl (fun _ => 0))), (q12, .inl (t 0, 201, .inl (fun _ => 0))), (q13, .inl (t 0, 201, .inl (fun _ => 0))), (q14, .inl (t 0, 8, .inl (fun _ => 0))), (q15, .inl (t 0, 8, .inl (fun _ => 0))), (q16, .inl (t 0, 9, .inl (fun _ => 0)))] k0 (q0, .inr (6, [.int 0, .ref q11, .ref q12, .ref q13, .int 0, .ref q14, .ref q15, .ref q16, .null, .int 0, .int 0]))) H l1 := ⟨by rw [cs_set0 hk] at hP; exact hP, by rw [cs_set0 hk] at hD; exact hD, hS⟩
  refine lv_aload_n hx hb dX6_init_55 rfl (lv_at hl 0 rfl) ?_
  refine lv_sipush (v := (200)) hx hb dX6_init_56 (by decide) ?_
  refine newI cx hw (by decide) (N := 200) (by decide) (by omega) (Nat.le_of_ble_eq_true rfl) (Nat.le_of_ble_eq_true rfl) dX6_init_59 (fun q17 H hw => ?_)
  have hw : Wd D A s (cs ws [(q11, .inl (t 1, 200, .inl (fun _ => 0))), (q12, .inl (t 0, 201, .inl (fun _ => 0))), (q13, .inl (t 0, 201, .inl (fun _ => 0))), (q14, .inl (t 0, 8, .inl (fun _ => 0))), (q15, .inl (t 0, 8, .inl (fun _ => 0))), (q16, .inl (t 0, 9, .inl (fun _ => 0))), (q17, .inl (t 0, 200, .inl (fun _ => 0)))] k0 (q0, .inr (6, [.int 0, .ref q11, .ref q12, .ref q13, .int 0, .ref q14, .ref q15, .ref q16, .null, .int 0, .int 0]))) H l1 := by rw [cs_app] at hw; exact hw
  refine va_putF (ref := "DialSquare$RuleText") (C := RX6) (T := TX6) (N := 11) (ci := 6) cx.1 cx.2.1 cx.2.2.2.2.1 lay_6 tyX6 tyX6_ok nmX6 cx.2.2.2.1 cx.2.2.2.2.2.1.1 hw.1 hw.2.1 hw.2.2 k0 (cs_0 hk) rfl 8 (by decide) (cx.2.2.2.2.1 _ q_45) (fun _ h => h) rfl cx.2.2.2.2.2.2.2.2.2 rfl rfl rfl rfl (Nat.le_of_ble_eq_true rfl) dX6_init_61 (fun H l1 hP hD hS => ?_)
  have hw : Wd D A s (cs ws [(q11, .inl (t 1, 200, .inl (fun _ => 0))), (q12, .inl (t 0, 201, .inl (fun _ => 0))), (q13, .inl (t 0, 201, .inl (fun _ => 0))), (q14, .inl (t 0, 8, .inl (fun _ => 0))), (q15, .inl (t 0, 8, .inl (fun _ => 0))), (q16, .inl (t 0, 9, .inl (fun _ => 0))), (q17, .inl (t 0, 200, .inl (fun _ => 0)))] k0 (q0, .inr (6, [.int 0, .ref q11, .ref q12, .ref q13, .int 0, .ref q14, .ref q15, .ref q16, .ref q17, .int 0, .int 0]))) H l1 := ⟨by rw [cs_set0 hk] at hP; exact hP, by rw [cs_set0 hk] at hD; exact hD, hS⟩
  exact hR _ _ _ _ _ hw ⟨q11, q12, q13, q14, q15, q16, q17, rfl, rfl⟩ dX6_init_64
theorem dX5_init_0 : decode cX5_init 0 = .ok (.aload_n 0, 1) := by decide +kernel
theorem dX5_init_1 : decode cX5_init 1 = .ok (.invokespecial 3, 3) := by decide +kernel
theorem dX5_init_4 : decode cX5_init 4 = .ok (.aload_n 0, 1) := by decide +kernel
theorem dX5_init_5 : decode cX5_init 5 = .ok (.iconst 4, 1) := by decide +kernel
theorem dX5_init_6 : decode cX5_init 6 = .ok (.newarray .int, 2) := by decide +kernel
theorem dX5_init_8 : decode cX5_init 8 = .ok (.putfield 9, 3) := by decide +kernel
theorem dX5_init_11 : decode cX5_init 11 = .ok (.aload_n 0, 1) := by decide +kernel
theorem dX5_init_12 : decode cX5_init 12 = .ok (.iconst 4, 1) := by decide +kernel
theorem dX5_init_13 : decode cX5_init 13 = .ok (.iconst 3, 1) := by decide +kernel
theorem dX5_init_14 : decode cX5_init 14 = .ok (.multianewarray 15 2, 4) := by decide +kernel
theorem dX5_init_18 : decode cX5_init 18 = .ok (.putfield 17, 3) := by decide +kernel
theorem dX5_init_21 : decode cX5_init 21 = .ok (.aload_n 0, 1) := by decide +kernel
theorem dX5_init_22 : decode cX5_init 22 = .ok (.iconst 4, 1) := by decide +kernel
theorem dX5_init_23 : decode cX5_init 23 = .ok (.newarray .int, 2) := by decide +kernel
theorem dX5_init_25 : decode cX5_init 25 = .ok (.putfield 20, 3) := by decide +kernel
theorem dX5_init_28 : decode cX5_init 28 = .ok (.aload_n 0, 1) := by decide +kernel
theorem dX5_init_29 : decode cX5_init 29 = .ok (.iconst 4, 1) := by decide +kernel
theorem dX5_init_30 : decode cX5_init 30 = .ok (.bipush 13, 2) := by decide +kernel
theorem dX5_init_32 : decode cX5_init 32 = .ok (.multianewarray 15 2, 4) := by decide +kernel
theorem dX5_init_36 : decode cX5_init 36 = .ok (.putfield 23, 3) := by decide +kernel
theorem dX5_init_39 : decode cX5_init 39 = .ok (.aload_n 0, 1) := by decide +kernel
theorem dX5_init_40 : decode cX5_init 40 = .ok (.aload_n 1, 1) := by decide +kernel
theorem dX5_init_41 : decode cX5_init 41 = .ok (.putfield 26, 3) := by decide +kernel
theorem dX5_init_44 : decode cX5_init 44 = .ok (.return_, 1) := by decide +kernel
theorem k_X5_init : MI yX5_init cX5_init 2 1 := ⟨q_265, q_13, q_266, rfl, ⟨by decide, by decide, by decide +kernel⟩⟩
theorem c_X5_init {q0 k0 b1 : Nat} (hs : ws[k0]? = some (q0, .inr (5, [.null, .int 0, .int 0, .int 0, .int 0, .int 0, .int 0, .null, .int 0, .null, .null, .null, .int 0, .int 0]))) : MC l E0 D t yX5_init cX5_init 2 none 1 12 80 [.ref q0, .ref b1] ws (fun v ws' => ∃ q11 q12 q13 q14 : Nat, v = none ∧ ws' = cs ws [(q11, .inl (t 0, 4, .inl (fun _ => 0))), (q12, .inl (t 3, 4, .inr (.inr (.inr (.inr (fun j => some (q12 + 1 + j))))))), (q12 + 1, .inl (t 0, 3, .inl (fun _ => 0))), (q12 + 2, .inl (t 0, 3, .inl (fun _ => 0))), (q12 + 3, .inl (t 0, 3, .inl (fun _ => 0))), (q12 + 4, .inl (t 0, 3, .inl (fun _ => 0))), (q13, .inl (t 0, 4, .inl (fun _ => 0))), (q14, .inl (t 3, 4, .inr (.inr (.inr (.inr (fun j => some (q14 + 1 + j))))))), (q14 + 1, .inl (t 0, 13, .inl (fun _ => 0))), (q14 + 2, .inl (t 0, 13, .inl (fun _ => 0))), (q14 + 3, .inl (t 0, 13, .inl (fun _ => 0))), (q14 + 4, .inl (t 0, 13, .inl (fun _ => 0)))] k0 (q0, .inr (5, [.ref q11, .int 0, .int 0, .int 0, .int 0, .int 0, .int 0, .ref q12, .int 0, .ref b1, .ref q13, .ref q14, .int 0, .int 0]))) := by
  have hk : k0 < ws.length := (List.getElem?_eq_some_iff.mp hs).1
  refine MC.ofV pn_X5 (Nat.le_of_ble_eq_true rfl) ?_
  intro p e s m args below meth c A Q ls cx hR hw hl
  have hx := cx.1
  have hb := cx.2.1
  have hl : lv_has ls 2 [(0, .ref q0), (1, .ref b1)] := hl
  have hw : Wd D A s (cs ws [] k0 (q0, .inr (5, [.null, .int 0, .int 0, .int 0, .int 0, .int 0, .int 0, .null, .int 0, .null, .null, .null, .int 0, .int 0]))) s.heap [] := by rw [cs_of hs]; exact hw
  refine lv_aload_n hx hb dX5_init_0 rfl (lv_at hl 0 rfl) ?_
  refine W.objInit hx hb cx.2.2.2.1 (cx.2.2.2.2.1 _ q_267) (cx.2.2.2.2.1 _ q_28) (cx.2.2.2.2.1 _ q_29) rfl (hl.1.trans cx.2.2.1.symm) rfl dX5_init_1 (Nat.le_of_ble_eq_true rfl) (Nat.le_of_ble_eq_true rfl) ?_
  refine W.eq (g2 := F0 m 4 ls []) rfl ?_
  refine lv_aload_n hx hb dX5_init_4 rfl (lv_at hl 0 rfl) ?_
  refine lv_iconst (v := (4)) hx hb dX5_init_5 (by decide) ?_
  refine newI cx hw (by decide) (N := 4) (by decide) (by omega) (Nat.le_of_ble_eq_true rfl) (Nat.le_of_ble_eq_true rfl) dX5_init_6 (fun q11 H hw => ?_)
  have hw : Wd D A s (cs ws [(q11, .inl (t 0, 4, .inl (fun _ => 0)))] k0 (q0, .inr (5, [.null, .int 0, .int 0, .int 0, .int 0, .int 0, .int 0, .null, .int 0, .null, .null, .null, .int 0, .int 0]))) H [] := by rw [cs_app] at hw; exact hw
  refine va_putF (ref := "DialSquare$Plans") (C := RX5) (T := TX5) (N := 14) (ci := 5) cx.1 cx.2.1 cx.2.2.2.2.1 lay_5 tyX5 tyX5_ok nmX5 cx.2.2.2.1 cx.2.2.2.2.2.1.1 hw.1 hw.2.1 hw.2.2 k0 (cs_0 hk) rfl 0 (by decide) (cx.2.2.2.2.1 _ q_269) (fun _ h => h) rfl cx.2.2.2.2.2.2.2.2.2 rfl rfl rfl rfl (Nat.le_of_ble_eq_true rfl) dX5_init_8 (fun H l1 hP hD hS => ?_)
  have hw : Wd D A s (cs ws [(q11, .inl (t 0, 4, .inl (fun _ => 0)))] k0 (q0, .inr (5, [.ref q11, .int 0, .int 0, .int 0, .int 0, .int 0, .int 0, .null, .int 0, .null, .null, .null, .int 0, .int 0]))) H l1 := ⟨by rw [cs_set0 hk] at hP; exact hP, by rw [cs_set0 hk] at hD; exact hD, hS⟩
  refine lv_aload_n hx hb dX5_init_11 rfl (lv_at hl 0 rfl) ?_
  refine lv_iconst (v := (4)) hx hb dX5_init_12 (by decide) ?_
  refine lv_iconst (v := (3)) hx hb dX5_init_13 (by decide) ?_
  refine newG cx hw (N := 4) (K := 3) (fun z => [(z, .inl (t 3, 4, .inr (.inr (.inr (.inr (fun j => some (z + 1 + j))))))), (z + 1, .inl (t 0, 3, .inl (fun _ => 0))), (z + 2, .inl (t 0, 3, .inl (fun _ => 0))), (z + 3, .inl (t 0, 3, .inl (fun _ => 0))), (z + 4, .inl (t 0, 3, .inl (fun _ => 0)))]) (fun _ => rfl) q_268 (by decide) (by decide) (by decide) (by decide) (by omega) (by omega) (Nat.le_of_ble_eq_true rfl) (Nat.le_of_ble_eq_true rfl) dX5_init_14 (fun q12 H hw => ?_)
  have hw : Wd D A s (cs ws [(q11, .inl (t 0, 4, .inl (fun _ => 0))), (q12, .inl (t 3, 4, .inr (.inr (.inr (.inr (fun j => some (q12 + 1 + j))))))), (q12 + 1, .inl (t 0, 3, .inl (fun _ => 0))), (q12 + 2, .inl (t 0, 3, .inl (fun _ => 0))), (q12 + 3, .inl (t 0, 3, .inl (fun _ => 0))), (q12 + 4, .inl (t 0, 3, .inl (fun _ => 0)))] k0 (q0, .inr (5, [.ref q11, .int 0, .int 0, .int 0, .int 0, .int 0, .int 0, .null, .int 0, .null, .null, .null, .int 0, .int 0]))) H l1 := by rw [cs_app] at hw; exact hw
  refine va_putF (ref := "DialSquare$Plans") (C := RX5) (T := TX5) (N := 14) (ci := 5) cx.1 cx.2.1 cx.2.2.2.2.1 lay_5 tyX5 tyX5_ok nmX5 cx.2.2.2.1 cx.2.2.2.2.2.1.1 hw.1 hw.2.1 hw.2.2 k0 (cs_0 hk) rfl 7 (by decide) (cx.2.2.2.2.1 _ q_283) (fun _ h => h) rfl cx.2.2.2.2.2.2.2.2.2 rfl rfl rfl rfl (Nat.le_of_ble_eq_true rfl) dX5_init_18 (fun H l1 hP hD hS => ?_)
  have hw : Wd D A s (cs ws [(q11, .inl (t 0, 4, .inl (fun _ => 0))), (q12, .inl (t 3, 4, .inr (.inr (.inr (.inr (fun j => some (q12 + 1 + j))))))), (q12 + 1, .inl (t 0, 3, .inl (fun _ => 0))), (q12 + 2, .inl (t 0, 3, .inl (fun _ => 0))), (q12 + 3, .inl (t 0, 3, .inl (fun _ => 0))), (q12 + 4, .inl (t 0, 3, .inl (fun _ => 0)))] k0 (q0, .inr (5, [.ref q11, .int 0, .int 0, .int 0, .int 0, .int 0, .int 0, .ref q12, .int 0, .null, .null, .null, .int 0, .int 0]))) H l1 := ⟨by rw [cs_set0 hk] at hP; exact hP, by rw [cs_set0 hk] at hD; exact hD, hS⟩
  refine lv_aload_n hx hb dX5_init_21 rfl (lv_at hl 0 rfl) ?_
  refine lv_iconst (v := (4)) hx hb dX5_init_22 (by decide) ?_
  refine newI cx hw (by decide) (N := 4) (by decide) (by omega) (Nat.le_of_ble_eq_true rfl) (Nat.le_of_ble_eq_true rfl) dX5_init_23 (fun q13 H hw => ?_)
  have hw : Wd D A s (cs ws [(q11, .inl (t 0, 4, .inl (fun _ => 0))), (q12, .inl (t 3, 4, .inr (.inr (.inr (.inr (fun j => some (q12 + 1 + j))))))), (q12 + 1, .inl (t 0, 3, .inl (fun _ => 0))), (q12 + 2, .inl (t 0, 3, .inl (fun _ => 0))), (q12 + 3, .inl (t 0, 3, .inl (fun _ => 0))), (q12 + 4, .inl (t 0, 3, .inl (fun _ => 0))), (q13, .inl (t 0, 4, .inl (fun _ => 0)))] k0 (q0, .inr (5, [.ref q11, .int 0, .int 0, .int 0, .int 0, .int 0, .int 0, .ref q12, .int 0, .null, .null, .null, .int 0, .int 0]))) H l1 := by rw [cs_app] at hw; exact hw
  refine va_putF (ref := "DialSquare$Plans") (C := RX5) (T := TX5) (N := 14) (ci := 5) cx.1 cx.2.1 cx.2.2.2.2.1 lay_5 tyX5 tyX5_ok nmX5 cx.2.2.2.1 cx.2.2.2.2.2.1.1 hw.1 hw.2.1 hw.2.2 k0 (cs_0 hk) rfl 10 (by decide) (cx.2.2.2.2.1 _ q_288) (fun _ h => h) rfl cx.2.2.2.2.2.2.2.2.2 rfl rfl rfl rfl (Nat.le_of_ble_eq_true rfl) dX5_init_25 (fun H l1 hP hD hS => ?_)
  have hw : Wd D A s (cs ws [(q11, .inl (t 0, 4, .inl (fun _ => 0))), (q12, .inl (t 3, 4, .inr (.inr (.inr (.inr (fun j => some (q12 + 1 + j))))))), (q12 + 1, .inl (t 0, 3, .inl (fun _ => 0))), (q12 + 2, .inl (t 0, 3, .inl (fun _ => 0))), (q12 + 3, .inl (t 0, 3, .inl (fun _ => 0))), (q12 + 4, .inl (t 0, 3, .inl (fun _ => 0))), (q13, .inl (t 0, 4, .inl (fun _ => 0)))] k0 (q0, .inr (5, [.ref q11, .int 0, .int 0, .int 0, .int 0, .int 0, .int 0, .ref q12, .int 0, .null, .ref q13, .null, .int 0, .int 0]))) H l1 := ⟨by rw [cs_set0 hk] at hP; exact hP, by rw [cs_set0 hk] at hD; exact hD, hS⟩
  refine lv_aload_n hx hb dX5_init_28 rfl (lv_at hl 0 rfl) ?_
  refine lv_iconst (v := (4)) hx hb dX5_init_29 (by decide) ?_
  refine lv_bipush (v := (13)) hx hb dX5_init_30 (by decide) ?_
  refine newG cx hw (N := 4) (K := 13) (fun z => [(z, .inl (t 3, 4, .inr (.inr (.inr (.inr (fun j => some (z + 1 + j))))))), (z + 1, .inl (t 0, 13, .inl (fun _ => 0))), (z + 2, .inl (t 0, 13, .inl (fun _ => 0))), (z + 3, .inl (t 0, 13, .inl (fun _ => 0))), (z + 4, .inl (t 0, 13, .inl (fun _ => 0)))]) (fun _ => rfl) q_268 (by decide) (by decide) (by decide) (by decide) (by omega) (by omega) (Nat.le_of_ble_eq_true rfl) (Nat.le_of_ble_eq_true rfl) dX5_init_32 (fun q14 H hw => ?_)
  have hw : Wd D A s (cs ws [(q11, .inl (t 0, 4, .inl (fun _ => 0))), (q12, .inl (t 3, 4, .inr (.inr (.inr (.inr (fun j => some (q12 + 1 + j))))))), (q12 + 1, .inl (t 0, 3, .inl (fun _ => 0))), (q12 + 2, .inl (t 0, 3, .inl (fun _ => 0))), (q12 + 3, .inl (t 0, 3, .inl (fun _ => 0))), (q12 + 4, .inl (t 0, 3, .inl (fun _ => 0))), (q13, .inl (t 0, 4, .inl (fun _ => 0))), (q14, .inl (t 3, 4, .inr (.inr (.inr (.inr (fun j => some (q14 + 1 + j))))))), (q14 + 1, .inl (t 0, 13, .inl (fun _ => 0))), (q14 + 2, .inl (t 0, 13, .inl (fun _ => 0))), (q14 + 3, .inl (t 0, 13, .inl (fun _ => 0))), (q14 + 4, .inl (t 0, 13, .inl (fun _ => 0)))] k0 (q0, .inr (5, [.ref q11, .int 0, .int 0, .int 0, .int 0, .int 0, .int 0, .ref q12, .int 0, .null, .ref q13, .null, .int 0, .int 0]))) H l1 := by rw [cs_app] at hw; exact hw
  refine va_putF (ref := "DialSquare$Plans") (C := RX5) (T := TX5) (N := 14) (ci := 5) cx.1 cx.2.1 cx.2.2.2.2.1 lay_5 tyX5 tyX5_ok nmX5 cx.2.2.2.1 cx.2.2.2.2.2.1.1 hw.1 hw.2.1 hw.2.2 k0 (cs_0 hk) rfl 11 (by decide) (cx.2.2.2.2.1 _ q_289) (fun _ h => h) rfl cx.2.2.2.2.2.2.2.2.2 rfl rfl rfl rfl (Nat.le_of_ble_eq_true rfl) dX5_init_36 (fun H l1 hP hD hS => ?_)
  have hw : Wd D A s (cs ws [(q11, .inl (t 0, 4, .inl (fun _ => 0))), (q12, .inl (t 3, 4, .inr (.inr (.inr (.inr (fun j => some (q12 + 1 + j))))))), (q12 + 1, .inl (t 0, 3, .inl (fun _ => 0))), (q12 + 2, .inl (t 0, 3, .inl (fun _ => 0))), (q12 + 3, .inl (t 0, 3, .inl (fun _ => 0))), (q12 + 4, .inl (t 0, 3, .inl (fun _ => 0))), (q13, .inl (t 0, 4, .inl (fun _ => 0))), (q14, .inl (t 3, 4, .inr (.inr (.inr (.inr (fun j => some (q14 + 1 + j))))))), (q14 + 1, .inl (t 0, 13, .inl (fun _ => 0))), (q14 + 2, .inl (t 0, 13, .inl (fun _ => 0))), (q14 + 3, .inl (t 0, 13, .inl (fun _ => 0))), (q14 + 4, .inl (t 0, 13, .inl (fun _ => 0)))] k0 (q0, .inr (5, [.ref q11, .int 0, .int 0, .int 0, .int 0, .int 0, .int 0, .ref q12, .int 0, .null, .ref q13, .ref q14, .int 0, .int 0]))) H l1 := ⟨by rw [cs_set0 hk] at hP; exact hP, by rw [cs_set0 hk] at hD; exact hD, hS⟩
  refine lv_aload_n hx hb dX5_init_39 rfl (lv_at hl 0 rfl) ?_
  refine lv_aload_n hx hb dX5_init_40 rfl (lv_at hl 1 rfl) ?_
  refine va_putF (ref := "DialSquare$Plans") (C := RX5) (T := TX5) (N := 14) (ci := 5) cx.1 cx.2.1 cx.2.2.2.2.1 lay_5 tyX5 tyX5_ok nmX5 cx.2.2.2.1 cx.2.2.2.2.2.1.1 hw.1 hw.2.1 hw.2.2 k0 (cs_0 hk) rfl 9 (by decide) (cx.2.2.2.2.1 _ q_287) (fun _ h => h) rfl cx.2.2.2.2.2.2.2.2.2 rfl rfl rfl rfl (Nat.le_of_ble_eq_true rfl) dX5_init_41 (fun H l1 hP hD hS => ?_)
  have hw : Wd D A s (cs ws [(q11, .inl (t 0, 4, .inl (fun _ => 0))), (q12, .inl (t 3, 4, .inr (.inr (.inr (.inr (fun j => some (q12 + 1 + j))))))), (q12 + 1, .inl (t 0, 3, .inl (fun _ => 0))), (q12 + 2, .inl (t 0, 3, .inl (fun _ => 0))), (q12 + 3, .inl (t 0, 3, .inl (fun _ => 0))), (q12 + 4, .inl (t 0, 3, .inl (fun _ => 0))), (q13, .inl (t 0, 4, .inl (fun _ => 0))), (q14, .inl (t 3, 4, .inr (.inr (.inr (.inr (fun j => some (q14 + 1 + j))))))), (q14 + 1, .inl (t 0, 13, .inl (fun _ => 0))), (q14 + 2, .inl (t 0, 13, .inl (fun _ => 0))), (q14 + 3, .inl (t 0, 13, .inl (fun _ => 0))), (q14 + 4, .inl (t 0, 13, .inl (fun _ => 0)))] k0 (q0, .inr (5, [.ref q11, .int 0, .int 0, .int 0, .int 0, .int 0, .int 0, .ref q12, .int 0, .ref b1, .ref q13, .ref q14, .int 0, .int 0]))) H l1 := ⟨by rw [cs_set0 hk] at hP; exact hP, by rw [cs_set0 hk] at hD; exact hD, hS⟩
  exact hR _ _ _ _ _ hw ⟨q11, q12, q13, q14, rfl, rfl⟩ dX5_init_44
theorem dX2_init_0 : decode cX2_init 0 = .ok (.aload_n 0, 1) := by decide +kernel
theorem dX2_init_1 : decode cX2_init 1 = .ok (.invokespecial 3, 3) := by decide +kernel
theorem dX2_init_4 : decode cX2_init 4 = .ok (.aload_n 0, 1) := by decide +kernel
theorem dX2_init_5 : decode cX2_init 5 = .ok (.iconst 4, 1) := by decide +kernel
theorem dX2_init_6 : decode cX2_init 6 = .ok (.newarray .int, 2) := by decide +kernel
theorem dX2_init_8 : decode cX2_init 8 = .ok (.dup, 1) := by decide +kernel
theorem dX2_init_9 : decode cX2_init 9 = .ok (.iconst 0, 1) := by decide +kernel
theorem dX2_init_10 : decode cX2_init 10 = .ok (.iconst (-1), 1) := by decide +kernel
theorem dX2_init_11 : decode cX2_init 11 = .ok (.iastore, 1) := by decide +kernel
theorem dX2_init_12 : decode cX2_init 12 = .ok (.dup, 1) := by decide +kernel
theorem dX2_init_13 : decode cX2_init 13 = .ok (.iconst 1, 1) := by decide +kernel
theorem dX2_init_14 : decode cX2_init 14 = .ok (.iconst (-1), 1) := by decide +kernel
theorem dX2_init_15 : decode cX2_init 15 = .ok (.iastore, 1) := by decide +kernel
theorem dX2_init_16 : decode cX2_init 16 = .ok (.dup, 1) := by decide +kernel
theorem dX2_init_17 : decode cX2_init 17 = .ok (.iconst 2, 1) := by decide +kernel
theorem dX2_init_18 : decode cX2_init 18 = .ok (.iconst (-1), 1) := by decide +kernel
theorem dX2_init_19 : decode cX2_init 19 = .ok (.iastore, 1) := by decide +kernel
theorem dX2_init_20 : decode cX2_init 20 = .ok (.dup, 1) := by decide +kernel
theorem dX2_init_21 : decode cX2_init 21 = .ok (.iconst 3, 1) := by decide +kernel
theorem dX2_init_22 : decode cX2_init 22 = .ok (.iconst (-1), 1) := by decide +kernel
theorem dX2_init_23 : decode cX2_init 23 = .ok (.iastore, 1) := by decide +kernel
theorem dX2_init_24 : decode cX2_init 24 = .ok (.putfield 9, 3) := by decide +kernel
theorem dX2_init_27 : decode cX2_init 27 = .ok (.aload_n 0, 1) := by decide +kernel
theorem dX2_init_28 : decode cX2_init 28 = .ok (.iconst 4, 1) := by decide +kernel
theorem dX2_init_29 : decode cX2_init 29 = .ok (.newarray .int, 2) := by decide +kernel
theorem dX2_init_31 : decode cX2_init 31 = .ok (.putfield 15, 3) := by decide +kernel
theorem dX2_init_34 : decode cX2_init 34 = .ok (.aload_n 0, 1) := by decide +kernel
theorem dX2_init_35 : decode cX2_init 35 = .ok (.iconst 4, 1) := by decide +kernel
theorem dX2_init_36 : decode cX2_init 36 = .ok (.bipush 40, 2) := by decide +kernel
theorem dX2_init_38 : decode cX2_init 38 = .ok (.multianewarray 18 2, 4) := by decide +kernel
theorem dX2_init_42 : decode cX2_init 42 = .ok (.putfield 20, 3) := by decide +kernel
theorem dX2_init_45 : decode cX2_init 45 = .ok (.aload_n 0, 1) := by decide +kernel
theorem dX2_init_46 : decode cX2_init 46 = .ok (.iconst 4, 1) := by decide +kernel
theorem dX2_init_47 : decode cX2_init 47 = .ok (.newarray .int, 2) := by decide +kernel
theorem dX2_init_49 : decode cX2_init 49 = .ok (.dup, 1) := by decide +kernel
theorem dX2_init_50 : decode cX2_init 50 = .ok (.iconst 0, 1) := by decide +kernel
theorem dX2_init_51 : decode cX2_init 51 = .ok (.iconst 2, 1) := by decide +kernel
theorem dX2_init_52 : decode cX2_init 52 = .ok (.iastore, 1) := by decide +kernel
theorem dX2_init_53 : decode cX2_init 53 = .ok (.dup, 1) := by decide +kernel
theorem dX2_init_54 : decode cX2_init 54 = .ok (.iconst 1, 1) := by decide +kernel
theorem dX2_init_55 : decode cX2_init 55 = .ok (.iconst 2, 1) := by decide +kernel
theorem dX2_init_56 : decode cX2_init 56 = .ok (.iastore, 1) := by decide +kernel
theorem dX2_init_57 : decode cX2_init 57 = .ok (.dup, 1) := by decide +kernel
theorem dX2_init_58 : decode cX2_init 58 = .ok (.iconst 2, 1) := by decide +kernel
theorem dX2_init_59 : decode cX2_init 59 = .ok (.iconst 2, 1) := by decide +kernel
theorem dX2_init_60 : decode cX2_init 60 = .ok (.iastore, 1) := by decide +kernel
theorem dX2_init_61 : decode cX2_init 61 = .ok (.dup, 1) := by decide +kernel
theorem dX2_init_62 : decode cX2_init 62 = .ok (.iconst 3, 1) := by decide +kernel
theorem dX2_init_63 : decode cX2_init 63 = .ok (.iconst 2, 1) := by decide +kernel
theorem dX2_init_64 : decode cX2_init 64 = .ok (.iastore, 1) := by decide +kernel
theorem dX2_init_65 : decode cX2_init 65 = .ok (.putfield 23, 3) := by decide +kernel
theorem dX2_init_68 : decode cX2_init 68 = .ok (.aload_n 0, 1) := by decide +kernel
theorem dX2_init_69 : decode cX2_init 69 = .ok (.iconst 4, 1) := by decide +kernel
theorem dX2_init_70 : decode cX2_init 70 = .ok (.newarray .int, 2) := by decide +kernel
theorem dX2_init_72 : decode cX2_init 72 = .ok (.putfield 26, 3) := by decide +kernel
theorem dX2_init_75 : decode cX2_init 75 = .ok (.aload_n 0, 1) := by decide +kernel
theorem dX2_init_76 : decode cX2_init 76 = .ok (.iconst 4, 1) := by decide +kernel
theorem dX2_init_77 : decode cX2_init 77 = .ok (.newarray .int, 2) := by decide +kernel
theorem dX2_init_79 : decode cX2_init 79 = .ok (.putfield 29, 3) := by decide +kernel
theorem dX2_init_82 : decode cX2_init 82 = .ok (.aload_n 0, 1) := by decide +kernel
theorem dX2_init_83 : decode cX2_init 83 = .ok (.bipush 30, 2) := by decide +kernel
theorem dX2_init_85 : decode cX2_init 85 = .ok (.newarray .int, 2) := by decide +kernel
theorem dX2_init_87 : decode cX2_init 87 = .ok (.putfield 32, 3) := by decide +kernel
theorem dX2_init_90 : decode cX2_init 90 = .ok (.return_, 1) := by decide +kernel
theorem k_X2_init : MI yX2_init cX2_init 1 0 := ⟨q_76, q_3, q_77, rfl, ⟨by decide, by decide, by decide +kernel⟩⟩
theorem c_X2_init {q0 k0 : Nat} (hs : ws[k0]? = some (q0, .inr (2, [.null, .null, .null, .null, .null, .null, .null, .int 0, .int 0, .int 0, .int 0]))) : MC l E0 D t yX2_init cX2_init 1 none 1 11 214 [.ref q0] ws (fun v ws' => ∃ q11 q12 q13 q14 q15 q16 q17 : Nat, v = none ∧ ws' = cs ws [(q11, .inl (t 0, 4, .inl (upd (upd (upd (upd (fun _ => 0) 0 (-1)) 1 (-1)) 2 (-1)) 3 (-1)))), (q12, .inl (t 0, 4, .inl (fun _ => 0))), (q13, .inl (t 3, 4, .inr (.inr (.inr (.inr (fun j => some (q13 + 1 + j))))))), (q13 + 1, .inl (t 0, 40, .inl (fun _ => 0))), (q13 + 2, .inl (t 0, 40, .inl (fun _ => 0))), (q13 + 3, .inl (t 0, 40, .inl (fun _ => 0))), (q13 + 4, .inl (t 0, 40, .inl (fun _ => 0))), (q14, .inl (t 0, 4, .inl (upd (upd (upd (upd (fun _ => 0) 0 (2)) 1 (2)) 2 (2)) 3 (2)))), (q15, .inl (t 0, 4, .inl (fun _ => 0))), (q16, .inl (t 0, 4, .inl (fun _ => 0))), (q17, .inl (t 0, 30, .inl (fun _ => 0)))] k0 (q0, .inr (2, [.ref q11, .ref q12, .ref q13, .ref q14, .ref q15, .ref q16, .ref q17, .int 0, .int 0, .int 0, .int 0]))) := by
  have hk : k0 < ws.length := (List.getElem?_eq_some_iff.mp hs).1
  refine MC.ofV pn_X2 (Nat.le_of_ble_eq_true rfl) ?_
  intro p e s m args below meth c A Q ls cx hR hw hl
  have hx := cx.1
  have hb := cx.2.1
  have hl : lv_has ls 1 [(0, .ref q0)] := hl
  have hw : Wd D A s (cs ws [] k0 (q0, .inr (2, [.null, .null, .null, .null, .null, .null, .null, .int 0, .int 0, .int 0, .int 0]))) s.heap [] := by rw [cs_of hs]; exact hw
  refine lv_aload_n hx hb dX2_init_0 rfl (lv_at hl 0 rfl) ?_
  refine W.objInit hx hb cx.2.2.2.1 (cx.2.2.2.2.1 _ q_78) (cx.2.2.2.2.1 _ q_28) (cx.2.2.2.2.1 _ q_29) rfl (hl.1.trans cx.2.2.1.symm) rfl dX2_init_1 (Nat.le_of_ble_eq_true rfl) (Nat.le_of_ble_eq_true rfl) ?_
  refine W.eq (g2 := F0 m 4 ls []) rfl ?_
  refine lv_aload_n hx hb dX2_init_4 rfl (lv_at hl 0 rfl) ?_
  refine lv_iconst (v := (4)) hx hb dX2_init_5 (by decide) ?_
  refine newI cx hw (by decide) (N := 4) (by decide) (by omega) (Nat.le_of_ble_eq_true rfl) (Nat.le_of_ble_eq_true rfl) dX2_init_6 (fun q11 H hw => ?_)
  have hw : Wd D A s (cs ws [(q11, .inl (t 0, 4, .inl (fun _ => 0)))] k0 (q0, .inr (2, [.null, .null, .null, .null, .null, .null, .null, .int 0, .int 0, .int 0, .int 0]))) H [] := by rw [cs_app] at hw; exact hw
  refine lv_dup hx hb dX2_init_8 rfl ?_
  refine lv_iconst (v := (0)) hx hb dX2_init_9 (by decide) ?_
  refine lv_iconst (v := (-1)) hx hb dX2_init_10 (by decide) ?_
  refine va_iast hx hb cx.2.2.2.2.2.1.1 hw.1 hw.2.1 hw.2.2 (ws.length + 0) 0 (cs_L rfl) rfl (ib_in (by decide)) dX2_init_11 (fun H l1 hP hD hS => ?_)
  have hw : Wd D A s (cs ws [(q11, .inl (t 0, 4, .inl (upd (fun _ => 0) 0 (-1))))] k0 (q0, .inr (2, [.null, .null, .null, .null, .null, .null, .null, .int 0, .int 0, .int 0, .int 0]))) H l1 := ⟨by rw [cs_setL] at hP; exact hP, by rw [cs_setL] at hD; exact hD, hS⟩
  refine lv_dup hx hb dX2_init_12 rfl ?_
  refine lv_iconst (v := (1)) hx hb dX2_init_13 (by decide) ?_
  refine lv_iconst (v := (-1)) hx hb dX2_init_14 (by decide) ?_
  refine va_iast hx hb cx.2.2.2.2.2.1.1 hw.1 hw.2.1 hw.2.2 (ws.length + 0) 0 (cs_L rfl) rfl (ib_in (by decide)) dX2_init_15 (fun H l1 hP hD hS => ?_)
  have hw : Wd D A s (cs ws [(q11, .inl (t 0, 4, .inl (upd (upd (fun _ => 0) 0 (-1)) 1 (-1))))] k0 (q0, .inr (2, [.null, .null, .null, .null, .null, .null, .null, .int 0, .int 0, .int 0, .int 0]))) H l1 := ⟨by rw [cs_setL] at hP; exact hP, by rw [cs_setL] at hD; exact hD, hS⟩
  refine lv_dup hx hb dX2_init_16 rfl ?_
  refine lv_iconst (v := (2)) hx hb dX2_init_17 (by decide) ?_
  refine lv_iconst (v := (-1)) hx hb dX2_init_18 (by decide) ?_
  refine va_iast hx hb cx.2.2.2.2.2.1.1 hw.1 hw.2.1 hw.2.2 (ws.length + 0) 0 (cs_L rfl) rfl (ib_in (by decide)) dX2_init_19 (fun H l1 hP hD hS => ?_)
  have hw : Wd D A s (cs ws [(q11, .inl (t 0, 4, .inl (upd (upd (upd (fun _ => 0) 0 (-1)) 1 (-1)) 2 (-1))))] k0 (q0, .inr (2, [.null, .null, .null, .null, .null, .null, .null, .int 0, .int 0, .int 0, .int 0]))) H l1 := ⟨by rw [cs_setL] at hP; exact hP, by rw [cs_setL] at hD; exact hD, hS⟩
  refine lv_dup hx hb dX2_init_20 rfl ?_
  refine lv_iconst (v := (3)) hx hb dX2_init_21 (by decide) ?_
  refine lv_iconst (v := (-1)) hx hb dX2_init_22 (by decide) ?_
  refine va_iast hx hb cx.2.2.2.2.2.1.1 hw.1 hw.2.1 hw.2.2 (ws.length + 0) 0 (cs_L rfl) rfl (ib_in (by decide)) dX2_init_23 (fun H l1 hP hD hS => ?_)
  have hw : Wd D A s (cs ws [(q11, .inl (t 0, 4, .inl (upd (upd (upd (upd (fun _ => 0) 0 (-1)) 1 (-1)) 2 (-1)) 3 (-1))))] k0 (q0, .inr (2, [.null, .null, .null, .null, .null, .null, .null, .int 0, .int 0, .int 0, .int 0]))) H l1 := ⟨by rw [cs_setL] at hP; exact hP, by rw [cs_setL] at hD; exact hD, hS⟩
  refine va_putF (ref := "DialSquare$Host") (C := RX2) (T := TX2) (N := 11) (ci := 2) cx.1 cx.2.1 cx.2.2.2.2.1 lay_2 tyX2 tyX2_ok nmX2 cx.2.2.2.1 cx.2.2.2.2.2.1.1 hw.1 hw.2.1 hw.2.2 k0 (cs_0 hk) rfl 0 (by decide) (cx.2.2.2.2.1 _ q_81) (fun _ h => h) rfl cx.2.2.2.2.2.2.2.2.2 rfl rfl rfl rfl (Nat.le_of_ble_eq_true rfl) dX2_init_24 (fun H l1 hP hD hS => ?_)
  have hw : Wd D A s (cs ws [(q11, .inl (t 0, 4, .inl (upd (upd (upd (upd (fun _ => 0) 0 (-1)) 1 (-1)) 2 (-1)) 3 (-1))))] k0 (q0, .inr (2, [.ref q11, .null, .null, .null, .null, .null, .null, .int 0, .int 0, .int 0, .int 0]))) H l1 := ⟨by rw [cs_set0 hk] at hP; exact hP, by rw [cs_set0 hk] at hD; exact hD, hS⟩
  refine lv_aload_n hx hb dX2_init_27 rfl (lv_at hl 0 rfl) ?_
  refine lv_iconst (v := (4)) hx hb dX2_init_28 (by decide) ?_
  refine newI cx hw (by decide) (N := 4) (by decide) (by omega) (Nat.le_of_ble_eq_true rfl) (Nat.le_of_ble_eq_true rfl) dX2_init_29 (fun q12 H hw => ?_)
  have hw : Wd D A s (cs ws [(q11, .inl (t 0, 4, .inl (upd (upd (upd (upd (fun _ => 0) 0 (-1)) 1 (-1)) 2 (-1)) 3 (-1)))), (q12, .inl (t 0, 4, .inl (fun _ => 0)))] k0 (q0, .inr (2, [.ref q11, .null, .null, .null, .null, .null, .null, .int 0, .int 0, .int 0, .int 0]))) H l1 := by rw [cs_app] at hw; exact hw
  refine va_putF (ref := "DialSquare$Host") (C := RX2) (T := TX2) (N := 11) (ci := 2) cx.1 cx.2.1 cx.2.2.2.2.1 lay_2 tyX2 tyX2_ok nmX2 cx.2.2.2.1 cx.2.2.2.2.2.1.1 hw.1 hw.2.1 hw.2.2 k0 (cs_0 hk) rfl 1 (by decide) (cx.2.2.2.2.1 _ q_83) (fun _ h => h) rfl cx.2.2.2.2.2.2.2.2.2 rfl rfl rfl rfl (Nat.le_of_ble_eq_true rfl) dX2_init_31 (fun H l1 hP hD hS => ?_)
  have hw : Wd D A s (cs ws [(q11, .inl (t 0, 4, .inl (upd (upd (upd (upd (fun _ => 0) 0 (-1)) 1 (-1)) 2 (-1)) 3 (-1)))), (q12, .inl (t 0, 4, .inl (fun _ => 0)))] k0 (q0, .inr (2, [.ref q11, .ref q12, .null, .null, .null, .null, .null, .int 0, .int 0, .int 0, .int 0]))) H l1 := ⟨by rw [cs_set0 hk] at hP; exact hP, by rw [cs_set0 hk] at hD; exact hD, hS⟩
  refine lv_aload_n hx hb dX2_init_34 rfl (lv_at hl 0 rfl) ?_
  refine lv_iconst (v := (4)) hx hb dX2_init_35 (by decide) ?_
  refine lv_bipush (v := (40)) hx hb dX2_init_36 (by decide) ?_
  refine newG cx hw (N := 4) (K := 40) (fun z => [(z, .inl (t 3, 4, .inr (.inr (.inr (.inr (fun j => some (z + 1 + j))))))), (z + 1, .inl (t 0, 40, .inl (fun _ => 0))), (z + 2, .inl (t 0, 40, .inl (fun _ => 0))), (z + 3, .inl (t 0, 40, .inl (fun _ => 0))), (z + 4, .inl (t 0, 40, .inl (fun _ => 0)))]) (fun _ => rfl) q_79 (by decide) (by decide) (by decide) (by decide) (by omega) (by omega) (Nat.le_of_ble_eq_true rfl) (Nat.le_of_ble_eq_true rfl) dX2_init_38 (fun q13 H hw => ?_)
  have hw : Wd D A s (cs ws [(q11, .inl (t 0, 4, .inl (upd (upd (upd (upd (fun _ => 0) 0 (-1)) 1 (-1)) 2 (-1)) 3 (-1)))), (q12, .inl (t 0, 4, .inl (fun _ => 0))), (q13, .inl (t 3, 4, .inr (.inr (.inr (.inr (fun j => some (q13 + 1 + j))))))), (q13 + 1, .inl (t 0, 40, .inl (fun _ => 0))), (q13 + 2, .inl (t 0, 40, .inl (fun _ => 0))), (q13 + 3, .inl (t 0, 40, .inl (fun _ => 0))), (q13 + 4, .inl (t 0, 40, .inl (fun _ => 0)))] k0 (q0, .inr (2, [.ref q11, .ref q12, .null, .null, .null, .null, .null, .int 0, .int 0, .int 0, .int 0]))) H l1 := by rw [cs_app] at hw; exact hw
  refine va_putF (ref := "DialSquare$Host") (C := RX2) (T := TX2) (N := 11) (ci := 2) cx.1 cx.2.1 cx.2.2.2.2.1 lay_2 tyX2 tyX2_ok nmX2 cx.2.2.2.1 cx.2.2.2.2.2.1.1 hw.1 hw.2.1 hw.2.2 k0 (cs_0 hk) rfl 2 (by decide) (cx.2.2.2.2.1 _ q_84) (fun _ h => h) rfl cx.2.2.2.2.2.2.2.2.2 rfl rfl rfl rfl (Nat.le_of_ble_eq_true rfl) dX2_init_42 (fun H l1 hP hD hS => ?_)
  have hw : Wd D A s (cs ws [(q11, .inl (t 0, 4, .inl (upd (upd (upd (upd (fun _ => 0) 0 (-1)) 1 (-1)) 2 (-1)) 3 (-1)))), (q12, .inl (t 0, 4, .inl (fun _ => 0))), (q13, .inl (t 3, 4, .inr (.inr (.inr (.inr (fun j => some (q13 + 1 + j))))))), (q13 + 1, .inl (t 0, 40, .inl (fun _ => 0))), (q13 + 2, .inl (t 0, 40, .inl (fun _ => 0))), (q13 + 3, .inl (t 0, 40, .inl (fun _ => 0))), (q13 + 4, .inl (t 0, 40, .inl (fun _ => 0)))] k0 (q0, .inr (2, [.ref q11, .ref q12, .ref q13, .null, .null, .null, .null, .int 0, .int 0, .int 0, .int 0]))) H l1 := ⟨by rw [cs_set0 hk] at hP; exact hP, by rw [cs_set0 hk] at hD; exact hD, hS⟩
  refine lv_aload_n hx hb dX2_init_45 rfl (lv_at hl 0 rfl) ?_
  refine lv_iconst (v := (4)) hx hb dX2_init_46 (by decide) ?_
  refine newI cx hw (by decide) (N := 4) (by decide) (by omega) (Nat.le_of_ble_eq_true rfl) (Nat.le_of_ble_eq_true rfl) dX2_init_47 (fun q14 H hw => ?_)
  have hw : Wd D A s (cs ws [(q11, .inl (t 0, 4, .inl (upd (upd (upd (upd (fun _ => 0) 0 (-1)) 1 (-1)) 2 (-1)) 3 (-1)))), (q12, .inl (t 0, 4, .inl (fun _ => 0))), (q13, .inl (t 3, 4, .inr (.inr (.inr (.inr (fun j => some (q13 + 1 + j))))))), (q13 + 1, .inl (t 0, 40, .inl (fun _ => 0))), (q13 + 2, .inl (t 0, 40, .inl (fun _ => 0))), (q13 + 3, .inl (t 0, 40, .inl (fun _ => 0))), (q13 + 4, .inl (t 0, 40, .inl (fun _ => 0))), (q14, .inl (t 0, 4, .inl (fun _ => 0)))] k0 (q0, .inr (2, [.ref q11, .ref q12, .ref q13, .null, .null, .null, .null, .int 0, .int 0, .int 0, .int 0]))) H l1 := by rw [cs_app] at hw; exact hw
  refine lv_dup hx hb dX2_init_49 rfl ?_
  refine lv_iconst (v := (0)) hx hb dX2_init_50 (by decide) ?_
  refine lv_iconst (v := (2)) hx hb dX2_init_51 (by decide) ?_
  refine va_iast hx hb cx.2.2.2.2.2.1.1 hw.1 hw.2.1 hw.2.2 (ws.length + 7) 0 (cs_L rfl) rfl (ib_in (by decide)) dX2_init_52 (fun H l1 hP hD hS => ?_)
  have hw : Wd D A s (cs ws [(q11, .inl (t 0, 4, .inl (upd (upd (upd (upd (fun _ => 0) 0 (-1)) 1 (-1)) 2 (-1)) 3 (-1)))), (q12, .inl (t 0, 4, .inl (fun _ => 0))), (q13, .inl (t 3, 4, .inr (.inr (.inr (.inr (fun j => some (q13 + 1 + j))))))), (q13 + 1, .inl (t 0, 40, .inl (fun _ => 0))), (q13 + 2, .inl (t 0, 40, .inl (fun _ => 0))), (q13 + 3, .inl (t 0, 40, .inl (fun _ => 0))), (q13 + 4, .inl (t 0, 40, .inl (fun _ => 0))), (q14, .inl (t 0, 4, .inl (upd (fun _ => 0) 0 (2))))] k0 (q0, .inr (2, [.ref q11, .ref q12, .ref q13, .null, .null, .null, .null, .int 0, .int 0, .int 0, .int 0]))) H l1 := ⟨by rw [cs_setL] at hP; exact hP, by rw [cs_setL] at hD; exact hD, hS⟩
  refine lv_dup hx hb dX2_init_53 rfl ?_
  refine lv_iconst (v := (1)) hx hb dX2_init_54 (by decide) ?_
  refine lv_iconst (v := (2)) hx hb dX2_init_55 (by decide) ?_
  refine va_iast hx hb cx.2.2.2.2.2.1.1 hw.1 hw.2.1 hw.2.2 (ws.length + 7) 0 (cs_L rfl) rfl (ib_in (by decide)) dX2_init_56 (fun H l1 hP hD hS => ?_)
  have hw : Wd D A s (cs ws [(q11, .inl (t 0, 4, .inl (upd (upd (upd (upd (fun _ => 0) 0 (-1)) 1 (-1)) 2 (-1)) 3 (-1)))), (q12, .inl (t 0, 4, .inl (fun _ => 0))), (q13, .inl (t 3, 4, .inr (.inr (.inr (.inr (fun j => some (q13 + 1 + j))))))), (q13 + 1, .inl (t 0, 40, .inl (fun _ => 0))), (q13 + 2, .inl (t 0, 40, .inl (fun _ => 0))), (q13 + 3, .inl (t 0, 40, .inl (fun _ => 0))), (q13 + 4, .inl (t 0, 40, .inl (fun _ => 0))), (q14, .inl (t 0, 4, .inl (upd (upd (fun _ => 0) 0 (2)) 1 (2))))] k0 (q0, .inr (2, [.ref q11, .ref q12, .ref q13, .null, .null, .null, .null, .int 0, .int 0, .int 0, .int 0]))) H l1 := ⟨by rw [cs_setL] at hP; exact hP, by rw [cs_setL] at hD; exact hD, hS⟩
  refine lv_dup hx hb dX2_init_57 rfl ?_
  refine lv_iconst (v := (2)) hx hb dX2_init_58 (by decide) ?_
  refine lv_iconst (v := (2)) hx hb dX2_init_59 (by decide) ?_
  refine va_iast hx hb cx.2.2.2.2.2.1.1 hw.1 hw.2.1 hw.2.2 (ws.length + 7) 0 (cs_L rfl) rfl (ib_in (by decide)) dX2_init_60 (fun H l1 hP hD hS => ?_)
  have hw : Wd D A s (cs ws [(q11, .inl (t 0, 4, .inl (upd (upd (upd (upd (fun _ => 0) 0 (-1)) 1 (-1)) 2 (-1)) 3 (-1)))), (q12, .inl (t 0, 4, .inl (fun _ => 0))), (q13, .inl (t 3, 4, .inr (.inr (.inr (.inr (fun j => some (q13 + 1 + j))))))), (q13 + 1, .inl (t 0, 40, .inl (fun _ => 0))), (q13 + 2, .inl (t 0, 40, .inl (fun _ => 0))), (q13 + 3, .inl (t 0, 40, .inl (fun _ => 0))), (q13 + 4, .inl (t 0, 40, .inl (fun _ => 0))), (q14, .inl (t 0, 4, .inl (upd (upd (upd (fun _ => 0) 0 (2)) 1 (2)) 2 (2))))] k0 (q0, .inr (2, [.ref q11, .ref q12, .ref q13, .null, .null, .null, .null, .int 0, .int 0, .int 0, .int 0]))) H l1 := ⟨by rw [cs_setL] at hP; exact hP, by rw [cs_setL] at hD; exact hD, hS⟩
  refine lv_dup hx hb dX2_init_61 rfl ?_
  refine lv_iconst (v := (3)) hx hb dX2_init_62 (by decide) ?_
  refine lv_iconst (v := (2)) hx hb dX2_init_63 (by decide) ?_
  refine va_iast hx hb cx.2.2.2.2.2.1.1 hw.1 hw.2.1 hw.2.2 (ws.length + 7) 0 (cs_L rfl) rfl (ib_in (by decide)) dX2_init_64 (fun H l1 hP hD hS => ?_)
  have hw : Wd D A s (cs ws [(q11, .inl (t 0, 4, .inl (upd (upd (upd (upd (fun _ => 0) 0 (-1)) 1 (-1)) 2 (-1)) 3 (-1)))), (q12, .inl (t 0, 4, .inl (fun _ => 0))), (q13, .inl (t 3, 4, .inr (.inr (.inr (.inr (fun j => some (q13 + 1 + j))))))), (q13 + 1, .inl (t 0, 40, .inl (fun _ => 0))), (q13 + 2, .inl (t 0, 40, .inl (fun _ => 0))), (q13 + 3, .inl (t 0, 40, .inl (fun _ => 0))), (q13 + 4, .inl (t 0, 40, .inl (fun _ => 0))), (q14, .inl (t 0, 4, .inl (upd (upd (upd (upd (fun _ => 0) 0 (2)) 1 (2)) 2 (2)) 3 (2))))] k0 (q0, .inr (2, [.ref q11, .ref q12, .ref q13, .null, .null, .null, .null, .int 0, .int 0, .int 0, .int 0]))) H l1 := ⟨by rw [cs_setL] at hP; exact hP, by rw [cs_setL] at hD; exact hD, hS⟩
  refine va_putF (ref := "DialSquare$Host") (C := RX2) (T := TX2) (N := 11) (ci := 2) cx.1 cx.2.1 cx.2.2.2.2.1 lay_2 tyX2 tyX2_ok nmX2 cx.2.2.2.1 cx.2.2.2.2.2.1.1 hw.1 hw.2.1 hw.2.2 k0 (cs_0 hk) rfl 3 (by decide) (cx.2.2.2.2.1 _ q_86) (fun _ h => h) rfl cx.2.2.2.2.2.2.2.2.2 rfl rfl rfl rfl (Nat.le_of_ble_eq_true rfl) dX2_init_65 (fun H l1 hP hD hS => ?_)
  have hw : Wd D A s (cs ws [(q11, .inl (t 0, 4, .inl (upd (upd (upd (upd (fun _ => 0) 0 (-1)) 1 (-1)) 2 (-1)) 3 (-1)))), (q12, .inl (t 0, 4, .inl (fun _ => 0))), (q13, .inl (t 3, 4, .inr (.inr (.inr (.inr (fun j => some (q13 + 1 + j))))))), (q13 + 1, .inl (t 0, 40, .inl (fun _ => 0))), (q13 + 2, .inl (t 0, 40, .inl (fun _ => 0))), (q13 + 3, .inl (t 0, 40, .inl (fun _ => 0))), (q13 + 4, .inl (t 0, 40, .inl (fun _ => 0))), (q14, .inl (t 0, 4, .inl (upd (upd (upd (upd (fun _ => 0) 0 (2)) 1 (2)) 2 (2)) 3 (2))))] k0 (q0, .inr (2, [.ref q11, .ref q12, .ref q13, .ref q14, .null, .null, .null, .int 0, .int 0, .int 0, .int 0]))) H l1 := ⟨by rw [cs_set0 hk] at hP; exact hP, by rw [cs_set0 hk] at hD; exact hD, hS⟩
  refine lv_aload_n hx hb dX2_init_68 rfl (lv_at hl 0 rfl) ?_
  refine lv_iconst (v := (4)) hx hb dX2_init_69 (by decide) ?_
  refine newI cx hw (by decide) (N := 4) (by decide) (by omega) (Nat.le_of_ble_eq_true rfl) (Nat.le_of_ble_eq_true rfl) dX2_init_70 (fun q15 H hw => ?_)
  have hw : Wd D A s (cs ws [(q11, .inl (t 0, 4, .inl (upd (upd (upd (upd (fun _ => 0) 0 (-1)) 1 (-1)) 2 (-1)) 3 (-1)))), (q12, .inl (t 0, 4, .inl (fun _ => 0))), (q13, .inl (t 3, 4, .inr (.inr (.inr (.inr (fun j => some (q13 + 1 + j))))))), (q13 + 1, .inl (t 0, 40, .inl (fun _ => 0))), (q13 + 2, .inl (t 0, 40, .inl (fun _ => 0))), (q13 + 3, .inl (t 0, 40, .inl (fun _ => 0))), (q13 + 4, .inl (t 0, 40, .inl (fun _ => 0))), (q14, .inl (t 0, 4, .inl (upd (upd (upd (upd (fun _ => 0) 0 (2)) 1 (2)) 2 (2)) 3 (2)))), (q15, .inl (t 0, 4, .inl (fun _ => 0)))] k0 (q0, .inr (2, [.ref q11, .ref q12, .ref q13, .ref q14, .null, .null, .null, .int 0, .int 0, .int 0, .int 0]))) H l1 := by rw [cs_app] at hw; exact hw
  refine va_putF (ref := "DialSquare$Host") (C := RX2) (T := TX2) (N := 11) (ci := 2) cx.1 cx.2.1 cx.2.2.2.2.1 lay_2 tyX2 tyX2_ok nmX2 cx.2.2.2.1 cx.2.2.2.2.2.1.1 hw.1 hw.2.1 hw.2.2 k0 (cs_0 hk) rfl 4 (by decide) (cx.2.2.2.2.1 _ q_88) (fun _ h => h) rfl cx.2.2.2.2.2.2.2.2.2 rfl rfl rfl rfl (Nat.le_of_ble_eq_true rfl) dX2_init_72 (fun H l1 hP hD hS => ?_)
  have hw : Wd D A s (cs ws [(q11, .inl (t 0, 4, .inl (upd (upd (upd (upd (fun _ => 0) 0 (-1)) 1 (-1)) 2 (-1)) 3 (-1)))), (q12, .inl (t 0, 4, .inl (fun _ => 0))), (q13, .inl (t 3, 4, .inr (.inr (.inr (.inr (fun j => some (q13 + 1 + j))))))), (q13 + 1, .inl (t 0, 40, .inl (fun _ => 0))), (q13 + 2, .inl (t 0, 40, .inl (fun _ => 0))), (q13 + 3, .inl (t 0, 40, .inl (fun _ => 0))), (q13 + 4, .inl (t 0, 40, .inl (fun _ => 0))), (q14, .inl (t 0, 4, .inl (upd (upd (upd (upd (fun _ => 0) 0 (2)) 1 (2)) 2 (2)) 3 (2)))), (q15, .inl (t 0, 4, .inl (fun _ => 0)))] k0 (q0, .inr (2, [.ref q11, .ref q12, .ref q13, .ref q14, .ref q15, .null, .null, .int 0, .int 0, .int 0, .int 0]))) H l1 := ⟨by rw [cs_set0 hk] at hP; exact hP, by rw [cs_set0 hk] at hD; exact hD, hS⟩
  refine lv_aload_n hx hb dX2_init_75 rfl (lv_at hl 0 rfl) ?_
  refine lv_iconst (v := (4)) hx hb dX2_init_76 (by decide) ?_
  refine newI cx hw (by decide) (N := 4) (by decide) (by omega) (Nat.le_of_ble_eq_true rfl) (Nat.le_of_ble_eq_true rfl) dX2_init_77 (fun q16 H hw => ?_)
  have hw : Wd D A s (cs ws [(q11, .inl (t 0, 4, .inl (upd (upd (upd (upd (fun _ => 0) 0 (-1)) 1 (-1)) 2 (-1)) 3 (-1)))), (q12, .inl (t 0, 4, .inl (fun _ => 0))), (q13, .inl (t 3, 4, .inr (.inr (.inr (.inr (fun j => some (q13 + 1 + j))))))), (q13 + 1, .inl (t 0, 40, .inl (fun _ => 0))), (q13 + 2, .inl (t 0, 40, .inl (fun _ => 0))), (q13 + 3, .inl (t 0, 40, .inl (fun _ => 0))), (q13 + 4, .inl (t 0, 40, .inl (fun _ => 0))), (q14, .inl (t 0, 4, .inl (upd (upd (upd (upd (fun _ => 0) 0 (2)) 1 (2)) 2 (2)) 3 (2)))), (q15, .inl (t 0, 4, .inl (fun _ => 0))), (q16, .inl (t 0, 4, .inl (fun _ => 0)))] k0 (q0, .inr (2, [.ref q11, .ref q12, .ref q13, .ref q14, .ref q15, .null, .null, .int 0, .int 0, .int 0, .int 0]))) H l1 := by rw [cs_app] at hw; exact hw
  refine va_putF (ref := "DialSquare$Host") (C := RX2) (T := TX2) (N := 11) (ci := 2) cx.1 cx.2.1 cx.2.2.2.2.1 lay_2 tyX2 tyX2_ok nmX2 cx.2.2.2.1 cx.2.2.2.2.2.1.1 hw.1 hw.2.1 hw.2.2 k0 (cs_0 hk) rfl 5 (by decide) (cx.2.2.2.2.1 _ q_90) (fun _ h => h) rfl cx.2.2.2.2.2.2.2.2.2 rfl rfl rfl rfl (Nat.le_of_ble_eq_true rfl) dX2_init_79 (fun H l1 hP hD hS => ?_)
  have hw : Wd D A s (cs ws [(q11, .inl (t 0, 4, .inl (upd (upd (upd (upd (fun _ => 0) 0 (-1)) 1 (-1)) 2 (-1)) 3 (-1)))), (q12, .inl (t 0, 4, .inl (fun _ => 0))), (q13, .inl (t 3, 4, .inr (.inr (.inr (.inr (fun j => some (q13 + 1 + j))))))), (q13 + 1, .inl (t 0, 40, .inl (fun _ => 0))), (q13 + 2, .inl (t 0, 40, .inl (fun _ => 0))), (q13 + 3, .inl (t 0, 40, .inl (fun _ => 0))), (q13 + 4, .inl (t 0, 40, .inl (fun _ => 0))), (q14, .inl (t 0, 4, .inl (upd (upd (upd (upd (fun _ => 0) 0 (2)) 1 (2)) 2 (2)) 3 (2)))), (q15, .inl (t 0, 4, .inl (fun _ => 0))), (q16, .inl (t 0, 4, .inl (fun _ => 0)))] k0 (q0, .inr (2, [.ref q11, .ref q12, .ref q13, .ref q14, .ref q15, .ref q16, .null, .int 0, .int 0, .int 0, .int 0]))) H l1 := ⟨by rw [cs_set0 hk] at hP; exact hP, by rw [cs_set0 hk] at hD; exact hD, hS⟩
  refine lv_aload_n hx hb dX2_init_82 rfl (lv_at hl 0 rfl) ?_
  refine lv_bipush (v := (30)) hx hb dX2_init_83 (by decide) ?_
  refine newI cx hw (by decide) (N := 30) (by decide) (by omega) (Nat.le_of_ble_eq_true rfl) (Nat.le_of_ble_eq_true rfl) dX2_init_85 (fun q17 H hw => ?_)
  have hw : Wd D A s (cs ws [(q11, .inl (t 0, 4, .inl (upd (upd (upd (upd (fun _ => 0) 0 (-1)) 1 (-1)) 2 (-1)) 3 (-1)))), (q12, .inl (t 0, 4, .inl (fun _ => 0))), (q13, .inl (t 3, 4, .inr (.inr (.inr (.inr (fun j => some (q13 + 1 + j))))))), (q13 + 1, .inl (t 0, 40, .inl (fun _ => 0))), (q13 + 2, .inl (t 0, 40, .inl (fun _ => 0))), (q13 + 3, .inl (t 0, 40, .inl (fun _ => 0))), (q13 + 4, .inl (t 0, 40, .inl (fun _ => 0))), (q14, .inl (t 0, 4, .inl (upd (upd (upd (upd (fun _ => 0) 0 (2)) 1 (2)) 2 (2)) 3 (2)))), (q15, .inl (t 0, 4, .inl (fun _ => 0))), (q16, .inl (t 0, 4, .inl (fun _ => 0))), (q17, .inl (t 0, 30, .inl (fun _ => 0)))] k0 (q0, .inr (2, [.ref q11, .ref q12, .ref q13, .ref q14, .ref q15, .ref q16, .null, .int 0, .int 0, .int 0, .int 0]))) H l1 := by rw [cs_app] at hw; exact hw
  refine va_putF (ref := "DialSquare$Host") (C := RX2) (T := TX2) (N := 11) (ci := 2) cx.1 cx.2.1 cx.2.2.2.2.1 lay_2 tyX2 tyX2_ok nmX2 cx.2.2.2.1 cx.2.2.2.2.2.1.1 hw.1 hw.2.1 hw.2.2 k0 (cs_0 hk) rfl 6 (by decide) (cx.2.2.2.2.1 _ q_92) (fun _ h => h) rfl cx.2.2.2.2.2.2.2.2.2 rfl rfl rfl rfl (Nat.le_of_ble_eq_true rfl) dX2_init_87 (fun H l1 hP hD hS => ?_)
  have hw : Wd D A s (cs ws [(q11, .inl (t 0, 4, .inl (upd (upd (upd (upd (fun _ => 0) 0 (-1)) 1 (-1)) 2 (-1)) 3 (-1)))), (q12, .inl (t 0, 4, .inl (fun _ => 0))), (q13, .inl (t 3, 4, .inr (.inr (.inr (.inr (fun j => some (q13 + 1 + j))))))), (q13 + 1, .inl (t 0, 40, .inl (fun _ => 0))), (q13 + 2, .inl (t 0, 40, .inl (fun _ => 0))), (q13 + 3, .inl (t 0, 40, .inl (fun _ => 0))), (q13 + 4, .inl (t 0, 40, .inl (fun _ => 0))), (q14, .inl (t 0, 4, .inl (upd (upd (upd (upd (fun _ => 0) 0 (2)) 1 (2)) 2 (2)) 3 (2)))), (q15, .inl (t 0, 4, .inl (fun _ => 0))), (q16, .inl (t 0, 4, .inl (fun _ => 0))), (q17, .inl (t 0, 30, .inl (fun _ => 0)))] k0 (q0, .inr (2, [.ref q11, .ref q12, .ref q13, .ref q14, .ref q15, .ref q16, .ref q17, .int 0, .int 0, .int 0, .int 0]))) H l1 := ⟨by rw [cs_set0 hk] at hP; exact hP, by rw [cs_set0 hk] at hD; exact hD, hS⟩
  exact hR _ _ _ _ _ hw ⟨q11, q12, q13, q14, q15, q16, q17, rfl, rfl⟩ dX2_init_90
theorem c_fill16 {src k : Nat} (hs : ws[k]? = some (src, .inl (t 0, 16, .inl (fun _ => 0)))) : MC l E0 D t yJ7_fill_53178 cJ7_fill_53178 4 none 1 0 0 [.ref src, .int 6] ws (fun v ws' => v = none ∧ ws' = ws.set k (src, .inl (t 0, 16, .inl (upd (upd (upd (upd (upd (upd (upd (upd (upd (upd (upd (upd (upd (upd (upd (upd (fun _ => 0) 0 6) 1 6) 2 6) 3 6) 4 6) 5 6) 6 6) 7 6) 8 6) 9 6) 10 6) 11 6) 12 6) 13 6) 14 6) 15 6)))) := by
  have hk : k < ws.length := (List.getElem?_eq_some_iff.mp hs).1
  refine MC.ofV pn_J7 (Nat.le_of_ble_eq_true rfl) ?_
  intro p e s m args below meth c A Q ls cx hR hw hl
  have hx := cx.1
  have hb := cx.2.1
  have hl : lv_has ls 4 [(0, .ref src), (1, .int 6)] := hl
  refine lv_iconst (v := 0) hx hb dJ7_fill_53178_0 (by decide) ?_
  refine lv_istore_n (lv' := [(2, .int 0), (0, .ref src), (1, .int 6)]) hx hb dJ7_fill_53178_1 rfl hl (by decide) rfl (fun ls hl => ?_)
  refine lv_aload_n hx hb dJ7_fill_53178_2 rfl (lv_at hl 1 rfl) ?_
  refine va_alen hx hb cx.2.2.2.2.2.1.1 hw.1 k 0 hs rfl (v := 16) rfl dJ7_fill_53178_3 ?_
  refine lv_istore_n (lv' := [(3, .int 16), (2, .int 0), (0, .ref src), (1, .int 6)]) hx hb dJ7_fill_53178_4 rfl hl (by decide) rfl (fun ls hl => ?_)
  have hl := lv_sub (l' := [(0, .ref src), (1, .int 6), (2, .int 0), (3, .int 16)]) hl [2, 3, 1, 0] rfl
  have hw : Wd D A s (ws.set k (src, .inl (t 0, 16, .inl (fun _ => 0)))) s.heap [] := by
    have e := cs_of hs
    unfold cs at e
    rw [List.append_nil] at e
    rw [e]
    exact hw
  refine lv_iload_n hx hb dJ7_fill_53178_5 rfl (lv_at hl 2 rfl) ?_
  refine lv_iload_n hx hb dJ7_fill_53178_6 rfl (lv_at hl 3 rfl) ?_
  refine lv_icmp_ge (tgt := 20) hx hb dJ7_fill_53178_7 (by decide) (fun hc => absurd hc (by decide)) (fun hc => ?_)
  refine lv_aload_n hx hb dJ7_fill_53178_10 rfl (lv_at hl 0 rfl) ?_
  refine lv_iload_n hx hb dJ7_fill_53178_11 rfl (lv_at hl 2 rfl) ?_
  refine lv_iload_n hx hb dJ7_fill_53178_12 rfl (lv_at hl 1 rfl) ?_
  refine va_iast hx hb cx.2.2.2.2.2.1.1 hw.1 hw.2.1 hw.2.2 k 0 (List.getElem?_set_self hk) rfl (ib_in (by decide)) dJ7_fill_53178_13 (fun H l1 hP hD hS => ?_)
  have hw : Wd D A s (ws.set k (src, .inl (t 0, 16, .inl (upd (fun _ => 0) 0 6)))) H l1 := ⟨by rw [List.set_set] at hP; exact hP, by rw [List.set_set] at hD; exact hD, hS⟩
  refine lv_iinc (v := 1) (lv' := [(2, .int 1), (0, .ref src), (1, .int 6), (3, .int 16)]) hx hb dJ7_fill_53178_14 hl (k := 2) rfl (by decide) (by decide) rfl (fun ls hl => ?_)
  refine lv_goto (tgt := 5) hx hb dJ7_fill_53178_17 (by decide) ?_
  have hl := lv_sub (l' := [(0, .ref src), (1, .int 6), (2, .int 1), (3, .int 16)]) hl [1, 2, 0, 3] rfl
  refine lv_iload_n hx hb dJ7_fill_53178_5 rfl (lv_at hl 2 rfl) ?_
  refine lv_iload_n hx hb dJ7_fill_53178_6 rfl (lv_at hl 3 rfl) ?_
  refine lv_icmp_ge (tgt := 20) hx hb dJ7_fill_53178_7 (by decide) (fun hc => absurd hc (by decide)) (fun hc => ?_)
  refine lv_aload_n hx hb dJ7_fill_53178_10 rfl (lv_at hl 0 rfl) ?_
  refine lv_iload_n hx hb dJ7_fill_53178_11 rfl (lv_at hl 2 rfl) ?_
  refine lv_iload_n hx hb dJ7_fill_53178_12 rfl (lv_at hl 1 rfl) ?_
  refine va_iast hx hb cx.2.2.2.2.2.1.1 hw.1 hw.2.1 hw.2.2 k 0 (List.getElem?_set_self hk) rfl (ib_in (by decide)) dJ7_fill_53178_13 (fun H l1 hP hD hS => ?_)
  have hw : Wd D A s (ws.set k (src, .inl (t 0, 16, .inl (upd (upd (fun _ => 0) 0 6) 1 6)))) H l1 := ⟨by rw [List.set_set] at hP; exact hP, by rw [List.set_set] at hD; exact hD, hS⟩
  refine lv_iinc (v := 2) (lv' := [(2, .int 2), (0, .ref src), (1, .int 6), (3, .int 16)]) hx hb dJ7_fill_53178_14 hl (k := 2) rfl (by decide) (by decide) rfl (fun ls hl => ?_)
  refine lv_goto (tgt := 5) hx hb dJ7_fill_53178_17 (by decide) ?_
  have hl := lv_sub (l' := [(0, .ref src), (1, .int 6), (2, .int 2), (3, .int 16)]) hl [1, 2, 0, 3] rfl
  refine lv_iload_n hx hb dJ7_fill_53178_5 rfl (lv_at hl 2 rfl) ?_
  refine lv_iload_n hx hb dJ7_fill_53178_6 rfl (lv_at hl 3 rfl) ?_
  refine lv_icmp_ge (tgt := 20) hx hb dJ7_fill_53178_7 (by decide) (fun hc => absurd hc (by decide)) (fun hc => ?_)
  refine lv_aload_n hx hb dJ7_fill_53178_10 rfl (lv_at hl 0 rfl) ?_
  refine lv_iload_n hx hb dJ7_fill_53178_11 rfl (lv_at hl 2 rfl) ?_
  refine lv_iload_n hx hb dJ7_fill_53178_12 rfl (lv_at hl 1 rfl) ?_
  refine va_iast hx hb cx.2.2.2.2.2.1.1 hw.1 hw.2.1 hw.2.2 k 0 (List.getElem?_set_self hk) rfl (ib_in (by decide)) dJ7_fill_53178_13 (fun H l1 hP hD hS => ?_)
  have hw : Wd D A s (ws.set k (src, .inl (t 0, 16, .inl (upd (upd (upd (fun _ => 0) 0 6) 1 6) 2 6)))) H l1 := ⟨by rw [List.set_set] at hP; exact hP, by rw [List.set_set] at hD; exact hD, hS⟩
  refine lv_iinc (v := 3) (lv' := [(2, .int 3), (0, .ref src), (1, .int 6), (3, .int 16)]) hx hb dJ7_fill_53178_14 hl (k := 2) rfl (by decide) (by decide) rfl (fun ls hl => ?_)
  refine lv_goto (tgt := 5) hx hb dJ7_fill_53178_17 (by decide) ?_
  have hl := lv_sub (l' := [(0, .ref src), (1, .int 6), (2, .int 3), (3, .int 16)]) hl [1, 2, 0, 3] rfl
  refine lv_iload_n hx hb dJ7_fill_53178_5 rfl (lv_at hl 2 rfl) ?_
  refine lv_iload_n hx hb dJ7_fill_53178_6 rfl (lv_at hl 3 rfl) ?_
  refine lv_icmp_ge (tgt := 20) hx hb dJ7_fill_53178_7 (by decide) (fun hc => absurd hc (by decide)) (fun hc => ?_)
  refine lv_aload_n hx hb dJ7_fill_53178_10 rfl (lv_at hl 0 rfl) ?_
  refine lv_iload_n hx hb dJ7_fill_53178_11 rfl (lv_at hl 2 rfl) ?_
  refine lv_iload_n hx hb dJ7_fill_53178_12 rfl (lv_at hl 1 rfl) ?_
  refine va_iast hx hb cx.2.2.2.2.2.1.1 hw.1 hw.2.1 hw.2.2 k 0 (List.getElem?_set_self hk) rfl (ib_in (by decide)) dJ7_fill_53178_13 (fun H l1 hP hD hS => ?_)
  have hw : Wd D A s (ws.set k (src, .inl (t 0, 16, .inl (upd (upd (upd (upd (fun _ => 0) 0 6) 1 6) 2 6) 3 6)))) H l1 := ⟨by rw [List.set_set] at hP; exact hP, by rw [List.set_set] at hD; exact hD, hS⟩
  refine lv_iinc (v := 4) (lv' := [(2, .int 4), (0, .ref src), (1, .int 6), (3, .int 16)]) hx hb dJ7_fill_53178_14 hl (k := 2) rfl (by decide) (by decide) rfl (fun ls hl => ?_)
  refine lv_goto (tgt := 5) hx hb dJ7_fill_53178_17 (by decide) ?_
  have hl := lv_sub (l' := [(0, .ref src), (1, .int 6), (2, .int 4), (3, .int 16)]) hl [1, 2, 0, 3] rfl
  refine lv_iload_n hx hb dJ7_fill_53178_5 rfl (lv_at hl 2 rfl) ?_
  refine lv_iload_n hx hb dJ7_fill_53178_6 rfl (lv_at hl 3 rfl) ?_
  refine lv_icmp_ge (tgt := 20) hx hb dJ7_fill_53178_7 (by decide) (fun hc => absurd hc (by decide)) (fun hc => ?_)
  refine lv_aload_n hx hb dJ7_fill_53178_10 rfl (lv_at hl 0 rfl) ?_
  refine lv_iload_n hx hb dJ7_fill_53178_11 rfl (lv_at hl 2 rfl) ?_
  refine lv_iload_n hx hb dJ7_fill_53178_12 rfl (lv_at hl 1 rfl) ?_
  refine va_iast hx hb cx.2.2.2.2.2.1.1 hw.1 hw.2.1 hw.2.2 k 0 (List.getElem?_set_self hk) rfl (ib_in (by decide)) dJ7_fill_53178_13 (fun H l1 hP hD hS => ?_)
  have hw : Wd D A s (ws.set k (src, .inl (t 0, 16, .inl (upd (upd (upd (upd (upd (fun _ => 0) 0 6) 1 6) 2 6) 3 6) 4 6)))) H l1 := ⟨by rw [List.set_set] at hP; exact hP, by rw [List.set_set] at hD; exact hD, hS⟩
  refine lv_iinc (v := 5) (lv' := [(2, .int 5), (0, .ref src), (1, .int 6), (3, .int 16)]) hx hb dJ7_fill_53178_14 hl (k := 2) rfl (by decide) (by decide) rfl (fun ls hl => ?_)
  refine lv_goto (tgt := 5) hx hb dJ7_fill_53178_17 (by decide) ?_
  have hl := lv_sub (l' := [(0, .ref src), (1, .int 6), (2, .int 5), (3, .int 16)]) hl [1, 2, 0, 3] rfl
  refine lv_iload_n hx hb dJ7_fill_53178_5 rfl (lv_at hl 2 rfl) ?_
  refine lv_iload_n hx hb dJ7_fill_53178_6 rfl (lv_at hl 3 rfl) ?_
  refine lv_icmp_ge (tgt := 20) hx hb dJ7_fill_53178_7 (by decide) (fun hc => absurd hc (by decide)) (fun hc => ?_)
  refine lv_aload_n hx hb dJ7_fill_53178_10 rfl (lv_at hl 0 rfl) ?_
  refine lv_iload_n hx hb dJ7_fill_53178_11 rfl (lv_at hl 2 rfl) ?_
  refine lv_iload_n hx hb dJ7_fill_53178_12 rfl (lv_at hl 1 rfl) ?_
  refine va_iast hx hb cx.2.2.2.2.2.1.1 hw.1 hw.2.1 hw.2.2 k 0 (List.getElem?_set_self hk) rfl (ib_in (by decide)) dJ7_fill_53178_13 (fun H l1 hP hD hS => ?_)
  have hw : Wd D A s (ws.set k (src, .inl (t 0, 16, .inl (upd (upd (upd (upd (upd (upd (fun _ => 0) 0 6) 1 6) 2 6) 3 6) 4 6) 5 6)))) H l1 := ⟨by rw [List.set_set] at hP; exact hP, by rw [List.set_set] at hD; exact hD, hS⟩
  refine lv_iinc (v := 6) (lv' := [(2, .int 6), (0, .ref src), (1, .int 6), (3, .int 16)]) hx hb dJ7_fill_53178_14 hl (k := 2) rfl (by decide) (by decide) rfl (fun ls hl => ?_)
  refine lv_goto (tgt := 5) hx hb dJ7_fill_53178_17 (by decide) ?_
  have hl := lv_sub (l' := [(0, .ref src), (1, .int 6), (2, .int 6), (3, .int 16)]) hl [1, 2, 0, 3] rfl
  refine lv_iload_n hx hb dJ7_fill_53178_5 rfl (lv_at hl 2 rfl) ?_
  refine lv_iload_n hx hb dJ7_fill_53178_6 rfl (lv_at hl 3 rfl) ?_
  refine lv_icmp_ge (tgt := 20) hx hb dJ7_fill_53178_7 (by decide) (fun hc => absurd hc (by decide)) (fun hc => ?_)
  refine lv_aload_n hx hb dJ7_fill_53178_10 rfl (lv_at hl 0 rfl) ?_
  refine lv_iload_n hx hb dJ7_fill_53178_11 rfl (lv_at hl 2 rfl) ?_
  refine lv_iload_n hx hb dJ7_fill_53178_12 rfl (lv_at hl 1 rfl) ?_
  refine va_iast hx hb cx.2.2.2.2.2.1.1 hw.1 hw.2.1 hw.2.2 k 0 (List.getElem?_set_self hk) rfl (ib_in (by decide)) dJ7_fill_53178_13 (fun H l1 hP hD hS => ?_)
  have hw : Wd D A s (ws.set k (src, .inl (t 0, 16, .inl (upd (upd (upd (upd (upd (upd (upd (fun _ => 0) 0 6) 1 6) 2 6) 3 6) 4 6) 5 6) 6 6)))) H l1 := ⟨by rw [List.set_set] at hP; exact hP, by rw [List.set_set] at hD; exact hD, hS⟩
  refine lv_iinc (v := 7) (lv' := [(2, .int 7), (0, .ref src), (1, .int 6), (3, .int 16)]) hx hb dJ7_fill_53178_14 hl (k := 2) rfl (by decide) (by decide) rfl (fun ls hl => ?_)
  refine lv_goto (tgt := 5) hx hb dJ7_fill_53178_17 (by decide) ?_
  have hl := lv_sub (l' := [(0, .ref src), (1, .int 6), (2, .int 7), (3, .int 16)]) hl [1, 2, 0, 3] rfl
  refine lv_iload_n hx hb dJ7_fill_53178_5 rfl (lv_at hl 2 rfl) ?_
  refine lv_iload_n hx hb dJ7_fill_53178_6 rfl (lv_at hl 3 rfl) ?_
  refine lv_icmp_ge (tgt := 20) hx hb dJ7_fill_53178_7 (by decide) (fun hc => absurd hc (by decide)) (fun hc => ?_)
  refine lv_aload_n hx hb dJ7_fill_53178_10 rfl (lv_at hl 0 rfl) ?_
  refine lv_iload_n hx hb dJ7_fill_53178_11 rfl (lv_at hl 2 rfl) ?_
  refine lv_iload_n hx hb dJ7_fill_53178_12 rfl (lv_at hl 1 rfl) ?_
  refine va_iast hx hb cx.2.2.2.2.2.1.1 hw.1 hw.2.1 hw.2.2 k 0 (List.getElem?_set_self hk) rfl (ib_in (by decide)) dJ7_fill_53178_13 (fun H l1 hP hD hS => ?_)
  have hw : Wd D A s (ws.set k (src, .inl (t 0, 16, .inl (upd (upd (upd (upd (upd (upd (upd (upd (fun _ => 0) 0 6) 1 6) 2 6) 3 6) 4 6) 5 6) 6 6) 7 6)))) H l1 := ⟨by rw [List.set_set] at hP; exact hP, by rw [List.set_set] at hD; exact hD, hS⟩
  refine lv_iinc (v := 8) (lv' := [(2, .int 8), (0, .ref src), (1, .int 6), (3, .int 16)]) hx hb dJ7_fill_53178_14 hl (k := 2) rfl (by decide) (by decide) rfl (fun ls hl => ?_)
  refine lv_goto (tgt := 5) hx hb dJ7_fill_53178_17 (by decide) ?_
  have hl := lv_sub (l' := [(0, .ref src), (1, .int 6), (2, .int 8), (3, .int 16)]) hl [1, 2, 0, 3] rfl
  refine lv_iload_n hx hb dJ7_fill_53178_5 rfl (lv_at hl 2 rfl) ?_
  refine lv_iload_n hx hb dJ7_fill_53178_6 rfl (lv_at hl 3 rfl) ?_
  refine lv_icmp_ge (tgt := 20) hx hb dJ7_fill_53178_7 (by decide) (fun hc => absurd hc (by decide)) (fun hc => ?_)
  refine lv_aload_n hx hb dJ7_fill_53178_10 rfl (lv_at hl 0 rfl) ?_
  refine lv_iload_n hx hb dJ7_fill_53178_11 rfl (lv_at hl 2 rfl) ?_
  refine lv_iload_n hx hb dJ7_fill_53178_12 rfl (lv_at hl 1 rfl) ?_
  refine va_iast hx hb cx.2.2.2.2.2.1.1 hw.1 hw.2.1 hw.2.2 k 0 (List.getElem?_set_self hk) rfl (ib_in (by decide)) dJ7_fill_53178_13 (fun H l1 hP hD hS => ?_)
  have hw : Wd D A s (ws.set k (src, .inl (t 0, 16, .inl (upd (upd (upd (upd (upd (upd (upd (upd (upd (fun _ => 0) 0 6) 1 6) 2 6) 3 6) 4 6) 5 6) 6 6) 7 6) 8 6)))) H l1 := ⟨by rw [List.set_set] at hP; exact hP, by rw [List.set_set] at hD; exact hD, hS⟩
  refine lv_iinc (v := 9) (lv' := [(2, .int 9), (0, .ref src), (1, .int 6), (3, .int 16)]) hx hb dJ7_fill_53178_14 hl (k := 2) rfl (by decide) (by decide) rfl (fun ls hl => ?_)
  refine lv_goto (tgt := 5) hx hb dJ7_fill_53178_17 (by decide) ?_
  have hl := lv_sub (l' := [(0, .ref src), (1, .int 6), (2, .int 9), (3, .int 16)]) hl [1, 2, 0, 3] rfl
  refine lv_iload_n hx hb dJ7_fill_53178_5 rfl (lv_at hl 2 rfl) ?_
  refine lv_iload_n hx hb dJ7_fill_53178_6 rfl (lv_at hl 3 rfl) ?_
  refine lv_icmp_ge (tgt := 20) hx hb dJ7_fill_53178_7 (by decide) (fun hc => absurd hc (by decide)) (fun hc => ?_)
  refine lv_aload_n hx hb dJ7_fill_53178_10 rfl (lv_at hl 0 rfl) ?_
  refine lv_iload_n hx hb dJ7_fill_53178_11 rfl (lv_at hl 2 rfl) ?_
  refine lv_iload_n hx hb dJ7_fill_53178_12 rfl (lv_at hl 1 rfl) ?_
  refine va_iast hx hb cx.2.2.2.2.2.1.1 hw.1 hw.2.1 hw.2.2 k 0 (List.getElem?_set_self hk) rfl (ib_in (by decide)) dJ7_fill_53178_13 (fun H l1 hP hD hS => ?_)
  have hw : Wd D A s (ws.set k (src, .inl (t 0, 16, .inl (upd (upd (upd (upd (upd (upd (upd (upd (upd (upd (fun _ => 0) 0 6) 1 6) 2 6) 3 6) 4 6) 5 6) 6 6) 7 6) 8 6) 9 6)))) H l1 := ⟨by rw [List.set_set] at hP; exact hP, by rw [List.set_set] at hD; exact hD, hS⟩
  refine lv_iinc (v := 10) (lv' := [(2, .int 10), (0, .ref src), (1, .int 6), (3, .int 16)]) hx hb dJ7_fill_53178_14 hl (k := 2) rfl (by decide) (by decide) rfl (fun ls hl => ?_)
  refine lv_goto (tgt := 5) hx hb dJ7_fill_53178_17 (by decide) ?_
  have hl := lv_sub (l' := [(0, .ref src), (1, .int 6), (2, .int 10), (3, .int 16)]) hl [1, 2, 0, 3] rfl
  refine lv_iload_n hx hb dJ7_fill_53178_5 rfl (lv_at hl 2 rfl) ?_
  refine lv_iload_n hx hb dJ7_fill_53178_6 rfl (lv_at hl 3 rfl) ?_
  refine lv_icmp_ge (tgt := 20) hx hb dJ7_fill_53178_7 (by decide) (fun hc => absurd hc (by decide)) (fun hc => ?_)
  refine lv_aload_n hx hb dJ7_fill_53178_10 rfl (lv_at hl 0 rfl) ?_
  refine lv_iload_n hx hb dJ7_fill_53178_11 rfl (lv_at hl 2 rfl) ?_
  refine lv_iload_n hx hb dJ7_fill_53178_12 rfl (lv_at hl 1 rfl) ?_
  refine va_iast hx hb cx.2.2.2.2.2.1.1 hw.1 hw.2.1 hw.2.2 k 0 (List.getElem?_set_self hk) rfl (ib_in (by decide)) dJ7_fill_53178_13 (fun H l1 hP hD hS => ?_)
  have hw : Wd D A s (ws.set k (src, .inl (t 0, 16, .inl (upd (upd (upd (upd (upd (upd (upd (upd (upd (upd (upd (fun _ => 0) 0 6) 1 6) 2 6) 3 6) 4 6) 5 6) 6 6) 7 6) 8 6) 9 6) 10 6)))) H l1 := ⟨by rw [List.set_set] at hP; exact hP, by rw [List.set_set] at hD; exact hD, hS⟩
  refine lv_iinc (v := 11) (lv' := [(2, .int 11), (0, .ref src), (1, .int 6), (3, .int 16)]) hx hb dJ7_fill_53178_14 hl (k := 2) rfl (by decide) (by decide) rfl (fun ls hl => ?_)
  refine lv_goto (tgt := 5) hx hb dJ7_fill_53178_17 (by decide) ?_
  have hl := lv_sub (l' := [(0, .ref src), (1, .int 6), (2, .int 11), (3, .int 16)]) hl [1, 2, 0, 3] rfl
  refine lv_iload_n hx hb dJ7_fill_53178_5 rfl (lv_at hl 2 rfl) ?_
  refine lv_iload_n hx hb dJ7_fill_53178_6 rfl (lv_at hl 3 rfl) ?_
  refine lv_icmp_ge (tgt := 20) hx hb dJ7_fill_53178_7 (by decide) (fun hc => absurd hc (by decide)) (fun hc => ?_)
  refine lv_aload_n hx hb dJ7_fill_53178_10 rfl (lv_at hl 0 rfl) ?_
  refine lv_iload_n hx hb dJ7_fill_53178_11 rfl (lv_at hl 2 rfl) ?_
  refine lv_iload_n hx hb dJ7_fill_53178_12 rfl (lv_at hl 1 rfl) ?_
  refine va_iast hx hb cx.2.2.2.2.2.1.1 hw.1 hw.2.1 hw.2.2 k 0 (List.getElem?_set_self hk) rfl (ib_in (by decide)) dJ7_fill_53178_13 (fun H l1 hP hD hS => ?_)
  have hw : Wd D A s (ws.set k (src, .inl (t 0, 16, .inl (upd (upd (upd (upd (upd (upd (upd (upd (upd (upd (upd (upd (fun _ => 0) 0 6) 1 6) 2 6) 3 6) 4 6) 5 6) 6 6) 7 6) 8 6) 9 6) 10 6) 11 6)))) H l1 := ⟨by rw [List.set_set] at hP; exact hP, by rw [List.set_set] at hD; exact hD, hS⟩
  refine lv_iinc (v := 12) (lv' := [(2, .int 12), (0, .ref src), (1, .int 6), (3, .int 16)]) hx hb dJ7_fill_53178_14 hl (k := 2) rfl (by decide) (by decide) rfl (fun ls hl => ?_)
  refine lv_goto (tgt := 5) hx hb dJ7_fill_53178_17 (by decide) ?_
  have hl := lv_sub (l' := [(0, .ref src), (1, .int 6), (2, .int 12), (3, .int 16)]) hl [1, 2, 0, 3] rfl
  refine lv_iload_n hx hb dJ7_fill_53178_5 rfl (lv_at hl 2 rfl) ?_
  refine lv_iload_n hx hb dJ7_fill_53178_6 rfl (lv_at hl 3 rfl) ?_
  refine lv_icmp_ge (tgt := 20) hx hb dJ7_fill_53178_7 (by decide) (fun hc => absurd hc (by decide)) (fun hc => ?_)
  refine lv_aload_n hx hb dJ7_fill_53178_10 rfl (lv_at hl 0 rfl) ?_
  refine lv_iload_n hx hb dJ7_fill_53178_11 rfl (lv_at hl 2 rfl) ?_
  refine lv_iload_n hx hb dJ7_fill_53178_12 rfl (lv_at hl 1 rfl) ?_
  refine va_iast hx hb cx.2.2.2.2.2.1.1 hw.1 hw.2.1 hw.2.2 k 0 (List.getElem?_set_self hk) rfl (ib_in (by decide)) dJ7_fill_53178_13 (fun H l1 hP hD hS => ?_)
  have hw : Wd D A s (ws.set k (src, .inl (t 0, 16, .inl (upd (upd (upd (upd (upd (upd (upd (upd (upd (upd (upd (upd (upd (fun _ => 0) 0 6) 1 6) 2 6) 3 6) 4 6) 5 6) 6 6) 7 6) 8 6) 9 6) 10 6) 11 6) 12 6)))) H l1 := ⟨by rw [List.set_set] at hP; exact hP, by rw [List.set_set] at hD; exact hD, hS⟩
  refine lv_iinc (v := 13) (lv' := [(2, .int 13), (0, .ref src), (1, .int 6), (3, .int 16)]) hx hb dJ7_fill_53178_14 hl (k := 2) rfl (by decide) (by decide) rfl (fun ls hl => ?_)
  refine lv_goto (tgt := 5) hx hb dJ7_fill_53178_17 (by decide) ?_
  have hl := lv_sub (l' := [(0, .ref src), (1, .int 6), (2, .int 13), (3, .int 16)]) hl [1, 2, 0, 3] rfl
  refine lv_iload_n hx hb dJ7_fill_53178_5 rfl (lv_at hl 2 rfl) ?_
  refine lv_iload_n hx hb dJ7_fill_53178_6 rfl (lv_at hl 3 rfl) ?_
  refine lv_icmp_ge (tgt := 20) hx hb dJ7_fill_53178_7 (by decide) (fun hc => absurd hc (by decide)) (fun hc => ?_)
  refine lv_aload_n hx hb dJ7_fill_53178_10 rfl (lv_at hl 0 rfl) ?_
  refine lv_iload_n hx hb dJ7_fill_53178_11 rfl (lv_at hl 2 rfl) ?_
  refine lv_iload_n hx hb dJ7_fill_53178_12 rfl (lv_at hl 1 rfl) ?_
  refine va_iast hx hb cx.2.2.2.2.2.1.1 hw.1 hw.2.1 hw.2.2 k 0 (List.getElem?_set_self hk) rfl (ib_in (by decide)) dJ7_fill_53178_13 (fun H l1 hP hD hS => ?_)
  have hw : Wd D A s (ws.set k (src, .inl (t 0, 16, .inl (upd (upd (upd (upd (upd (upd (upd (upd (upd (upd (upd (upd (upd (upd (fun _ => 0) 0 6) 1 6) 2 6) 3 6) 4 6) 5 6) 6 6) 7 6) 8 6) 9 6) 10 6) 11 6) 12 6) 13 6)))) H l1 := ⟨by rw [List.set_set] at hP; exact hP, by rw [List.set_set] at hD; exact hD, hS⟩
  refine lv_iinc (v := 14) (lv' := [(2, .int 14), (0, .ref src), (1, .int 6), (3, .int 16)]) hx hb dJ7_fill_53178_14 hl (k := 2) rfl (by decide) (by decide) rfl (fun ls hl => ?_)
  refine lv_goto (tgt := 5) hx hb dJ7_fill_53178_17 (by decide) ?_
  have hl := lv_sub (l' := [(0, .ref src), (1, .int 6), (2, .int 14), (3, .int 16)]) hl [1, 2, 0, 3] rfl
  refine lv_iload_n hx hb dJ7_fill_53178_5 rfl (lv_at hl 2 rfl) ?_
  refine lv_iload_n hx hb dJ7_fill_53178_6 rfl (lv_at hl 3 rfl) ?_
  refine lv_icmp_ge (tgt := 20) hx hb dJ7_fill_53178_7 (by decide) (fun hc => absurd hc (by decide)) (fun hc => ?_)
  refine lv_aload_n hx hb dJ7_fill_53178_10 rfl (lv_at hl 0 rfl) ?_
  refine lv_iload_n hx hb dJ7_fill_53178_11 rfl (lv_at hl 2 rfl) ?_
  refine lv_iload_n hx hb dJ7_fill_53178_12 rfl (lv_at hl 1 rfl) ?_
  refine va_iast hx hb cx.2.2.2.2.2.1.1 hw.1 hw.2.1 hw.2.2 k 0 (List.getElem?_set_self hk) rfl (ib_in (by decide)) dJ7_fill_53178_13 (fun H l1 hP hD hS => ?_)
  have hw : Wd D A s (ws.set k (src, .inl (t 0, 16, .inl (upd (upd (upd (upd (upd (upd (upd (upd (upd (upd (upd (upd (upd (upd (upd (fun _ => 0) 0 6) 1 6) 2 6) 3 6) 4 6) 5 6) 6 6) 7 6) 8 6) 9 6) 10 6) 11 6) 12 6) 13 6) 14 6)))) H l1 := ⟨by rw [List.set_set] at hP; exact hP, by rw [List.set_set] at hD; exact hD, hS⟩
  refine lv_iinc (v := 15) (lv' := [(2, .int 15), (0, .ref src), (1, .int 6), (3, .int 16)]) hx hb dJ7_fill_53178_14 hl (k := 2) rfl (by decide) (by decide) rfl (fun ls hl => ?_)
  refine lv_goto (tgt := 5) hx hb dJ7_fill_53178_17 (by decide) ?_
  have hl := lv_sub (l' := [(0, .ref src), (1, .int 6), (2, .int 15), (3, .int 16)]) hl [1, 2, 0, 3] rfl
  refine lv_iload_n hx hb dJ7_fill_53178_5 rfl (lv_at hl 2 rfl) ?_
  refine lv_iload_n hx hb dJ7_fill_53178_6 rfl (lv_at hl 3 rfl) ?_
  refine lv_icmp_ge (tgt := 20) hx hb dJ7_fill_53178_7 (by decide) (fun hc => absurd hc (by decide)) (fun hc => ?_)
  refine lv_aload_n hx hb dJ7_fill_53178_10 rfl (lv_at hl 0 rfl) ?_
  refine lv_iload_n hx hb dJ7_fill_53178_11 rfl (lv_at hl 2 rfl) ?_
  refine lv_iload_n hx hb dJ7_fill_53178_12 rfl (lv_at hl 1 rfl) ?_
  refine va_iast hx hb cx.2.2.2.2.2.1.1 hw.1 hw.2.1 hw.2.2 k 0 (List.getElem?_set_self hk) rfl (ib_in (by decide)) dJ7_fill_53178_13 (fun H l1 hP hD hS => ?_)
  have hw : Wd D A s (ws.set k (src, .inl (t 0, 16, .inl (upd (upd (upd (upd (upd (upd (upd (upd (upd (upd (upd (upd (upd (upd (upd (upd (fun _ => 0) 0 6) 1 6) 2 6) 3 6) 4 6) 5 6) 6 6) 7 6) 8 6) 9 6) 10 6) 11 6) 12 6) 13 6) 14 6) 15 6)))) H l1 := ⟨by rw [List.set_set] at hP; exact hP, by rw [List.set_set] at hD; exact hD, hS⟩
  refine lv_iinc (v := 16) (lv' := [(2, .int 16), (0, .ref src), (1, .int 6), (3, .int 16)]) hx hb dJ7_fill_53178_14 hl (k := 2) rfl (by decide) (by decide) rfl (fun ls hl => ?_)
  refine lv_goto (tgt := 5) hx hb dJ7_fill_53178_17 (by decide) ?_
  have hl := lv_sub (l' := [(0, .ref src), (1, .int 6), (2, .int 16), (3, .int 16)]) hl [1, 2, 0, 3] rfl
  refine lv_iload_n hx hb dJ7_fill_53178_5 rfl (lv_at hl 2 rfl) ?_
  refine lv_iload_n hx hb dJ7_fill_53178_6 rfl (lv_at hl 3 rfl) ?_
  refine lv_icmp_ge (tgt := 20) hx hb dJ7_fill_53178_7 (by decide) (fun hc => ?_) (fun hc => absurd (by decide) hc)
  exact hR _ _ _ _ _ hw ⟨rfl, rfl⟩ dJ7_fill_53178_20
theorem dX9_init_0 : decode cX9_init 0 = .ok (.aload_n 0, 1) := by decide +kernel
theorem dX9_init_1 : decode cX9_init 1 = .ok (.invokespecial 3, 3) := by decide +kernel
theorem dX9_init_4 : decode cX9_init 4 = .ok (.aload_n 0, 1) := by decide +kernel
theorem dX9_init_5 : decode cX9_init 5 = .ok (.bipush 6, 2) := by decide +kernel
theorem dX9_init_7 : decode cX9_init 7 = .ok (.iconst 5, 1) := by decide +kernel
theorem dX9_init_8 : decode cX9_init 8 = .ok (.multianewarray 9 2, 4) := by decide +kernel
theorem dX9_init_12 : decode cX9_init 12 = .ok (.putfield 11, 3) := by decide +kernel
theorem dX9_init_15 : decode cX9_init 15 = .ok (.aload_n 0, 1) := by decide +kernel
theorem dX9_init_16 : decode cX9_init 16 = .ok (.bipush 6, 2) := by decide +kernel
theorem dX9_init_18 : decode cX9_init 18 = .ok (.iconst 2, 1) := by decide +kernel
theorem dX9_init_19 : decode cX9_init 19 = .ok (.multianewarray 9 2, 4) := by decide +kernel
theorem dX9_init_23 : decode cX9_init 23 = .ok (.putfield 16, 3) := by decide +kernel
theorem dX9_init_26 : decode cX9_init 26 = .ok (.aload_n 0, 1) := by decide +kernel
theorem dX9_init_27 : decode cX9_init 27 = .ok (.bipush 16, 2) := by decide +kernel
theorem dX9_init_29 : decode cX9_init 29 = .ok (.newarray .int, 2) := by decide +kernel
theorem dX9_init_31 : decode cX9_init 31 = .ok (.putfield 19, 3) := by decide +kernel
theorem dX9_init_34 : decode cX9_init 34 = .ok (.aload_n 0, 1) := by decide +kernel
theorem dX9_init_35 : decode cX9_init 35 = .ok (.bipush 6, 2) := by decide +kernel
theorem dX9_init_37 : decode cX9_init 37 = .ok (.iconst 4, 1) := by decide +kernel
theorem dX9_init_38 : decode cX9_init 38 = .ok (.multianewarray 9 2, 4) := by decide +kernel
theorem dX9_init_42 : decode cX9_init 42 = .ok (.putfield 23, 3) := by decide +kernel
theorem dX9_init_45 : decode cX9_init 45 = .ok (.aload_n 0, 1) := by decide +kernel
theorem dX9_init_46 : decode cX9_init 46 = .ok (.bipush 12, 2) := by decide +kernel
theorem dX9_init_48 : decode cX9_init 48 = .ok (.putfield 26, 3) := by decide +kernel
theorem dX9_init_51 : decode cX9_init 51 = .ok (.aload_n 0, 1) := by decide +kernel
theorem dX9_init_52 : decode cX9_init 52 = .ok (.iconst 1, 1) := by decide +kernel
theorem dX9_init_53 : decode cX9_init 53 = .ok (.putfield 30, 3) := by decide +kernel
theorem dX9_init_56 : decode cX9_init 56 = .ok (.aload_n 0, 1) := by decide +kernel
theorem dX9_init_57 : decode cX9_init 57 = .ok (.bipush 6, 2) := by decide +kernel
theorem dX9_init_59 : decode cX9_init 59 = .ok (.newarray .int, 2) := by decide +kernel
theorem dX9_init_61 : decode cX9_init 61 = .ok (.putfield 33, 3) := by decide +kernel
theorem dX9_init_64 : decode cX9_init 64 = .ok (.aload_n 0, 1) := by decide +kernel
theorem dX9_init_65 : decode cX9_init 65 = .ok (.iconst 5, 1) := by decide +kernel
theorem dX9_init_66 : decode cX9_init 66 = .ok (.newarray .int, 2) := by decide +kernel
theorem dX9_init_68 : decode cX9_init 68 = .ok (.putfield 36, 3) := by decide +kernel
theorem dX9_init_71 : decode cX9_init 71 = .ok (.aload_n 0, 1) := by decide +kernel
theorem dX9_init_72 : decode cX9_init 72 = .ok (.aload_n 1, 1) := by decide +kernel
theorem dX9_init_73 : decode cX9_init 73 = .ok (.putfield 39, 3) := by decide +kernel
theorem dX9_init_76 : decode cX9_init 76 = .ok (.aload_n 0, 1) := by decide +kernel
theorem dX9_init_77 : decode cX9_init 77 = .ok (.aload_n 2, 1) := by decide +kernel
theorem dX9_init_78 : decode cX9_init 78 = .ok (.putfield 43, 3) := by decide +kernel
theorem dX9_init_81 : decode cX9_init 81 = .ok (.aload_n 0, 1) := by decide +kernel
theorem dX9_init_82 : decode cX9_init 82 = .ok (.getfield 19, 3) := by decide +kernel
theorem dX9_init_85 : decode cX9_init 85 = .ok (.bipush 6, 2) := by decide +kernel
theorem dX9_init_87 : decode cX9_init 87 = .ok (.invokestatic 47, 3) := by decide +kernel
theorem dX9_init_90 : decode cX9_init 90 = .ok (.return_, 1) := by decide +kernel
theorem k_X9_init : MI yX9_init cX9_init 3 2 := ⟨q_200, q_11, q_201, rfl, ⟨by decide, by decide, by decide +kernel⟩⟩
theorem c_X9_init {q0 k0 b1 b2 : Nat} (hs : ws[k0]? = some (q0, .inr (9, [.null, .null, .null, .null, .int 0, .int 0, .int 0, .int 0, .int 0, .int 0, .null, .null, .null, .null]))) : MC l E0 D t yX9_init cX9_init 3 none 2 24 111 [.ref q0, .ref b1, .ref b2] ws (fun v ws' => ∃ q11 q12 q13 q14 q15 q16 : Nat, v = none ∧ ws' = cs ws [(q11, .inl (t 3, 6, .inr (.inr (.inr (.inr (fun j => some (q11 + 1 + j))))))), (q11 + 1, .inl (t 0, 5, .inl (fun _ => 0))), (q11 + 2, .inl (t 0, 5, .inl (fun _ => 0))), (q11 + 3, .inl (t 0, 5, .inl (fun _ => 0))), (q11 + 4, .inl (t 0, 5, .inl (fun _ => 0))), (q11 + 5, .inl (t 0, 5, .inl (fun _ => 0))), (q11 + 6, .inl (t 0, 5, .inl (fun _ => 0))), (q12, .inl (t 3, 6, .inr (.inr (.inr (.inr (fun j => some (q12 + 1 + j))))))), (q12 + 1, .inl (t 0, 2, .inl (fun _ => 0))), (q12 + 2, .inl (t 0, 2, .inl (fun _ => 0))), (q12 + 3, .inl (t 0, 2, .inl (fun _ => 0))), (q12 + 4, .inl (t 0, 2, .inl (fun _ => 0))), (q12 + 5, .inl (t 0, 2, .inl (fun _ => 0))), (q12 + 6, .inl (t 0, 2, .inl (fun _ => 0))), (q13, .inl (t 0, 16, .inl (upd (upd (upd (upd (upd (upd (upd (upd (upd (upd (upd (upd (upd (upd (upd (upd (fun _ => 0) 0 6) 1 6) 2 6) 3 6) 4 6) 5 6) 6 6) 7 6) 8 6) 9 6) 10 6) 11 6) 12 6) 13 6) 14 6) 15 6))), (q14, .inl (t 3, 6, .inr (.inr (.inr (.inr (fun j => some (q14 + 1 + j))))))), (q14 + 1, .inl (t 0, 4, .inl (fun _ => 0))), (q14 + 2, .inl (t 0, 4, .inl (fun _ => 0))), (q14 + 3, .inl (t 0, 4, .inl (fun _ => 0))), (q14 + 4, .inl (t 0, 4, .inl (fun _ => 0))), (q14 + 5, .inl (t 0, 4, .inl (fun _ => 0))), (q14 + 6, .inl (t 0, 4, .inl (fun _ => 0))), (q15, .inl (t 0, 6, .inl (fun _ => 0))), (q16, .inl (t 0, 5, .inl (fun _ => 0)))] k0 (q0, .inr (9, [.ref q11, .ref q12, .ref q13, .ref q14, .int 0, .int 0, .int 12, .int 0, .int 0, .int 1, .ref b2, .ref q15, .ref q16, .ref b1]))) := by
  have hk : k0 < ws.length := (List.getElem?_eq_some_iff.mp hs).1
  refine MC.ofV pn_X9 (Nat.le_of_ble_eq_true rfl) ?_
  intro p e s m args below meth c A Q ls cx hR hw hl
  have hx := cx.1
  have hb := cx.2.1
  have hl : lv_has ls 3 [(0, .ref q0), (1, .ref b1), (2, .ref b2)] := hl
  have hw : Wd D A s (cs ws [] k0 (q0, .inr (9, [.null, .null, .null, .null, .int 0, .int 0, .int 0, .int 0, .int 0, .int 0, .null, .null, .null, .null]))) s.heap [] := by rw [cs_of hs]; exact hw
  refine lv_aload_n hx hb dX9_init_0 rfl (lv_at hl 0 rfl) ?_
  refine W.objInit hx hb cx.2.2.2.1 (cx.2.2.2.2.1 _ q_202) (cx.2.2.2.2.1 _ q_28) (cx.2.2.2.2.1 _ q_29) rfl (hl.1.trans cx.2.2.1.symm) rfl dX9_init_1 (Nat.le_of_ble_eq_true rfl) (Nat.le_of_ble_eq_true rfl) ?_
  refine W.eq (g2 := F0 m 4 ls []) rfl ?_
  refine lv_aload_n hx hb dX9_init_4 rfl (lv_at hl 0 rfl) ?_
  refine lv_bipush (v := (6)) hx hb dX9_init_5 (by decide) ?_
  refine lv_iconst (v := (5)) hx hb dX9_init_7 (by decide) ?_
  refine newG cx hw (N := 6) (K := 5) (fun z => [(z, .inl (t 3, 6, .inr (.inr (.inr (.inr (fun j => some (z + 1 + j))))))), (z + 1, .inl (t 0, 5, .inl (fun _ => 0))), (z + 2, .inl (t 0, 5, .inl (fun _ => 0))), (z + 3, .inl (t 0, 5, .inl (fun _ => 0))), (z + 4, .inl (t 0, 5, .inl (fun _ => 0))), (z + 5, .inl (t 0, 5, .inl (fun _ => 0))), (z + 6, .inl (t 0, 5, .inl (fun _ => 0)))]) (fun _ => rfl) q_203 (by decide) (by decide) (by decide) (by decide) (by omega) (by omega) (Nat.le_of_ble_eq_true rfl) (Nat.le_of_ble_eq_true rfl) dX9_init_8 (fun q11 H hw => ?_)
  have hw : Wd D A s (cs ws [(q11, .inl (t 3, 6, .inr (.inr (.inr (.inr (fun j => some (q11 + 1 + j))))))), (q11 + 1, .inl (t 0, 5, .inl (fun _ => 0))), (q11 + 2, .inl (t 0, 5, .inl (fun _ => 0))), (q11 + 3, .inl (t 0, 5, .inl (fun _ => 0))), (q11 + 4, .inl (t 0, 5, .inl (fun _ => 0))), (q11 + 5, .inl (t 0, 5, .inl (fun _ => 0))), (q11 + 6, .inl (t 0, 5, .inl (fun _ => 0)))] k0 (q0, .inr (9, [.null, .null, .null, .null, .int 0, .int 0, .int 0, .int 0, .int 0, .int 0, .null, .null, .null, .null]))) H [] := by rw [cs_app] at hw; exact hw
  refine va_putF (ref := "DialSquare$Square") (C := RX9) (T := TX9) (N := 14) (ci := 9) cx.1 cx.2.1 cx.2.2.2.2.1 lay_9 tyX9 tyX9_ok nmX9 cx.2.2.2.1 cx.2.2.2.2.2.1.1 hw.1 hw.2.1 hw.2.2 k0 (cs_0 hk) rfl 0 (by decide) (cx.2.2.2.2.1 _ q_207) (fun _ h => h) rfl cx.2.2.2.2.2.2.2.2.2 rfl rfl rfl rfl (Nat.le_of_ble_eq_true rfl) dX9_init_12 (fun H l1 hP hD hS => ?_)
  have hw : Wd D A s (cs ws [(q11, .inl (t 3, 6, .inr (.inr (.inr (.inr (fun j => some (q11 + 1 + j))))))), (q11 + 1, .inl (t 0, 5, .inl (fun _ => 0))), (q11 + 2, .inl (t 0, 5, .inl (fun _ => 0))), (q11 + 3, .inl (t 0, 5, .inl (fun _ => 0))), (q11 + 4, .inl (t 0, 5, .inl (fun _ => 0))), (q11 + 5, .inl (t 0, 5, .inl (fun _ => 0))), (q11 + 6, .inl (t 0, 5, .inl (fun _ => 0)))] k0 (q0, .inr (9, [.ref q11, .null, .null, .null, .int 0, .int 0, .int 0, .int 0, .int 0, .int 0, .null, .null, .null, .null]))) H l1 := ⟨by rw [cs_set0 hk] at hP; exact hP, by rw [cs_set0 hk] at hD; exact hD, hS⟩
  refine lv_aload_n hx hb dX9_init_15 rfl (lv_at hl 0 rfl) ?_
  refine lv_bipush (v := (6)) hx hb dX9_init_16 (by decide) ?_
  refine lv_iconst (v := (2)) hx hb dX9_init_18 (by decide) ?_
  refine newG cx hw (N := 6) (K := 2) (fun z => [(z, .inl (t 3, 6, .inr (.inr (.inr (.inr (fun j => some (z + 1 + j))))))), (z + 1, .inl (t 0, 2, .inl (fun _ => 0))), (z + 2, .inl (t 0, 2, .inl (fun _ => 0))), (z + 3, .inl (t 0, 2, .inl (fun _ => 0))), (z + 4, .inl (t 0, 2, .inl (fun _ => 0))), (z + 5, .inl (t 0, 2, .inl (fun _ => 0))), (z + 6, .inl (t 0, 2, .inl (fun _ => 0)))]) (fun _ => rfl) q_203 (by decide) (by decide) (by decide) (by decide) (by omega) (by omega) (Nat.le_of_ble_eq_true rfl) (Nat.le_of_ble_eq_true rfl) dX9_init_19 (fun q12 H hw => ?_)
  have hw : Wd D A s (cs ws [(q11, .inl (t 3, 6, .inr (.inr (.inr (.inr (fun j => some (q11 + 1 + j))))))), (q11 + 1, .inl (t 0, 5, .inl (fun _ => 0))), (q11 + 2, .inl (t 0, 5, .inl (fun _ => 0))), (q11 + 3, .inl (t 0, 5, .inl (fun _ => 0))), (q11 + 4, .inl (t 0, 5, .inl (fun _ => 0))), (q11 + 5, .inl (t 0, 5, .inl (fun _ => 0))), (q11 + 6, .inl (t 0, 5, .inl (fun _ => 0))), (q12, .inl (t 3, 6, .inr (.inr (.inr (.inr (fun j => some (q12 + 1 + j))))))), (q12 + 1, .inl (t 0, 2, .inl (fun _ => 0))), (q12 + 2, .inl (t 0, 2, .inl (fun _ => 0))), (q12 + 3, .inl (t 0, 2, .inl (fun _ => 0))), (q12 + 4, .inl (t 0, 2, .inl (fun _ => 0))), (q12 + 5, .inl (t 0, 2, .inl (fun _ => 0))), (q12 + 6, .inl (t 0, 2, .inl (fun _ => 0)))] k0 (q0, .inr (9, [.ref q11, .null, .null, .null, .int 0, .int 0, .int 0, .int 0, .int 0, .int 0, .null, .null, .null, .null]))) H l1 := by rw [cs_app] at hw; exact hw
  refine va_putF (ref := "DialSquare$Square") (C := RX9) (T := TX9) (N := 14) (ci := 9) cx.1 cx.2.1 cx.2.2.2.2.1 lay_9 tyX9 tyX9_ok nmX9 cx.2.2.2.1 cx.2.2.2.2.2.1.1 hw.1 hw.2.1 hw.2.2 k0 (cs_0 hk) rfl 1 (by decide) (cx.2.2.2.2.1 _ q_209) (fun _ h => h) rfl cx.2.2.2.2.2.2.2.2.2 rfl rfl rfl rfl (Nat.le_of_ble_eq_true rfl) dX9_init_23 (fun H l1 hP hD hS => ?_)
  have hw : Wd D A s (cs ws [(q11, .inl (t 3, 6, .inr (.inr (.inr (.inr (fun j => some (q11 + 1 + j))))))), (q11 + 1, .inl (t 0, 5, .inl (fun _ => 0))), (q11 + 2, .inl (t 0, 5, .inl (fun _ => 0))), (q11 + 3, .inl (t 0, 5, .inl (fun _ => 0))), (q11 + 4, .inl (t 0, 5, .inl (fun _ => 0))), (q11 + 5, .inl (t 0, 5, .inl (fun _ => 0))), (q11 + 6, .inl (t 0, 5, .inl (fun _ => 0))), (q12, .inl (t 3, 6, .inr (.inr (.inr (.inr (fun j => some (q12 + 1 + j))))))), (q12 + 1, .inl (t 0, 2, .inl (fun _ => 0))), (q12 + 2, .inl (t 0, 2, .inl (fun _ => 0))), (q12 + 3, .inl (t 0, 2, .inl (fun _ => 0))), (q12 + 4, .inl (t 0, 2, .inl (fun _ => 0))), (q12 + 5, .inl (t 0, 2, .inl (fun _ => 0))), (q12 + 6, .inl (t 0, 2, .inl (fun _ => 0)))] k0 (q0, .inr (9, [.ref q11, .ref q12, .null, .null, .int 0, .int 0, .int 0, .int 0, .int 0, .int 0, .null, .null, .null, .null]))) H l1 := ⟨by rw [cs_set0 hk] at hP; exact hP, by rw [cs_set0 hk] at hD; exact hD, hS⟩
  refine lv_aload_n hx hb dX9_init_26 rfl (lv_at hl 0 rfl) ?_
  refine lv_bipush (v := (16)) hx hb dX9_init_27 (by decide) ?_
  refine newI cx hw (by decide) (N := 16) (by decide) (by omega) (Nat.le_of_ble_eq_true rfl) (Nat.le_of_ble_eq_true rfl) dX9_init_29 (fun q13 H hw => ?_)
  have hw : Wd D A s (cs ws [(q11, .inl (t 3, 6, .inr (.inr (.inr (.inr (fun j => some (q11 + 1 + j))))))), (q11 + 1, .inl (t 0, 5, .inl (fun _ => 0))), (q11 + 2, .inl (t 0, 5, .inl (fun _ => 0))), (q11 + 3, .inl (t 0, 5, .inl (fun _ => 0))), (q11 + 4, .inl (t 0, 5, .inl (fun _ => 0))), (q11 + 5, .inl (t 0, 5, .inl (fun _ => 0))), (q11 + 6, .inl (t 0, 5, .inl (fun _ => 0))), (q12, .inl (t 3, 6, .inr (.inr (.inr (.inr (fun j => some (q12 + 1 + j))))))), (q12 + 1, .inl (t 0, 2, .inl (fun _ => 0))), (q12 + 2, .inl (t 0, 2, .inl (fun _ => 0))), (q12 + 3, .inl (t 0, 2, .inl (fun _ => 0))), (q12 + 4, .inl (t 0, 2, .inl (fun _ => 0))), (q12 + 5, .inl (t 0, 2, .inl (fun _ => 0))), (q12 + 6, .inl (t 0, 2, .inl (fun _ => 0))), (q13, .inl (t 0, 16, .inl (fun _ => 0)))] k0 (q0, .inr (9, [.ref q11, .ref q12, .null, .null, .int 0, .int 0, .int 0, .int 0, .int 0, .int 0, .null, .null, .null, .null]))) H l1 := by rw [cs_app] at hw; exact hw
  refine va_putF (ref := "DialSquare$Square") (C := RX9) (T := TX9) (N := 14) (ci := 9) cx.1 cx.2.1 cx.2.2.2.2.1 lay_9 tyX9 tyX9_ok nmX9 cx.2.2.2.1 cx.2.2.2.2.2.1.1 hw.1 hw.2.1 hw.2.2 k0 (cs_0 hk) rfl 2 (by decide) (cx.2.2.2.2.1 _ q_211) (fun _ h => h) rfl cx.2.2.2.2.2.2.2.2.2 rfl rfl rfl rfl (Nat.le_of_ble_eq_true rfl) dX9_init_31 (fun H l1 hP hD hS => ?_)
  have hw : Wd D A s (cs ws [(q11, .inl (t 3, 6, .inr (.inr (.inr (.inr (fun j => some (q11 + 1 + j))))))), (q11 + 1, .inl (t 0, 5, .inl (fun _ => 0))), (q11 + 2, .inl (t 0, 5, .inl (fun _ => 0))), (q11 + 3, .inl (t 0, 5, .inl (fun _ => 0))), (q11 + 4, .inl (t 0, 5, .inl (fun _ => 0))), (q11 + 5, .inl (t 0, 5, .inl (fun _ => 0))), (q11 + 6, .inl (t 0, 5, .inl (fun _ => 0))), (q12, .inl (t 3, 6, .inr (.inr (.inr (.inr (fun j => some (q12 + 1 + j))))))), (q12 + 1, .inl (t 0, 2, .inl (fun _ => 0))), (q12 + 2, .inl (t 0, 2, .inl (fun _ => 0))), (q12 + 3, .inl (t 0, 2, .inl (fun _ => 0))), (q12 + 4, .inl (t 0, 2, .inl (fun _ => 0))), (q12 + 5, .inl (t 0, 2, .inl (fun _ => 0))), (q12 + 6, .inl (t 0, 2, .inl (fun _ => 0))), (q13, .inl (t 0, 16, .inl (fun _ => 0)))] k0 (q0, .inr (9, [.ref q11, .ref q12, .ref q13, .null, .int 0, .int 0, .int 0, .int 0, .int 0, .int 0, .null, .null, .null, .null]))) H l1 := ⟨by rw [cs_set0 hk] at hP; exact hP, by rw [cs_set0 hk] at hD; exact hD, hS⟩
  refine lv_aload_n hx hb dX9_init_34 rfl (lv_at hl 0 rfl) ?_
  refine lv_bipush (v := (6)) hx hb dX9_init_35 (by decide) ?_
  refine lv_iconst (v := (4)) hx hb dX9_init_37 (by decide) ?_
  refine newG cx hw (N := 6) (K := 4) (fun z => [(z, .inl (t 3, 6, .inr (.inr (.inr (.inr (fun j => some (z + 1 + j))))))), (z + 1, .inl (t 0, 4, .inl (fun _ => 0))), (z + 2, .inl (t 0, 4, .inl (fun _ => 0))), (z + 3, .inl (t 0, 4, .inl (fun _ => 0))), (z + 4, .inl (t 0, 4, .inl (fun _ => 0))), (z + 5, .inl (t 0, 4, .inl (fun _ => 0))), (z + 6, .inl (t 0, 4, .inl (fun _ => 0)))]) (fun _ => rfl) q_203 (by decide) (by decide) (by decide) (by decide) (by omega) (by omega) (Nat.le_of_ble_eq_true rfl) (Nat.le_of_ble_eq_true rfl) dX9_init_38 (fun q14 H hw => ?_)
  have hw : Wd D A s (cs ws [(q11, .inl (t 3, 6, .inr (.inr (.inr (.inr (fun j => some (q11 + 1 + j))))))), (q11 + 1, .inl (t 0, 5, .inl (fun _ => 0))), (q11 + 2, .inl (t 0, 5, .inl (fun _ => 0))), (q11 + 3, .inl (t 0, 5, .inl (fun _ => 0))), (q11 + 4, .inl (t 0, 5, .inl (fun _ => 0))), (q11 + 5, .inl (t 0, 5, .inl (fun _ => 0))), (q11 + 6, .inl (t 0, 5, .inl (fun _ => 0))), (q12, .inl (t 3, 6, .inr (.inr (.inr (.inr (fun j => some (q12 + 1 + j))))))), (q12 + 1, .inl (t 0, 2, .inl (fun _ => 0))), (q12 + 2, .inl (t 0, 2, .inl (fun _ => 0))), (q12 + 3, .inl (t 0, 2, .inl (fun _ => 0))), (q12 + 4, .inl (t 0, 2, .inl (fun _ => 0))), (q12 + 5, .inl (t 0, 2, .inl (fun _ => 0))), (q12 + 6, .inl (t 0, 2, .inl (fun _ => 0))), (q13, .inl (t 0, 16, .inl (fun _ => 0))), (q14, .inl (t 3, 6, .inr (.inr (.inr (.inr (fun j => some (q14 + 1 + j))))))), (q14 + 1, .inl (t 0, 4, .inl (fun _ => 0))), (q14 + 2, .inl (t 0, 4, .inl (fun _ => 0))), (q14 + 3, .inl (t 0, 4, .inl (fun _ => 0))), (q14 + 4, .inl (t 0, 4, .inl (fun _ => 0))), (q14 + 5, .inl (t 0, 4, .inl (fun _ => 0))), (q14 + 6, .inl (t 0, 4, .inl (fun _ => 0)))] k0 (q0, .inr (9, [.ref q11, .ref q12, .ref q13, .null, .int 0, .int 0, .int 0, .int 0, .int 0, .int 0, .null, .null, .null, .null]))) H l1 := by rw [cs_app] at hw; exact hw
  refine va_putF (ref := "DialSquare$Square") (C := RX9) (T := TX9) (N := 14) (ci := 9) cx.1 cx.2.1 cx.2.2.2.2.1 lay_9 tyX9 tyX9_ok nmX9 cx.2.2.2.1 cx.2.2.2.2.2.1.1 hw.1 hw.2.1 hw.2.2 k0 (cs_0 hk) rfl 3 (by decide) (cx.2.2.2.2.1 _ q_213) (fun _ h => h) rfl cx.2.2.2.2.2.2.2.2.2 rfl rfl rfl rfl (Nat.le_of_ble_eq_true rfl) dX9_init_42 (fun H l1 hP hD hS => ?_)
  have hw : Wd D A s (cs ws [(q11, .inl (t 3, 6, .inr (.inr (.inr (.inr (fun j => some (q11 + 1 + j))))))), (q11 + 1, .inl (t 0, 5, .inl (fun _ => 0))), (q11 + 2, .inl (t 0, 5, .inl (fun _ => 0))), (q11 + 3, .inl (t 0, 5, .inl (fun _ => 0))), (q11 + 4, .inl (t 0, 5, .inl (fun _ => 0))), (q11 + 5, .inl (t 0, 5, .inl (fun _ => 0))), (q11 + 6, .inl (t 0, 5, .inl (fun _ => 0))), (q12, .inl (t 3, 6, .inr (.inr (.inr (.inr (fun j => some (q12 + 1 + j))))))), (q12 + 1, .inl (t 0, 2, .inl (fun _ => 0))), (q12 + 2, .inl (t 0, 2, .inl (fun _ => 0))), (q12 + 3, .inl (t 0, 2, .inl (fun _ => 0))), (q12 + 4, .inl (t 0, 2, .inl (fun _ => 0))), (q12 + 5, .inl (t 0, 2, .inl (fun _ => 0))), (q12 + 6, .inl (t 0, 2, .inl (fun _ => 0))), (q13, .inl (t 0, 16, .inl (fun _ => 0))), (q14, .inl (t 3, 6, .inr (.inr (.inr (.inr (fun j => some (q14 + 1 + j))))))), (q14 + 1, .inl (t 0, 4, .inl (fun _ => 0))), (q14 + 2, .inl (t 0, 4, .inl (fun _ => 0))), (q14 + 3, .inl (t 0, 4, .inl (fun _ => 0))), (q14 + 4, .inl (t 0, 4, .inl (fun _ => 0))), (q14 + 5, .inl (t 0, 4, .inl (fun _ => 0))), (q14 + 6, .inl (t 0, 4, .inl (fun _ => 0)))] k0 (q0, .inr (9, [.ref q11, .ref q12, .ref q13, .ref q14, .int 0, .int 0, .int 0, .int 0, .int 0, .int 0, .null, .null, .null, .null]))) H l1 := ⟨by rw [cs_set0 hk] at hP; exact hP, by rw [cs_set0 hk] at hD; exact hD, hS⟩
  refine lv_aload_n hx hb dX9_init_45 rfl (lv_at hl 0 rfl) ?_
  refine lv_bipush (v := (12)) hx hb dX9_init_46 (by decide) ?_
  refine va_put (ref := "DialSquare$Square") (C := RX9) (T := TX9) (N := 14) (ci := 9) cx.1 cx.2.1 cx.2.2.2.2.1 lay_9 tyX9 tyX9_ok nmX9 cx.2.2.2.1 cx.2.2.2.2.2.1.1 hw.1 hw.2.1 hw.2.2 k0 (cs_0 hk) rfl 6 (by decide) (cx.2.2.2.2.1 _ q_219) (fun _ h => h) rfl rfl rfl rfl (Nat.le_of_ble_eq_true rfl) dX9_init_48 (fun H l1 hP hD hS => ?_)
  have hw : Wd D A s (cs ws [(q11, .inl (t 3, 6, .inr (.inr (.inr (.inr (fun j => some (q11 + 1 + j))))))), (q11 + 1, .inl (t 0, 5, .inl (fun _ => 0))), (q11 + 2, .inl (t 0, 5, .inl (fun _ => 0))), (q11 + 3, .inl (t 0, 5, .inl (fun _ => 0))), (q11 + 4, .inl (t 0, 5, .inl (fun _ => 0))), (q11 + 5, .inl (t 0, 5, .inl (fun _ => 0))), (q11 + 6, .inl (t 0, 5, .inl (fun _ => 0))), (q12, .inl (t 3, 6, .inr (.inr (.inr (.inr (fun j => some (q12 + 1 + j))))))), (q12 + 1, .inl (t 0, 2, .inl (fun _ => 0))), (q12 + 2, .inl (t 0, 2, .inl (fun _ => 0))), (q12 + 3, .inl (t 0, 2, .inl (fun _ => 0))), (q12 + 4, .inl (t 0, 2, .inl (fun _ => 0))), (q12 + 5, .inl (t 0, 2, .inl (fun _ => 0))), (q12 + 6, .inl (t 0, 2, .inl (fun _ => 0))), (q13, .inl (t 0, 16, .inl (fun _ => 0))), (q14, .inl (t 3, 6, .inr (.inr (.inr (.inr (fun j => some (q14 + 1 + j))))))), (q14 + 1, .inl (t 0, 4, .inl (fun _ => 0))), (q14 + 2, .inl (t 0, 4, .inl (fun _ => 0))), (q14 + 3, .inl (t 0, 4, .inl (fun _ => 0))), (q14 + 4, .inl (t 0, 4, .inl (fun _ => 0))), (q14 + 5, .inl (t 0, 4, .inl (fun _ => 0))), (q14 + 6, .inl (t 0, 4, .inl (fun _ => 0)))] k0 (q0, .inr (9, [.ref q11, .ref q12, .ref q13, .ref q14, .int 0, .int 0, .int 12, .int 0, .int 0, .int 0, .null, .null, .null, .null]))) H l1 := ⟨by rw [cs_set0 hk] at hP; exact hP, by rw [cs_set0 hk] at hD; exact hD, hS⟩
  refine lv_aload_n hx hb dX9_init_51 rfl (lv_at hl 0 rfl) ?_
  refine lv_iconst (v := (1)) hx hb dX9_init_52 (by decide) ?_
  refine va_put (ref := "DialSquare$Square") (C := RX9) (T := TX9) (N := 14) (ci := 9) cx.1 cx.2.1 cx.2.2.2.2.1 lay_9 tyX9 tyX9_ok nmX9 cx.2.2.2.1 cx.2.2.2.2.2.1.1 hw.1 hw.2.1 hw.2.2 k0 (cs_0 hk) rfl 9 (by decide) (cx.2.2.2.2.1 _ q_225) (fun _ h => h) rfl rfl rfl rfl (Nat.le_of_ble_eq_true rfl) dX9_init_53 (fun H l1 hP hD hS => ?_)
  have hw : Wd D A s (cs ws [(q11, .inl (t 3, 6, .inr (.inr (.inr (.inr (fun j => some (q11 + 1 + j))))))), (q11 + 1, .inl (t 0, 5, .inl (fun _ => 0))), (q11 + 2, .inl (t 0, 5, .inl (fun _ => 0))), (q11 + 3, .inl (t 0, 5, .inl (fun _ => 0))), (q11 + 4, .inl (t 0, 5, .inl (fun _ => 0))), (q11 + 5, .inl (t 0, 5, .inl (fun _ => 0))), (q11 + 6, .inl (t 0, 5, .inl (fun _ => 0))), (q12, .inl (t 3, 6, .inr (.inr (.inr (.inr (fun j => some (q12 + 1 + j))))))), (q12 + 1, .inl (t 0, 2, .inl (fun _ => 0))), (q12 + 2, .inl (t 0, 2, .inl (fun _ => 0))), (q12 + 3, .inl (t 0, 2, .inl (fun _ => 0))), (q12 + 4, .inl (t 0, 2, .inl (fun _ => 0))), (q12 + 5, .inl (t 0, 2, .inl (fun _ => 0))), (q12 + 6, .inl (t 0, 2, .inl (fun _ => 0))), (q13, .inl (t 0, 16, .inl (fun _ => 0))), (q14, .inl (t 3, 6, .inr (.inr (.inr (.inr (fun j => some (q14 + 1 + j))))))), (q14 + 1, .inl (t 0, 4, .inl (fun _ => 0))), (q14 + 2, .inl (t 0, 4, .inl (fun _ => 0))), (q14 + 3, .inl (t 0, 4, .inl (fun _ => 0))), (q14 + 4, .inl (t 0, 4, .inl (fun _ => 0))), (q14 + 5, .inl (t 0, 4, .inl (fun _ => 0))), (q14 + 6, .inl (t 0, 4, .inl (fun _ => 0)))] k0 (q0, .inr (9, [.ref q11, .ref q12, .ref q13, .ref q14, .int 0, .int 0, .int 12, .int 0, .int 0, .int 1, .null, .null, .null, .null]))) H l1 := ⟨by rw [cs_set0 hk] at hP; exact hP, by rw [cs_set0 hk] at hD; exact hD, hS⟩
  refine lv_aload_n hx hb dX9_init_56 rfl (lv_at hl 0 rfl) ?_
  refine lv_bipush (v := (6)) hx hb dX9_init_57 (by decide) ?_
  refine newI cx hw (by decide) (N := 6) (by decide) (by omega) (Nat.le_of_ble_eq_true rfl) (Nat.le_of_ble_eq_true rfl) dX9_init_59 (fun q15 H hw => ?_)
  have hw : Wd D A s (cs ws [(q11, .inl (t 3, 6, .inr (.inr (.inr (.inr (fun j => some (q11 + 1 + j))))))), (q11 + 1, .inl (t 0, 5, .inl (fun _ => 0))), (q11 + 2, .inl (t 0, 5, .inl (fun _ => 0))), (q11 + 3, .inl (t 0, 5, .inl (fun _ => 0))), (q11 + 4, .inl (t 0, 5, .inl (fun _ => 0))), (q11 + 5, .inl (t 0, 5, .inl (fun _ => 0))), (q11 + 6, .inl (t 0, 5, .inl (fun _ => 0))), (q12, .inl (t 3, 6, .inr (.inr (.inr (.inr (fun j => some (q12 + 1 + j))))))), (q12 + 1, .inl (t 0, 2, .inl (fun _ => 0))), (q12 + 2, .inl (t 0, 2, .inl (fun _ => 0))), (q12 + 3, .inl (t 0, 2, .inl (fun _ => 0))), (q12 + 4, .inl (t 0, 2, .inl (fun _ => 0))), (q12 + 5, .inl (t 0, 2, .inl (fun _ => 0))), (q12 + 6, .inl (t 0, 2, .inl (fun _ => 0))), (q13, .inl (t 0, 16, .inl (fun _ => 0))), (q14, .inl (t 3, 6, .inr (.inr (.inr (.inr (fun j => some (q14 + 1 + j))))))), (q14 + 1, .inl (t 0, 4, .inl (fun _ => 0))), (q14 + 2, .inl (t 0, 4, .inl (fun _ => 0))), (q14 + 3, .inl (t 0, 4, .inl (fun _ => 0))), (q14 + 4, .inl (t 0, 4, .inl (fun _ => 0))), (q14 + 5, .inl (t 0, 4, .inl (fun _ => 0))), (q14 + 6, .inl (t 0, 4, .inl (fun _ => 0))), (q15, .inl (t 0, 6, .inl (fun _ => 0)))] k0 (q0, .inr (9, [.ref q11, .ref q12, .ref q13, .ref q14, .int 0, .int 0, .int 12, .int 0, .int 0, .int 1, .null, .null, .null, .null]))) H l1 := by rw [cs_app] at hw; exact hw
  refine va_putF (ref := "DialSquare$Square") (C := RX9) (T := TX9) (N := 14) (ci := 9) cx.1 cx.2.1 cx.2.2.2.2.1 lay_9 tyX9 tyX9_ok nmX9 cx.2.2.2.1 cx.2.2.2.2.2.1.1 hw.1 hw.2.1 hw.2.2 k0 (cs_0 hk) rfl 11 (by decide) (cx.2.2.2.2.1 _ q_229) (fun _ h => h) rfl cx.2.2.2.2.2.2.2.2.2 rfl rfl rfl rfl (Nat.le_of_ble_eq_true rfl) dX9_init_61 (fun H l1 hP hD hS => ?_)
  have hw : Wd D A s (cs ws [(q11, .inl (t 3, 6, .inr (.inr (.inr (.inr (fun j => some (q11 + 1 + j))))))), (q11 + 1, .inl (t 0, 5, .inl (fun _ => 0))), (q11 + 2, .inl (t 0, 5, .inl (fun _ => 0))), (q11 + 3, .inl (t 0, 5, .inl (fun _ => 0))), (q11 + 4, .inl (t 0, 5, .inl (fun _ => 0))), (q11 + 5, .inl (t 0, 5, .inl (fun _ => 0))), (q11 + 6, .inl (t 0, 5, .inl (fun _ => 0))), (q12, .inl (t 3, 6, .inr (.inr (.inr (.inr (fun j => some (q12 + 1 + j))))))), (q12 + 1, .inl (t 0, 2, .inl (fun _ => 0))), (q12 + 2, .inl (t 0, 2, .inl (fun _ => 0))), (q12 + 3, .inl (t 0, 2, .inl (fun _ => 0))), (q12 + 4, .inl (t 0, 2, .inl (fun _ => 0))), (q12 + 5, .inl (t 0, 2, .inl (fun _ => 0))), (q12 + 6, .inl (t 0, 2, .inl (fun _ => 0))), (q13, .inl (t 0, 16, .inl (fun _ => 0))), (q14, .inl (t 3, 6, .inr (.inr (.inr (.inr (fun j => some (q14 + 1 + j))))))), (q14 + 1, .inl (t 0, 4, .inl (fun _ => 0))), (q14 + 2, .inl (t 0, 4, .inl (fun _ => 0))), (q14 + 3, .inl (t 0, 4, .inl (fun _ => 0))), (q14 + 4, .inl (t 0, 4, .inl (fun _ => 0))), (q14 + 5, .inl (t 0, 4, .inl (fun _ => 0))), (q14 + 6, .inl (t 0, 4, .inl (fun _ => 0))), (q15, .inl (t 0, 6, .inl (fun _ => 0)))] k0 (q0, .inr (9, [.ref q11, .ref q12, .ref q13, .ref q14, .int 0, .int 0, .int 12, .int 0, .int 0, .int 1, .null, .ref q15, .null, .null]))) H l1 := ⟨by rw [cs_set0 hk] at hP; exact hP, by rw [cs_set0 hk] at hD; exact hD, hS⟩
  refine lv_aload_n hx hb dX9_init_64 rfl (lv_at hl 0 rfl) ?_
  refine lv_iconst (v := (5)) hx hb dX9_init_65 (by decide) ?_
  refine newI cx hw (by decide) (N := 5) (by decide) (by omega) (Nat.le_of_ble_eq_true rfl) (Nat.le_of_ble_eq_true rfl) dX9_init_66 (fun q16 H hw => ?_)
  have hw : Wd D A s (cs ws [(q11, .inl (t 3, 6, .inr (.inr (.inr (.inr (fun j => some (q11 + 1 + j))))))), (q11 + 1, .inl (t 0, 5, .inl (fun _ => 0))), (q11 + 2, .inl (t 0, 5, .inl (fun _ => 0))), (q11 + 3, .inl (t 0, 5, .inl (fun _ => 0))), (q11 + 4, .inl (t 0, 5, .inl (fun _ => 0))), (q11 + 5, .inl (t 0, 5, .inl (fun _ => 0))), (q11 + 6, .inl (t 0, 5, .inl (fun _ => 0))), (q12, .inl (t 3, 6, .inr (.inr (.inr (.inr (fun j => some (q12 + 1 + j))))))), (q12 + 1, .inl (t 0, 2, .inl (fun _ => 0))), (q12 + 2, .inl (t 0, 2, .inl (fun _ => 0))), (q12 + 3, .inl (t 0, 2, .inl (fun _ => 0))), (q12 + 4, .inl (t 0, 2, .inl (fun _ => 0))), (q12 + 5, .inl (t 0, 2, .inl (fun _ => 0))), (q12 + 6, .inl (t 0, 2, .inl (fun _ => 0))), (q13, .inl (t 0, 16, .inl (fun _ => 0))), (q14, .inl (t 3, 6, .inr (.inr (.inr (.inr (fun j => some (q14 + 1 + j))))))), (q14 + 1, .inl (t 0, 4, .inl (fun _ => 0))), (q14 + 2, .inl (t 0, 4, .inl (fun _ => 0))), (q14 + 3, .inl (t 0, 4, .inl (fun _ => 0))), (q14 + 4, .inl (t 0, 4, .inl (fun _ => 0))), (q14 + 5, .inl (t 0, 4, .inl (fun _ => 0))), (q14 + 6, .inl (t 0, 4, .inl (fun _ => 0))), (q15, .inl (t 0, 6, .inl (fun _ => 0))), (q16, .inl (t 0, 5, .inl (fun _ => 0)))] k0 (q0, .inr (9, [.ref q11, .ref q12, .ref q13, .ref q14, .int 0, .int 0, .int 12, .int 0, .int 0, .int 1, .null, .ref q15, .null, .null]))) H l1 := by rw [cs_app] at hw; exact hw
  refine va_putF (ref := "DialSquare$Square") (C := RX9) (T := TX9) (N := 14) (ci := 9) cx.1 cx.2.1 cx.2.2.2.2.1 lay_9 tyX9 tyX9_ok nmX9 cx.2.2.2.1 cx.2.2.2.2.2.1.1 hw.1 hw.2.1 hw.2.2 k0 (cs_0 hk) rfl 12 (by decide) (cx.2.2.2.2.1 _ q_231) (fun _ h => h) rfl cx.2.2.2.2.2.2.2.2.2 rfl rfl rfl rfl (Nat.le_of_ble_eq_true rfl) dX9_init_68 (fun H l1 hP hD hS => ?_)
  have hw : Wd D A s (cs ws [(q11, .inl (t 3, 6, .inr (.inr (.inr (.inr (fun j => some (q11 + 1 + j))))))), (q11 + 1, .inl (t 0, 5, .inl (fun _ => 0))), (q11 + 2, .inl (t 0, 5, .inl (fun _ => 0))), (q11 + 3, .inl (t 0, 5, .inl (fun _ => 0))), (q11 + 4, .inl (t 0, 5, .inl (fun _ => 0))), (q11 + 5, .inl (t 0, 5, .inl (fun _ => 0))), (q11 + 6, .inl (t 0, 5, .inl (fun _ => 0))), (q12, .inl (t 3, 6, .inr (.inr (.inr (.inr (fun j => some (q12 + 1 + j))))))), (q12 + 1, .inl (t 0, 2, .inl (fun _ => 0))), (q12 + 2, .inl (t 0, 2, .inl (fun _ => 0))), (q12 + 3, .inl (t 0, 2, .inl (fun _ => 0))), (q12 + 4, .inl (t 0, 2, .inl (fun _ => 0))), (q12 + 5, .inl (t 0, 2, .inl (fun _ => 0))), (q12 + 6, .inl (t 0, 2, .inl (fun _ => 0))), (q13, .inl (t 0, 16, .inl (fun _ => 0))), (q14, .inl (t 3, 6, .inr (.inr (.inr (.inr (fun j => some (q14 + 1 + j))))))), (q14 + 1, .inl (t 0, 4, .inl (fun _ => 0))), (q14 + 2, .inl (t 0, 4, .inl (fun _ => 0))), (q14 + 3, .inl (t 0, 4, .inl (fun _ => 0))), (q14 + 4, .inl (t 0, 4, .inl (fun _ => 0))), (q14 + 5, .inl (t 0, 4, .inl (fun _ => 0))), (q14 + 6, .inl (t 0, 4, .inl (fun _ => 0))), (q15, .inl (t 0, 6, .inl (fun _ => 0))), (q16, .inl (t 0, 5, .inl (fun _ => 0)))] k0 (q0, .inr (9, [.ref q11, .ref q12, .ref q13, .ref q14, .int 0, .int 0, .int 12, .int 0, .int 0, .int 1, .null, .ref q15, .ref q16, .null]))) H l1 := ⟨by rw [cs_set0 hk] at hP; exact hP, by rw [cs_set0 hk] at hD; exact hD, hS⟩
  refine lv_aload_n hx hb dX9_init_71 rfl (lv_at hl 0 rfl) ?_
  refine lv_aload_n hx hb dX9_init_72 rfl (lv_at hl 1 rfl) ?_
  refine va_putF (ref := "DialSquare$Square") (C := RX9) (T := TX9) (N := 14) (ci := 9) cx.1 cx.2.1 cx.2.2.2.2.1 lay_9 tyX9 tyX9_ok nmX9 cx.2.2.2.1 cx.2.2.2.2.2.1.1 hw.1 hw.2.1 hw.2.2 k0 (cs_0 hk) rfl 13 (by decide) (cx.2.2.2.2.1 _ q_232) (fun _ h => h) rfl cx.2.2.2.2.2.2.2.2.2 rfl rfl rfl rfl (Nat.le_of_ble_eq_true rfl) dX9_init_73 (fun H l1 hP hD hS => ?_)
  have hw : Wd D A s (cs ws [(q11, .inl (t 3, 6, .inr (.inr (.inr (.inr (fun j => some (q11 + 1 + j))))))), (q11 + 1, .inl (t 0, 5, .inl (fun _ => 0))), (q11 + 2, .inl (t 0, 5, .inl (fun _ => 0))), (q11 + 3, .inl (t 0, 5, .inl (fun _ => 0))), (q11 + 4, .inl (t 0, 5, .inl (fun _ => 0))), (q11 + 5, .inl (t 0, 5, .inl (fun _ => 0))), (q11 + 6, .inl (t 0, 5, .inl (fun _ => 0))), (q12, .inl (t 3, 6, .inr (.inr (.inr (.inr (fun j => some (q12 + 1 + j))))))), (q12 + 1, .inl (t 0, 2, .inl (fun _ => 0))), (q12 + 2, .inl (t 0, 2, .inl (fun _ => 0))), (q12 + 3, .inl (t 0, 2, .inl (fun _ => 0))), (q12 + 4, .inl (t 0, 2, .inl (fun _ => 0))), (q12 + 5, .inl (t 0, 2, .inl (fun _ => 0))), (q12 + 6, .inl (t 0, 2, .inl (fun _ => 0))), (q13, .inl (t 0, 16, .inl (fun _ => 0))), (q14, .inl (t 3, 6, .inr (.inr (.inr (.inr (fun j => some (q14 + 1 + j))))))), (q14 + 1, .inl (t 0, 4, .inl (fun _ => 0))), (q14 + 2, .inl (t 0, 4, .inl (fun _ => 0))), (q14 + 3, .inl (t 0, 4, .inl (fun _ => 0))), (q14 + 4, .inl (t 0, 4, .inl (fun _ => 0))), (q14 + 5, .inl (t 0, 4, .inl (fun _ => 0))), (q14 + 6, .inl (t 0, 4, .inl (fun _ => 0))), (q15, .inl (t 0, 6, .inl (fun _ => 0))), (q16, .inl (t 0, 5, .inl (fun _ => 0)))] k0 (q0, .inr (9, [.ref q11, .ref q12, .ref q13, .ref q14, .int 0, .int 0, .int 12, .int 0, .int 0, .int 1, .null, .ref q15, .ref q16, .ref b1]))) H l1 := ⟨by rw [cs_set0 hk] at hP; exact hP, by rw [cs_set0 hk] at hD; exact hD, hS⟩
  refine lv_aload_n hx hb dX9_init_76 rfl (lv_at hl 0 rfl) ?_
  refine lv_aload_n hx hb dX9_init_77 rfl (lv_at hl 2 rfl) ?_
  refine va_put (ref := "DialSquare$Square") (C := RX9) (T := TX9) (N := 14) (ci := 9) cx.1 cx.2.1 cx.2.2.2.2.1 lay_9 tyX9 tyX9_ok nmX9 cx.2.2.2.1 cx.2.2.2.2.2.1.1 hw.1 hw.2.1 hw.2.2 k0 (cs_0 hk) rfl 10 (by decide) (cx.2.2.2.2.1 _ q_227) (fun _ h => h) rfl rfl rfl rfl (Nat.le_of_ble_eq_true rfl) dX9_init_78 (fun H l1 hP hD hS => ?_)
  have hw : Wd D A s (cs ws [(q11, .inl (t 3, 6, .inr (.inr (.inr (.inr (fun j => some (q11 + 1 + j))))))), (q11 + 1, .inl (t 0, 5, .inl (fun _ => 0))), (q11 + 2, .inl (t 0, 5, .inl (fun _ => 0))), (q11 + 3, .inl (t 0, 5, .inl (fun _ => 0))), (q11 + 4, .inl (t 0, 5, .inl (fun _ => 0))), (q11 + 5, .inl (t 0, 5, .inl (fun _ => 0))), (q11 + 6, .inl (t 0, 5, .inl (fun _ => 0))), (q12, .inl (t 3, 6, .inr (.inr (.inr (.inr (fun j => some (q12 + 1 + j))))))), (q12 + 1, .inl (t 0, 2, .inl (fun _ => 0))), (q12 + 2, .inl (t 0, 2, .inl (fun _ => 0))), (q12 + 3, .inl (t 0, 2, .inl (fun _ => 0))), (q12 + 4, .inl (t 0, 2, .inl (fun _ => 0))), (q12 + 5, .inl (t 0, 2, .inl (fun _ => 0))), (q12 + 6, .inl (t 0, 2, .inl (fun _ => 0))), (q13, .inl (t 0, 16, .inl (fun _ => 0))), (q14, .inl (t 3, 6, .inr (.inr (.inr (.inr (fun j => some (q14 + 1 + j))))))), (q14 + 1, .inl (t 0, 4, .inl (fun _ => 0))), (q14 + 2, .inl (t 0, 4, .inl (fun _ => 0))), (q14 + 3, .inl (t 0, 4, .inl (fun _ => 0))), (q14 + 4, .inl (t 0, 4, .inl (fun _ => 0))), (q14 + 5, .inl (t 0, 4, .inl (fun _ => 0))), (q14 + 6, .inl (t 0, 4, .inl (fun _ => 0))), (q15, .inl (t 0, 6, .inl (fun _ => 0))), (q16, .inl (t 0, 5, .inl (fun _ => 0)))] k0 (q0, .inr (9, [.ref q11, .ref q12, .ref q13, .ref q14, .int 0, .int 0, .int 12, .int 0, .int 0, .int 1, .ref b2, .ref q15, .ref q16, .ref b1]))) H l1 := ⟨by rw [cs_set0 hk] at hP; exact hP, by rw [cs_set0 hk] at hD; exact hD, hS⟩
  refine lv_aload_n hx hb dX9_init_81 rfl (lv_at hl 0 rfl) ?_
  refine va_get (ref := "DialSquare$Square") (C := RX9) (T := TX9) (N := 14) (ci := 9) cx.1 cx.2.1 cx.2.2.2.2.1 lay_9 cx.2.2.2.1 cx.2.2.2.2.2.1.1 hw.1 k0 (cs_0 hk) rfl 2 (by decide) (cx.2.2.2.2.1 _ q_211) (fun _ h => h) rfl dX9_init_82 ?_
  refine lv_bipush (v := (6)) hx hb dX9_init_85 (by decide) ?_
  refine calS (maxL := 4) cx hw hl.1 (c_fill16 (k := ws.length + 14) (cs_L rfl)) q_204 k_J7_fill_53178.1 k_J7_fill_53178.2.1 k_J7_fill_53178.2.2.1 k_J7_fill_53178.2.2.2 rfl dX9_init_87 rfl (Nat.le_of_ble_eq_true rfl) ⟨(Nat.le_of_ble_eq_true rfl), (Nat.le_of_ble_eq_true rfl)⟩ ⟨(Nat.le_of_ble_eq_true rfl), (Nat.le_of_ble_eq_true rfl)⟩ (fun v ws' H locs hq hw => ?_)
  obtain ⟨rfl, rfl⟩ := hq
  have hw : Wd D A s (cs ws [(q11, .inl (t 3, 6, .inr (.inr (.inr (.inr (fun j => some (q11 + 1 + j))))))), (q11 + 1, .inl (t 0, 5, .inl (fun _ => 0))), (q11 + 2, .inl (t 0, 5, .inl (fun _ => 0))), (q11 + 3, .inl (t 0, 5, .inl (fun _ => 0))), (q11 + 4, .inl (t 0, 5, .inl (fun _ => 0))), (q11 + 5, .inl (t 0, 5, .inl (fun _ => 0))), (q11 + 6, .inl (t 0, 5, .inl (fun _ => 0))), (q12, .inl (t 3, 6, .inr (.inr (.inr (.inr (fun j => some (q12 + 1 + j))))))), (q12 + 1, .inl (t 0, 2, .inl (fun _ => 0))), (q12 + 2, .inl (t 0, 2, .inl (fun _ => 0))), (q12 + 3, .inl (t 0, 2, .inl (fun _ => 0))), (q12 + 4, .inl (t 0, 2, .inl (fun _ => 0))), (q12 + 5, .inl (t 0, 2, .inl (fun _ => 0))), (q12 + 6, .inl (t 0, 2, .inl (fun _ => 0))), (q13, .inl (t 0, 16, .inl (upd (upd (upd (upd (upd (upd (upd (upd (upd (upd (upd (upd (upd (upd (upd (upd (fun _ => 0) 0 6) 1 6) 2 6) 3 6) 4 6) 5 6) 6 6) 7 6) 8 6) 9 6) 10 6) 11 6) 12 6) 13 6) 14 6) 15 6))), (q14, .inl (t 3, 6, .inr (.inr (.inr (.inr (fun j => some (q14 + 1 + j))))))), (q14 + 1, .inl (t 0, 4, .inl (fun _ => 0))), (q14 + 2, .inl (t 0, 4, .inl (fun _ => 0))), (q14 + 3, .inl (t 0, 4, .inl (fun _ => 0))), (q14 + 4, .inl (t 0, 4, .inl (fun _ => 0))), (q14 + 5, .inl (t 0, 4, .inl (fun _ => 0))), (q14 + 6, .inl (t 0, 4, .inl (fun _ => 0))), (q15, .inl (t 0, 6, .inl (fun _ => 0))), (q16, .inl (t 0, 5, .inl (fun _ => 0)))] k0 (q0, .inr (9, [.ref q11, .ref q12, .ref q13, .ref q14, .int 0, .int 0, .int 12, .int 0, .int 0, .int 1, .ref b2, .ref q15, .ref q16, .ref b1]))) H locs := by rw [cs_setL] at hw; exact hw
  exact hR _ _ _ _ _ hw ⟨q11, q12, q13, q14, q15, q16, rfl, rfl⟩ dX9_init_90
end CTOR
