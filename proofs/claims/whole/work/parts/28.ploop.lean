/-! Loops of chimes; copies. -/
theorem m_oT {s : Nat → Int32} (h : goB s = true) : X12_isOver s = 0 := by
  unfold X12_isOver; rw [if_pos (of_decide_eq_true h)]
theorem m_oF {s : Nat → Int32} (h : ¬ goB s = true) : X12_isOver s = 1 := by
  unfold X12_isOver; rw [if_neg (fun q => h (decide_eq_true q))]
theorem c_oT {s : Nat → Int32} (h : goB s = true) : X9_isOver_q0 (s 0) (s 1) = 0 := m_oT h
theorem c_oF {s : Nat → Int32} (h : ¬ goB s = true) : X9_isOver_q0 (s 0) (s 1) = 1 := m_oF h
theorem cpy_eq {f g : Nat → Int32} {n : Nat} (hf : ∀ j, n ≤ j → f j = 0) (hg : ∀ j, n ≤ j → g j = 0) : va_cpy f g 0 0 n = f := by
  funext j; unfold va_cpy
  by_cases h : j < n
  · rw [if_pos (by omega)]; congr 1; omega
  · rw [if_neg (by omega), hf j (by omega), hg j (by omega)]
theorem dOf_z (s : Nat → Int32) (k j : Nat) (h : 5 ≤ j) : dOf s k j = 0 := if_neg (by omega)
theorem pOf_z (s : Nat → Int32) (k j : Nat) (h : 2 ≤ j) : pOf s k j = 0 := if_neg (by omega)
theorem rOf_z (s : Nat → Int32) (k j : Nat) (h : 4 ≤ j) : rOf s k j = 0 := if_neg (by omega)
theorem kOf_z (s : Nat → Int32) (j : Nat) (h : 16 ≤ j) : kOf s j = 0 := if_neg (by omega)
theorem dOf_z1 (s : Nat → Int32) (k : Nat) (h : 6 ≤ k) : dOf s k = fun _ => 0 := by funext j; exact if_neg (by omega)
theorem pOf_z1 (s : Nat → Int32) (k : Nat) (h : 6 ≤ k) : pOf s k = fun _ => 0 := by funext j; exact if_neg (by omega)
theorem rOf_z1 (s : Nat → Int32) (k : Nat) (h : 6 ≤ k) : rOf s k = fun _ => 0 := by funext j; exact if_neg (by omega)
theorem mix_up {f g : Nat → Nat → Int32} {k : Nat} : va_up (fun i => if i < k then f i else g i) k (f k) = (fun i => if i < k + 1 then f i else g i) := by
  funext i
  by_cases h : i = k
  · subst h; rw [vup_s, if_pos (by omega)]
  · rw [vup_n h]
    by_cases h2 : i < k
    · rw [if_pos h2, if_pos (by omega)]
    · rw [if_neg h2, if_neg (by omega)]
theorem mix_6 {f g : Nat → Nat → Int32} (h : ∀ k, 6 ≤ k → f k = g k) : (fun i => if i < 6 then f i else g i) = f := by
  funext i
  by_cases h2 : i < 6
  · rw [if_pos h2]
  · rw [if_neg h2, h i (by omega)]
theorem mix_0 {f g : Nat → Nat → Int32} : (fun i => if i < 0 then f i else g i) = g := by
  funext i; rw [if_neg (by omega)]
theorem c_copy {n : Nat} (hn : 7 ≤ n) (s u : Nat → Int32) {ρ nr : Nat} (hr : ρ < nr) : X9_copyFrom_q2_oq0 n (dOf s) (pOf s) (kOf s) (rOf s) (s 4) (s 0) (s 1) (s 2) (s 6) (s 3) ρ (dOf u) (pOf u) (kOf u) (rOf u) nr = some (dOf s, pOf s, kOf s, rOf s, s 4, s 0, s 1, s 2, s 6, s 3, ρ) := by
  have L1 : X9_copyFrom_q2_oq0_L1 n (dOf s) n (jN 0) (dOf u) = some (jN 6, dOf s) := by
    have := lp_0 (fun k j => X9_copyFrom_q2_oq0_L1 n (dOf s) k (jN j) (fun i => if i < j then dOf s i else dOf u i)) 6 (n := n) (R := some (jN 6, dOf s)) (by omega) (fun k j hj => ?_) (fun k => ?_)
    · rw [← this]; congr 1
    · show X9_copyFrom_q2_oq0_L1 n (dOf s) (k + 1) (jN j) _ = _
      rw [X9_copyFrom_q2_oq0_L1]; simp (disch := omega) only [jl_0, jl_1, jl_2, jl_3, jl_4, jl_5, jl_6, jl_7, jl_8, jl_9, jl_10, jl_11, jl_12, jl_13, jl_14, jl_15, jl_16, jl_17, jl_18, jl_20, jl_23, jl_29, jl_30, jl_31, jl_32, jl_35, jl_40, jl_48, jl_50, jl_51, jl_57, jl_60, jl_61, jl_63, jl_64, jl_65, jl_89, jl_97, jl_99, jl_100, jl_101, jl_113, jl_122, jl_200, jl_240, jl_241, jl_255, jl_259, jl_260, jl_261, jl_262, jl_313, jl_500, jl_999, jl_10000, jl_10004, jl_10005, jl_10006, jl_10007, jl_10008, jl_10009, jl_10010, jl_10011, jl_10012, jl_10013, jl_10014, jl_10015, jl_10017, jl_10018, jl_10023, jl_12345, jl_1103515245, jN_add, jN_mul, jN_sub, jN_addm, jN_div, jN_irm, jN_nat, le_T, le_F, lt_T, lt_F, eq_F, ib_T, ib_F, add_j0, if_true, if_false, eq_self, Bool.false_eq_true, Option.bind_some, pb, jn, Nat.zero_add, Nat.add_zero, Nat.lt_irrefl]
      rw [cpy_eq (dOf_z s j) (dOf_z u j), mix_up]
    · show X9_copyFrom_q2_oq0_L1 n (dOf s) (k + 1) (jN 6) _ = _
      rw [X9_copyFrom_q2_oq0_L1]; simp (disch := omega) only [jl_0, jl_1, jl_2, jl_3, jl_4, jl_5, jl_6, jl_7, jl_8, jl_9, jl_10, jl_11, jl_12, jl_13, jl_14, jl_15, jl_16, jl_17, jl_18, jl_20, jl_23, jl_29, jl_30, jl_31, jl_32, jl_35, jl_40, jl_48, jl_50, jl_51, jl_57, jl_60, jl_61, jl_63, jl_64, jl_65, jl_89, jl_97, jl_99, jl_100, jl_101, jl_113, jl_122, jl_200, jl_240, jl_241, jl_255, jl_259, jl_260, jl_261, jl_262, jl_313, jl_500, jl_999, jl_10000, jl_10004, jl_10005, jl_10006, jl_10007, jl_10008, jl_10009, jl_10010, jl_10011, jl_10012, jl_10013, jl_10014, jl_10015, jl_10017, jl_10018, jl_10023, jl_12345, jl_1103515245, jN_add, jN_mul, jN_sub, jN_addm, jN_div, jN_irm, jN_nat, le_T, le_F, lt_T, lt_F, eq_F, ib_T, ib_F, add_j0, if_true, if_false, eq_self, Bool.false_eq_true, Option.bind_some, pb, jn, Nat.zero_add, Nat.add_zero]
      rw [mix_6 (fun k hk => by rw [dOf_z1 s k hk, dOf_z1 u k hk])]
  have L2 : X9_copyFrom_q2_oq0_L2 n (pOf s) n (jN 0) (pOf u) = some (jN 6, pOf s) := by
    have := lp_0 (fun k j => X9_copyFrom_q2_oq0_L2 n (pOf s) k (jN j) (fun i => if i < j then pOf s i else pOf u i)) 6 (n := n) (R := some (jN 6, pOf s)) (by omega) (fun k j hj => ?_) (fun k => ?_)
    · rw [← this]; congr 1
    · show X9_copyFrom_q2_oq0_L2 n (pOf s) (k + 1) (jN j) _ = _
      rw [X9_copyFrom_q2_oq0_L2]; simp (disch := omega) only [jl_0, jl_1, jl_2, jl_3, jl_4, jl_5, jl_6, jl_7, jl_8, jl_9, jl_10, jl_11, jl_12, jl_13, jl_14, jl_15, jl_16, jl_17, jl_18, jl_20, jl_23, jl_29, jl_30, jl_31, jl_32, jl_35, jl_40, jl_48, jl_50, jl_51, jl_57, jl_60, jl_61, jl_63, jl_64, jl_65, jl_89, jl_97, jl_99, jl_100, jl_101, jl_113, jl_122, jl_200, jl_240, jl_241, jl_255, jl_259, jl_260, jl_261, jl_262, jl_313, jl_500, jl_999, jl_10000, jl_10004, jl_10005, jl_10006, jl_10007, jl_10008, jl_10009, jl_10010, jl_10011, jl_10012, jl_10013, jl_10014, jl_10015, jl_10017, jl_10018, jl_10023, jl_12345, jl_1103515245, jN_add, jN_mul, jN_sub, jN_addm, jN_div, jN_irm, jN_nat, le_T, le_F, lt_T, lt_F, eq_F, ib_T, ib_F, add_j0, if_true, if_false, eq_self, Bool.false_eq_true, Option.bind_some, pb, jn, Nat.zero_add, Nat.add_zero, Nat.lt_irrefl]
      rw [cpy_eq (pOf_z s j) (pOf_z u j), mix_up]
    · show X9_copyFrom_q2_oq0_L2 n (pOf s) (k + 1) (jN 6) _ = _
      rw [X9_copyFrom_q2_oq0_L2]; simp (disch := omega) only [jl_0, jl_1, jl_2, jl_3, jl_4, jl_5, jl_6, jl_7, jl_8, jl_9, jl_10, jl_11, jl_12, jl_13, jl_14, jl_15, jl_16, jl_17, jl_18, jl_20, jl_23, jl_29, jl_30, jl_31, jl_32, jl_35, jl_40, jl_48, jl_50, jl_51, jl_57, jl_60, jl_61, jl_63, jl_64, jl_65, jl_89, jl_97, jl_99, jl_100, jl_101, jl_113, jl_122, jl_200, jl_240, jl_241, jl_255, jl_259, jl_260, jl_261, jl_262, jl_313, jl_500, jl_999, jl_10000, jl_10004, jl_10005, jl_10006, jl_10007, jl_10008, jl_10009, jl_10010, jl_10011, jl_10012, jl_10013, jl_10014, jl_10015, jl_10017, jl_10018, jl_10023, jl_12345, jl_1103515245, jN_add, jN_mul, jN_sub, jN_addm, jN_div, jN_irm, jN_nat, le_T, le_F, lt_T, lt_F, eq_F, ib_T, ib_F, add_j0, if_true, if_false, eq_self, Bool.false_eq_true, Option.bind_some, pb, jn, Nat.zero_add, Nat.add_zero]
      rw [mix_6 (fun k hk => by rw [pOf_z1 s k hk, pOf_z1 u k hk])]
  have L3 : X9_copyFrom_q2_oq0_L3 n (rOf s) n (jN 0) (rOf u) = some (jN 6, rOf s) := by
    have := lp_0 (fun k j => X9_copyFrom_q2_oq0_L3 n (rOf s) k (jN j) (fun i => if i < j then rOf s i else rOf u i)) 6 (n := n) (R := some (jN 6, rOf s)) (by omega) (fun k j hj => ?_) (fun k => ?_)
    · rw [← this]; congr 1
    · show X9_copyFrom_q2_oq0_L3 n (rOf s) (k + 1) (jN j) _ = _
      rw [X9_copyFrom_q2_oq0_L3]; simp (disch := omega) only [jl_0, jl_1, jl_2, jl_3, jl_4, jl_5, jl_6, jl_7, jl_8, jl_9, jl_10, jl_11, jl_12, jl_13, jl_14, jl_15, jl_16, jl_17, jl_18, jl_20, jl_23, jl_29, jl_30, jl_31, jl_32, jl_35, jl_40, jl_48, jl_50, jl_51, jl_57, jl_60, jl_61, jl_63, jl_64, jl_65, jl_89, jl_97, jl_99, jl_100, jl_101, jl_113, jl_122, jl_200, jl_240, jl_241, jl_255, jl_259, jl_260, jl_261, jl_262, jl_313, jl_500, jl_999, jl_10000, jl_10004, jl_10005, jl_10006, jl_10007, jl_10008, jl_10009, jl_10010, jl_10011, jl_10012, jl_10013, jl_10014, jl_10015, jl_10017, jl_10018, jl_10023, jl_12345, jl_1103515245, jN_add, jN_mul, jN_sub, jN_addm, jN_div, jN_irm, jN_nat, le_T, le_F, lt_T, lt_F, eq_F, ib_T, ib_F, add_j0, if_true, if_false, eq_self, Bool.false_eq_true, Option.bind_some, pb, jn, Nat.zero_add, Nat.add_zero, Nat.lt_irrefl]
      rw [cpy_eq (rOf_z s j) (rOf_z u j), mix_up]
    · show X9_copyFrom_q2_oq0_L3 n (rOf s) (k + 1) (jN 6) _ = _
      rw [X9_copyFrom_q2_oq0_L3]; simp (disch := omega) only [jl_0, jl_1, jl_2, jl_3, jl_4, jl_5, jl_6, jl_7, jl_8, jl_9, jl_10, jl_11, jl_12, jl_13, jl_14, jl_15, jl_16, jl_17, jl_18, jl_20, jl_23, jl_29, jl_30, jl_31, jl_32, jl_35, jl_40, jl_48, jl_50, jl_51, jl_57, jl_60, jl_61, jl_63, jl_64, jl_65, jl_89, jl_97, jl_99, jl_100, jl_101, jl_113, jl_122, jl_200, jl_240, jl_241, jl_255, jl_259, jl_260, jl_261, jl_262, jl_313, jl_500, jl_999, jl_10000, jl_10004, jl_10005, jl_10006, jl_10007, jl_10008, jl_10009, jl_10010, jl_10011, jl_10012, jl_10013, jl_10014, jl_10015, jl_10017, jl_10018, jl_10023, jl_12345, jl_1103515245, jN_add, jN_mul, jN_sub, jN_addm, jN_div, jN_irm, jN_nat, le_T, le_F, lt_T, lt_F, eq_F, ib_T, ib_F, add_j0, if_true, if_false, eq_self, Bool.false_eq_true, Option.bind_some, pb, jn, Nat.zero_add, Nat.add_zero]
      rw [mix_6 (fun k hk => by rw [rOf_z1 s k hk, rOf_z1 u k hk])]
  unfold X9_copyFrom_q2_oq0
  rw [show (0 : Int32) = jN 0 from rfl, L1, L2, L3]
  simp only [Option.bind_some, decide_eq_true hr, if_true]
  rw [show (16 : Int32).toNatClampNeg = 16 from rfl, cpy_eq (kOf_z s) (kOf_z u)]
theorem q1_copy1 : @X9_copyFrom_q1_oq0_L1 = @X9_copyFrom_q2_oq0_L1 := by delta X9_copyFrom_q1_oq0_L1 X9_copyFrom_q2_oq0_L1; rfl
theorem q1_copy2 : @X9_copyFrom_q1_oq0_L2 = @X9_copyFrom_q2_oq0_L2 := by delta X9_copyFrom_q1_oq0_L2 X9_copyFrom_q2_oq0_L2; rfl
theorem q1_copy3 : @X9_copyFrom_q1_oq0_L3 = @X9_copyFrom_q2_oq0_L3 := by delta X9_copyFrom_q1_oq0_L3 X9_copyFrom_q2_oq0_L3; rfl
theorem q1_copy : @X9_copyFrom_q1_oq0 = @X9_copyFrom_q2_oq0 := by delta X9_copyFrom_q1_oq0 X9_copyFrom_q2_oq0; rw [q1_copy1, q1_copy2, q1_copy3]
theorem q01_copy1 : @X9_copyFrom_q0_oq1_L1 = @X9_copyFrom_q2_oq0_L1 := by delta X9_copyFrom_q0_oq1_L1 X9_copyFrom_q2_oq0_L1; rfl
theorem q01_copy2 : @X9_copyFrom_q0_oq1_L2 = @X9_copyFrom_q2_oq0_L2 := by delta X9_copyFrom_q0_oq1_L2 X9_copyFrom_q2_oq0_L2; rfl
theorem q01_copy3 : @X9_copyFrom_q0_oq1_L3 = @X9_copyFrom_q2_oq0_L3 := by delta X9_copyFrom_q0_oq1_L3 X9_copyFrom_q2_oq0_L3; rfl
theorem q01_copy : @X9_copyFrom_q0_oq1 = (fun n d0 p0 k0 r0 d1 p1 k1 r1 c1 ch1 e1 sc1 rc1 z1 ρ1 nr => @X9_copyFrom_q2_oq0 n d1 p1 k1 r1 c1 ch1 e1 sc1 rc1 z1 ρ1 d0 p0 k0 r0 nr) := by delta X9_copyFrom_q0_oq1 X9_copyFrom_q2_oq0; rw [q01_copy1, q01_copy2, q01_copy3]
/-! the reference lays its row down and back -/
theorem m_down {n : Nat} (hn : 66 ≤ n) (s l : Nat → Int32) : X12_layDown n s l = some (fun i => if i < 65 then s i else l i) := by
  have L : X12_layDown_L1 n s n (jN 0) l = some (jN 65, fun i => if i < 65 then s i else l i) := by
    have := lp_0 (fun k j => X12_layDown_L1 n s k (jN j) (fun i => if i < j then s i else l i)) 65 (n := n) (R := some (jN 65, fun i => if i < 65 then s i else l i)) (by omega) (fun k j hj => ?_) (fun k => ?_)
    · rw [← this]; congr 1
    · show X12_layDown_L1 n s (k + 1) (jN j) _ = _
      rw [X12_layDown_L1]; simp (disch := omega) only [jl_0, jl_1, jl_2, jl_3, jl_4, jl_5, jl_6, jl_7, jl_8, jl_9, jl_10, jl_11, jl_12, jl_13, jl_14, jl_15, jl_16, jl_17, jl_18, jl_20, jl_23, jl_29, jl_30, jl_31, jl_32, jl_35, jl_40, jl_48, jl_50, jl_51, jl_57, jl_60, jl_61, jl_63, jl_64, jl_65, jl_89, jl_97, jl_99, jl_100, jl_101, jl_113, jl_122, jl_200, jl_240, jl_241, jl_255, jl_259, jl_260, jl_261, jl_262, jl_313, jl_500, jl_999, jl_10000, jl_10004, jl_10005, jl_10006, jl_10007, jl_10008, jl_10009, jl_10010, jl_10011, jl_10012, jl_10013, jl_10014, jl_10015, jl_10017, jl_10018, jl_10023, jl_12345, jl_1103515245, jN_add, jN_mul, jN_sub, jN_addm, jN_div, jN_irm, jN_nat, le_T, le_F, lt_T, lt_F, eq_F, ib_T, ib_F, add_j0, if_true, if_false, eq_self, Bool.false_eq_true, Option.bind_some, pb, jn, Nat.zero_add, Nat.add_zero]
      congr 1; funext i
      by_cases h : i = j
      · subst h; rw [upd_s, if_pos (by omega)]
      · rw [upd_n h]
        by_cases h2 : i < j
        · rw [if_pos h2, if_pos (by omega)]
        · rw [if_neg h2, if_neg (by omega)]
    · show X12_layDown_L1 n s (k + 1) (jN 65) _ = _
      rw [X12_layDown_L1]; simp (disch := omega) only [jl_0, jl_1, jl_2, jl_3, jl_4, jl_5, jl_6, jl_7, jl_8, jl_9, jl_10, jl_11, jl_12, jl_13, jl_14, jl_15, jl_16, jl_17, jl_18, jl_20, jl_23, jl_29, jl_30, jl_31, jl_32, jl_35, jl_40, jl_48, jl_50, jl_51, jl_57, jl_60, jl_61, jl_63, jl_64, jl_65, jl_89, jl_97, jl_99, jl_100, jl_101, jl_113, jl_122, jl_200, jl_240, jl_241, jl_255, jl_259, jl_260, jl_261, jl_262, jl_313, jl_500, jl_999, jl_10000, jl_10004, jl_10005, jl_10006, jl_10007, jl_10008, jl_10009, jl_10010, jl_10011, jl_10012, jl_10013, jl_10014, jl_10015, jl_10017, jl_10018, jl_10023, jl_12345, jl_1103515245, jN_add, jN_mul, jN_sub, jN_addm, jN_div, jN_irm, jN_nat, le_T, le_F, lt_T, lt_F, eq_F, ib_T, ib_F, add_j0, if_true, if_false, eq_self, Bool.false_eq_true, Option.bind_some, pb, jn, Nat.zero_add, Nat.add_zero]
  unfold X12_layDown
  rw [show (0 : Int32) = jN 0 from rfl, L]; rfl
theorem m_back {n : Nat} (hn : 66 ≤ n) (u l : Nat → Int32) : X12_layBack n u l = some (fun i => if i < 65 then l i else u i) := by
  have L : X12_layBack_L1 n l n (jN 0) u = some (jN 65, fun i => if i < 65 then l i else u i) := by
    have := lp_0 (fun k j => X12_layBack_L1 n l k (jN j) (fun i => if i < j then l i else u i)) 65 (n := n) (R := some (jN 65, fun i => if i < 65 then l i else u i)) (by omega) (fun k j hj => ?_) (fun k => ?_)
    · rw [← this]; congr 1
    · show X12_layBack_L1 n l (k + 1) (jN j) _ = _
      rw [X12_layBack_L1]; simp (disch := omega) only [jl_0, jl_1, jl_2, jl_3, jl_4, jl_5, jl_6, jl_7, jl_8, jl_9, jl_10, jl_11, jl_12, jl_13, jl_14, jl_15, jl_16, jl_17, jl_18, jl_20, jl_23, jl_29, jl_30, jl_31, jl_32, jl_35, jl_40, jl_48, jl_50, jl_51, jl_57, jl_60, jl_61, jl_63, jl_64, jl_65, jl_89, jl_97, jl_99, jl_100, jl_101, jl_113, jl_122, jl_200, jl_240, jl_241, jl_255, jl_259, jl_260, jl_261, jl_262, jl_313, jl_500, jl_999, jl_10000, jl_10004, jl_10005, jl_10006, jl_10007, jl_10008, jl_10009, jl_10010, jl_10011, jl_10012, jl_10013, jl_10014, jl_10015, jl_10017, jl_10018, jl_10023, jl_12345, jl_1103515245, jN_add, jN_mul, jN_sub, jN_addm, jN_div, jN_irm, jN_nat, le_T, le_F, lt_T, lt_F, eq_F, ib_T, ib_F, add_j0, if_true, if_false, eq_self, Bool.false_eq_true, Option.bind_some, pb, jn, Nat.zero_add, Nat.add_zero]
      congr 1; funext i
      by_cases h : i = j
      · subst h; rw [upd_s, if_pos (by omega)]
      · rw [upd_n h]
        by_cases h2 : i < j
        · rw [if_pos h2, if_pos (by omega)]
        · rw [if_neg h2, if_neg (by omega)]
    · show X12_layBack_L1 n l (k + 1) (jN 65) _ = _
      rw [X12_layBack_L1]; simp (disch := omega) only [jl_0, jl_1, jl_2, jl_3, jl_4, jl_5, jl_6, jl_7, jl_8, jl_9, jl_10, jl_11, jl_12, jl_13, jl_14, jl_15, jl_16, jl_17, jl_18, jl_20, jl_23, jl_29, jl_30, jl_31, jl_32, jl_35, jl_40, jl_48, jl_50, jl_51, jl_57, jl_60, jl_61, jl_63, jl_64, jl_65, jl_89, jl_97, jl_99, jl_100, jl_101, jl_113, jl_122, jl_200, jl_240, jl_241, jl_255, jl_259, jl_260, jl_261, jl_262, jl_313, jl_500, jl_999, jl_10000, jl_10004, jl_10005, jl_10006, jl_10007, jl_10008, jl_10009, jl_10010, jl_10011, jl_10012, jl_10013, jl_10014, jl_10015, jl_10017, jl_10018, jl_10023, jl_12345, jl_1103515245, jN_add, jN_mul, jN_sub, jN_addm, jN_div, jN_irm, jN_nat, le_T, le_F, lt_T, lt_F, eq_F, ib_T, ib_F, add_j0, if_true, if_false, eq_self, Bool.false_eq_true, Option.bind_some, pb, jn, Nat.zero_add, Nat.add_zero]
  unfold X12_layBack
  rw [show (0 : Int32) = jN 0 from rfl, L]; rfl
/-- what was laid down comes back -/
theorem lay_eq {s u l : Nat → Int32} (hl : ∀ i, i < 65 → l i = s i) (hu : ∀ i, 65 ≤ i → u i = s i) : (fun i => if i < 65 then l i else u i) = s := by
  funext i; split
  · exact hl i (by omega)
  · exact hu i (by omega)
theorem m_laid {n : Nat} (hn : 66 ≤ n) {s u l : Nat → Int32} (hl : ∀ i, i < 65 → l i = s i) (hu : ∀ i, 65 ≤ i → u i = s i) : X12_layBack n u l = some s := by rw [m_back hn, lay_eq hl hu]
section WL
variable {n ρ nr : Nat} {gc : Nat → Int32} {gk gw gs gd : Nat → Nat → Int32} {kl wl sl cl : Nat → Nat} {W : Int32 → (Nat → Int32) → Int32} {s : Nat → Int32}
theorem RM.go (hM : RM n s W) {u : Nat → Int32} (hf : FG u s) (hn : nS s ≤ 6) : RM n u W := hM.cg (fun i hi => hf.R hn i (by omega))
theorem m_restOf (hn : 20 ≤ n) (c : Nat) (hc : c ≤ 16) : ∀ (d m j : Nat) (x : Int32 × (Nat → Int32)) (pile : Nat → Int32), RM n x.2 W → GS x.2 → j + d = c → d < m → ∃ v3 pile', X12_restOf_L1 n (jN c) m x.1 (jN j) x.2 pile = some ((reF W d x).1, v3, (reF W d x).2, pile') := by
  intro d
  induction d with
  | zero =>
    intro m j x pile hM h hj hm; obtain ⟨m, rfl⟩ : ∃ q, m = q + 1 := ⟨m - 1, by omega⟩
    refine ⟨jN j, pile, ?_⟩
    rw [X12_restOf_L1]; simp (disch := omega) only [jl_0, jl_1, jl_2, jl_3, jl_4, jl_5, jl_6, jl_7, jl_8, jl_9, jl_10, jl_11, jl_12, jl_13, jl_14, jl_15, jl_16, jl_17, jl_18, jl_20, jl_23, jl_29, jl_30, jl_31, jl_32, jl_35, jl_40, jl_48, jl_50, jl_51, jl_57, jl_60, jl_61, jl_63, jl_64, jl_65, jl_89, jl_97, jl_99, jl_100, jl_101, jl_113, jl_122, jl_200, jl_240, jl_241, jl_255, jl_259, jl_260, jl_261, jl_262, jl_313, jl_500, jl_999, jl_10000, jl_10004, jl_10005, jl_10006, jl_10007, jl_10008, jl_10009, jl_10010, jl_10011, jl_10012, jl_10013, jl_10014, jl_10015, jl_10017, jl_10018, jl_10023, jl_12345, jl_1103515245, jN_add, jN_mul, jN_sub, jN_addm, jN_div, jN_irm, jN_nat, le_T, le_F, lt_T, lt_F, eq_F, ib_T, ib_F, add_j0, if_true, if_false, eq_self, Bool.false_eq_true, Option.bind_some, pb, jn, Nat.zero_add, Nat.add_zero]; rfl
  | succ d ih =>
    intro m j x pile hM h hj hm; obtain ⟨m, rfl⟩ : ∃ q, m = q + 1 := ⟨m - 1, by omega⟩
    obtain ⟨w, u⟩ := x
    dsimp only at *
    rw [X12_restOf_L1]
    unfold reF; dsimp only
    by_cases hq : goB u = true
    · obtain ⟨p1, e1⟩ := m_goesRest hM h (by omega) pile
      obtain ⟨v3, p2, e2⟩ := ih m (j + 1) (w + (goW W u (raN W u)).1, (goW W u (raN W u)).2) p1 (hM.go (goW_G h raN_b) h.n.1) (goW_g h raN_b (of_decide_eq_true hq)) (by omega) (by omega)
      refine ⟨v3, p2, ?_⟩
      rw [e1, m_oT hq, if_pos hq, ← e2]
      simp (disch := omega) only [jl_0, jl_1, jl_2, jl_3, jl_4, jl_5, jl_6, jl_7, jl_8, jl_9, jl_10, jl_11, jl_12, jl_13, jl_14, jl_15, jl_16, jl_17, jl_18, jl_20, jl_23, jl_29, jl_30, jl_31, jl_32, jl_35, jl_40, jl_48, jl_50, jl_51, jl_57, jl_60, jl_61, jl_63, jl_64, jl_65, jl_89, jl_97, jl_99, jl_100, jl_101, jl_113, jl_122, jl_200, jl_240, jl_241, jl_255, jl_259, jl_260, jl_261, jl_262, jl_313, jl_500, jl_999, jl_10000, jl_10004, jl_10005, jl_10006, jl_10007, jl_10008, jl_10009, jl_10010, jl_10011, jl_10012, jl_10013, jl_10014, jl_10015, jl_10017, jl_10018, jl_10023, jl_12345, jl_1103515245, jN_add, jN_mul, jN_sub, jN_addm, jN_div, jN_irm, jN_nat, le_T, le_F, lt_T, lt_F, eq_F, ib_T, ib_F, add_j0, if_true, if_false, eq_self, Bool.false_eq_true, Option.bind_some, pb, jn, Nat.zero_add, Nat.add_zero]
    · refine ⟨jN j, pile, ?_⟩
      rw [m_oF hq, if_neg hq]
      simp (disch := omega) only [jl_0, jl_1, jl_2, jl_3, jl_4, jl_5, jl_6, jl_7, jl_8, jl_9, jl_10, jl_11, jl_12, jl_13, jl_14, jl_15, jl_16, jl_17, jl_18, jl_20, jl_23, jl_29, jl_30, jl_31, jl_32, jl_35, jl_40, jl_48, jl_50, jl_51, jl_57, jl_60, jl_61, jl_63, jl_64, jl_65, jl_89, jl_97, jl_99, jl_100, jl_101, jl_113, jl_122, jl_200, jl_240, jl_241, jl_255, jl_259, jl_260, jl_261, jl_262, jl_313, jl_500, jl_999, jl_10000, jl_10004, jl_10005, jl_10006, jl_10007, jl_10008, jl_10009, jl_10010, jl_10011, jl_10012, jl_10013, jl_10014, jl_10015, jl_10017, jl_10018, jl_10023, jl_12345, jl_1103515245, jN_add, jN_mul, jN_sub, jN_addm, jN_div, jN_irm, jN_nat, le_T, le_F, lt_T, lt_F, eq_F, ib_T, ib_F, add_j0, if_true, if_false, eq_self, Bool.false_eq_true, Option.bind_some, pb, jn, Nat.zero_add, Nat.add_zero]
theorem c_rest1 (hn : 20 ≤ n) (hC : RC n ρ gc gk gw gs gd kl wl sl cl W) (hr : ρ < nr) (c : Nat) (hc : c ≤ 16) : ∀ (d m j : Nat) (x : Int32 × (Nat → Int32)) (sh fa : Nat → Int32) (st : Nat → Nat → Int32), GS x.2 → j + d = c → d < m → ∃ v3 sh' fa' st', X9_rest_q0_L1 n (pOf x.2) (kOf x.2) (x.2 4) (x.2 1) ρ gc gk gw gs gd kl wl sl cl nr (jN c) m x.1 (jN j) (dOf x.2) (x.2 0) (x.2 2) sh fa st = some ((reF W d x).1, v3, dOf (reF W d x).2, (reF W d x).2 0, (reF W d x).2 2, sh', fa', st') := by
  intro d
  induction d with
  | zero =>
    intro m j x sh fa st h hj hm; obtain ⟨m, rfl⟩ : ∃ q, m = q + 1 := ⟨m - 1, by omega⟩
    refine ⟨jN j, sh, fa, st, ?_⟩
    rw [X9_rest_q0_L1]; simp (disch := omega) only [jl_0, jl_1, jl_2, jl_3, jl_4, jl_5, jl_6, jl_7, jl_8, jl_9, jl_10, jl_11, jl_12, jl_13, jl_14, jl_15, jl_16, jl_17, jl_18, jl_20, jl_23, jl_29, jl_30, jl_31, jl_32, jl_35, jl_40, jl_48, jl_50, jl_51, jl_57, jl_60, jl_61, jl_63, jl_64, jl_65, jl_89, jl_97, jl_99, jl_100, jl_101, jl_113, jl_122, jl_200, jl_240, jl_241, jl_255, jl_259, jl_260, jl_261, jl_262, jl_313, jl_500, jl_999, jl_10000, jl_10004, jl_10005, jl_10006, jl_10007, jl_10008, jl_10009, jl_10010, jl_10011, jl_10012, jl_10013, jl_10014, jl_10015, jl_10017, jl_10018, jl_10023, jl_12345, jl_1103515245, jN_add, jN_mul, jN_sub, jN_addm, jN_div, jN_irm, jN_nat, le_T, le_F, lt_T, lt_F, eq_F, ib_T, ib_F, add_j0, if_true, if_false, eq_self, Bool.false_eq_true, Option.bind_some, pb, jn, Nat.zero_add, Nat.add_zero]; rfl
  | succ d ih =>
    intro m j x sh fa st h hj hm; obtain ⟨m, rfl⟩ : ∃ q, m = q + 1 := ⟨m - 1, by omega⟩
    obtain ⟨w, u⟩ := x
    dsimp only at *
    rw [X9_rest_q0_L1]
    unfold reF; dsimp only
    by_cases hq : goB u = true
    · obtain ⟨f1, s1, e1⟩ := c_restAct hC hr h (by omega) fa st
      obtain ⟨h2, f2, s2, e2⟩ := c_goBy hC hr h (by omega) sh f1 s1 (a := raN W u) raN_b
      obtain ⟨v3, h3, f3, s3, e3⟩ := ih m (j + 1) (w + (goW W u (raN W u)).1, (goW W u (raN W u)).2) h2 f2 s2 (goW_g h raN_b (of_decide_eq_true hq)) (by omega) (by omega)
      refine ⟨v3, h3, f3, s3, ?_⟩
      have hf := goW_G (W := W) h (raN_b (W := W))
      dsimp only at e3
      rw [hf.pOfE h.n.1, hf.kOfE h.n.1, hf.low (by omega) (by omega) (by omega) (by omega) h.n.1, hf.low (i := 1) (by omega) (by omega) (by omega) (by omega) h.n.1] at e3
      rw [e1, c_oT hq, if_pos hq, ← e3]
      simp only [Option.bind_some, if_true]
      rw [e2]
      rw [if_neg (show ¬ jN c ≤ jN j by simp (disch := omega) only [jl_0, jl_1, jl_2, jl_3, jl_4, jl_5, jl_6, jl_7, jl_8, jl_9, jl_10, jl_11, jl_12, jl_13, jl_14, jl_15, jl_16, jl_17, jl_18, jl_20, jl_23, jl_29, jl_30, jl_31, jl_32, jl_35, jl_40, jl_48, jl_50, jl_51, jl_57, jl_60, jl_61, jl_63, jl_64, jl_65, jl_89, jl_97, jl_99, jl_100, jl_101, jl_113, jl_122, jl_200, jl_240, jl_241, jl_255, jl_259, jl_260, jl_261, jl_262, jl_313, jl_500, jl_999, jl_10000, jl_10004, jl_10005, jl_10006, jl_10007, jl_10008, jl_10009, jl_10010, jl_10011, jl_10012, jl_10013, jl_10014, jl_10015, jl_10017, jl_10018, jl_10023, jl_12345, jl_1103515245, jN_add, jN_mul, jN_sub, jN_addm, jN_div, jN_irm, jN_nat, le_T, le_F, lt_T, lt_F, eq_F, ib_T, ib_F, add_j0, if_true, if_false, eq_self, Bool.false_eq_true, Option.bind_some, pb, jn, Nat.zero_add, Nat.add_zero]; exact not_false)]
      simp only [Option.bind_some]
      rw [show jN j + 1 = jN (j + 1) from by simp (disch := omega) only [jl_0, jl_1, jl_2, jl_3, jl_4, jl_5, jl_6, jl_7, jl_8, jl_9, jl_10, jl_11, jl_12, jl_13, jl_14, jl_15, jl_16, jl_17, jl_18, jl_20, jl_23, jl_29, jl_30, jl_31, jl_32, jl_35, jl_40, jl_48, jl_50, jl_51, jl_57, jl_60, jl_61, jl_63, jl_64, jl_65, jl_89, jl_97, jl_99, jl_100, jl_101, jl_113, jl_122, jl_200, jl_240, jl_241, jl_255, jl_259, jl_260, jl_261, jl_262, jl_313, jl_500, jl_999, jl_10000, jl_10004, jl_10005, jl_10006, jl_10007, jl_10008, jl_10009, jl_10010, jl_10011, jl_10012, jl_10013, jl_10014, jl_10015, jl_10017, jl_10018, jl_10023, jl_12345, jl_1103515245, jN_add, jN_mul, jN_sub, jN_addm, jN_div, jN_irm, jN_nat, le_T, le_F, lt_T, lt_F, eq_F, ib_T, ib_F, add_j0, if_true, if_false, eq_self, Bool.false_eq_true, Option.bind_some, pb, jn, Nat.zero_add, Nat.add_zero]]
    · refine ⟨jN j, sh, fa, st, ?_⟩
      rw [c_oF hq, if_neg hq]
      simp (disch := omega) only [jl_0, jl_1, jl_2, jl_3, jl_4, jl_5, jl_6, jl_7, jl_8, jl_9, jl_10, jl_11, jl_12, jl_13, jl_14, jl_15, jl_16, jl_17, jl_18, jl_20, jl_23, jl_29, jl_30, jl_31, jl_32, jl_35, jl_40, jl_48, jl_50, jl_51, jl_57, jl_60, jl_61, jl_63, jl_64, jl_65, jl_89, jl_97, jl_99, jl_100, jl_101, jl_113, jl_122, jl_200, jl_240, jl_241, jl_255, jl_259, jl_260, jl_261, jl_262, jl_313, jl_500, jl_999, jl_10000, jl_10004, jl_10005, jl_10006, jl_10007, jl_10008, jl_10009, jl_10010, jl_10011, jl_10012, jl_10013, jl_10014, jl_10015, jl_10017, jl_10018, jl_10023, jl_12345, jl_1103515245, jN_add, jN_mul, jN_sub, jN_addm, jN_div, jN_irm, jN_nat, le_T, le_F, lt_T, lt_F, eq_F, ib_T, ib_F, add_j0, if_true, if_false, eq_self, Bool.false_eq_true, Option.bind_some, pb, jn, Nat.zero_add, Nat.add_zero]
theorem c_rest (hn : 20 ≤ n) (hC : RC n ρ gc gk gw gs gd kl wl sl cl W) (hr : ρ < nr) (h : GS s) (c : Nat) (hc : c ≤ 16) (sh fa : Nat → Int32) (st : Nat → Nat → Int32) : ∃ sh' fa' st', X9_rest_q0 n (dOf s) (pOf s) (kOf s) (s 4) (s 0) (s 1) (s 2) ρ sh fa gc gk gw gs gd st kl wl sl cl nr (jN c) = some ((reF W c (0, s)).1, dOf (reF W c (0, s)).2, (reF W c (0, s)).2 0, (reF W c (0, s)).2 2, sh', fa', st') := by
  obtain ⟨v3, a, b, d, e⟩ := c_rest1 hn hC hr c hc c n 0 (0, s) sh fa st h (by omega) (by omega)
  refine ⟨a, b, d, ?_⟩
  unfold X9_rest_q0
  rw [show X9_rest_q0_L1 n (pOf s) (kOf s) (s 4) (s 1) ρ gc gk gw gs gd kl wl sl cl nr (jN c) n (0 : Int32) (0 : Int32) (dOf s) (s 0) (s 2) sh fa st = _ from e]
  rfl
theorem m_rest (hn : 20 ≤ n) (hM : RM n s W) (h : GS s) (c : Nat) (hc : c ≤ 16) (pile : Nat → Int32) : ∃ pile', X12_restOf n s pile (jN c) = some ((reF W c (0, s)).1, (reF W c (0, s)).2, pile') := by
  obtain ⟨v3, p, e⟩ := m_restOf hn c hc c n 0 (0, s) pile hM h (by omega) (by omega)
  refine ⟨p, ?_⟩
  unfold X12_restOf
  rw [show X12_restOf_L1 n (jN c) n (0 : Int32) (0 : Int32) s pile = _ from e]
  rfl
/-! by lot -/
theorem cnt_ne (h : GS s) : (!(decide ((s 4 + (1 : Int32)) = 0))) = true := by
  rw [h.n.2, show jN (nS s) + 1 = jN (nS s + 1) from by simp (disch := omega) only [jl_0, jl_1, jl_2, jl_3, jl_4, jl_5, jl_6, jl_7, jl_8, jl_9, jl_10, jl_11, jl_12, jl_13, jl_14, jl_15, jl_16, jl_17, jl_18, jl_20, jl_23, jl_29, jl_30, jl_31, jl_32, jl_35, jl_40, jl_48, jl_50, jl_51, jl_57, jl_60, jl_61, jl_63, jl_64, jl_65, jl_89, jl_97, jl_99, jl_100, jl_101, jl_113, jl_122, jl_200, jl_240, jl_241, jl_255, jl_259, jl_260, jl_261, jl_262, jl_313, jl_500, jl_999, jl_10000, jl_10004, jl_10005, jl_10006, jl_10007, jl_10008, jl_10009, jl_10010, jl_10011, jl_10012, jl_10013, jl_10014, jl_10015, jl_10017, jl_10018, jl_10023, jl_12345, jl_1103515245, jN_add, jN_mul, jN_sub, jN_addm, jN_div, jN_irm, jN_nat, le_T, le_F, lt_T, lt_F, eq_F, ib_T, ib_F, add_j0, if_true, if_false, eq_self, Bool.false_eq_true, Option.bind_some, pb, jn, Nat.zero_add, Nat.add_zero]]
  have := h.n.1
  have e : (jN (nS s + 1) = 0) = False := eq_F (b := 0) (by omega) (by omega) (by omega)
  simp [e]
theorem m_byLot (hn : 20 ≤ n) (hM : RM n s W) (h : GS s) (pile : Nat → Int32) : ∃ pile', X12_byLot n s pile = some ((loG W s).1, (loG W s).2, pile') := by
  obtain ⟨h1, h2⟩ := up3_i h (zN s)
  have hb : ltA s ≤ nS (upd s 3 (zN s)) := by rw [h2.nn h.n.1]; exact (ltA_b h).1
  obtain ⟨p, e⟩ := m_goesBy (hM.go h2 h.n.1) h1 (by omega) pile hb
  refine ⟨p, ?_⟩
  unfold X12_byLot loG
  rw [show (s 3 * (1103515245 : Int32)) + (12345 : Int32) = zN s from rfl, upd_s, upd_n (show 4 ≠ 3 by omega), cnt_ne h, (ltA_b h).2, e]
  rfl
theorem c_byLot1 (hn : 20 ≤ n) (hC : RC n ρ gc gk gw gs gd kl wl sl cl W) (hr : ρ < nr) (c : Nat) (hc : c ≤ 16) : ∀ (d m j : Nat) (x : Int32 × (Nat → Int32)) (sh fa : Nat → Int32) (st : Nat → Nat → Int32), GS x.2 → j + d = c → d < m → ∃ v3 sh' fa' st', X9_byLot_q0_L1 n (pOf x.2) (kOf x.2) (x.2 4) (x.2 1) ρ gc gk gw gs gd kl wl sl cl nr (jN c) m x.1 (jN j) (dOf x.2) (x.2 0) (x.2 2) (x.2 3) sh fa st = some ((loF W d x).1, v3, dOf (loF W d x).2, (loF W d x).2 0, (loF W d x).2 2, (loF W d x).2 3, sh', fa', st') := by
  intro d
  induction d with
  | zero =>
    intro m j x sh fa st h hj hm; obtain ⟨m, rfl⟩ : ∃ q, m = q + 1 := ⟨m - 1, by omega⟩
    refine ⟨jN j, sh, fa, st, ?_⟩
    rw [X9_byLot_q0_L1]; simp (disch := omega) only [jl_0, jl_1, jl_2, jl_3, jl_4, jl_5, jl_6, jl_7, jl_8, jl_9, jl_10, jl_11, jl_12, jl_13, jl_14, jl_15, jl_16, jl_17, jl_18, jl_20, jl_23, jl_29, jl_30, jl_31, jl_32, jl_35, jl_40, jl_48, jl_50, jl_51, jl_57, jl_60, jl_61, jl_63, jl_64, jl_65, jl_89, jl_97, jl_99, jl_100, jl_101, jl_113, jl_122, jl_200, jl_240, jl_241, jl_255, jl_259, jl_260, jl_261, jl_262, jl_313, jl_500, jl_999, jl_10000, jl_10004, jl_10005, jl_10006, jl_10007, jl_10008, jl_10009, jl_10010, jl_10011, jl_10012, jl_10013, jl_10014, jl_10015, jl_10017, jl_10018, jl_10023, jl_12345, jl_1103515245, jN_add, jN_mul, jN_sub, jN_addm, jN_div, jN_irm, jN_nat, le_T, le_F, lt_T, lt_F, eq_F, ib_T, ib_F, add_j0, if_true, if_false, eq_self, Bool.false_eq_true, Option.bind_some, pb, jn, Nat.zero_add, Nat.add_zero]; rfl
  | succ d ih =>
    intro m j x sh fa st h hj hm; obtain ⟨m, rfl⟩ : ∃ q, m = q + 1 := ⟨m - 1, by omega⟩
    obtain ⟨w, u⟩ := x
    dsimp only at *
    rw [X9_byLot_q0_L1]
    unfold loF; dsimp only
    by_cases hq : goB u = true
    · obtain ⟨h1, h2⟩ := up3_i h (zN u)
      have hb : ltA u ≤ nS (upd u 3 (zN u)) := by rw [h2.nn h.n.1]; exact (ltA_b h).1
      obtain ⟨hg, hf⟩ := loG_i (W := W) h (of_decide_eq_true hq)
      obtain ⟨a2, f2, s2, e2⟩ := c_goBy hC hr h1 (by omega) sh fa st (a := ltA u) hb
      rw [dOf_D (by omega), pOf_D (by omega), kOf_D (by omega), upd_n (by omega), upd_n (by omega), upd_n (by omega)] at e2
      obtain ⟨v3, h3, f3, s3, e3⟩ := ih m (j + 1) (w + (loG W u).1, (loG W u).2) a2 f2 s2 hg (by omega) (by omega)
      refine ⟨v3, h3, f3, s3, ?_⟩
      dsimp only at e3
      have hz : (loG W u).2 3 = zN u := by unfold loG; rw [goW_3 h1 hb, upd_s]
      rw [hf.pOfE h.n.1, hf.kOfE h.n.1, hf.low (by omega) (by omega) (by omega) (by omega) h.n.1, hf.low (i := 1) (by omega) (by omega) (by omega) (by omega) h.n.1, hz] at e3
      rw [c_oT hq, if_pos hq, ← e3, cnt_ne h, show (u 3 * (1103515245 : Int32)) + (12345 : Int32) = zN u from rfl, (ltA_b h).2, e2]
      rw [if_neg (show ¬ jN c ≤ jN j by simp (disch := omega) only [jl_0, jl_1, jl_2, jl_3, jl_4, jl_5, jl_6, jl_7, jl_8, jl_9, jl_10, jl_11, jl_12, jl_13, jl_14, jl_15, jl_16, jl_17, jl_18, jl_20, jl_23, jl_29, jl_30, jl_31, jl_32, jl_35, jl_40, jl_48, jl_50, jl_51, jl_57, jl_60, jl_61, jl_63, jl_64, jl_65, jl_89, jl_97, jl_99, jl_100, jl_101, jl_113, jl_122, jl_200, jl_240, jl_241, jl_255, jl_259, jl_260, jl_261, jl_262, jl_313, jl_500, jl_999, jl_10000, jl_10004, jl_10005, jl_10006, jl_10007, jl_10008, jl_10009, jl_10010, jl_10011, jl_10012, jl_10013, jl_10014, jl_10015, jl_10017, jl_10018, jl_10023, jl_12345, jl_1103515245, jN_add, jN_mul, jN_sub, jN_addm, jN_div, jN_irm, jN_nat, le_T, le_F, lt_T, lt_F, eq_F, ib_T, ib_F, add_j0, if_true, if_false, eq_self, Bool.false_eq_true, Option.bind_some, pb, jn, Nat.zero_add, Nat.add_zero]; exact not_false)]
      simp only [Option.bind_some, if_true]
      rw [show jN j + 1 = jN (j + 1) from by simp (disch := omega) only [jl_0, jl_1, jl_2, jl_3, jl_4, jl_5, jl_6, jl_7, jl_8, jl_9, jl_10, jl_11, jl_12, jl_13, jl_14, jl_15, jl_16, jl_17, jl_18, jl_20, jl_23, jl_29, jl_30, jl_31, jl_32, jl_35, jl_40, jl_48, jl_50, jl_51, jl_57, jl_60, jl_61, jl_63, jl_64, jl_65, jl_89, jl_97, jl_99, jl_100, jl_101, jl_113, jl_122, jl_200, jl_240, jl_241, jl_255, jl_259, jl_260, jl_261, jl_262, jl_313, jl_500, jl_999, jl_10000, jl_10004, jl_10005, jl_10006, jl_10007, jl_10008, jl_10009, jl_10010, jl_10011, jl_10012, jl_10013, jl_10014, jl_10015, jl_10017, jl_10018, jl_10023, jl_12345, jl_1103515245, jN_add, jN_mul, jN_sub, jN_addm, jN_div, jN_irm, jN_nat, le_T, le_F, lt_T, lt_F, eq_F, ib_T, ib_F, add_j0, if_true, if_false, eq_self, Bool.false_eq_true, Option.bind_some, pb, jn, Nat.zero_add, Nat.add_zero]]
      rfl
    · refine ⟨jN j, sh, fa, st, ?_⟩
      rw [c_oF hq, if_neg hq]
      simp (disch := omega) only [jl_0, jl_1, jl_2, jl_3, jl_4, jl_5, jl_6, jl_7, jl_8, jl_9, jl_10, jl_11, jl_12, jl_13, jl_14, jl_15, jl_16, jl_17, jl_18, jl_20, jl_23, jl_29, jl_30, jl_31, jl_32, jl_35, jl_40, jl_48, jl_50, jl_51, jl_57, jl_60, jl_61, jl_63, jl_64, jl_65, jl_89, jl_97, jl_99, jl_100, jl_101, jl_113, jl_122, jl_200, jl_240, jl_241, jl_255, jl_259, jl_260, jl_261, jl_262, jl_313, jl_500, jl_999, jl_10000, jl_10004, jl_10005, jl_10006, jl_10007, jl_10008, jl_10009, jl_10010, jl_10011, jl_10012, jl_10013, jl_10014, jl_10015, jl_10017, jl_10018, jl_10023, jl_12345, jl_1103515245, jN_add, jN_mul, jN_sub, jN_addm, jN_div, jN_irm, jN_nat, le_T, le_F, lt_T, lt_F, eq_F, ib_T, ib_F, add_j0, if_true, if_false, eq_self, Bool.false_eq_true, Option.bind_some, pb, jn, Nat.zero_add, Nat.add_zero]
theorem c_byLot (hn : 20 ≤ n) (hC : RC n ρ gc gk gw gs gd kl wl sl cl W) (hr : ρ < nr) (h : GS s) (c : Nat) (hc : c ≤ 16) (sh fa : Nat → Int32) (st : Nat → Nat → Int32) : ∃ sh' fa' st', X9_byLot_q0 n (dOf s) (pOf s) (kOf s) (s 4) (s 0) (s 1) (s 2) (s 3) ρ sh fa gc gk gw gs gd st kl wl sl cl nr (jN c) = some ((loF W c (0, s)).1, dOf (loF W c (0, s)).2, (loF W c (0, s)).2 0, (loF W c (0, s)).2 2, (loF W c (0, s)).2 3, sh', fa', st') := by
  obtain ⟨v3, a, b, d, e⟩ := c_byLot1 hn hC hr c hc c n 0 (0, s) sh fa st h (by omega) (by omega)
  refine ⟨a, b, d, ?_⟩
  unfold X9_byLot_q0
  rw [show X9_byLot_q0_L1 n (pOf s) (kOf s) (s 4) (s 1) ρ gc gk gw gs gd kl wl sl cl nr (jN c) n (0 : Int32) (0 : Int32) (dOf s) (s 0) (s 2) (s 3) sh fa st = _ from e]
  rfl
end WL
