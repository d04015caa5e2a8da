/-! slips, pays, pairs, the set of those right -/
def slB (s : Nat → Int32) (k : Nat) : Int32 := X12_slipsBy (s (iD k 0)) (shA s (s (iD k 3)).toNatClampNeg) (irm (skN s) (jN 4))
theorem shB_b {s : Nat → Int32} (h : GS s) {k : Nat} (hk : k < 6) : NB 11 (shB s k) := by
  unfold shB X12_shadesBy
  obtain ⟨a, ha, h0⟩ := h.kind hk
  obtain ⟨b, hb, h1⟩ := skN_b h
  obtain ⟨c, hc, h2⟩ := h.chime
  rw [h0, h1, h2]
  simp (disch := omega) only [jl_0, jl_1, jl_2, jl_3, jl_4, jl_5, jl_6, jl_7, jl_8, jl_9, jl_10, jl_11, jl_12, jl_13, jl_14, jl_15, jl_16, jl_17, jl_18, jl_20, jl_23, jl_29, jl_30, jl_31, jl_32, jl_35, jl_40, jl_48, jl_50, jl_51, jl_57, jl_60, jl_61, jl_63, jl_64, jl_65, jl_89, jl_97, jl_99, jl_100, jl_101, jl_113, jl_122, jl_200, jl_240, jl_241, jl_255, jl_259, jl_260, jl_261, jl_262, jl_313, jl_500, jl_999, jl_10000, jl_10004, jl_10005, jl_10006, jl_10007, jl_10008, jl_10009, jl_10010, jl_10011, jl_10012, jl_10013, jl_10014, jl_10015, jl_10017, jl_10018, jl_10023, jl_12345, jl_1103515245, jN_add, jN_mul, jN_sub, jN_addm, jN_div, jN_irm, jN_nat, le_T, le_F, lt_T, lt_F, eq_F, ib_T, ib_F, add_j0, if_true, if_false, eq_self, Bool.false_eq_true, Option.bind_some, pb, jn, Nat.zero_add, Nat.add_zero]
  (have : a = 0 ∨ a = 1 ∨ a = 2 ∨ a = 3 ∨ a = 4 ∨ a = 5 := by omega)
  rcases this with rfl | rfl | rfl | rfl | rfl | rfl
  · simp (disch := omega) only [jl_0, jl_1, jl_2, jl_3, jl_4, jl_5, jl_6, jl_7, jl_8, jl_9, jl_10, jl_11, jl_12, jl_13, jl_14, jl_15, jl_16, jl_17, jl_18, jl_20, jl_23, jl_29, jl_30, jl_31, jl_32, jl_35, jl_40, jl_48, jl_50, jl_51, jl_57, jl_60, jl_61, jl_63, jl_64, jl_65, jl_89, jl_97, jl_99, jl_100, jl_101, jl_113, jl_122, jl_200, jl_240, jl_241, jl_255, jl_259, jl_260, jl_261, jl_262, jl_313, jl_500, jl_999, jl_10000, jl_10004, jl_10005, jl_10006, jl_10007, jl_10008, jl_10009, jl_10010, jl_10011, jl_10012, jl_10013, jl_10014, jl_10015, jl_10017, jl_10018, jl_10023, jl_12345, jl_1103515245, jN_add, jN_mul, jN_sub, jN_addm, jN_div, jN_irm, jN_nat, le_T, le_F, lt_T, lt_F, eq_F, ib_T, ib_F, add_j0, if_true, if_false, eq_self, Bool.false_eq_true, Option.bind_some, pb, jn, Nat.zero_add, Nat.add_zero]; exact ⟨_, by omega, rfl⟩
  · simp (disch := omega) only [jl_0, jl_1, jl_2, jl_3, jl_4, jl_5, jl_6, jl_7, jl_8, jl_9, jl_10, jl_11, jl_12, jl_13, jl_14, jl_15, jl_16, jl_17, jl_18, jl_20, jl_23, jl_29, jl_30, jl_31, jl_32, jl_35, jl_40, jl_48, jl_50, jl_51, jl_57, jl_60, jl_61, jl_63, jl_64, jl_65, jl_89, jl_97, jl_99, jl_100, jl_101, jl_113, jl_122, jl_200, jl_240, jl_241, jl_255, jl_259, jl_260, jl_261, jl_262, jl_313, jl_500, jl_999, jl_10000, jl_10004, jl_10005, jl_10006, jl_10007, jl_10008, jl_10009, jl_10010, jl_10011, jl_10012, jl_10013, jl_10014, jl_10015, jl_10017, jl_10018, jl_10023, jl_12345, jl_1103515245, jN_add, jN_mul, jN_sub, jN_addm, jN_div, jN_irm, jN_nat, le_T, le_F, lt_T, lt_F, eq_F, ib_T, ib_F, add_j0, if_true, if_false, eq_self, Bool.false_eq_true, Option.bind_some, pb, jn, Nat.zero_add, Nat.add_zero]; exact ⟨_, by omega, rfl⟩
  · simp (disch := omega) only [jl_0, jl_1, jl_2, jl_3, jl_4, jl_5, jl_6, jl_7, jl_8, jl_9, jl_10, jl_11, jl_12, jl_13, jl_14, jl_15, jl_16, jl_17, jl_18, jl_20, jl_23, jl_29, jl_30, jl_31, jl_32, jl_35, jl_40, jl_48, jl_50, jl_51, jl_57, jl_60, jl_61, jl_63, jl_64, jl_65, jl_89, jl_97, jl_99, jl_100, jl_101, jl_113, jl_122, jl_200, jl_240, jl_241, jl_255, jl_259, jl_260, jl_261, jl_262, jl_313, jl_500, jl_999, jl_10000, jl_10004, jl_10005, jl_10006, jl_10007, jl_10008, jl_10009, jl_10010, jl_10011, jl_10012, jl_10013, jl_10014, jl_10015, jl_10017, jl_10018, jl_10023, jl_12345, jl_1103515245, jN_add, jN_mul, jN_sub, jN_addm, jN_div, jN_irm, jN_nat, le_T, le_F, lt_T, lt_F, eq_F, ib_T, ib_F, add_j0, if_true, if_false, eq_self, Bool.false_eq_true, Option.bind_some, pb, jn, Nat.zero_add, Nat.add_zero]; exact ⟨_, by omega, rfl⟩
  · simp (disch := omega) only [jl_0, jl_1, jl_2, jl_3, jl_4, jl_5, jl_6, jl_7, jl_8, jl_9, jl_10, jl_11, jl_12, jl_13, jl_14, jl_15, jl_16, jl_17, jl_18, jl_20, jl_23, jl_29, jl_30, jl_31, jl_32, jl_35, jl_40, jl_48, jl_50, jl_51, jl_57, jl_60, jl_61, jl_63, jl_64, jl_65, jl_89, jl_97, jl_99, jl_100, jl_101, jl_113, jl_122, jl_200, jl_240, jl_241, jl_255, jl_259, jl_260, jl_261, jl_262, jl_313, jl_500, jl_999, jl_10000, jl_10004, jl_10005, jl_10006, jl_10007, jl_10008, jl_10009, jl_10010, jl_10011, jl_10012, jl_10013, jl_10014, jl_10015, jl_10017, jl_10018, jl_10023, jl_12345, jl_1103515245, jN_add, jN_mul, jN_sub, jN_addm, jN_div, jN_irm, jN_nat, le_T, le_F, lt_T, lt_F, eq_F, ib_T, ib_F, add_j0, if_true, if_false, eq_self, Bool.false_eq_true, Option.bind_some, pb, jn, Nat.zero_add, Nat.add_zero]; exact ⟨_, by omega, rfl⟩
  · simp (disch := omega) only [jl_0, jl_1, jl_2, jl_3, jl_4, jl_5, jl_6, jl_7, jl_8, jl_9, jl_10, jl_11, jl_12, jl_13, jl_14, jl_15, jl_16, jl_17, jl_18, jl_20, jl_23, jl_29, jl_30, jl_31, jl_32, jl_35, jl_40, jl_48, jl_50, jl_51, jl_57, jl_60, jl_61, jl_63, jl_64, jl_65, jl_89, jl_97, jl_99, jl_100, jl_101, jl_113, jl_122, jl_200, jl_240, jl_241, jl_255, jl_259, jl_260, jl_261, jl_262, jl_313, jl_500, jl_999, jl_10000, jl_10004, jl_10005, jl_10006, jl_10007, jl_10008, jl_10009, jl_10010, jl_10011, jl_10012, jl_10013, jl_10014, jl_10015, jl_10017, jl_10018, jl_10023, jl_12345, jl_1103515245, jN_add, jN_mul, jN_sub, jN_addm, jN_div, jN_irm, jN_nat, le_T, le_F, lt_T, lt_F, eq_F, ib_T, ib_F, add_j0, if_true, if_false, eq_self, Bool.false_eq_true, Option.bind_some, pb, jn, Nat.zero_add, Nat.add_zero]; exact ⟨_, by omega, rfl⟩
  · simp (disch := omega) only [jl_0, jl_1, jl_2, jl_3, jl_4, jl_5, jl_6, jl_7, jl_8, jl_9, jl_10, jl_11, jl_12, jl_13, jl_14, jl_15, jl_16, jl_17, jl_18, jl_20, jl_23, jl_29, jl_30, jl_31, jl_32, jl_35, jl_40, jl_48, jl_50, jl_51, jl_57, jl_60, jl_61, jl_63, jl_64, jl_65, jl_89, jl_97, jl_99, jl_100, jl_101, jl_113, jl_122, jl_200, jl_240, jl_241, jl_255, jl_259, jl_260, jl_261, jl_262, jl_313, jl_500, jl_999, jl_10000, jl_10004, jl_10005, jl_10006, jl_10007, jl_10008, jl_10009, jl_10010, jl_10011, jl_10012, jl_10013, jl_10014, jl_10015, jl_10017, jl_10018, jl_10023, jl_12345, jl_1103515245, jN_add, jN_mul, jN_sub, jN_addm, jN_div, jN_irm, jN_nat, le_T, le_F, lt_T, lt_F, eq_F, ib_T, ib_F, add_j0, if_true, if_false, eq_self, Bool.false_eq_true, Option.bind_some, pb, jn, Nat.zero_add, Nat.add_zero]; split
    · exact ⟨_, by omega, rfl⟩
    · exact ⟨_, by omega, rfl⟩
theorem shS_b {s : Nat → Int32} (h : GS s) {f : Nat} (hf : f < 6) : ∀ k, k ≤ 6 → NB (9 + 11 * k) (shS s f k) := by
  intro k
  induction k with
  | zero => intro _; exact (h.wall (i := f) (by omega)).mono (by omega)
  | succ k ih =>
    intro hk
    obtain ⟨a, ha, h0⟩ := ih (by omega)
    obtain ⟨b, hb, h1⟩ := shB_b h (k := k) (by omega)
    show NB _ (shS s f k + _)
    rw [h0]; split
    · rw [h1, jN_add]; exact ⟨_, by omega, rfl⟩
    · rw [show jN a + 0 = jN a from Int32.add_zero _]; exact ⟨a, by omega, rfl⟩
theorem shA_b {s : Nat → Int32} (h : GS s) {f : Nat} (hf : f < 6) : NB 75 (shA s f) := (shS_b h hf (nS s) h.n.1).mono (by have := h.n.1; omega)
theorem slipsBy_b {a b c : Nat} (ha : a ≤ 5) (hb : b ≤ 400) (hc : c ≤ 3) : NB 1000 (X12_slipsBy (jN a) (jN b) (jN c)) := by
  unfold X12_slipsBy
  (have : a = 0 ∨ a = 1 ∨ a = 2 ∨ a = 3 ∨ a = 4 ∨ a = 5 := by omega)
  by_cases h1 : b + 1 ≤ c
  · rcases this with rfl | rfl | rfl | rfl | rfl | rfl <;> simp (disch := omega) only [jl_0, jl_1, jl_2, jl_3, jl_4, jl_5, jl_6, jl_7, jl_8, jl_9, jl_10, jl_11, jl_12, jl_13, jl_14, jl_15, jl_16, jl_17, jl_18, jl_20, jl_23, jl_29, jl_30, jl_31, jl_32, jl_35, jl_40, jl_48, jl_50, jl_51, jl_57, jl_60, jl_61, jl_63, jl_64, jl_65, jl_89, jl_97, jl_99, jl_100, jl_101, jl_113, jl_122, jl_200, jl_240, jl_241, jl_255, jl_259, jl_260, jl_261, jl_262, jl_313, jl_500, jl_999, jl_10000, jl_10004, jl_10005, jl_10006, jl_10007, jl_10008, jl_10009, jl_10010, jl_10011, jl_10012, jl_10013, jl_10014, jl_10015, jl_10017, jl_10018, jl_10023, jl_12345, jl_1103515245, jN_add, jN_mul, jN_sub, jN_addm, jN_div, jN_irm, jN_nat, le_T, le_F, lt_T, lt_F, eq_F, ib_T, ib_F, add_j0, if_true, if_false, eq_self, Bool.false_eq_true, Option.bind_some, pb, jn, Nat.zero_add, Nat.add_zero] <;> (try split) <;> exact ⟨_, by omega, rfl⟩
  · rcases this with rfl | rfl | rfl | rfl | rfl | rfl
    · simp (disch := omega) only [jl_0, jl_1, jl_2, jl_3, jl_4, jl_5, jl_6, jl_7, jl_8, jl_9, jl_10, jl_11, jl_12, jl_13, jl_14, jl_15, jl_16, jl_17, jl_18, jl_20, jl_23, jl_29, jl_30, jl_31, jl_32, jl_35, jl_40, jl_48, jl_50, jl_51, jl_57, jl_60, jl_61, jl_63, jl_64, jl_65, jl_89, jl_97, jl_99, jl_100, jl_101, jl_113, jl_122, jl_200, jl_240, jl_241, jl_255, jl_259, jl_260, jl_261, jl_262, jl_313, jl_500, jl_999, jl_10000, jl_10004, jl_10005, jl_10006, jl_10007, jl_10008, jl_10009, jl_10010, jl_10011, jl_10012, jl_10013, jl_10014, jl_10015, jl_10017, jl_10018, jl_10023, jl_12345, jl_1103515245, jN_add, jN_mul, jN_sub, jN_addm, jN_div, jN_irm, jN_nat, le_T, le_F, lt_T, lt_F, eq_F, ib_T, ib_F, add_j0, if_true, if_false, eq_self, Bool.false_eq_true, Option.bind_some, pb, jn, Nat.zero_add, Nat.add_zero]; exact ⟨_, by omega, rfl⟩
    · simp (disch := omega) only [jl_0, jl_1, jl_2, jl_3, jl_4, jl_5, jl_6, jl_7, jl_8, jl_9, jl_10, jl_11, jl_12, jl_13, jl_14, jl_15, jl_16, jl_17, jl_18, jl_20, jl_23, jl_29, jl_30, jl_31, jl_32, jl_35, jl_40, jl_48, jl_50, jl_51, jl_57, jl_60, jl_61, jl_63, jl_64, jl_65, jl_89, jl_97, jl_99, jl_100, jl_101, jl_113, jl_122, jl_200, jl_240, jl_241, jl_255, jl_259, jl_260, jl_261, jl_262, jl_313, jl_500, jl_999, jl_10000, jl_10004, jl_10005, jl_10006, jl_10007, jl_10008, jl_10009, jl_10010, jl_10011, jl_10012, jl_10013, jl_10014, jl_10015, jl_10017, jl_10018, jl_10023, jl_12345, jl_1103515245, jN_add, jN_mul, jN_sub, jN_addm, jN_div, jN_irm, jN_nat, le_T, le_F, lt_T, lt_F, eq_F, ib_T, ib_F, add_j0, if_true, if_false, eq_self, Bool.false_eq_true, Option.bind_some, pb, jn, Nat.zero_add, Nat.add_zero]; exact ⟨_, by omega, rfl⟩
    · simp (disch := omega) only [jl_0, jl_1, jl_2, jl_3, jl_4, jl_5, jl_6, jl_7, jl_8, jl_9, jl_10, jl_11, jl_12, jl_13, jl_14, jl_15, jl_16, jl_17, jl_18, jl_20, jl_23, jl_29, jl_30, jl_31, jl_32, jl_35, jl_40, jl_48, jl_50, jl_51, jl_57, jl_60, jl_61, jl_63, jl_64, jl_65, jl_89, jl_97, jl_99, jl_100, jl_101, jl_113, jl_122, jl_200, jl_240, jl_241, jl_255, jl_259, jl_260, jl_261, jl_262, jl_313, jl_500, jl_999, jl_10000, jl_10004, jl_10005, jl_10006, jl_10007, jl_10008, jl_10009, jl_10010, jl_10011, jl_10012, jl_10013, jl_10014, jl_10015, jl_10017, jl_10018, jl_10023, jl_12345, jl_1103515245, jN_add, jN_mul, jN_sub, jN_addm, jN_div, jN_irm, jN_nat, le_T, le_F, lt_T, lt_F, eq_F, ib_T, ib_F, add_j0, if_true, if_false, eq_self, Bool.false_eq_true, Option.bind_some, pb, jn, Nat.zero_add, Nat.add_zero]; exact ⟨_, by omega, rfl⟩
    · by_cases h2 : (b + 1 - c) / 2 ≤ 0
      · simp (disch := omega) only [jl_0, jl_1, jl_2, jl_3, jl_4, jl_5, jl_6, jl_7, jl_8, jl_9, jl_10, jl_11, jl_12, jl_13, jl_14, jl_15, jl_16, jl_17, jl_18, jl_20, jl_23, jl_29, jl_30, jl_31, jl_32, jl_35, jl_40, jl_48, jl_50, jl_51, jl_57, jl_60, jl_61, jl_63, jl_64, jl_65, jl_89, jl_97, jl_99, jl_100, jl_101, jl_113, jl_122, jl_200, jl_240, jl_241, jl_255, jl_259, jl_260, jl_261, jl_262, jl_313, jl_500, jl_999, jl_10000, jl_10004, jl_10005, jl_10006, jl_10007, jl_10008, jl_10009, jl_10010, jl_10011, jl_10012, jl_10013, jl_10014, jl_10015, jl_10017, jl_10018, jl_10023, jl_12345, jl_1103515245, jN_add, jN_mul, jN_sub, jN_addm, jN_div, jN_irm, jN_nat, le_T, le_F, lt_T, lt_F, eq_F, ib_T, ib_F, add_j0, if_true, if_false, eq_self, Bool.false_eq_true, Option.bind_some, pb, jn, Nat.zero_add, Nat.add_zero]; exact ⟨_, by omega, rfl⟩
      · simp (disch := omega) only [jl_0, jl_1, jl_2, jl_3, jl_4, jl_5, jl_6, jl_7, jl_8, jl_9, jl_10, jl_11, jl_12, jl_13, jl_14, jl_15, jl_16, jl_17, jl_18, jl_20, jl_23, jl_29, jl_30, jl_31, jl_32, jl_35, jl_40, jl_48, jl_50, jl_51, jl_57, jl_60, jl_61, jl_63, jl_64, jl_65, jl_89, jl_97, jl_99, jl_100, jl_101, jl_113, jl_122, jl_200, jl_240, jl_241, jl_255, jl_259, jl_260, jl_261, jl_262, jl_313, jl_500, jl_999, jl_10000, jl_10004, jl_10005, jl_10006, jl_10007, jl_10008, jl_10009, jl_10010, jl_10011, jl_10012, jl_10013, jl_10014, jl_10015, jl_10017, jl_10018, jl_10023, jl_12345, jl_1103515245, jN_add, jN_mul, jN_sub, jN_addm, jN_div, jN_irm, jN_nat, le_T, le_F, lt_T, lt_F, eq_F, ib_T, ib_F, add_j0, if_true, if_false, eq_self, Bool.false_eq_true, Option.bind_some, pb, jn, Nat.zero_add, Nat.add_zero]; exact ⟨_, by omega, rfl⟩
    · simp (disch := omega) only [jl_0, jl_1, jl_2, jl_3, jl_4, jl_5, jl_6, jl_7, jl_8, jl_9, jl_10, jl_11, jl_12, jl_13, jl_14, jl_15, jl_16, jl_17, jl_18, jl_20, jl_23, jl_29, jl_30, jl_31, jl_32, jl_35, jl_40, jl_48, jl_50, jl_51, jl_57, jl_60, jl_61, jl_63, jl_64, jl_65, jl_89, jl_97, jl_99, jl_100, jl_101, jl_113, jl_122, jl_200, jl_240, jl_241, jl_255, jl_259, jl_260, jl_261, jl_262, jl_313, jl_500, jl_999, jl_10000, jl_10004, jl_10005, jl_10006, jl_10007, jl_10008, jl_10009, jl_10010, jl_10011, jl_10012, jl_10013, jl_10014, jl_10015, jl_10017, jl_10018, jl_10023, jl_12345, jl_1103515245, jN_add, jN_mul, jN_sub, jN_addm, jN_div, jN_irm, jN_nat, le_T, le_F, lt_T, lt_F, eq_F, ib_T, ib_F, add_j0, if_true, if_false, eq_self, Bool.false_eq_true, Option.bind_some, pb, jn, Nat.zero_add, Nat.add_zero]; exact ⟨_, by omega, rfl⟩
    · by_cases h2 : b + 1 - c + b ≤ 9
      · simp (disch := omega) only [jl_0, jl_1, jl_2, jl_3, jl_4, jl_5, jl_6, jl_7, jl_8, jl_9, jl_10, jl_11, jl_12, jl_13, jl_14, jl_15, jl_16, jl_17, jl_18, jl_20, jl_23, jl_29, jl_30, jl_31, jl_32, jl_35, jl_40, jl_48, jl_50, jl_51, jl_57, jl_60, jl_61, jl_63, jl_64, jl_65, jl_89, jl_97, jl_99, jl_100, jl_101, jl_113, jl_122, jl_200, jl_240, jl_241, jl_255, jl_259, jl_260, jl_261, jl_262, jl_313, jl_500, jl_999, jl_10000, jl_10004, jl_10005, jl_10006, jl_10007, jl_10008, jl_10009, jl_10010, jl_10011, jl_10012, jl_10013, jl_10014, jl_10015, jl_10017, jl_10018, jl_10023, jl_12345, jl_1103515245, jN_add, jN_mul, jN_sub, jN_addm, jN_div, jN_irm, jN_nat, le_T, le_F, lt_T, lt_F, eq_F, ib_T, ib_F, add_j0, if_true, if_false, eq_self, Bool.false_eq_true, Option.bind_some, pb, jn, Nat.zero_add, Nat.add_zero]; exact ⟨_, by omega, rfl⟩
      · simp (disch := omega) only [jl_0, jl_1, jl_2, jl_3, jl_4, jl_5, jl_6, jl_7, jl_8, jl_9, jl_10, jl_11, jl_12, jl_13, jl_14, jl_15, jl_16, jl_17, jl_18, jl_20, jl_23, jl_29, jl_30, jl_31, jl_32, jl_35, jl_40, jl_48, jl_50, jl_51, jl_57, jl_60, jl_61, jl_63, jl_64, jl_65, jl_89, jl_97, jl_99, jl_100, jl_101, jl_113, jl_122, jl_200, jl_240, jl_241, jl_255, jl_259, jl_260, jl_261, jl_262, jl_313, jl_500, jl_999, jl_10000, jl_10004, jl_10005, jl_10006, jl_10007, jl_10008, jl_10009, jl_10010, jl_10011, jl_10012, jl_10013, jl_10014, jl_10015, jl_10017, jl_10018, jl_10023, jl_12345, jl_1103515245, jN_add, jN_mul, jN_sub, jN_addm, jN_div, jN_irm, jN_nat, le_T, le_F, lt_T, lt_F, eq_F, ib_T, ib_F, add_j0, if_true, if_false, eq_self, Bool.false_eq_true, Option.bind_some, pb, jn, Nat.zero_add, Nat.add_zero]; exact ⟨_, by omega, rfl⟩
theorem slB_b {s : Nat → Int32} (h : GS s) {k : Nat} (hk : k < 6) : NB 1000 (slB s k) := by
  obtain ⟨a, ha, h0⟩ := h.kind hk
  obtain ⟨f, hf, h1⟩ := h.spot hk
  obtain ⟨c, hc, h2⟩ := irm_4 (skN_b h)
  unfold slB; rw [h0, h1, h2, jN_nat (by omega)]
  obtain ⟨b, hb, h3⟩ := shA_b h (f := f) (by omega)
  rw [h3]; exact slipsBy_b ha (by omega) hc
theorem m_slipsOf {s : Nat → Int32} (h : GS s) {k n : Nat} (hk : k < 6) (hn : 7 ≤ n) : X12_slipsOf n s (jN k) = some (slB s k) := by
  obtain ⟨f, hf, h1⟩ := h.spot hk
  have h2 : (s (iD k 3)).toNatClampNeg = f := by rw [h1, jN_nat (by omega)]
  unfold X12_slipsOf slB
  rw [h2]
  simp (disch := omega) only [jl_0, jl_1, jl_2, jl_3, jl_4, jl_5, jl_6, jl_7, jl_8, jl_9, jl_10, jl_11, jl_12, jl_13, jl_14, jl_15, jl_16, jl_17, jl_18, jl_20, jl_23, jl_29, jl_30, jl_31, jl_32, jl_35, jl_40, jl_48, jl_50, jl_51, jl_57, jl_60, jl_61, jl_63, jl_64, jl_65, jl_89, jl_97, jl_99, jl_100, jl_101, jl_113, jl_122, jl_200, jl_240, jl_241, jl_255, jl_259, jl_260, jl_261, jl_262, jl_313, jl_500, jl_999, jl_10000, jl_10004, jl_10005, jl_10006, jl_10007, jl_10008, jl_10009, jl_10010, jl_10011, jl_10012, jl_10013, jl_10014, jl_10015, jl_10017, jl_10018, jl_10023, jl_12345, jl_1103515245, jN_add, jN_mul, jN_sub, jN_addm, jN_div, jN_irm, jN_nat, le_T, le_F, lt_T, lt_F, eq_F, ib_T, ib_F, add_j0, if_true, if_false, eq_self, Bool.false_eq_true, Option.bind_some, pb, jn, Nat.zero_add, Nat.add_zero, m_get, m_sky h, h1, m_shadeAt h]
theorem c_slipsOf {s : Nat → Int32} (h : GS s) {k n : Nat} (hk : k < 6) (hn : 7 ≤ n) (sh0 : Nat → Int32) : X9_slipsOf_q0 n (dOf s) (pOf s) (kOf s) (s 4) (s 0) sh0 (jN k) = some (slB s k, fun i => if i < 6 then shA s i else sh0 i) := by
  obtain ⟨f, hf, h1⟩ := h.spot hk
  have h2 : (s (iD k 3)).toNatClampNeg = f := by rw [h1, jN_nat (by omega)]
  unfold X9_slipsOf_q0 slB
  rw [h2, c_measure h hn]
  simp only [Option.bind_some]
  rw [c_kindOf h hk]
  simp (disch := omega) only [jl_0, jl_1, jl_2, jl_3, jl_4, jl_5, jl_6, jl_7, jl_8, jl_9, jl_10, jl_11, jl_12, jl_13, jl_14, jl_15, jl_16, jl_17, jl_18, jl_20, jl_23, jl_29, jl_30, jl_31, jl_32, jl_35, jl_40, jl_48, jl_50, jl_51, jl_57, jl_60, jl_61, jl_63, jl_64, jl_65, jl_89, jl_97, jl_99, jl_100, jl_101, jl_113, jl_122, jl_200, jl_240, jl_241, jl_255, jl_259, jl_260, jl_261, jl_262, jl_313, jl_500, jl_999, jl_10000, jl_10004, jl_10005, jl_10006, jl_10007, jl_10008, jl_10009, jl_10010, jl_10011, jl_10012, jl_10013, jl_10014, jl_10015, jl_10017, jl_10018, jl_10023, jl_12345, jl_1103515245, jN_add, jN_mul, jN_sub, jN_addm, jN_div, jN_irm, jN_nat, le_T, le_F, lt_T, lt_F, eq_F, ib_T, ib_F, add_j0, if_true, if_false, eq_self, Bool.false_eq_true, Option.bind_some, pb, jn, Nat.zero_add, Nat.add_zero, c_kindOf h hk, kind_lt h hk, c_sky h, vd_slK h hk, dOf_at, h1]
  rw [if_pos (show f < 6 by omega)]
def pyV (s : Nat → Int32) (k : Nat) : Int32 := ((9 : Int32) + s (iD k 2)) - s (iD k 1) / (6 : Int32)
def pyB (s : Nat → Int32) (k : Nat) : Int32 := if s (iD k 4) = 1 then 0 else if 0 ≤ pyV s k then pyV s k else 0
theorem pyB_b {s : Nat → Int32} (h : GS s) {k : Nat} (hk : k < 6) : NB 18 (pyB s k) := by
  obtain ⟨a, ha, h0⟩ := h.lag hk
  obtain ⟨b, hb, h1⟩ := h.pride hk
  unfold pyB pyV
  rw [h0, h1]
  split
  · exact ⟨0, by omega, rfl⟩
  · by_cases hq : a / 6 ≤ 9 + b
    · simp (disch := omega) only [jl_0, jl_1, jl_2, jl_3, jl_4, jl_5, jl_6, jl_7, jl_8, jl_9, jl_10, jl_11, jl_12, jl_13, jl_14, jl_15, jl_16, jl_17, jl_18, jl_20, jl_23, jl_29, jl_30, jl_31, jl_32, jl_35, jl_40, jl_48, jl_50, jl_51, jl_57, jl_60, jl_61, jl_63, jl_64, jl_65, jl_89, jl_97, jl_99, jl_100, jl_101, jl_113, jl_122, jl_200, jl_240, jl_241, jl_255, jl_259, jl_260, jl_261, jl_262, jl_313, jl_500, jl_999, jl_10000, jl_10004, jl_10005, jl_10006, jl_10007, jl_10008, jl_10009, jl_10010, jl_10011, jl_10012, jl_10013, jl_10014, jl_10015, jl_10017, jl_10018, jl_10023, jl_12345, jl_1103515245, jN_add, jN_mul, jN_sub, jN_addm, jN_div, jN_irm, jN_nat, le_T, le_F, lt_T, lt_F, eq_F, ib_T, ib_F, add_j0, if_true, if_false, eq_self, Bool.false_eq_true, Option.bind_some, pb, jn, Nat.zero_add, Nat.add_zero]; exact ⟨_, by omega, rfl⟩
    · split
      · rename_i h2
        simp (disch := omega) only [jl_0, jl_1, jl_2, jl_3, jl_4, jl_5, jl_6, jl_7, jl_8, jl_9, jl_10, jl_11, jl_12, jl_13, jl_14, jl_15, jl_16, jl_17, jl_18, jl_20, jl_23, jl_29, jl_30, jl_31, jl_32, jl_35, jl_40, jl_48, jl_50, jl_51, jl_57, jl_60, jl_61, jl_63, jl_64, jl_65, jl_89, jl_97, jl_99, jl_100, jl_101, jl_113, jl_122, jl_200, jl_240, jl_241, jl_255, jl_259, jl_260, jl_261, jl_262, jl_313, jl_500, jl_999, jl_10000, jl_10004, jl_10005, jl_10006, jl_10007, jl_10008, jl_10009, jl_10010, jl_10011, jl_10012, jl_10013, jl_10014, jl_10015, jl_10017, jl_10018, jl_10023, jl_12345, jl_1103515245, jN_add, jN_div] at h2
        exfalso
        have e1 : (jN (9 + b) - jN (a / 6)) = -(jN (a / 6 - (9 + b))) := by rw [← jN_sub (show 9 + b ≤ a / 6 by omega), Int32.neg_sub]
        rw [e1] at h2
        have h3 := Int32.le_iff_toInt_le.mp h2
        have h5 : (jN (a / 6 - (9 + b))).toInt = ((a / 6 - (9 + b) : Nat) : Int) := Int32.toInt_ofNat_of_lt (by omega)
        rw [Int32.toInt_neg, h5] at h3
        have h4 : (jN 0).toInt = 0 := rfl
        rw [h4, Int.bmod_eq_of_le (by omega) (by omega)] at h3
        omega
      · exact ⟨0, by omega, rfl⟩
theorem m_paysOf {s : Nat → Int32} {k : Nat} (hk : k < 6) : X12_paysOf s (jN k) = some (pyB s k) := by
  unfold X12_paysOf pyB
  rw [show X12_get s (jN k) (2 : Int32) = some (s (iD k 2)) from m_get (j := 2) hk (by omega), show X12_get s (jN k) (1 : Int32) = some (s (iD k 1)) from m_get (j := 1) hk (by omega), show X12_get s (jN k) (4 : Int32) = some (s (iD k 4)) from m_get (j := 4) hk (by omega)]
  simp only [Option.bind_some, jn]
  by_cases h1 : s (iD k 4) = 1
  · rw [if_pos h1, if_pos h1]
  · rw [if_neg h1, if_neg h1]; unfold pyV; split <;> rfl
theorem c_isRight {s : Nat → Int32} (h : GS s) {k : Nat} (hk : k < 6) : X9_isRight_q0 (dOf s) (jN k) = some (s (iD k 4)) := by
  obtain ⟨a, ha, h0⟩ := h.right hk
  unfold X9_isRight_q0
  (have : a = 0 ∨ a = 1 := by omega)
  rcases this with rfl | rfl <;> simp (disch := omega) only [jl_0, jl_1, jl_2, jl_3, jl_4, jl_5, jl_6, jl_7, jl_8, jl_9, jl_10, jl_11, jl_12, jl_13, jl_14, jl_15, jl_16, jl_17, jl_18, jl_20, jl_23, jl_29, jl_30, jl_31, jl_32, jl_35, jl_40, jl_48, jl_50, jl_51, jl_57, jl_60, jl_61, jl_63, jl_64, jl_65, jl_89, jl_97, jl_99, jl_100, jl_101, jl_113, jl_122, jl_200, jl_240, jl_241, jl_255, jl_259, jl_260, jl_261, jl_262, jl_313, jl_500, jl_999, jl_10000, jl_10004, jl_10005, jl_10006, jl_10007, jl_10008, jl_10009, jl_10010, jl_10011, jl_10012, jl_10013, jl_10014, jl_10015, jl_10017, jl_10018, jl_10023, jl_12345, jl_1103515245, jN_add, jN_mul, jN_sub, jN_addm, jN_div, jN_irm, jN_nat, le_T, le_F, lt_T, lt_F, eq_F, ib_T, ib_F, add_j0, if_true, if_false, eq_self, Bool.false_eq_true, Option.bind_some, pb, jn, Nat.zero_add, Nat.add_zero, dOf_at, h0]
theorem c_paysOf {s : Nat → Int32} (h : GS s) {k : Nat} (hk : k < 6) : X9_paysOf_q0 (dOf s) (jN k) = some (pyB s k) := by
  unfold X9_paysOf_q0 pyB
  obtain ⟨a, ha, h0⟩ := h.right hk
  rw [show ib (jN k) 6 = true from ib_T hk (by omega)]
  simp (disch := omega) only [if_true, jN_nat, dOf_at, pb, c_isRight h hk, Option.bind_some, h0, jn]
  (have : a = 0 ∨ a = 1 := by omega)
  rcases this with rfl | rfl
  · rw [if_pos (show jN 0 = 0 from rfl), if_neg (show ¬ jN 0 = 1 by decide)]; unfold pyV; split <;> rfl
  · rw [if_neg (show ¬ jN 1 = 0 by decide), if_pos (show jN 1 = 1 from rfl)]
/-! who agree -/
theorem absi_j {a b : Nat} (ha : a < 1000000) (hb : b < 1000000) : absi (jN a - jN b) = X12_apart (jN a) (jN b) := by
  unfold absi X12_apart
  by_cases h : b ≤ a
  · simp (disch := omega) only [jl_0, jl_1, jl_2, jl_3, jl_4, jl_5, jl_6, jl_7, jl_8, jl_9, jl_10, jl_11, jl_12, jl_13, jl_14, jl_15, jl_16, jl_17, jl_18, jl_20, jl_23, jl_29, jl_30, jl_31, jl_32, jl_35, jl_40, jl_48, jl_50, jl_51, jl_57, jl_60, jl_61, jl_63, jl_64, jl_65, jl_89, jl_97, jl_99, jl_100, jl_101, jl_113, jl_122, jl_200, jl_240, jl_241, jl_255, jl_259, jl_260, jl_261, jl_262, jl_313, jl_500, jl_999, jl_10000, jl_10004, jl_10005, jl_10006, jl_10007, jl_10008, jl_10009, jl_10010, jl_10011, jl_10012, jl_10013, jl_10014, jl_10015, jl_10017, jl_10018, jl_10023, jl_12345, jl_1103515245, jN_add, jN_mul, jN_sub, jN_addm, jN_div, jN_irm, jN_nat, le_T, le_F, lt_T, lt_F, eq_F, ib_T, ib_F, add_j0, if_true, if_false, eq_self, Bool.false_eq_true, Option.bind_some, pb, jn, Nat.zero_add, Nat.add_zero]
  · have e : jN a - jN b = -(jN (b - a)) := by rw [← jN_sub (show a ≤ b by omega), Int32.neg_sub]
    have hn : ¬ (0 ≤ jN a - jN b) := by
      rw [e]; intro h2
      have h3 := Int32.le_iff_toInt_le.mp h2
      have h5 : (jN (b - a)).toInt = ((b - a : Nat) : Int) := Int32.toInt_ofNat_of_lt (by omega)
      rw [Int32.toInt_neg, h5] at h3
      have h4 : (0 : Int32).toInt = 0 := rfl
      rw [h4, Int.bmod_eq_of_le (by omega) (by omega)] at h3
      omega
    rw [if_neg hn, e]
    simp (disch := omega) only [jl_0, jl_1, jl_2, jl_3, jl_4, jl_5, jl_6, jl_7, jl_8, jl_9, jl_10, jl_11, jl_12, jl_13, jl_14, jl_15, jl_16, jl_17, jl_18, jl_20, jl_23, jl_29, jl_30, jl_31, jl_32, jl_35, jl_40, jl_48, jl_50, jl_51, jl_57, jl_60, jl_61, jl_63, jl_64, jl_65, jl_89, jl_97, jl_99, jl_100, jl_101, jl_113, jl_122, jl_200, jl_240, jl_241, jl_255, jl_259, jl_260, jl_261, jl_262, jl_313, jl_500, jl_999, jl_10000, jl_10004, jl_10005, jl_10006, jl_10007, jl_10008, jl_10009, jl_10010, jl_10011, jl_10012, jl_10013, jl_10014, jl_10015, jl_10017, jl_10018, jl_10023, jl_12345, jl_1103515245, jN_add, jN_mul, jN_sub, jN_addm, jN_div, jN_irm, jN_nat, le_T, le_F, lt_T, lt_F, eq_F, ib_T, ib_F, add_j0, if_true, if_false, eq_self, Bool.false_eq_true, Option.bind_some, pb, jn, Nat.zero_add, Nat.add_zero]
    rw [jl_0.symm, Int32.sub_neg, Int32.zero_add]
theorem apart_b {a b : Nat} (ha : a < 1000000) (hb : b < 1000000) : X12_apart (jN a) (jN b) = jN (if b ≤ a then a - b else b - a) := by
  unfold X12_apart
  by_cases h : b ≤ a
  · simp (disch := omega) only [jl_0, jl_1, jl_2, jl_3, jl_4, jl_5, jl_6, jl_7, jl_8, jl_9, jl_10, jl_11, jl_12, jl_13, jl_14, jl_15, jl_16, jl_17, jl_18, jl_20, jl_23, jl_29, jl_30, jl_31, jl_32, jl_35, jl_40, jl_48, jl_50, jl_51, jl_57, jl_60, jl_61, jl_63, jl_64, jl_65, jl_89, jl_97, jl_99, jl_100, jl_101, jl_113, jl_122, jl_200, jl_240, jl_241, jl_255, jl_259, jl_260, jl_261, jl_262, jl_313, jl_500, jl_999, jl_10000, jl_10004, jl_10005, jl_10006, jl_10007, jl_10008, jl_10009, jl_10010, jl_10011, jl_10012, jl_10013, jl_10014, jl_10015, jl_10017, jl_10018, jl_10023, jl_12345, jl_1103515245, jN_add, jN_mul, jN_sub, jN_addm, jN_div, jN_irm, jN_nat, le_T, le_F, lt_T, lt_F, eq_F, ib_T, ib_F, add_j0, if_true, if_false, eq_self, Bool.false_eq_true, Option.bind_some, pb, jn, Nat.zero_add, Nat.add_zero, h]
  · simp (disch := omega) only [jl_0, jl_1, jl_2, jl_3, jl_4, jl_5, jl_6, jl_7, jl_8, jl_9, jl_10, jl_11, jl_12, jl_13, jl_14, jl_15, jl_16, jl_17, jl_18, jl_20, jl_23, jl_29, jl_30, jl_31, jl_32, jl_35, jl_40, jl_48, jl_50, jl_51, jl_57, jl_60, jl_61, jl_63, jl_64, jl_65, jl_89, jl_97, jl_99, jl_100, jl_101, jl_113, jl_122, jl_200, jl_240, jl_241, jl_255, jl_259, jl_260, jl_261, jl_262, jl_313, jl_500, jl_999, jl_10000, jl_10004, jl_10005, jl_10006, jl_10007, jl_10008, jl_10009, jl_10010, jl_10011, jl_10012, jl_10013, jl_10014, jl_10015, jl_10017, jl_10018, jl_10023, jl_12345, jl_1103515245, jN_add, jN_mul, jN_sub, jN_addm, jN_div, jN_irm, jN_nat, le_T, le_F, lt_T, lt_F, eq_F, ib_T, ib_F, add_j0, if_true, if_false, eq_self, Bool.false_eq_true, Option.bind_some, pb, jn, Nat.zero_add, Nat.add_zero, h]
theorem apart_sym {a b : Nat} (ha : a < 1000000) (hb : b < 1000000) : X12_apart (jN a) (jN b) = X12_apart (jN b) (jN a) := by
  rw [apart_b ha hb, apart_b hb ha]; congr 1; split <;> split <;> omega
def agB (s : Nat → Int32) (a b : Nat) : Bool := !decide ((5 : Int32) < X12_apart (s (iD a 1)) (s (iD b 1)))
theorem m_agree {s : Nat → Int32} {a b : Nat} (ha : a < 6) (hb : b < 6) : X12_doAgree s (jN a) (jN b) = some (if agB s a b = true then 1 else 0) := by
  unfold X12_doAgree agB
  simp (disch := omega) only [m_get, Option.bind_some, jl_1]
  split <;> simp_all
theorem c_agree {s : Nat → Int32} (h : GS s) {a b : Nat} (ha : a < 6) (hb : b < 6) : X9_agree_q0 (dOf s) (jN a) (jN b) = some (if agB s a b = true then 1 else 0) := by
  obtain ⟨x, hx, h0⟩ := h.lag ha
  obtain ⟨y, hy, h1⟩ := h.lag hb
  unfold X9_agree_q0 agB
  rw [ib_T ha (by omega), ib_T hb (by omega)]
  simp (disch := omega) only [if_true, jN_nat, dOf_at, h0, h1, absi_j]
  split <;> simp_all
def prI (s : Nat → Int32) (a : Nat) (x : Int32) : Nat → Int32
  | 0 => x
  | b + 1 => if a < b ∧ agB s a b = true then prI s a x b + 1 else prI s a x b
def prO (s : Nat → Int32) (c : Nat) : Nat → Int32
  | 0 => 0
  | a + 1 => prI s a (prO s c a) c
def prN (s : Nat → Int32) : Int32 := prO s (nS s) (nS s)
theorem prI_0 {s : Nat → Int32} {a : Nat} {x : Int32} : ∀ b, b ≤ a + 1 → prI s a x b = x := by
  intro b
  induction b with
  | zero => intro _; rfl
  | succ b ih => intro h; unfold prI; rw [if_neg (by omega)]; exact ih (by omega)
theorem m_pairs {s : Nat → Int32} (h : GS s) {n : Nat} (hn : 7 ≤ n) : X12_pairsNow n s = some (prN s) := by
  obtain ⟨hc, h4⟩ := h.n
  have L2 : ∀ a x, a < nS s → X12_pairsNow_L2 n s (jN a) n x (jN (a + 1)) = some (prI s a x (nS s), jN (nS s)) := by
    intro a x ha
    refine Eq.trans (congrArg (fun z => X12_pairsNow_L2 n s (jN a) n z (jN (a + 1))) (prI_0 (s := s) (a := a) (x := x) (a + 1) (by omega)).symm) (lp_j (fun k j => X12_pairsNow_L2 n s (jN a) k (prI s a x j) (jN j)) (nS s) (a + 1) (by omega) (by omega) (fun k j hj hj2 => ?_) (fun k => ?_))
    · show X12_pairsNow_L2 n s (jN a) (k + 1) (prI s a x j) (jN j) = X12_pairsNow_L2 n s (jN a) k (if a < j ∧ agB s a j = true then prI s a x j + 1 else prI s a x j) (jN (j + 1))
      rw [X12_pairsNow_L2, h4]
      by_cases hq : agB s a j = true
      · rw [if_pos (show a < j ∧ agB s a j = true from ⟨by omega, hq⟩)]; simp (disch := omega) only [jl_0, jl_1, jl_2, jl_3, jl_4, jl_5, jl_6, jl_7, jl_8, jl_9, jl_10, jl_11, jl_12, jl_13, jl_14, jl_15, jl_16, jl_17, jl_18, jl_20, jl_23, jl_29, jl_30, jl_31, jl_32, jl_35, jl_40, jl_48, jl_50, jl_51, jl_57, jl_60, jl_61, jl_63, jl_64, jl_65, jl_89, jl_97, jl_99, jl_100, jl_101, jl_113, jl_122, jl_200, jl_240, jl_241, jl_255, jl_259, jl_260, jl_261, jl_262, jl_313, jl_500, jl_999, jl_10000, jl_10004, jl_10005, jl_10006, jl_10007, jl_10008, jl_10009, jl_10010, jl_10011, jl_10012, jl_10013, jl_10014, jl_10015, jl_10017, jl_10018, jl_10023, jl_12345, jl_1103515245, jN_add, jN_mul, jN_sub, jN_addm, jN_div, jN_irm, jN_nat, le_T, le_F, lt_T, lt_F, eq_F, ib_T, ib_F, add_j0, if_true, if_false, eq_self, Bool.false_eq_true, Option.bind_some, pb, jn, Nat.zero_add, Nat.add_zero, m_agree, hq]
      · rw [if_neg (show ¬ (a < j ∧ agB s a j = true) from fun z => hq z.2)]; simp (disch := omega) only [jl_0, jl_1, jl_2, jl_3, jl_4, jl_5, jl_6, jl_7, jl_8, jl_9, jl_10, jl_11, jl_12, jl_13, jl_14, jl_15, jl_16, jl_17, jl_18, jl_20, jl_23, jl_29, jl_30, jl_31, jl_32, jl_35, jl_40, jl_48, jl_50, jl_51, jl_57, jl_60, jl_61, jl_63, jl_64, jl_65, jl_89, jl_97, jl_99, jl_100, jl_101, jl_113, jl_122, jl_200, jl_240, jl_241, jl_255, jl_259, jl_260, jl_261, jl_262, jl_313, jl_500, jl_999, jl_10000, jl_10004, jl_10005, jl_10006, jl_10007, jl_10008, jl_10009, jl_10010, jl_10011, jl_10012, jl_10013, jl_10014, jl_10015, jl_10017, jl_10018, jl_10023, jl_12345, jl_1103515245, jN_add, jN_mul, jN_sub, jN_addm, jN_div, jN_irm, jN_nat, le_T, le_F, lt_T, lt_F, eq_F, ib_T, ib_F, add_j0, if_true, if_false, eq_self, Bool.false_eq_true, Option.bind_some, pb, jn, Nat.zero_add, Nat.add_zero, m_agree, hq]
    · show X12_pairsNow_L2 n s (jN a) (k + 1) _ (jN (nS s)) = _
      rw [X12_pairsNow_L2, h4]; simp (disch := omega) only [jl_0, jl_1, jl_2, jl_3, jl_4, jl_5, jl_6, jl_7, jl_8, jl_9, jl_10, jl_11, jl_12, jl_13, jl_14, jl_15, jl_16, jl_17, jl_18, jl_20, jl_23, jl_29, jl_30, jl_31, jl_32, jl_35, jl_40, jl_48, jl_50, jl_51, jl_57, jl_60, jl_61, jl_63, jl_64, jl_65, jl_89, jl_97, jl_99, jl_100, jl_101, jl_113, jl_122, jl_200, jl_240, jl_241, jl_255, jl_259, jl_260, jl_261, jl_262, jl_313, jl_500, jl_999, jl_10000, jl_10004, jl_10005, jl_10006, jl_10007, jl_10008, jl_10009, jl_10010, jl_10011, jl_10012, jl_10013, jl_10014, jl_10015, jl_10017, jl_10018, jl_10023, jl_12345, jl_1103515245, jN_add, jN_mul, jN_sub, jN_addm, jN_div, jN_irm, jN_nat, le_T, le_F, lt_T, lt_F, eq_F, ib_T, ib_F, add_j0, if_true, if_false, eq_self, Bool.false_eq_true, Option.bind_some, pb, jn, Nat.zero_add, Nat.add_zero]
  have L1 : X12_pairsNow_L1 n s n (jN 0) (jN 0) = some (prN s, jN (nS s)) := by
    refine lp_0 (fun k j => X12_pairsNow_L1 n s k (prO s (nS s) j) (jN j)) (nS s) (by omega) (fun k j hj => ?_) (fun k => ?_)
    · show X12_pairsNow_L1 n s (k + 1) _ (jN j) = X12_pairsNow_L1 n s k (prI s j (prO s (nS s) j) (nS s)) (jN (j + 1))
      rw [X12_pairsNow_L1, h4]; simp (disch := omega) only [jl_0, jl_1, jl_2, jl_3, jl_4, jl_5, jl_6, jl_7, jl_8, jl_9, jl_10, jl_11, jl_12, jl_13, jl_14, jl_15, jl_16, jl_17, jl_18, jl_20, jl_23, jl_29, jl_30, jl_31, jl_32, jl_35, jl_40, jl_48, jl_50, jl_51, jl_57, jl_60, jl_61, jl_63, jl_64, jl_65, jl_89, jl_97, jl_99, jl_100, jl_101, jl_113, jl_122, jl_200, jl_240, jl_241, jl_255, jl_259, jl_260, jl_261, jl_262, jl_313, jl_500, jl_999, jl_10000, jl_10004, jl_10005, jl_10006, jl_10007, jl_10008, jl_10009, jl_10010, jl_10011, jl_10012, jl_10013, jl_10014, jl_10015, jl_10017, jl_10018, jl_10023, jl_12345, jl_1103515245, jN_add, jN_mul, jN_sub, jN_addm, jN_div, jN_irm, jN_nat, le_T, le_F, lt_T, lt_F, eq_F, ib_T, ib_F, add_j0, if_true, if_false, eq_self, Bool.false_eq_true, Option.bind_some, pb, jn, Nat.zero_add, Nat.add_zero, L2 j _ hj]
    · show X12_pairsNow_L1 n s (k + 1) _ (jN (nS s)) = _
      rw [X12_pairsNow_L1, h4]; simp (disch := omega) only [jl_0, jl_1, jl_2, jl_3, jl_4, jl_5, jl_6, jl_7, jl_8, jl_9, jl_10, jl_11, jl_12, jl_13, jl_14, jl_15, jl_16, jl_17, jl_18, jl_20, jl_23, jl_29, jl_30, jl_31, jl_32, jl_35, jl_40, jl_48, jl_50, jl_51, jl_57, jl_60, jl_61, jl_63, jl_64, jl_65, jl_89, jl_97, jl_99, jl_100, jl_101, jl_113, jl_122, jl_200, jl_240, jl_241, jl_255, jl_259, jl_260, jl_261, jl_262, jl_313, jl_500, jl_999, jl_10000, jl_10004, jl_10005, jl_10006, jl_10007, jl_10008, jl_10009, jl_10010, jl_10011, jl_10012, jl_10013, jl_10014, jl_10015, jl_10017, jl_10018, jl_10023, jl_12345, jl_1103515245, jN_add, jN_mul, jN_sub, jN_addm, jN_div, jN_irm, jN_nat, le_T, le_F, lt_T, lt_F, eq_F, ib_T, ib_F, add_j0, if_true, if_false, eq_self, Bool.false_eq_true, Option.bind_some, pb, jn, Nat.zero_add, Nat.add_zero]; rfl
  unfold X12_pairsNow
  rw [show (0 : Int32) = jN 0 from rfl, L1]; rfl
theorem c_pairs {s : Nat → Int32} (h : GS s) {n : Nat} (hn : 7 ≤ n) : X9_pairs_q0 n (dOf s) (s 4) = some (prN s) := by
  obtain ⟨hc, h4⟩ := h.n
  rw [h4]
  have L2 : ∀ a x, a < nS s → X9_pairs_q0_L2 n (dOf s) (jN (nS s)) (jN a) n x (jN (a + 1)) = some (prI s a x (nS s), jN (nS s)) := by
    intro a x ha
    refine Eq.trans (congrArg (fun z => X9_pairs_q0_L2 n (dOf s) (jN (nS s)) (jN a) n z (jN (a + 1))) (prI_0 (s := s) (a := a) (x := x) (a + 1) (by omega)).symm) (lp_j (fun k j => X9_pairs_q0_L2 n (dOf s) (jN (nS s)) (jN a) k (prI s a x j) (jN j)) (nS s) (a + 1) (by omega) (by omega) (fun k j hj hj2 => ?_) (fun k => ?_))
    · show X9_pairs_q0_L2 n (dOf s) (jN (nS s)) (jN a) (k + 1) (prI s a x j) (jN j) = X9_pairs_q0_L2 n (dOf s) (jN (nS s)) (jN a) k (if a < j ∧ agB s a j = true then prI s a x j + 1 else prI s a x j) (jN (j + 1))
      rw [X9_pairs_q0_L2]
      by_cases hq : agB s a j = true
      · rw [if_pos (show a < j ∧ agB s a j = true from ⟨by omega, hq⟩)]; simp (disch := omega) only [jl_0, jl_1, jl_2, jl_3, jl_4, jl_5, jl_6, jl_7, jl_8, jl_9, jl_10, jl_11, jl_12, jl_13, jl_14, jl_15, jl_16, jl_17, jl_18, jl_20, jl_23, jl_29, jl_30, jl_31, jl_32, jl_35, jl_40, jl_48, jl_50, jl_51, jl_57, jl_60, jl_61, jl_63, jl_64, jl_65, jl_89, jl_97, jl_99, jl_100, jl_101, jl_113, jl_122, jl_200, jl_240, jl_241, jl_255, jl_259, jl_260, jl_261, jl_262, jl_313, jl_500, jl_999, jl_10000, jl_10004, jl_10005, jl_10006, jl_10007, jl_10008, jl_10009, jl_10010, jl_10011, jl_10012, jl_10013, jl_10014, jl_10015, jl_10017, jl_10018, jl_10023, jl_12345, jl_1103515245, jN_add, jN_mul, jN_sub, jN_addm, jN_div, jN_irm, jN_nat, le_T, le_F, lt_T, lt_F, eq_F, ib_T, ib_F, add_j0, if_true, if_false, eq_self, Bool.false_eq_true, Option.bind_some, pb, jn, Nat.zero_add, Nat.add_zero, c_agree h, hq]
      · rw [if_neg (show ¬ (a < j ∧ agB s a j = true) from fun z => hq z.2)]; simp (disch := omega) only [jl_0, jl_1, jl_2, jl_3, jl_4, jl_5, jl_6, jl_7, jl_8, jl_9, jl_10, jl_11, jl_12, jl_13, jl_14, jl_15, jl_16, jl_17, jl_18, jl_20, jl_23, jl_29, jl_30, jl_31, jl_32, jl_35, jl_40, jl_48, jl_50, jl_51, jl_57, jl_60, jl_61, jl_63, jl_64, jl_65, jl_89, jl_97, jl_99, jl_100, jl_101, jl_113, jl_122, jl_200, jl_240, jl_241, jl_255, jl_259, jl_260, jl_261, jl_262, jl_313, jl_500, jl_999, jl_10000, jl_10004, jl_10005, jl_10006, jl_10007, jl_10008, jl_10009, jl_10010, jl_10011, jl_10012, jl_10013, jl_10014, jl_10015, jl_10017, jl_10018, jl_10023, jl_12345, jl_1103515245, jN_add, jN_mul, jN_sub, jN_addm, jN_div, jN_irm, jN_nat, le_T, le_F, lt_T, lt_F, eq_F, ib_T, ib_F, add_j0, if_true, if_false, eq_self, Bool.false_eq_true, Option.bind_some, pb, jn, Nat.zero_add, Nat.add_zero, c_agree h, hq]
    · show X9_pairs_q0_L2 n (dOf s) (jN (nS s)) (jN a) (k + 1) _ (jN (nS s)) = _
      rw [X9_pairs_q0_L2]; simp (disch := omega) only [jl_0, jl_1, jl_2, jl_3, jl_4, jl_5, jl_6, jl_7, jl_8, jl_9, jl_10, jl_11, jl_12, jl_13, jl_14, jl_15, jl_16, jl_17, jl_18, jl_20, jl_23, jl_29, jl_30, jl_31, jl_32, jl_35, jl_40, jl_48, jl_50, jl_51, jl_57, jl_60, jl_61, jl_63, jl_64, jl_65, jl_89, jl_97, jl_99, jl_100, jl_101, jl_113, jl_122, jl_200, jl_240, jl_241, jl_255, jl_259, jl_260, jl_261, jl_262, jl_313, jl_500, jl_999, jl_10000, jl_10004, jl_10005, jl_10006, jl_10007, jl_10008, jl_10009, jl_10010, jl_10011, jl_10012, jl_10013, jl_10014, jl_10015, jl_10017, jl_10018, jl_10023, jl_12345, jl_1103515245, jN_add, jN_mul, jN_sub, jN_addm, jN_div, jN_irm, jN_nat, le_T, le_F, lt_T, lt_F, eq_F, ib_T, ib_F, add_j0, if_true, if_false, eq_self, Bool.false_eq_true, Option.bind_some, pb, jn, Nat.zero_add, Nat.add_zero]
  have L1 : X9_pairs_q0_L1 n (dOf s) (jN (nS s)) n (jN 0) (jN 0) = some (prN s, jN (nS s)) := by
    refine lp_0 (fun k j => X9_pairs_q0_L1 n (dOf s) (jN (nS s)) k (prO s (nS s) j) (jN j)) (nS s) (by omega) (fun k j hj => ?_) (fun k => ?_)
    · show X9_pairs_q0_L1 n (dOf s) (jN (nS s)) (k + 1) _ (jN j) = X9_pairs_q0_L1 n (dOf s) (jN (nS s)) k (prI s j (prO s (nS s) j) (nS s)) (jN (j + 1))
      rw [X9_pairs_q0_L1]; simp (disch := omega) only [jl_0, jl_1, jl_2, jl_3, jl_4, jl_5, jl_6, jl_7, jl_8, jl_9, jl_10, jl_11, jl_12, jl_13, jl_14, jl_15, jl_16, jl_17, jl_18, jl_20, jl_23, jl_29, jl_30, jl_31, jl_32, jl_35, jl_40, jl_48, jl_50, jl_51, jl_57, jl_60, jl_61, jl_63, jl_64, jl_65, jl_89, jl_97, jl_99, jl_100, jl_101, jl_113, jl_122, jl_200, jl_240, jl_241, jl_255, jl_259, jl_260, jl_261, jl_262, jl_313, jl_500, jl_999, jl_10000, jl_10004, jl_10005, jl_10006, jl_10007, jl_10008, jl_10009, jl_10010, jl_10011, jl_10012, jl_10013, jl_10014, jl_10015, jl_10017, jl_10018, jl_10023, jl_12345, jl_1103515245, jN_add, jN_mul, jN_sub, jN_addm, jN_div, jN_irm, jN_nat, le_T, le_F, lt_T, lt_F, eq_F, ib_T, ib_F, add_j0, if_true, if_false, eq_self, Bool.false_eq_true, Option.bind_some, pb, jn, Nat.zero_add, Nat.add_zero, L2 j _ hj]
    · show X9_pairs_q0_L1 n (dOf s) (jN (nS s)) (k + 1) _ (jN (nS s)) = _
      rw [X9_pairs_q0_L1]; simp (disch := omega) only [jl_0, jl_1, jl_2, jl_3, jl_4, jl_5, jl_6, jl_7, jl_8, jl_9, jl_10, jl_11, jl_12, jl_13, jl_14, jl_15, jl_16, jl_17, jl_18, jl_20, jl_23, jl_29, jl_30, jl_31, jl_32, jl_35, jl_40, jl_48, jl_50, jl_51, jl_57, jl_60, jl_61, jl_63, jl_64, jl_65, jl_89, jl_97, jl_99, jl_100, jl_101, jl_113, jl_122, jl_200, jl_240, jl_241, jl_255, jl_259, jl_260, jl_261, jl_262, jl_313, jl_500, jl_999, jl_10000, jl_10004, jl_10005, jl_10006, jl_10007, jl_10008, jl_10009, jl_10010, jl_10011, jl_10012, jl_10013, jl_10014, jl_10015, jl_10017, jl_10018, jl_10023, jl_12345, jl_1103515245, jN_add, jN_mul, jN_sub, jN_addm, jN_div, jN_irm, jN_nat, le_T, le_F, lt_T, lt_F, eq_F, ib_T, ib_F, add_j0, if_true, if_false, eq_self, Bool.false_eq_true, Option.bind_some, pb, jn, Nat.zero_add, Nat.add_zero]; rfl
  unfold X9_pairs_q0
  rw [show (0 : Int32) = jN 0 from rfl, L1]; rfl
/-! those right, as a set -/
def rsS (s : Nat → Int32) : Nat → Int32
  | 0 => 0
  | k + 1 => if s (iD k 4) = 0 then rsS s k else rsS s k ||| ((1 : Int32) <<< (jN k &&& 31))
def rsN (s : Nat → Int32) : Int32 := rsS s (nS s)
theorem m_those {s : Nat → Int32} (h : GS s) {n : Nat} (hn : 7 ≤ n) : X12_those n s (4 : Int32) = some (rsN s) := by
  obtain ⟨hc, h4⟩ := h.n
  have L : X12_those_L1 n s (jN 4) n (jN 0) (jN 0) = some (rsN s, jN (nS s)) := by
    refine lp_0 (fun k j => X12_those_L1 n s (jN 4) k (rsS s j) (jN j)) (nS s) (by omega) (fun k j hj => ?_) (fun k => ?_)
    · obtain ⟨a, ha, h3⟩ := h.right (k := j) (by omega)
      show X12_those_L1 n s (jN 4) (k + 1) _ (jN j) = X12_those_L1 n s (jN 4) k (if s (iD j 4) = 0 then rsS s j else rsS s j ||| ((1 : Int32) <<< (jN j &&& 31))) (jN (j + 1))
      rw [X12_those_L1, h4, h3]
      (have : a = 0 ∨ a = 1 := by omega)
      rcases this with rfl | rfl
      · simp (disch := omega) only [jl_0, jl_1, jl_2, jl_3, jl_4, jl_5, jl_6, jl_7, jl_8, jl_9, jl_10, jl_11, jl_12, jl_13, jl_14, jl_15, jl_16, jl_17, jl_18, jl_20, jl_23, jl_29, jl_30, jl_31, jl_32, jl_35, jl_40, jl_48, jl_50, jl_51, jl_57, jl_60, jl_61, jl_63, jl_64, jl_65, jl_89, jl_97, jl_99, jl_100, jl_101, jl_113, jl_122, jl_200, jl_240, jl_241, jl_255, jl_259, jl_260, jl_261, jl_262, jl_313, jl_500, jl_999, jl_10000, jl_10004, jl_10005, jl_10006, jl_10007, jl_10008, jl_10009, jl_10010, jl_10011, jl_10012, jl_10013, jl_10014, jl_10015, jl_10017, jl_10018, jl_10023, jl_12345, jl_1103515245, jN_add, jN_mul, jN_sub, jN_addm, jN_div, jN_irm, jN_nat, le_T, le_F, lt_T, lt_F, eq_F, ib_T, ib_F, add_j0, if_true, if_false, eq_self, Bool.false_eq_true, Option.bind_some, pb, jn, Nat.zero_add, Nat.add_zero, m_get, h3, Int32.or_zero]
        rw [show jN 0 = (0 : Int32) from rfl, Int32.or_zero]
      · simp (disch := omega) only [jl_0, jl_1, jl_2, jl_3, jl_4, jl_5, jl_6, jl_7, jl_8, jl_9, jl_10, jl_11, jl_12, jl_13, jl_14, jl_15, jl_16, jl_17, jl_18, jl_20, jl_23, jl_29, jl_30, jl_31, jl_32, jl_35, jl_40, jl_48, jl_50, jl_51, jl_57, jl_60, jl_61, jl_63, jl_64, jl_65, jl_89, jl_97, jl_99, jl_100, jl_101, jl_113, jl_122, jl_200, jl_240, jl_241, jl_255, jl_259, jl_260, jl_261, jl_262, jl_313, jl_500, jl_999, jl_10000, jl_10004, jl_10005, jl_10006, jl_10007, jl_10008, jl_10009, jl_10010, jl_10011, jl_10012, jl_10013, jl_10014, jl_10015, jl_10017, jl_10018, jl_10023, jl_12345, jl_1103515245, jN_add, jN_mul, jN_sub, jN_addm, jN_div, jN_irm, jN_nat, le_T, le_F, lt_T, lt_F, eq_F, ib_T, ib_F, add_j0, if_true, if_false, eq_self, Bool.false_eq_true, Option.bind_some, pb, jn, Nat.zero_add, Nat.add_zero, m_get, h3]
    · show X12_those_L1 n s (jN 4) (k + 1) _ (jN (nS s)) = _
      rw [X12_those_L1, h4]; simp (disch := omega) only [jl_0, jl_1, jl_2, jl_3, jl_4, jl_5, jl_6, jl_7, jl_8, jl_9, jl_10, jl_11, jl_12, jl_13, jl_14, jl_15, jl_16, jl_17, jl_18, jl_20, jl_23, jl_29, jl_30, jl_31, jl_32, jl_35, jl_40, jl_48, jl_50, jl_51, jl_57, jl_60, jl_61, jl_63, jl_64, jl_65, jl_89, jl_97, jl_99, jl_100, jl_101, jl_113, jl_122, jl_200, jl_240, jl_241, jl_255, jl_259, jl_260, jl_261, jl_262, jl_313, jl_500, jl_999, jl_10000, jl_10004, jl_10005, jl_10006, jl_10007, jl_10008, jl_10009, jl_10010, jl_10011, jl_10012, jl_10013, jl_10014, jl_10015, jl_10017, jl_10018, jl_10023, jl_12345, jl_1103515245, jN_add, jN_mul, jN_sub, jN_addm, jN_div, jN_irm, jN_nat, le_T, le_F, lt_T, lt_F, eq_F, ib_T, ib_F, add_j0, if_true, if_false, eq_self, Bool.false_eq_true, Option.bind_some, pb, jn, Nat.zero_add, Nat.add_zero]; rfl
  unfold X12_those
  rw [show (4 : Int32) = jN 4 from rfl, show (0 : Int32) = jN 0 from rfl, L]; rfl
theorem c_rightSet {s : Nat → Int32} (h : GS s) {n : Nat} (hn : 7 ≤ n) : X9_rightSet_q0 n (dOf s) (s 4) = some (rsN s) := by
  obtain ⟨hc, h4⟩ := h.n
  have L : X9_rightSet_q0_L1 n (dOf s) (s 4) n (jN 0) (jN 0) = some (rsN s, jN (nS s)) := by
    refine lp_0 (fun k j => X9_rightSet_q0_L1 n (dOf s) (s 4) k (rsS s j) (jN j)) (nS s) (by omega) (fun k j hj => ?_) (fun k => ?_)
    · obtain ⟨a, ha, h3⟩ := h.right (k := j) (by omega)
      show X9_rightSet_q0_L1 n (dOf s) (s 4) (k + 1) _ (jN j) = X9_rightSet_q0_L1 n (dOf s) (s 4) k (if s (iD j 4) = 0 then rsS s j else rsS s j ||| ((1 : Int32) <<< (jN j &&& 31))) (jN (j + 1))
      rw [X9_rightSet_q0_L1, h4, h3]
      (have : a = 0 ∨ a = 1 := by omega)
      rcases this with rfl | rfl
      · simp (disch := omega) only [jl_0, jl_1, jl_2, jl_3, jl_4, jl_5, jl_6, jl_7, jl_8, jl_9, jl_10, jl_11, jl_12, jl_13, jl_14, jl_15, jl_16, jl_17, jl_18, jl_20, jl_23, jl_29, jl_30, jl_31, jl_32, jl_35, jl_40, jl_48, jl_50, jl_51, jl_57, jl_60, jl_61, jl_63, jl_64, jl_65, jl_89, jl_97, jl_99, jl_100, jl_101, jl_113, jl_122, jl_200, jl_240, jl_241, jl_255, jl_259, jl_260, jl_261, jl_262, jl_313, jl_500, jl_999, jl_10000, jl_10004, jl_10005, jl_10006, jl_10007, jl_10008, jl_10009, jl_10010, jl_10011, jl_10012, jl_10013, jl_10014, jl_10015, jl_10017, jl_10018, jl_10023, jl_12345, jl_1103515245, jN_add, jN_mul, jN_sub, jN_addm, jN_div, jN_irm, jN_nat, le_T, le_F, lt_T, lt_F, eq_F, ib_T, ib_F, add_j0, if_true, if_false, eq_self, Bool.false_eq_true, Option.bind_some, pb, jn, Nat.zero_add, Nat.add_zero, c_isRight h, h3]
      · simp (disch := omega) only [jl_0, jl_1, jl_2, jl_3, jl_4, jl_5, jl_6, jl_7, jl_8, jl_9, jl_10, jl_11, jl_12, jl_13, jl_14, jl_15, jl_16, jl_17, jl_18, jl_20, jl_23, jl_29, jl_30, jl_31, jl_32, jl_35, jl_40, jl_48, jl_50, jl_51, jl_57, jl_60, jl_61, jl_63, jl_64, jl_65, jl_89, jl_97, jl_99, jl_100, jl_101, jl_113, jl_122, jl_200, jl_240, jl_241, jl_255, jl_259, jl_260, jl_261, jl_262, jl_313, jl_500, jl_999, jl_10000, jl_10004, jl_10005, jl_10006, jl_10007, jl_10008, jl_10009, jl_10010, jl_10011, jl_10012, jl_10013, jl_10014, jl_10015, jl_10017, jl_10018, jl_10023, jl_12345, jl_1103515245, jN_add, jN_mul, jN_sub, jN_addm, jN_div, jN_irm, jN_nat, le_T, le_F, lt_T, lt_F, eq_F, ib_T, ib_F, add_j0, if_true, if_false, eq_self, Bool.false_eq_true, Option.bind_some, pb, jn, Nat.zero_add, Nat.add_zero, c_isRight h, h3]
    · show X9_rightSet_q0_L1 n (dOf s) (s 4) (k + 1) _ (jN (nS s)) = _
      rw [X9_rightSet_q0_L1, h4]; simp (disch := omega) only [jl_0, jl_1, jl_2, jl_3, jl_4, jl_5, jl_6, jl_7, jl_8, jl_9, jl_10, jl_11, jl_12, jl_13, jl_14, jl_15, jl_16, jl_17, jl_18, jl_20, jl_23, jl_29, jl_30, jl_31, jl_32, jl_35, jl_40, jl_48, jl_50, jl_51, jl_57, jl_60, jl_61, jl_63, jl_64, jl_65, jl_89, jl_97, jl_99, jl_100, jl_101, jl_113, jl_122, jl_200, jl_240, jl_241, jl_255, jl_259, jl_260, jl_261, jl_262, jl_313, jl_500, jl_999, jl_10000, jl_10004, jl_10005, jl_10006, jl_10007, jl_10008, jl_10009, jl_10010, jl_10011, jl_10012, jl_10013, jl_10014, jl_10015, jl_10017, jl_10018, jl_10023, jl_12345, jl_1103515245, jN_add, jN_mul, jN_sub, jN_addm, jN_div, jN_irm, jN_nat, le_T, le_F, lt_T, lt_F, eq_F, ib_T, ib_F, add_j0, if_true, if_false, eq_self, Bool.false_eq_true, Option.bind_some, pb, jn, Nat.zero_add, Nat.add_zero]; rfl
  unfold X9_rightSet_q0
  rw [show (0 : Int32) = jN 0 from rfl, L]; rfl
