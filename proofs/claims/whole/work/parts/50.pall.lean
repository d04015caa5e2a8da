section GALL
variable {n ρ nr : Nat} {gc : Nat → Int32} {gk gw gs gd : Nat → Nat → Int32} {kl wl sl cl : Nat → Nat} {W : Int32 → (Nat → Int32) → Int32} {s : Nat → Int32}
theorem it_or {si : Nat → Int32} {k L : Nat} (hk : k < 4) (hL : L ≤ 40) (e : si k = jN L) (v : Int32) : (X2_hasItem si (jN k) (v + jN 0) = some 0 ∧ X12_isItem si (jN k) v (jN 0) = some 0) ∨ ∃ a, a < L ∧ v = jN a := by
  rw [show v + jN 0 = v from Int32.add_zero v]
  unfold X2_hasItem X12_isItem
  rcases jN_cases v with hv | ⟨a, ha, rfl⟩
  · left; rw [if_pos hv, if_pos hv]; exact ⟨rfl, rfl⟩
  · by_cases hq : a < L
    · exact Or.inr ⟨a, hq, rfl⟩
    · left
      rw [if_neg (show ¬ jN a < 0 by simp (disch := omega) only [jl_0, jl_1, jl_2, jl_3, jl_4, jl_5, jl_6, jl_7, jl_8, jl_9, jl_10, jl_11, jl_12, jl_13, jl_14, jl_15, jl_16, jl_17, jl_18, jl_20, jl_23, jl_29, jl_30, jl_31, jl_32, jl_35, jl_40, jl_48, jl_50, jl_51, jl_57, jl_60, jl_61, jl_63, jl_64, jl_65, jl_89, jl_97, jl_99, jl_100, jl_101, jl_113, jl_122, jl_200, jl_240, jl_241, jl_255, jl_259, jl_260, jl_261, jl_262, jl_313, jl_500, jl_999, jl_10000, jl_10004, jl_10005, jl_10006, jl_10007, jl_10008, jl_10009, jl_10010, jl_10011, jl_10012, jl_10013, jl_10014, jl_10015, jl_10017, jl_10018, jl_10023, jl_12345, jl_1103515245, jN_add, jN_mul, jN_sub, jN_addm, jN_div, jN_irm, jN_nat, le_T, le_F, lt_T, lt_F, eq_F, ib_T, ib_F, add_j0, if_true, if_false, eq_self, Bool.false_eq_true, Option.bind_some, pb, jn, Nat.zero_add, Nat.add_zero]; exact not_false), if_neg (show ¬ jN a < 0 by simp (disch := omega) only [jl_0, jl_1, jl_2, jl_3, jl_4, jl_5, jl_6, jl_7, jl_8, jl_9, jl_10, jl_11, jl_12, jl_13, jl_14, jl_15, jl_16, jl_17, jl_18, jl_20, jl_23, jl_29, jl_30, jl_31, jl_32, jl_35, jl_40, jl_48, jl_50, jl_51, jl_57, jl_60, jl_61, jl_63, jl_64, jl_65, jl_89, jl_97, jl_99, jl_100, jl_101, jl_113, jl_122, jl_200, jl_240, jl_241, jl_255, jl_259, jl_260, jl_261, jl_262, jl_313, jl_500, jl_999, jl_10000, jl_10004, jl_10005, jl_10006, jl_10007, jl_10008, jl_10009, jl_10010, jl_10011, jl_10012, jl_10013, jl_10014, jl_10015, jl_10017, jl_10018, jl_10023, jl_12345, jl_1103515245, jN_add, jN_mul, jN_sub, jN_addm, jN_div, jN_irm, jN_nat, le_T, le_F, lt_T, lt_F, eq_F, ib_T, ib_F, add_j0, if_true, if_false, eq_self, Bool.false_eq_true, Option.bind_some, pb, jn, Nat.zero_add, Nat.add_zero]; exact not_false), ib_T hk (by omega), jN_nat (show k < 2147483648 by omega), e]
      simp only [if_true]
      rw [show jN L - jN 0 = jN L from by simp (disch := omega) only [jl_0, jl_1, jl_2, jl_3, jl_4, jl_5, jl_6, jl_7, jl_8, jl_9, jl_10, jl_11, jl_12, jl_13, jl_14, jl_15, jl_16, jl_17, jl_18, jl_20, jl_23, jl_29, jl_30, jl_31, jl_32, jl_35, jl_40, jl_48, jl_50, jl_51, jl_57, jl_60, jl_61, jl_63, jl_64, jl_65, jl_89, jl_97, jl_99, jl_100, jl_101, jl_113, jl_122, jl_200, jl_240, jl_241, jl_255, jl_259, jl_260, jl_261, jl_262, jl_313, jl_500, jl_999, jl_10000, jl_10004, jl_10005, jl_10006, jl_10007, jl_10008, jl_10009, jl_10010, jl_10011, jl_10012, jl_10013, jl_10014, jl_10015, jl_10017, jl_10018, jl_10023, jl_12345, jl_1103515245, jN_add, jN_mul, jN_sub, jN_addm, jN_div, jN_irm, jN_nat, le_T, le_F, lt_T, lt_F, eq_F, ib_T, ib_F, add_j0, if_true, if_false, eq_self, Bool.false_eq_true, Option.bind_some, pb, jn, Nat.zero_add, Nat.add_zero, Nat.sub_zero], if_pos (show jN L ≤ jN a by simp (disch := omega) only [jl_0, jl_1, jl_2, jl_3, jl_4, jl_5, jl_6, jl_7, jl_8, jl_9, jl_10, jl_11, jl_12, jl_13, jl_14, jl_15, jl_16, jl_17, jl_18, jl_20, jl_23, jl_29, jl_30, jl_31, jl_32, jl_35, jl_40, jl_48, jl_50, jl_51, jl_57, jl_60, jl_61, jl_63, jl_64, jl_65, jl_89, jl_97, jl_99, jl_100, jl_101, jl_113, jl_122, jl_200, jl_240, jl_241, jl_255, jl_259, jl_260, jl_261, jl_262, jl_313, jl_500, jl_999, jl_10000, jl_10004, jl_10005, jl_10006, jl_10007, jl_10008, jl_10009, jl_10010, jl_10011, jl_10012, jl_10013, jl_10014, jl_10015, jl_10017, jl_10018, jl_10023, jl_12345, jl_1103515245, jN_add, jN_mul, jN_sub, jN_addm, jN_div, jN_irm, jN_nat, le_T, le_F, lt_T, lt_F, eq_F, ib_T, ib_F, add_j0, if_true, if_false, eq_self, Bool.false_eq_true, Option.bind_some, pb, jn, Nat.zero_add, Nat.add_zero])]
      exact ⟨rfl, rfl⟩
theorem it_at {si : Nat → Int32} {k L : Nat} (hk : k < 4) (hL : L ≤ 40) (e : si k = jN L) {a j : Nat} (haj : a + j ≤ L) : (a + j = L ∧ X2_hasItem si (jN k) (jN a + jN j) = some 0 ∧ X12_isItem si (jN k) (jN a) (jN j) = some 0) ∨ (a + j < L ∧ X2_hasItem si (jN k) (jN a + jN j) = some 1 ∧ X12_isItem si (jN k) (jN a) (jN j) = some 1) := by
  unfold X2_hasItem X12_isItem
  rw [show jN a + jN j = jN (a + j) from by simp (disch := omega) only [jl_0, jl_1, jl_2, jl_3, jl_4, jl_5, jl_6, jl_7, jl_8, jl_9, jl_10, jl_11, jl_12, jl_13, jl_14, jl_15, jl_16, jl_17, jl_18, jl_20, jl_23, jl_29, jl_30, jl_31, jl_32, jl_35, jl_40, jl_48, jl_50, jl_51, jl_57, jl_60, jl_61, jl_63, jl_64, jl_65, jl_89, jl_97, jl_99, jl_100, jl_101, jl_113, jl_122, jl_200, jl_240, jl_241, jl_255, jl_259, jl_260, jl_261, jl_262, jl_313, jl_500, jl_999, jl_10000, jl_10004, jl_10005, jl_10006, jl_10007, jl_10008, jl_10009, jl_10010, jl_10011, jl_10012, jl_10013, jl_10014, jl_10015, jl_10017, jl_10018, jl_10023, jl_12345, jl_1103515245, jN_add, jN_mul, jN_sub, jN_addm, jN_div, jN_irm, jN_nat, le_T, le_F, lt_T, lt_F, eq_F, ib_T, ib_F, add_j0, if_true, if_false, eq_self, Bool.false_eq_true, Option.bind_some, pb, jn, Nat.zero_add, Nat.add_zero], if_neg (show ¬ jN (a + j) < 0 by simp (disch := omega) only [jl_0, jl_1, jl_2, jl_3, jl_4, jl_5, jl_6, jl_7, jl_8, jl_9, jl_10, jl_11, jl_12, jl_13, jl_14, jl_15, jl_16, jl_17, jl_18, jl_20, jl_23, jl_29, jl_30, jl_31, jl_32, jl_35, jl_40, jl_48, jl_50, jl_51, jl_57, jl_60, jl_61, jl_63, jl_64, jl_65, jl_89, jl_97, jl_99, jl_100, jl_101, jl_113, jl_122, jl_200, jl_240, jl_241, jl_255, jl_259, jl_260, jl_261, jl_262, jl_313, jl_500, jl_999, jl_10000, jl_10004, jl_10005, jl_10006, jl_10007, jl_10008, jl_10009, jl_10010, jl_10011, jl_10012, jl_10013, jl_10014, jl_10015, jl_10017, jl_10018, jl_10023, jl_12345, jl_1103515245, jN_add, jN_mul, jN_sub, jN_addm, jN_div, jN_irm, jN_nat, le_T, le_F, lt_T, lt_F, eq_F, ib_T, ib_F, add_j0, if_true, if_false, eq_self, Bool.false_eq_true, Option.bind_some, pb, jn, Nat.zero_add, Nat.add_zero]; exact not_false), if_neg (show ¬ jN a < 0 by simp (disch := omega) only [jl_0, jl_1, jl_2, jl_3, jl_4, jl_5, jl_6, jl_7, jl_8, jl_9, jl_10, jl_11, jl_12, jl_13, jl_14, jl_15, jl_16, jl_17, jl_18, jl_20, jl_23, jl_29, jl_30, jl_31, jl_32, jl_35, jl_40, jl_48, jl_50, jl_51, jl_57, jl_60, jl_61, jl_63, jl_64, jl_65, jl_89, jl_97, jl_99, jl_100, jl_101, jl_113, jl_122, jl_200, jl_240, jl_241, jl_255, jl_259, jl_260, jl_261, jl_262, jl_313, jl_500, jl_999, jl_10000, jl_10004, jl_10005, jl_10006, jl_10007, jl_10008, jl_10009, jl_10010, jl_10011, jl_10012, jl_10013, jl_10014, jl_10015, jl_10017, jl_10018, jl_10023, jl_12345, jl_1103515245, jN_add, jN_mul, jN_sub, jN_addm, jN_div, jN_irm, jN_nat, le_T, le_F, lt_T, lt_F, eq_F, ib_T, ib_F, add_j0, if_true, if_false, eq_self, Bool.false_eq_true, Option.bind_some, pb, jn, Nat.zero_add, Nat.add_zero]; exact not_false), ib_T hk (by omega), jN_nat (show k < 2147483648 by omega), e, show jN L - jN j = jN (L - j) from by simp (disch := omega) only [jl_0, jl_1, jl_2, jl_3, jl_4, jl_5, jl_6, jl_7, jl_8, jl_9, jl_10, jl_11, jl_12, jl_13, jl_14, jl_15, jl_16, jl_17, jl_18, jl_20, jl_23, jl_29, jl_30, jl_31, jl_32, jl_35, jl_40, jl_48, jl_50, jl_51, jl_57, jl_60, jl_61, jl_63, jl_64, jl_65, jl_89, jl_97, jl_99, jl_100, jl_101, jl_113, jl_122, jl_200, jl_240, jl_241, jl_255, jl_259, jl_260, jl_261, jl_262, jl_313, jl_500, jl_999, jl_10000, jl_10004, jl_10005, jl_10006, jl_10007, jl_10008, jl_10009, jl_10010, jl_10011, jl_10012, jl_10013, jl_10014, jl_10015, jl_10017, jl_10018, jl_10023, jl_12345, jl_1103515245, jN_add, jN_mul, jN_sub, jN_addm, jN_div, jN_irm, jN_nat, le_T, le_F, lt_T, lt_F, eq_F, ib_T, ib_F, add_j0, if_true, if_false, eq_self, Bool.false_eq_true, Option.bind_some, pb, jn, Nat.zero_add, Nat.add_zero]]
  simp only [if_true]
  by_cases hq : a + j = L
  · left
    rw [if_pos (show jN L ≤ jN (a + j) by simp (disch := omega) only [jl_0, jl_1, jl_2, jl_3, jl_4, jl_5, jl_6, jl_7, jl_8, jl_9, jl_10, jl_11, jl_12, jl_13, jl_14, jl_15, jl_16, jl_17, jl_18, jl_20, jl_23, jl_29, jl_30, jl_31, jl_32, jl_35, jl_40, jl_48, jl_50, jl_51, jl_57, jl_60, jl_61, jl_63, jl_64, jl_65, jl_89, jl_97, jl_99, jl_100, jl_101, jl_113, jl_122, jl_200, jl_240, jl_241, jl_255, jl_259, jl_260, jl_261, jl_262, jl_313, jl_500, jl_999, jl_10000, jl_10004, jl_10005, jl_10006, jl_10007, jl_10008, jl_10009, jl_10010, jl_10011, jl_10012, jl_10013, jl_10014, jl_10015, jl_10017, jl_10018, jl_10023, jl_12345, jl_1103515245, jN_add, jN_mul, jN_sub, jN_addm, jN_div, jN_irm, jN_nat, le_T, le_F, lt_T, lt_F, eq_F, ib_T, ib_F, add_j0, if_true, if_false, eq_self, Bool.false_eq_true, Option.bind_some, pb, jn, Nat.zero_add, Nat.add_zero]), if_pos (show jN (L - j) ≤ jN a by simp (disch := omega) only [jl_0, jl_1, jl_2, jl_3, jl_4, jl_5, jl_6, jl_7, jl_8, jl_9, jl_10, jl_11, jl_12, jl_13, jl_14, jl_15, jl_16, jl_17, jl_18, jl_20, jl_23, jl_29, jl_30, jl_31, jl_32, jl_35, jl_40, jl_48, jl_50, jl_51, jl_57, jl_60, jl_61, jl_63, jl_64, jl_65, jl_89, jl_97, jl_99, jl_100, jl_101, jl_113, jl_122, jl_200, jl_240, jl_241, jl_255, jl_259, jl_260, jl_261, jl_262, jl_313, jl_500, jl_999, jl_10000, jl_10004, jl_10005, jl_10006, jl_10007, jl_10008, jl_10009, jl_10010, jl_10011, jl_10012, jl_10013, jl_10014, jl_10015, jl_10017, jl_10018, jl_10023, jl_12345, jl_1103515245, jN_add, jN_mul, jN_sub, jN_addm, jN_div, jN_irm, jN_nat, le_T, le_F, lt_T, lt_F, eq_F, ib_T, ib_F, add_j0, if_true, if_false, eq_self, Bool.false_eq_true, Option.bind_some, pb, jn, Nat.zero_add, Nat.add_zero])]
    exact ⟨hq, rfl, rfl⟩
  · right
    rw [if_neg (show ¬ jN L ≤ jN (a + j) by simp (disch := omega) only [jl_0, jl_1, jl_2, jl_3, jl_4, jl_5, jl_6, jl_7, jl_8, jl_9, jl_10, jl_11, jl_12, jl_13, jl_14, jl_15, jl_16, jl_17, jl_18, jl_20, jl_23, jl_29, jl_30, jl_31, jl_32, jl_35, jl_40, jl_48, jl_50, jl_51, jl_57, jl_60, jl_61, jl_63, jl_64, jl_65, jl_89, jl_97, jl_99, jl_100, jl_101, jl_113, jl_122, jl_200, jl_240, jl_241, jl_255, jl_259, jl_260, jl_261, jl_262, jl_313, jl_500, jl_999, jl_10000, jl_10004, jl_10005, jl_10006, jl_10007, jl_10008, jl_10009, jl_10010, jl_10011, jl_10012, jl_10013, jl_10014, jl_10015, jl_10017, jl_10018, jl_10023, jl_12345, jl_1103515245, jN_add, jN_mul, jN_sub, jN_addm, jN_div, jN_irm, jN_nat, le_T, le_F, lt_T, lt_F, eq_F, ib_T, ib_F, add_j0, if_true, if_false, eq_self, Bool.false_eq_true, Option.bind_some, pb, jn, Nat.zero_add, Nat.add_zero]; exact not_false), if_neg (show ¬ jN (L - j) ≤ jN a by simp (disch := omega) only [jl_0, jl_1, jl_2, jl_3, jl_4, jl_5, jl_6, jl_7, jl_8, jl_9, jl_10, jl_11, jl_12, jl_13, jl_14, jl_15, jl_16, jl_17, jl_18, jl_20, jl_23, jl_29, jl_30, jl_31, jl_32, jl_35, jl_40, jl_48, jl_50, jl_51, jl_57, jl_60, jl_61, jl_63, jl_64, jl_65, jl_89, jl_97, jl_99, jl_100, jl_101, jl_113, jl_122, jl_200, jl_240, jl_241, jl_255, jl_259, jl_260, jl_261, jl_262, jl_313, jl_500, jl_999, jl_10000, jl_10004, jl_10005, jl_10006, jl_10007, jl_10008, jl_10009, jl_10010, jl_10011, jl_10012, jl_10013, jl_10014, jl_10015, jl_10017, jl_10018, jl_10023, jl_12345, jl_1103515245, jN_add, jN_mul, jN_sub, jN_addm, jN_div, jN_irm, jN_nat, le_T, le_F, lt_T, lt_F, eq_F, ib_T, ib_F, add_j0, if_true, if_false, eq_self, Bool.false_eq_true, Option.bind_some, pb, jn, Nat.zero_add, Nat.add_zero]; exact not_false)]
    exact ⟨by omega, rfl, rfl⟩
theorem o_goAll (hn : 70 ≤ n) (hC : RC n ρ gc gk gw gs gd kl wl sl cl W) (hr : ρ < nr) (hM : RM n s W) (h : GS s) {so si : Nat → Int32} (hS : HS so si) (q sh fa : Nat → Int32) (st : Nat → Nat → Int32) (pile : Nat → Int32) (v1 v2 v3 : Int32) :
    ∃ r u sh' fa' st' pile', X11_goAll n (dOf s) (pOf s) (kOf s) (s 4) (s 0) (s 1) (s 2) ρ sh fa so si (iOf q) gc gk gw gs gd st kl wl sl cl nr v1 v2 v3 = some (r, dOf u, u 0, u 2, sh', fa', st') ∧ X12_goAll n s pile so si q v1 v2 v3 = some (r, u, pile') ∧ GS u ∧ FG u s ∧ u 3 = s 3 := by
  unfold X11_goAll X12_goAll
  rw [isSh_eq, isIn_eq]
  rcases sh_or v1 with e | ⟨k, hk, rfl, e⟩
  · rw [e, if_pos (show jN 0 = 0 from rfl), if_pos (show jN 0 = 0 from rfl)]; exact ⟨_, s, _, _, _, _, rfl, rfl, h, FG.refl s, rfl⟩
  rw [e, if_neg (show ¬ jN 1 = 0 by decide), if_neg (show ¬ jN 1 = 0 by decide)]
  rcases in1_or v3 0 20 (by decide) (by decide) with e1 | ⟨N, -, hN, rfl⟩
  · rw [show X12_in1 v3 (0 : Int32) (20 : Int32) = jN 0 from e1, if_pos (show jN 0 = 0 from rfl), if_pos (show jN 0 = 0 from rfl)]; exact ⟨_, s, _, _, _, _, rfl, rfl, h, FG.refl s, rfl⟩
  rw [show X12_in1 (jN N) (0 : Int32) (20 : Int32) = jN 1 from in1_T (Nat.zero_le _) hN (by decide), if_neg (show ¬ jN 1 = 0 by decide), if_neg (show ¬ jN 1 = 0 by decide)]
  obtain ⟨L, hL, eL⟩ := (hS k hk).2
  obtain ⟨f1, r1, f2⟩ := lack_eq hS hk 0
  rw [f1, f2]
  simp only [Option.bind_some, jn]
  by_cases hr1 : r1 = 0
  rotate_left
  · rw [if_neg hr1, if_neg hr1]; exact ⟨_, s, _, _, _, _, rfl, rfl, h, FG.refl s, rfl⟩
  rw [if_pos hr1, if_pos hr1]
  have hn6 := h.n.1
  have main : ∀ (d m m3 j : Nat), j + d = N → d < m → d < m3 → ∀ (x : Int32) (u : Nat → Int32) (pile sh fa : Nat → Int32) (st : Nat → Nat → Int32), GS u → RM n u W → FG u s → u 3 = s 3 → ((j = 0 ∧ X2_hasItem si (jN k) (v2 + jN 0) = some 0 ∧ X12_isItem si (jN k) v2 (jN 0) = some 0) ∨ ∃ a, a + j ≤ L ∧ v2 = jN a) →
      ∃ r u' sh' fa' st' pile', X11_goAll_L1 n (pOf s) (kOf s) (s 4) (s 1) ρ si (iOf q) gc gk gw gs gd kl wl sl cl nr (jN k) v2 (jN N) (fun o10 => some (o10.1, o10.2.2.1, o10.2.2.2.1, o10.2.2.2.2.1, o10.2.2.2.2.2.1, o10.2.2.2.2.2.2.1, o10.2.2.2.2.2.2.2)) m x (jN j) (dOf u) (u 0) (u 2) sh fa st = some (r, dOf u', u' 0, u' 2, sh', fa', st') ∧ X12_goAll_L1 n si q (jN k) v2 (jN N) (fun o9 => some (o9.1, o9.2.2.1, o9.2.2.2)) m3 x (jN j) u pile = some (r, u', pile') ∧ GS u' ∧ FG u' s ∧ u' 3 = s 3 := by
    intro d
    induction d with
    | zero =>
      intro m m3 j hj hm hm3 x u pile sh fa st hg hMu hf h3 _
      obtain ⟨m, rfl⟩ : ∃ y, m = y + 1 := ⟨m - 1, by omega⟩
      obtain ⟨m3, rfl⟩ : ∃ y, m3 = y + 1 := ⟨m3 - 1, by omega⟩
      have : j = N := by omega
      subst this
      refine ⟨x, u, sh, fa, st, pile, ?_, ?_, hg, hf, h3⟩
      · rw [X11_goAll_L1, if_pos (Int32.le_refl _)]
      · rw [X12_goAll_L1, if_pos (Int32.le_refl _)]
    | succ d ih =>
      intro m m3 j hj hm hm3 x u pile sh fa st hg hMu hf h3 hv
      obtain ⟨m, rfl⟩ : ∃ y, m = y + 1 := ⟨m - 1, by omega⟩
      obtain ⟨m3, rfl⟩ : ∃ y, m3 = y + 1 := ⟨m3 - 1, by omega⟩
      have hle : ¬ jN N ≤ jN j := by simp (disch := omega) only [jl_0, jl_1, jl_2, jl_3, jl_4, jl_5, jl_6, jl_7, jl_8, jl_9, jl_10, jl_11, jl_12, jl_13, jl_14, jl_15, jl_16, jl_17, jl_18, jl_20, jl_23, jl_29, jl_30, jl_31, jl_32, jl_35, jl_40, jl_48, jl_50, jl_51, jl_57, jl_60, jl_61, jl_63, jl_64, jl_65, jl_89, jl_97, jl_99, jl_100, jl_101, jl_113, jl_122, jl_200, jl_240, jl_241, jl_255, jl_259, jl_260, jl_261, jl_262, jl_313, jl_500, jl_999, jl_10000, jl_10004, jl_10005, jl_10006, jl_10007, jl_10008, jl_10009, jl_10010, jl_10011, jl_10012, jl_10013, jl_10014, jl_10015, jl_10017, jl_10018, jl_10023, jl_12345, jl_1103515245, jN_add, jN_mul, jN_sub, jN_addm, jN_div, jN_irm, jN_nat, le_T, le_F, lt_T, lt_F, eq_F, ib_T, ib_F, add_j0, if_true, if_false, eq_self, Bool.false_eq_true, Option.bind_some, pb, jn, Nat.zero_add, Nat.add_zero]; exact not_false
      rw [X11_goAll_L1, X12_goAll_L1, if_neg hle, if_neg hle]
      rcases hv with ⟨rfl, z1, z2⟩ | ⟨a, haj, rfl⟩
      · rw [z1, z2]
        exact ⟨_, u, _, _, _, _, rfl, rfl, hg, hf, h3⟩
      rcases it_at hk hL eL haj with ⟨y0, y1, y2⟩ | ⟨y0, y1, y2⟩
      · rw [y1, y2]
        exact ⟨_, u, _, _, _, _, rfl, rfl, hg, hf, h3⟩
      rw [y1, y2]
      simp only [Option.bind_some]
      rw [if_neg (show ¬ (1 : Int32) = 0 by decide), if_neg (show ¬ (1 : Int32) = 0 by decide), show (40 : Int32) * jN k + jN a + jN j = jN (40 * k + a + j) from by simp (disch := omega) only [jl_0, jl_1, jl_2, jl_3, jl_4, jl_5, jl_6, jl_7, jl_8, jl_9, jl_10, jl_11, jl_12, jl_13, jl_14, jl_15, jl_16, jl_17, jl_18, jl_20, jl_23, jl_29, jl_30, jl_31, jl_32, jl_35, jl_40, jl_48, jl_50, jl_51, jl_57, jl_60, jl_61, jl_63, jl_64, jl_65, jl_89, jl_97, jl_99, jl_100, jl_101, jl_113, jl_122, jl_200, jl_240, jl_241, jl_255, jl_259, jl_260, jl_261, jl_262, jl_313, jl_500, jl_999, jl_10000, jl_10004, jl_10005, jl_10006, jl_10007, jl_10008, jl_10009, jl_10010, jl_10011, jl_10012, jl_10013, jl_10014, jl_10015, jl_10017, jl_10018, jl_10023, jl_12345, jl_1103515245, jN_add, jN_mul, jN_sub, jN_addm, jN_div, jN_irm, jN_nat, le_T, le_F, lt_T, lt_F, eq_F, ib_T, ib_F, add_j0, if_true, if_false, eq_self, Bool.false_eq_true, Option.bind_some, pb, jn, Nat.zero_add, Nat.add_zero], show jN a + jN j = jN (a + j) from by simp (disch := omega) only [jl_0, jl_1, jl_2, jl_3, jl_4, jl_5, jl_6, jl_7, jl_8, jl_9, jl_10, jl_11, jl_12, jl_13, jl_14, jl_15, jl_16, jl_17, jl_18, jl_20, jl_23, jl_29, jl_30, jl_31, jl_32, jl_35, jl_40, jl_48, jl_50, jl_51, jl_57, jl_60, jl_61, jl_63, jl_64, jl_65, jl_89, jl_97, jl_99, jl_100, jl_101, jl_113, jl_122, jl_200, jl_240, jl_241, jl_255, jl_259, jl_260, jl_261, jl_262, jl_313, jl_500, jl_999, jl_10000, jl_10004, jl_10005, jl_10006, jl_10007, jl_10008, jl_10009, jl_10010, jl_10011, jl_10012, jl_10013, jl_10014, jl_10015, jl_10017, jl_10018, jl_10023, jl_12345, jl_1103515245, jN_add, jN_mul, jN_sub, jN_addm, jN_div, jN_irm, jN_nat, le_T, le_F, lt_T, lt_F, eq_F, ib_T, ib_F, add_j0, if_true, if_false, eq_self, Bool.false_eq_true, Option.bind_some, pb, jn, Nat.zero_add, Nat.add_zero], ib_T hk (by omega), ib_T (show a + j < 40 by omega) (by omega), ib_T (show 40 * k + a + j < 160 by omega) (by omega), jN_nat (show k < 2147483648 by omega), jN_nat (show a + j < 2147483648 by omega), jN_nat (show 40 * k + a + j < 2147483648 by omega), iOf_at hk (by omega), ← Nat.add_assoc, show jN j + (1 : Int32) = jN (j + 1) from by simp (disch := omega) only [jl_0, jl_1, jl_2, jl_3, jl_4, jl_5, jl_6, jl_7, jl_8, jl_9, jl_10, jl_11, jl_12, jl_13, jl_14, jl_15, jl_16, jl_17, jl_18, jl_20, jl_23, jl_29, jl_30, jl_31, jl_32, jl_35, jl_40, jl_48, jl_50, jl_51, jl_57, jl_60, jl_61, jl_63, jl_64, jl_65, jl_89, jl_97, jl_99, jl_100, jl_101, jl_113, jl_122, jl_200, jl_240, jl_241, jl_255, jl_259, jl_260, jl_261, jl_262, jl_313, jl_500, jl_999, jl_10000, jl_10004, jl_10005, jl_10006, jl_10007, jl_10008, jl_10009, jl_10010, jl_10011, jl_10012, jl_10013, jl_10014, jl_10015, jl_10017, jl_10018, jl_10023, jl_12345, jl_1103515245, jN_add, jN_mul, jN_sub, jN_addm, jN_div, jN_irm, jN_nat, le_T, le_F, lt_T, lt_F, eq_F, ib_T, ib_F, add_j0, if_true, if_false, eq_self, Bool.false_eq_true, Option.bind_some, pb, jn, Nat.zero_add, Nat.add_zero]]
      simp only [if_true]
      have e4 : u 4 = s 4 := hf.low (by omega) (by omega) (by omega) (by omega) hn6
      have e1 : u 1 = s 1 := hf.low (by omega) (by omega) (by omega) (by omega) hn6
      have nx : ∀ (y : Int32) (u : Nat → Int32) (pile sh fa : Nat → Int32) (st : Nat → Nat → Int32), GS u → RM n u W → FG u s → u 3 = s 3 → _ := fun y u pile sh fa st g1 g2 g3 g4 => ih m m3 (j + 1) (by omega) (by omega) (by omega) y u pile sh fa st g1 g2 g3 g4 (Or.inr ⟨a, by omega, rfl⟩)
      rw [← e4, ← e1]
      rcases act_or hg (q (40 * k + a + j)) with ⟨a1, a2⟩ | ⟨b, hb, a0, a1, a2⟩
      · rw [a1, a2]
        simp only [if_true, Option.bind_some]
        rw [Int32.add_zero, e4, e1]
        exact nx x u pile sh fa st hg hMu hf h3
      · rw [a1, a2, if_neg (show ¬ (1 : Int32) = 0 by decide), if_neg (show ¬ (1 : Int32) = 0 by decide)]
        by_cases hq : goB u = true
        · obtain ⟨p1, g1⟩ := m_goesBy (W := W) hMu hg (by omega) pile hb
          obtain ⟨sh1, fa1, st1, g2⟩ := c_goBy (W := W) hC hr hg (by omega) sh fa st hb
          have i1 := goW_g (W := W) hg hb (of_decide_eq_true hq)
          have i2 := goW_G (W := W) hg hb
          have i3 := goW_3 (W := W) hg hb
          have hf2 : FG (goW W u b).2 s := i2.trans hf hn6
          rw [← hf.pOfE hn6, ← hf.kOfE hn6]
          rw [a0, c_oT hq, m_oT hq, if_pos rfl, if_pos rfl, g2, g1]
          simp only [Option.bind_some]
          rw [e4, e1, hf.pOfE hn6, hf.kOfE hn6]
          exact nx _ _ p1 sh1 fa1 st1 i1 (hMu.go i2 hg.n.1) hf2 (i3.trans h3)
        · rw [c_oF hq, m_oF hq, if_neg (show ¬ (1 : Int32) = 0 by decide), if_neg (show ¬ (1 : Int32) = 0 by decide)]
          simp only [Option.bind_some]
          rw [Int32.add_zero, e4, e1]
          exact nx x u pile sh fa st hg hMu hf h3
  refine main N n n 0 (by omega) (by omega) (by omega) 0 s pile sh fa st h hM (FG.refl s) rfl ?_
  rcases it_or hk hL eL v2 with z | ⟨a, ha, rfl⟩
  · exact Or.inl ⟨rfl, z⟩
  · exact Or.inr ⟨a, by omega, rfl⟩
end GALL
