/-! Squares: what both sides compute of s. -/
theorem in1_T {a lo hi : Nat} (h1 : lo ≤ a) (h2 : a ≤ hi) (h3 : hi < 2147483648) : X12_in1 (jN a) (jN lo) (jN hi) = jN 1 := by
  unfold X12_in1; simp (disch := omega) only [jl_0, jl_1, jl_2, jl_3, jl_4, jl_5, jl_6, jl_7, jl_8, jl_9, jl_10, jl_11, jl_12, jl_13, jl_14, jl_15, jl_16, jl_17, jl_18, jl_20, jl_23, jl_29, jl_30, jl_31, jl_32, jl_35, jl_40, jl_48, jl_50, jl_51, jl_57, jl_60, jl_61, jl_63, jl_64, jl_65, jl_89, jl_97, jl_99, jl_100, jl_101, jl_113, jl_122, jl_200, jl_240, jl_241, jl_255, jl_259, jl_260, jl_261, jl_262, jl_313, jl_500, jl_999, jl_10000, jl_10004, jl_10005, jl_10006, jl_10007, jl_10008, jl_10009, jl_10010, jl_10011, jl_10012, jl_10013, jl_10014, jl_10015, jl_10017, jl_10018, jl_10023, jl_12345, jl_1103515245, jN_add, jN_mul, jN_sub, jN_addm, jN_div, jN_irm, jN_nat, le_T, le_F, lt_T, lt_F, eq_F, ib_T, ib_F, add_j0, if_true, if_false, eq_self, Bool.false_eq_true, Option.bind_some, pb, jn, Nat.zero_add, Nat.add_zero]
theorem in1_F {a lo hi : Nat} (h1 : a < lo ∨ hi < a) (h3 : a < 2147483648) (h4 : lo < 2147483648) : X12_in1 (jN a) (jN lo) (jN hi) = jN 0 := by
  unfold X12_in1
  by_cases h : a < lo
  · simp (disch := omega) only [jl_0, jl_1, jl_2, jl_3, jl_4, jl_5, jl_6, jl_7, jl_8, jl_9, jl_10, jl_11, jl_12, jl_13, jl_14, jl_15, jl_16, jl_17, jl_18, jl_20, jl_23, jl_29, jl_30, jl_31, jl_32, jl_35, jl_40, jl_48, jl_50, jl_51, jl_57, jl_60, jl_61, jl_63, jl_64, jl_65, jl_89, jl_97, jl_99, jl_100, jl_101, jl_113, jl_122, jl_200, jl_240, jl_241, jl_255, jl_259, jl_260, jl_261, jl_262, jl_313, jl_500, jl_999, jl_10000, jl_10004, jl_10005, jl_10006, jl_10007, jl_10008, jl_10009, jl_10010, jl_10011, jl_10012, jl_10013, jl_10014, jl_10015, jl_10017, jl_10018, jl_10023, jl_12345, jl_1103515245, jN_add, jN_mul, jN_sub, jN_addm, jN_div, jN_irm, jN_nat, le_T, le_F, lt_T, lt_F, eq_F, ib_T, ib_F, add_j0, if_true, if_false, eq_self, Bool.false_eq_true, Option.bind_some, pb, jn, Nat.zero_add, Nat.add_zero]
  · simp (disch := omega) only [jl_0, jl_1, jl_2, jl_3, jl_4, jl_5, jl_6, jl_7, jl_8, jl_9, jl_10, jl_11, jl_12, jl_13, jl_14, jl_15, jl_16, jl_17, jl_18, jl_20, jl_23, jl_29, jl_30, jl_31, jl_32, jl_35, jl_40, jl_48, jl_50, jl_51, jl_57, jl_60, jl_61, jl_63, jl_64, jl_65, jl_89, jl_97, jl_99, jl_100, jl_101, jl_113, jl_122, jl_200, jl_240, jl_241, jl_255, jl_259, jl_260, jl_261, jl_262, jl_313, jl_500, jl_999, jl_10000, jl_10004, jl_10005, jl_10006, jl_10007, jl_10008, jl_10009, jl_10010, jl_10011, jl_10012, jl_10013, jl_10014, jl_10015, jl_10017, jl_10018, jl_10023, jl_12345, jl_1103515245, jN_add, jN_mul, jN_sub, jN_addm, jN_div, jN_irm, jN_nat, le_T, le_F, lt_T, lt_F, eq_F, ib_T, ib_F, add_j0, if_true, if_false, eq_self, Bool.false_eq_true, Option.bind_some, pb, jn, Nat.zero_add, Nat.add_zero]
theorem in1_neg {v : Int32} {lo hi : Nat} (h : v < 0) (h4 : lo < 2147483648) : X12_in1 v (jN lo) (jN hi) = jN 0 := by
  unfold X12_in1
  rw [if_pos (by rw [neg_lt h lo h4]; trivial)]; rfl
theorem in1_N {v : Int32} {lo hi : Nat} (h3 : hi < 2147483648) (h4 : lo < 2147483648) (h : X12_in1 v (jN lo) (jN hi) ≠ 0) : ∃ a, lo ≤ a ∧ a ≤ hi ∧ v = jN a := by
  rcases jN_cases v with hv | ⟨a, ha, rfl⟩
  · exact absurd (in1_neg hv h4) h
  · by_cases h1 : lo ≤ a ∧ a ≤ hi
    · exact ⟨a, h1.1, h1.2, rfl⟩
    · exact absurd (in1_F (by omega) ha h4) h
/-- a test of a range: it fails on both sides, or the number is known -/
theorem in1_or (v : Int32) (lo hi : Nat) (h3 : hi < 2147483648) (h4 : lo < 2147483648) : X12_in1 v (jN lo) (jN hi) = jN 0 ∨ ∃ a, lo ≤ a ∧ a ≤ hi ∧ v = jN a := by
  by_cases h : X12_in1 v (jN lo) (jN hi) = 0
  · exact Or.inl h
  · exact Or.inr (in1_N h3 h4 h)
theorem isIn_eq : X11_isIn = X12_in1 := rfl
theorem NB.mk' {m : Nat} {a : Nat} (h : a ≤ m) : NB m (jN a) := ⟨a, h, rfl⟩
theorem NB.mono {m k : Nat} {x : Int32} (h : NB m x) (hk : m ≤ k) : NB k x := by obtain ⟨a, h1, h2⟩ := h; exact ⟨a, by omega, h2⟩
theorem NB.nat {m : Nat} {x : Int32} (h : NB m x) (hm : m < 2147483648) : x.toNatClampNeg ≤ m ∧ x = jN x.toNatClampNeg := by
  obtain ⟨a, h1, rfl⟩ := h; rw [jN_nat (by omega)]; exact ⟨h1, rfl⟩
theorem irm_4 {x : Int32} (h : NB 15 x) : NB 3 (irm x (jN 4)) := by obtain ⟨a, h1, rfl⟩ := h; simp (disch := omega) only [jl_0, jl_1, jl_2, jl_3, jl_4, jl_5, jl_6, jl_7, jl_8, jl_9, jl_10, jl_11, jl_12, jl_13, jl_14, jl_15, jl_16, jl_17, jl_18, jl_20, jl_23, jl_29, jl_30, jl_31, jl_32, jl_35, jl_40, jl_48, jl_50, jl_51, jl_57, jl_60, jl_61, jl_63, jl_64, jl_65, jl_89, jl_97, jl_99, jl_100, jl_101, jl_113, jl_122, jl_200, jl_240, jl_241, jl_255, jl_259, jl_260, jl_261, jl_262, jl_313, jl_500, jl_999, jl_10000, jl_10004, jl_10005, jl_10006, jl_10007, jl_10008, jl_10009, jl_10010, jl_10011, jl_10012, jl_10013, jl_10014, jl_10015, jl_10017, jl_10018, jl_10023, jl_12345, jl_1103515245, jN_add, jN_mul, jN_sub, jN_addm, jN_div, jN_irm, jN_nat, le_T, le_F, lt_T, lt_F, eq_F, ib_T, ib_F, add_j0, if_true, if_false, eq_self, Bool.false_eq_true, Option.bind_some, pb, jn, Nat.zero_add, Nat.add_zero]; exact ⟨_, by omega, rfl⟩
theorem div_4 {x : Int32} (h : NB 15 x) : NB 3 (x / jN 4) := by obtain ⟨a, h1, rfl⟩ := h; simp (disch := omega) only [jl_0, jl_1, jl_2, jl_3, jl_4, jl_5, jl_6, jl_7, jl_8, jl_9, jl_10, jl_11, jl_12, jl_13, jl_14, jl_15, jl_16, jl_17, jl_18, jl_20, jl_23, jl_29, jl_30, jl_31, jl_32, jl_35, jl_40, jl_48, jl_50, jl_51, jl_57, jl_60, jl_61, jl_63, jl_64, jl_65, jl_89, jl_97, jl_99, jl_100, jl_101, jl_113, jl_122, jl_200, jl_240, jl_241, jl_255, jl_259, jl_260, jl_261, jl_262, jl_313, jl_500, jl_999, jl_10000, jl_10004, jl_10005, jl_10006, jl_10007, jl_10008, jl_10009, jl_10010, jl_10011, jl_10012, jl_10013, jl_10014, jl_10015, jl_10017, jl_10018, jl_10023, jl_12345, jl_1103515245, jN_add, jN_mul, jN_sub, jN_addm, jN_div, jN_irm, jN_nat, le_T, le_F, lt_T, lt_F, eq_F, ib_T, ib_F, add_j0, if_true, if_false, eq_self, Bool.false_eq_true, Option.bind_some, pb, jn, Nat.zero_add, Nat.add_zero]; exact ⟨_, by omega, rfl⟩
/-- how many dials -/
def nS (s : Nat → Int32) : Nat := (s 4).toNatClampNeg
theorem GS.n {s : Nat → Int32} (h : GS s) : nS s ≤ 6 ∧ s 4 = jN (nS s) := h.count.nat (by decide)
theorem m_get {s : Nat → Int32} {k j : Nat} (hk : k < 6) (hj : j < 5) : X12_get s (jN k) (jN j) = some (s (iD k j)) := by
  unfold X12_get iD; simp (disch := omega) only [jl_0, jl_1, jl_2, jl_3, jl_4, jl_5, jl_6, jl_7, jl_8, jl_9, jl_10, jl_11, jl_12, jl_13, jl_14, jl_15, jl_16, jl_17, jl_18, jl_20, jl_23, jl_29, jl_30, jl_31, jl_32, jl_35, jl_40, jl_48, jl_50, jl_51, jl_57, jl_60, jl_61, jl_63, jl_64, jl_65, jl_89, jl_97, jl_99, jl_100, jl_101, jl_113, jl_122, jl_200, jl_240, jl_241, jl_255, jl_259, jl_260, jl_261, jl_262, jl_313, jl_500, jl_999, jl_10000, jl_10004, jl_10005, jl_10006, jl_10007, jl_10008, jl_10009, jl_10010, jl_10011, jl_10012, jl_10013, jl_10014, jl_10015, jl_10017, jl_10018, jl_10023, jl_12345, jl_1103515245, jN_add, jN_mul, jN_sub, jN_addm, jN_div, jN_irm, jN_nat, le_T, le_F, lt_T, lt_F, eq_F, ib_T, ib_F, add_j0, if_true, if_false, eq_self, Bool.false_eq_true, Option.bind_some, pb, jn, Nat.zero_add, Nat.add_zero]
theorem m_puts {s : Nat → Int32} {k j : Nat} {v : Int32} (hk : k < 6) (hj : j < 5) : X12_puts s (jN k) (jN j) v = some (upd s (iD k j) v) := by
  unfold X12_puts iD; simp (disch := omega) only [jl_0, jl_1, jl_2, jl_3, jl_4, jl_5, jl_6, jl_7, jl_8, jl_9, jl_10, jl_11, jl_12, jl_13, jl_14, jl_15, jl_16, jl_17, jl_18, jl_20, jl_23, jl_29, jl_30, jl_31, jl_32, jl_35, jl_40, jl_48, jl_50, jl_51, jl_57, jl_60, jl_61, jl_63, jl_64, jl_65, jl_89, jl_97, jl_99, jl_100, jl_101, jl_113, jl_122, jl_200, jl_240, jl_241, jl_255, jl_259, jl_260, jl_261, jl_262, jl_313, jl_500, jl_999, jl_10000, jl_10004, jl_10005, jl_10006, jl_10007, jl_10008, jl_10009, jl_10010, jl_10011, jl_10012, jl_10013, jl_10014, jl_10015, jl_10017, jl_10018, jl_10023, jl_12345, jl_1103515245, jN_add, jN_mul, jN_sub, jN_addm, jN_div, jN_irm, jN_nat, le_T, le_F, lt_T, lt_F, eq_F, ib_T, ib_F, add_j0, if_true, if_false, eq_self, Bool.false_eq_true, Option.bind_some, pb, jn, Nat.zero_add, Nat.add_zero]
/-! the sky of now -/
def skN (s : Nat → Int32) : Int32 := if 16 ≤ (s 0).toNatClampNeg then 0 else s (7 + (s 0).toNatClampNeg)
theorem skN_b {s : Nat → Int32} (h : GS s) : NB 15 (skN s) := by
  unfold skN; split
  · exact ⟨0, by omega, rfl⟩
  · exact h.sky (by omega)
theorem m_sky {s : Nat → Int32} (h : GS s) : X12_skyNow s = some (skN s) := by
  unfold X12_skyNow skN
  obtain ⟨a, ha, h0⟩ := h.chime
  rw [h0]
  by_cases hc : 16 ≤ a
  · simp (disch := omega) only [jl_0, jl_1, jl_2, jl_3, jl_4, jl_5, jl_6, jl_7, jl_8, jl_9, jl_10, jl_11, jl_12, jl_13, jl_14, jl_15, jl_16, jl_17, jl_18, jl_20, jl_23, jl_29, jl_30, jl_31, jl_32, jl_35, jl_40, jl_48, jl_50, jl_51, jl_57, jl_60, jl_61, jl_63, jl_64, jl_65, jl_89, jl_97, jl_99, jl_100, jl_101, jl_113, jl_122, jl_200, jl_240, jl_241, jl_255, jl_259, jl_260, jl_261, jl_262, jl_313, jl_500, jl_999, jl_10000, jl_10004, jl_10005, jl_10006, jl_10007, jl_10008, jl_10009, jl_10010, jl_10011, jl_10012, jl_10013, jl_10014, jl_10015, jl_10017, jl_10018, jl_10023, jl_12345, jl_1103515245, jN_add, jN_mul, jN_sub, jN_addm, jN_div, jN_irm, jN_nat, le_T, le_F, lt_T, lt_F, eq_F, ib_T, ib_F, add_j0, if_true, if_false, eq_self, Bool.false_eq_true, Option.bind_some, pb, jn, Nat.zero_add, Nat.add_zero, hc]
  · simp (disch := omega) only [jl_0, jl_1, jl_2, jl_3, jl_4, jl_5, jl_6, jl_7, jl_8, jl_9, jl_10, jl_11, jl_12, jl_13, jl_14, jl_15, jl_16, jl_17, jl_18, jl_20, jl_23, jl_29, jl_30, jl_31, jl_32, jl_35, jl_40, jl_48, jl_50, jl_51, jl_57, jl_60, jl_61, jl_63, jl_64, jl_65, jl_89, jl_97, jl_99, jl_100, jl_101, jl_113, jl_122, jl_200, jl_240, jl_241, jl_255, jl_259, jl_260, jl_261, jl_262, jl_313, jl_500, jl_999, jl_10000, jl_10004, jl_10005, jl_10006, jl_10007, jl_10008, jl_10009, jl_10010, jl_10011, jl_10012, jl_10013, jl_10014, jl_10015, jl_10017, jl_10018, jl_10023, jl_12345, jl_1103515245, jN_add, jN_mul, jN_sub, jN_addm, jN_div, jN_irm, jN_nat, le_T, le_F, lt_T, lt_F, eq_F, ib_T, ib_F, add_j0, if_true, if_false, eq_self, Bool.false_eq_true, Option.bind_some, pb, jn, Nat.zero_add, Nat.add_zero, hc]
theorem c_sky {s : Nat → Int32} (h : GS s) : X9_skyAt_q0 (kOf s) (s 0) = some (skN s) := by
  unfold X9_skyAt_q0 skN
  obtain ⟨a, ha, h0⟩ := h.chime
  rw [h0]
  by_cases hc : 16 ≤ a
  · simp (disch := omega) only [jl_0, jl_1, jl_2, jl_3, jl_4, jl_5, jl_6, jl_7, jl_8, jl_9, jl_10, jl_11, jl_12, jl_13, jl_14, jl_15, jl_16, jl_17, jl_18, jl_20, jl_23, jl_29, jl_30, jl_31, jl_32, jl_35, jl_40, jl_48, jl_50, jl_51, jl_57, jl_60, jl_61, jl_63, jl_64, jl_65, jl_89, jl_97, jl_99, jl_100, jl_101, jl_113, jl_122, jl_200, jl_240, jl_241, jl_255, jl_259, jl_260, jl_261, jl_262, jl_313, jl_500, jl_999, jl_10000, jl_10004, jl_10005, jl_10006, jl_10007, jl_10008, jl_10009, jl_10010, jl_10011, jl_10012, jl_10013, jl_10014, jl_10015, jl_10017, jl_10018, jl_10023, jl_12345, jl_1103515245, jN_add, jN_mul, jN_sub, jN_addm, jN_div, jN_irm, jN_nat, le_T, le_F, lt_T, lt_F, eq_F, ib_T, ib_F, add_j0, if_true, if_false, eq_self, Bool.false_eq_true, Option.bind_some, pb, jn, Nat.zero_add, Nat.add_zero, hc]
  · simp (disch := omega) only [jl_0, jl_1, jl_2, jl_3, jl_4, jl_5, jl_6, jl_7, jl_8, jl_9, jl_10, jl_11, jl_12, jl_13, jl_14, jl_15, jl_16, jl_17, jl_18, jl_20, jl_23, jl_29, jl_30, jl_31, jl_32, jl_35, jl_40, jl_48, jl_50, jl_51, jl_57, jl_60, jl_61, jl_63, jl_64, jl_65, jl_89, jl_97, jl_99, jl_100, jl_101, jl_113, jl_122, jl_200, jl_240, jl_241, jl_255, jl_259, jl_260, jl_261, jl_262, jl_313, jl_500, jl_999, jl_10000, jl_10004, jl_10005, jl_10006, jl_10007, jl_10008, jl_10009, jl_10010, jl_10011, jl_10012, jl_10013, jl_10014, jl_10015, jl_10017, jl_10018, jl_10023, jl_12345, jl_1103515245, jN_add, jN_mul, jN_sub, jN_addm, jN_div, jN_irm, jN_nat, le_T, le_F, lt_T, lt_F, eq_F, ib_T, ib_F, add_j0, if_true, if_false, eq_self, Bool.false_eq_true, Option.bind_some, pb, jn, Nat.zero_add, Nat.add_zero, hc, kOf_at]
/-! shades -/
theorem vd_sh {a : Nat} (h : a ≤ 5) (x y : Int32) : vd_shades a x y = X12_shadesBy (jN a) x y := by
  (have : a = 0 ∨ a = 1 ∨ a = 2 ∨ a = 3 ∨ a = 4 ∨ a = 5 := by omega)
  rcases this with rfl | rfl | rfl | rfl | rfl | rfl <;> rfl
theorem Int32_le_antisymm' {x y : Int32} (h1 : x ≤ y) (h2 : y ≤ x) : x = y := Int32.le_antisymm h1 h2
theorem min9 (x : Int32) : (if (9 : Int32) ≤ x then (9 : Int32) else x) = (if x ≤ (9 : Int32) then x else (9 : Int32)) := by
  by_cases h1 : (9 : Int32) ≤ x
  · by_cases h2 : x ≤ (9 : Int32)
    · rw [if_pos h1, if_pos h2]; exact Int32.le_antisymm h1 h2
    · rw [if_pos h1, if_neg h2]
  · rw [if_neg h1, if_pos (Int32.le_of_lt (Int32.not_le.mp h1))]
theorem vd_sl {a : Nat} (h : a ≤ 5) (x y : Int32) : vd_slips a x y = X12_slipsBy (jN a) x y := by
  (have : a = 0 ∨ a = 1 ∨ a = 2 ∨ a = 3 ∨ a = 4 ∨ a = 5 := by omega)
  rcases this with rfl | rfl | rfl | rfl | rfl | rfl
  · rfl
  · rfl
  · rfl
  · rfl
  · rfl
  · exact min9 _
def shB (s : Nat → Int32) (k : Nat) : Int32 := X12_shadesBy (s (iD k 0)) (skN s / 4) (s 0)
def shS (s : Nat → Int32) (f : Nat) : Nat → Int32
  | 0 => s (23 + f)
  | k + 1 => shS s f k + (if (s (iD k 3)).toNatClampNeg + 1 = f then shB s k else 0)
def shA (s : Nat → Int32) (f : Nat) : Int32 := shS s f (nS s)
theorem m_shadesOf {s : Nat → Int32} (h : GS s) {k : Nat} (hk : k < 6) : X12_shadesOf s (jN k) = some (shB s k) := by
  unfold X12_shadesOf shB; simp (disch := omega) only [jl_0, jl_1, jl_2, jl_3, jl_4, jl_5, jl_6, jl_7, jl_8, jl_9, jl_10, jl_11, jl_12, jl_13, jl_14, jl_15, jl_16, jl_17, jl_18, jl_20, jl_23, jl_29, jl_30, jl_31, jl_32, jl_35, jl_40, jl_48, jl_50, jl_51, jl_57, jl_60, jl_61, jl_63, jl_64, jl_65, jl_89, jl_97, jl_99, jl_100, jl_101, jl_113, jl_122, jl_200, jl_240, jl_241, jl_255, jl_259, jl_260, jl_261, jl_262, jl_313, jl_500, jl_999, jl_10000, jl_10004, jl_10005, jl_10006, jl_10007, jl_10008, jl_10009, jl_10010, jl_10011, jl_10012, jl_10013, jl_10014, jl_10015, jl_10017, jl_10018, jl_10023, jl_12345, jl_1103515245, jN_add, jN_mul, jN_sub, jN_addm, jN_div, jN_irm, jN_nat, le_T, le_F, lt_T, lt_F, eq_F, ib_T, ib_F, add_j0, if_true, if_false, eq_self, Bool.false_eq_true, Option.bind_some, pb, jn, Nat.zero_add, Nat.add_zero, m_get, m_sky h]
theorem spot_eq {a f : Nat} (ha : a < 1000) (hf : f < 1000) : (jN a = jN f - jN 1) = (a + 1 = f) := by
  by_cases h : f = 0
  · subst h
    have h1 : (jN 0 - jN 1) < 0 := by decide
    rw [show (jN a = jN 0 - jN 1) = False from eq_false (fun q => by rw [← q] at h1; have := lt_F (a := a) (b := 0) (by omega) (by omega); rw [jl_0, this] at h1; exact h1)]
    simp
  · rw [jN_sub (by omega), jN_inj (by omega) (by omega)]
    apply propext; omega
theorem m_shadeAt {s : Nat → Int32} (h : GS s) {f n : Nat} (hf : f < 6) (hn : 7 ≤ n) : X12_shadeAt n s (jN f) = some (shA s f) := by
  obtain ⟨hc, h4⟩ := h.n
  have L : X12_shadeAt_L1 n s (jN f) n (shS s f 0) (jN 0) = some (shA s f, jN (nS s)) := by
    refine lp_0 (fun k j => X12_shadeAt_L1 n s (jN f) k (shS s f j) (jN j)) (nS s) (by omega) (fun k j hj => ?_) (fun k => ?_)
    · obtain ⟨a, ha, h3⟩ := h.spot (k := j) (by omega)
      show X12_shadeAt_L1 n s (jN f) (k + 1) (shS s f j) (jN j) = X12_shadeAt_L1 n s (jN f) k (shS s f j + _) (jN (j + 1))
      rw [X12_shadeAt_L1, h4]
      by_cases hq : a + 1 = f
      · subst hq; simp (disch := omega) only [jl_0, jl_1, jl_2, jl_3, jl_4, jl_5, jl_6, jl_7, jl_8, jl_9, jl_10, jl_11, jl_12, jl_13, jl_14, jl_15, jl_16, jl_17, jl_18, jl_20, jl_23, jl_29, jl_30, jl_31, jl_32, jl_35, jl_40, jl_48, jl_50, jl_51, jl_57, jl_60, jl_61, jl_63, jl_64, jl_65, jl_89, jl_97, jl_99, jl_100, jl_101, jl_113, jl_122, jl_200, jl_240, jl_241, jl_255, jl_259, jl_260, jl_261, jl_262, jl_313, jl_500, jl_999, jl_10000, jl_10004, jl_10005, jl_10006, jl_10007, jl_10008, jl_10009, jl_10010, jl_10011, jl_10012, jl_10013, jl_10014, jl_10015, jl_10017, jl_10018, jl_10023, jl_12345, jl_1103515245, jN_add, jN_mul, jN_sub, jN_addm, jN_div, jN_irm, jN_nat, le_T, le_F, lt_T, lt_F, eq_F, ib_T, ib_F, add_j0, if_true, if_false, eq_self, Bool.false_eq_true, Option.bind_some, pb, jn, Nat.zero_add, Nat.add_zero, m_get, m_shadesOf h, h3, Nat.add_sub_cancel]
      · simp (disch := omega) only [jl_0, jl_1, jl_2, jl_3, jl_4, jl_5, jl_6, jl_7, jl_8, jl_9, jl_10, jl_11, jl_12, jl_13, jl_14, jl_15, jl_16, jl_17, jl_18, jl_20, jl_23, jl_29, jl_30, jl_31, jl_32, jl_35, jl_40, jl_48, jl_50, jl_51, jl_57, jl_60, jl_61, jl_63, jl_64, jl_65, jl_89, jl_97, jl_99, jl_100, jl_101, jl_113, jl_122, jl_200, jl_240, jl_241, jl_255, jl_259, jl_260, jl_261, jl_262, jl_313, jl_500, jl_999, jl_10000, jl_10004, jl_10005, jl_10006, jl_10007, jl_10008, jl_10009, jl_10010, jl_10011, jl_10012, jl_10013, jl_10014, jl_10015, jl_10017, jl_10018, jl_10023, jl_12345, jl_1103515245, jN_add, jN_mul, jN_sub, jN_addm, jN_div, jN_irm, jN_nat, le_T, le_F, lt_T, lt_F, eq_F, ib_T, ib_F, add_j0, if_true, if_false, eq_self, Bool.false_eq_true, Option.bind_some, pb, jn, Nat.zero_add, Nat.add_zero, m_get, m_shadesOf h, spot_eq, h3, hq]
    · show X12_shadeAt_L1 n s (jN f) (k + 1) (shS s f (nS s)) (jN (nS s)) = _
      rw [X12_shadeAt_L1, h4]; simp (disch := omega) only [jl_0, jl_1, jl_2, jl_3, jl_4, jl_5, jl_6, jl_7, jl_8, jl_9, jl_10, jl_11, jl_12, jl_13, jl_14, jl_15, jl_16, jl_17, jl_18, jl_20, jl_23, jl_29, jl_30, jl_31, jl_32, jl_35, jl_40, jl_48, jl_50, jl_51, jl_57, jl_60, jl_61, jl_63, jl_64, jl_65, jl_89, jl_97, jl_99, jl_100, jl_101, jl_113, jl_122, jl_200, jl_240, jl_241, jl_255, jl_259, jl_260, jl_261, jl_262, jl_313, jl_500, jl_999, jl_10000, jl_10004, jl_10005, jl_10006, jl_10007, jl_10008, jl_10009, jl_10010, jl_10011, jl_10012, jl_10013, jl_10014, jl_10015, jl_10017, jl_10018, jl_10023, jl_12345, jl_1103515245, jN_add, jN_mul, jN_sub, jN_addm, jN_div, jN_irm, jN_nat, le_T, le_F, lt_T, lt_F, eq_F, ib_T, ib_F, add_j0, if_true, if_false, eq_self, Bool.false_eq_true, Option.bind_some, pb, jn, Nat.zero_add, Nat.add_zero]; rfl
  unfold X12_shadeAt
  simp (disch := omega) only [jl_0, jl_1, jl_2, jl_3, jl_4, jl_5, jl_6, jl_7, jl_8, jl_9, jl_10, jl_11, jl_12, jl_13, jl_14, jl_15, jl_16, jl_17, jl_18, jl_20, jl_23, jl_29, jl_30, jl_31, jl_32, jl_35, jl_40, jl_48, jl_50, jl_51, jl_57, jl_60, jl_61, jl_63, jl_64, jl_65, jl_89, jl_97, jl_99, jl_100, jl_101, jl_113, jl_122, jl_200, jl_240, jl_241, jl_255, jl_259, jl_260, jl_261, jl_262, jl_313, jl_500, jl_999, jl_10000, jl_10004, jl_10005, jl_10006, jl_10007, jl_10008, jl_10009, jl_10010, jl_10011, jl_10012, jl_10013, jl_10014, jl_10015, jl_10017, jl_10018, jl_10023, jl_12345, jl_1103515245, jN_add, jN_mul, jN_sub, jN_addm, jN_div, jN_irm, jN_nat, le_T, le_F, lt_T, lt_F, eq_F, ib_T, ib_F, add_j0, if_true, if_false, eq_self, Bool.false_eq_true, Option.bind_some, pb, jn, Nat.zero_add, Nat.add_zero]
  rw [show X12_shadeAt_L1 n s (jN f) n (s (23 + f)) (jN 0) = some (shA s f, jN (nS s)) from L]
  simp (disch := omega) only [jl_0, jl_1, jl_2, jl_3, jl_4, jl_5, jl_6, jl_7, jl_8, jl_9, jl_10, jl_11, jl_12, jl_13, jl_14, jl_15, jl_16, jl_17, jl_18, jl_20, jl_23, jl_29, jl_30, jl_31, jl_32, jl_35, jl_40, jl_48, jl_50, jl_51, jl_57, jl_60, jl_61, jl_63, jl_64, jl_65, jl_89, jl_97, jl_99, jl_100, jl_101, jl_113, jl_122, jl_200, jl_240, jl_241, jl_255, jl_259, jl_260, jl_261, jl_262, jl_313, jl_500, jl_999, jl_10000, jl_10004, jl_10005, jl_10006, jl_10007, jl_10008, jl_10009, jl_10010, jl_10011, jl_10012, jl_10013, jl_10014, jl_10015, jl_10017, jl_10018, jl_10023, jl_12345, jl_1103515245, jN_add, jN_mul, jN_sub, jN_addm, jN_div, jN_irm, jN_nat, le_T, le_F, lt_T, lt_F, eq_F, ib_T, ib_F, add_j0, if_true, if_false, eq_self, Bool.false_eq_true, Option.bind_some, pb, jn, Nat.zero_add, Nat.add_zero]
theorem c_kindOf {s : Nat → Int32} (h : GS s) {k : Nat} (hk : k < 6) : X9_kindOf_q0 (dOf s) (jN k) = some (s (iD k 0)).toNatClampNeg := by
  unfold X9_kindOf_q0
  obtain ⟨a, ha, h3⟩ := h.kind hk
  simp (disch := omega) only [jl_0, jl_1, jl_2, jl_3, jl_4, jl_5, jl_6, jl_7, jl_8, jl_9, jl_10, jl_11, jl_12, jl_13, jl_14, jl_15, jl_16, jl_17, jl_18, jl_20, jl_23, jl_29, jl_30, jl_31, jl_32, jl_35, jl_40, jl_48, jl_50, jl_51, jl_57, jl_60, jl_61, jl_63, jl_64, jl_65, jl_89, jl_97, jl_99, jl_100, jl_101, jl_113, jl_122, jl_200, jl_240, jl_241, jl_255, jl_259, jl_260, jl_261, jl_262, jl_313, jl_500, jl_999, jl_10000, jl_10004, jl_10005, jl_10006, jl_10007, jl_10008, jl_10009, jl_10010, jl_10011, jl_10012, jl_10013, jl_10014, jl_10015, jl_10017, jl_10018, jl_10023, jl_12345, jl_1103515245, jN_add, jN_mul, jN_sub, jN_addm, jN_div, jN_irm, jN_nat, le_T, le_F, lt_T, lt_F, eq_F, ib_T, ib_F, add_j0, if_true, if_false, eq_self, Bool.false_eq_true, Option.bind_some, pb, jn, Nat.zero_add, Nat.add_zero, dOf_at, h3]
theorem vd_shK {s : Nat → Int32} (h : GS s) {k : Nat} (hk : k < 6) (x y : Int32) : vd_shades (s (iD k 0)).toNatClampNeg x y = X12_shadesBy (s (iD k 0)) x y := by
  obtain ⟨a, ha, h3⟩ := h.kind hk
  rw [h3, jN_nat (by omega)]; exact vd_sh ha x y
theorem vd_slK {s : Nat → Int32} (h : GS s) {k : Nat} (hk : k < 6) (x y : Int32) : vd_slips (s (iD k 0)).toNatClampNeg x y = X12_slipsBy (s (iD k 0)) x y := by
  obtain ⟨a, ha, h3⟩ := h.kind hk
  rw [h3, jN_nat (by omega)]; exact vd_sl ha x y
theorem kind_lt {s : Nat → Int32} (h : GS s) {k : Nat} (hk : k < 6) : decide ((s (iD k 0)).toNatClampNeg < 6) = true := by
  obtain ⟨a, ha, h3⟩ := h.kind hk
  rw [h3, jN_nat (by omega)]; exact decide_eq_true (by omega)
theorem c_shadesOf {s : Nat → Int32} (h : GS s) {k : Nat} (hk : k < 6) : X9_shadesOf_q0 (dOf s) (kOf s) (s 0) (jN k) = some (shB s k) := by
  unfold X9_shadesOf_q0 shB
  simp only [c_kindOf h hk, kind_lt h hk, c_sky h, Option.bind_some, vd_shK h hk, if_true]
theorem c_measure {s : Nat → Int32} (h : GS s) {n : Nat} (hn : 7 ≤ n) (sh0 : Nat → Int32) : X9_measureShades_q0 n (dOf s) (pOf s) (kOf s) (s 4) (s 0) sh0 = some (fun i => if i < 6 then shA s i else sh0 i) := by
  obtain ⟨hc, h4⟩ := h.n
  have L1 : X9_measureShades_q0_L1 n (pOf s) n (jN 0) sh0 = some (jN 6, fun i => if i < 6 then s (23 + i) else sh0 i) := by
    have := lp_0 (fun k j => X9_measureShades_q0_L1 n (pOf s) k (jN j) (fun i => if i < j then s (23 + i) else sh0 i)) 6 (n := n) (R := some (jN 6, fun i => if i < 6 then s (23 + i) else sh0 i)) (by omega) (fun k j hj => ?_) (fun k => ?_)
    · simpa using this
    · show X9_measureShades_q0_L1 n (pOf s) (k + 1) (jN j) _ = _
      rw [X9_measureShades_q0_L1]; simp (disch := omega) only [jl_0, jl_1, jl_2, jl_3, jl_4, jl_5, jl_6, jl_7, jl_8, jl_9, jl_10, jl_11, jl_12, jl_13, jl_14, jl_15, jl_16, jl_17, jl_18, jl_20, jl_23, jl_29, jl_30, jl_31, jl_32, jl_35, jl_40, jl_48, jl_50, jl_51, jl_57, jl_60, jl_61, jl_63, jl_64, jl_65, jl_89, jl_97, jl_99, jl_100, jl_101, jl_113, jl_122, jl_200, jl_240, jl_241, jl_255, jl_259, jl_260, jl_261, jl_262, jl_313, jl_500, jl_999, jl_10000, jl_10004, jl_10005, jl_10006, jl_10007, jl_10008, jl_10009, jl_10010, jl_10011, jl_10012, jl_10013, jl_10014, jl_10015, jl_10017, jl_10018, jl_10023, jl_12345, jl_1103515245, jN_add, jN_mul, jN_sub, jN_addm, jN_div, jN_irm, jN_nat, le_T, le_F, lt_T, lt_F, eq_F, ib_T, ib_F, add_j0, if_true, if_false, eq_self, Bool.false_eq_true, Option.bind_some, pb, jn, Nat.zero_add, Nat.add_zero, pOf_at]
      congr 1
      funext i; simp only [upd]
      by_cases hi : i = j
      · subst hi; simp
      · simp only [hi, if_false]; by_cases h2 : i < j
        · rw [if_pos h2, if_pos (by omega)]
        · rw [if_neg h2, if_neg (by omega)]
    · show X9_measureShades_q0_L1 n (pOf s) (k + 1) (jN 6) _ = _
      rw [X9_measureShades_q0_L1]; simp (disch := omega) only [jl_0, jl_1, jl_2, jl_3, jl_4, jl_5, jl_6, jl_7, jl_8, jl_9, jl_10, jl_11, jl_12, jl_13, jl_14, jl_15, jl_16, jl_17, jl_18, jl_20, jl_23, jl_29, jl_30, jl_31, jl_32, jl_35, jl_40, jl_48, jl_50, jl_51, jl_57, jl_60, jl_61, jl_63, jl_64, jl_65, jl_89, jl_97, jl_99, jl_100, jl_101, jl_113, jl_122, jl_200, jl_240, jl_241, jl_255, jl_259, jl_260, jl_261, jl_262, jl_313, jl_500, jl_999, jl_10000, jl_10004, jl_10005, jl_10006, jl_10007, jl_10008, jl_10009, jl_10010, jl_10011, jl_10012, jl_10013, jl_10014, jl_10015, jl_10017, jl_10018, jl_10023, jl_12345, jl_1103515245, jN_add, jN_mul, jN_sub, jN_addm, jN_div, jN_irm, jN_nat, le_T, le_F, lt_T, lt_F, eq_F, ib_T, ib_F, add_j0, if_true, if_false, eq_self, Bool.false_eq_true, Option.bind_some, pb, jn, Nat.zero_add, Nat.add_zero]
  have L2 : X9_measureShades_q0_L2 n (dOf s) (s 4) (s 0) (skN s / 4) n (jN 0) (fun i => if i < 6 then shS s i 0 else sh0 i) = some (jN (nS s), fun i => if i < 6 then shA s i else sh0 i) := by
    refine lp_0 (fun k j => X9_measureShades_q0_L2 n (dOf s) (s 4) (s 0) (skN s / 4) k (jN j) (fun i => if i < 6 then shS s i j else sh0 i)) (nS s) (by omega) (fun k j hj => ?_) (fun k => ?_)
    · obtain ⟨a, ha, h3⟩ := h.spot (k := j) (by omega)
      show X9_measureShades_q0_L2 n (dOf s) (s 4) (s 0) (skN s / 4) (k + 1) (jN j) _ = _
      rw [X9_measureShades_q0_L2, h4]
      have hE : ∀ i, shS s i (j + 1) = if a + 1 = i then shS s i j + shB s j else shS s i j := by
        intro i; show shS s i j + _ = _
        rw [h3, jN_nat (by omega)]; split <;> simp [shS]
      by_cases hq : 6 ≤ a + 1
      · simp (disch := omega) only [jl_0, jl_1, jl_2, jl_3, jl_4, jl_5, jl_6, jl_7, jl_8, jl_9, jl_10, jl_11, jl_12, jl_13, jl_14, jl_15, jl_16, jl_17, jl_18, jl_20, jl_23, jl_29, jl_30, jl_31, jl_32, jl_35, jl_40, jl_48, jl_50, jl_51, jl_57, jl_60, jl_61, jl_63, jl_64, jl_65, jl_89, jl_97, jl_99, jl_100, jl_101, jl_113, jl_122, jl_200, jl_240, jl_241, jl_255, jl_259, jl_260, jl_261, jl_262, jl_313, jl_500, jl_999, jl_10000, jl_10004, jl_10005, jl_10006, jl_10007, jl_10008, jl_10009, jl_10010, jl_10011, jl_10012, jl_10013, jl_10014, jl_10015, jl_10017, jl_10018, jl_10023, jl_12345, jl_1103515245, jN_add, jN_mul, jN_sub, jN_addm, jN_div, jN_irm, jN_nat, le_T, le_F, lt_T, lt_F, eq_F, ib_T, ib_F, add_j0, if_true, if_false, eq_self, Bool.false_eq_true, Option.bind_some, pb, jn, Nat.zero_add, Nat.add_zero, dOf_at, h3]
        congr 1; funext i; rw [hE]
        by_cases hi : i < 6
        · rw [if_pos hi, if_pos hi, if_neg (by omega)]
        · rw [if_neg hi, if_neg hi]
      · simp (disch := omega) only [jl_0, jl_1, jl_2, jl_3, jl_4, jl_5, jl_6, jl_7, jl_8, jl_9, jl_10, jl_11, jl_12, jl_13, jl_14, jl_15, jl_16, jl_17, jl_18, jl_20, jl_23, jl_29, jl_30, jl_31, jl_32, jl_35, jl_40, jl_48, jl_50, jl_51, jl_57, jl_60, jl_61, jl_63, jl_64, jl_65, jl_89, jl_97, jl_99, jl_100, jl_101, jl_113, jl_122, jl_200, jl_240, jl_241, jl_255, jl_259, jl_260, jl_261, jl_262, jl_313, jl_500, jl_999, jl_10000, jl_10004, jl_10005, jl_10006, jl_10007, jl_10008, jl_10009, jl_10010, jl_10011, jl_10012, jl_10013, jl_10014, jl_10015, jl_10017, jl_10018, jl_10023, jl_12345, jl_1103515245, jN_add, jN_mul, jN_sub, jN_addm, jN_div, jN_irm, jN_nat, le_T, le_F, lt_T, lt_F, eq_F, ib_T, ib_F, add_j0, if_true, if_false, eq_self, Bool.false_eq_true, Option.bind_some, pb, jn, Nat.zero_add, Nat.add_zero, dOf_at, h3, c_kindOf h (show j < 6 by omega), kind_lt h (show j < 6 by omega), vd_shK h (show j < 6 by omega)]
        congr 1; funext i; rw [hE]; simp only [upd]
        by_cases hi : i = a + 1
        · subst hi; rw [if_pos rfl, if_pos (by omega), if_pos (by omega), if_pos rfl]; rfl
        · rw [if_neg hi, if_neg (show ¬ a + 1 = i by omega)]
    · show X9_measureShades_q0_L2 n (dOf s) (s 4) (s 0) (skN s / 4) (k + 1) (jN (nS s)) _ = _
      rw [X9_measureShades_q0_L2, h4]; simp (disch := omega) only [jl_0, jl_1, jl_2, jl_3, jl_4, jl_5, jl_6, jl_7, jl_8, jl_9, jl_10, jl_11, jl_12, jl_13, jl_14, jl_15, jl_16, jl_17, jl_18, jl_20, jl_23, jl_29, jl_30, jl_31, jl_32, jl_35, jl_40, jl_48, jl_50, jl_51, jl_57, jl_60, jl_61, jl_63, jl_64, jl_65, jl_89, jl_97, jl_99, jl_100, jl_101, jl_113, jl_122, jl_200, jl_240, jl_241, jl_255, jl_259, jl_260, jl_261, jl_262, jl_313, jl_500, jl_999, jl_10000, jl_10004, jl_10005, jl_10006, jl_10007, jl_10008, jl_10009, jl_10010, jl_10011, jl_10012, jl_10013, jl_10014, jl_10015, jl_10017, jl_10018, jl_10023, jl_12345, jl_1103515245, jN_add, jN_mul, jN_sub, jN_addm, jN_div, jN_irm, jN_nat, le_T, le_F, lt_T, lt_F, eq_F, ib_T, ib_F, add_j0, if_true, if_false, eq_self, Bool.false_eq_true, Option.bind_some, pb, jn, Nat.zero_add, Nat.add_zero]; rfl
  unfold X9_measureShades_q0
  rw [show (0 : Int32) = jN 0 from rfl, L1]
  simp only [Option.bind_some, c_sky h]
  rw [show (fun i => if i < 6 then s (23 + i) else sh0 i) = (fun i => if i < 6 then shS s i 0 else sh0 i) from rfl, L2]
  rfl
