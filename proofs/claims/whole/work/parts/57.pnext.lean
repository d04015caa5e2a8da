/-- a word of the class, a token of the reference and its value -/
def WT (w t v : Int32) : Prop := (∃ c, c < 24 ∧ w = jN (10000 + c) ∧ t = jN (tT c)) ∨ (∃ k, k < 10000 ∧ w = jN k ∧ t = jN 100 ∧ v = jN k) ∨ (w = -1 ∧ ∃ k, t = jN k ∧ 18 ≤ k ∧ k < 500 ∧ k ≠ 100 ∧ ∀ c, c < 24 → tT c ≠ k) ∨ (w = -2 ∧ t = -1)
theorem inl_1 : ∀ k, k < 256 → X12_in1 (jN k) (97 : Int32) (122 : Int32) = if so k = 1 then 1 else 0 := by decide +kernel
theorem inl_2 : ∀ k, k < 256 → X12_in1 (jN k) (48 : Int32) (57 : Int32) = if so k = 2 then 1 else 0 := by decide +kernel
theorem wx_5 : ∀ c, c < 24 → tT c ≠ 101 ∧ tT c ≠ 100 := by decide +kernel
theorem wdF_m {bt : Nat → Nat} {p e c : Nat} (hc : c < 24) (h : mtB bt p e c = true) : ∀ d i, i + d = 24 → i ≤ c → wdF bt p e d i = jN (10000 + c) := by
  intro d
  induction d with
  | zero => intro i h1 h2; omega
  | succ d ih =>
    intro i h1 h2
    rw [show wdF bt p e (d + 1) i = (if mtB bt p e i = true then jN (10000 + i) else wdF bt p e d (i + 1)) from rfl]
    split
    · rename_i h3; rw [mt_1 (by omega) hc h3 h]
    · rename_i h3
      have : i ≠ c := fun z => h3 (by rw [z]; exact h)
      exact ih (i + 1) (by omega) (by omega)
theorem wdF_n {bt : Nat → Nat} {p e : Nat} (h : ∀ c, c < 24 → ¬ mtB bt p e c = true) : ∀ d i, i + d = 24 → wdF bt p e d i = -1 := by
  intro d
  induction d with
  | zero => intro i h1; rfl
  | succ d ih =>
    intro i h1
    rw [show wdF bt p e (d + 1) i = (if mtB bt p e i = true then jN (10000 + i) else wdF bt p e d (i + 1)) from rfl, if_neg (h i (by omega))]
    exact ih (i + 1) (by omega)
theorem nuF_b {bt : Nat → Nat} : ∀ d q x, (∀ i, q ≤ i → i < q + d → 48 ≤ bt i ∧ bt i ≤ 57) → nuF bt d q x < (x + 1) * 10 ^ d := by
  intro d
  induction d with
  | zero => intro q x h; unfold nuF; omega
  | succ d ih =>
    intro q x h
    have h0 := h q (by omega) (by omega)
    have := ih (q + 1) (10 * x + bt q - 48) (fun i h1 h2 => h i (by omega) (by omega))
    unfold nuF
    refine Nat.lt_of_lt_of_le this ?_
    rw [Nat.pow_succ, Nat.mul_comm (10 ^ d) 10, ← Nat.mul_assoc]
    exact Nat.mul_le_mul_right _ (by omega)
section NEXT
variable {n L : Nat} {bt : Nat → Nat} {tc tm : Nat → Int32}
theorem m_at (hL : L ≤ 200) (h : BT L bt tc tm) {q : Nat} (hq : q ≤ L) : X12_byteAt tm (jN L) (jN q) = some (if q < L then jN (bt q) else -1) := by
  unfold X12_byteAt
  by_cases z : q < L
  · rw [if_pos z, if_neg (show ¬ jN L ≤ jN q by simp (disch := omega) only [jl_0, jl_1, jl_2, jl_3, jl_4, jl_5, jl_6, jl_7, jl_8, jl_9, jl_10, jl_11, jl_12, jl_13, jl_14, jl_15, jl_16, jl_17, jl_18, jl_20, jl_23, jl_29, jl_30, jl_31, jl_32, jl_35, jl_40, jl_48, jl_50, jl_51, jl_57, jl_60, jl_61, jl_63, jl_64, jl_65, jl_89, jl_97, jl_99, jl_100, jl_101, jl_113, jl_122, jl_200, jl_240, jl_241, jl_255, jl_259, jl_260, jl_261, jl_262, jl_313, jl_500, jl_999, jl_10000, jl_10004, jl_10005, jl_10006, jl_10007, jl_10008, jl_10009, jl_10010, jl_10011, jl_10012, jl_10013, jl_10014, jl_10015, jl_10017, jl_10018, jl_10023, jl_12345, jl_1103515245, jN_add, jN_mul, jN_sub, jN_addm, jN_div, jN_irm, jN_nat, le_T, le_F, lt_T, lt_F, eq_F, ib_T, ib_F, add_j0, if_true, if_false, eq_self, Bool.false_eq_true, Option.bind_some, pb, jn, Nat.zero_add, Nat.add_zero]; exact not_false), ib_T (show q < 200 by omega) (by omega), jN_nat (show q < 2147483648 by omega), (h q z).2.1]; rfl
  · rw [if_neg z, if_pos (show jN L ≤ jN q by rw [show q = L by omega]; exact Int32.le_refl _)]
theorem m_skip (hL : L ≤ 200) (h : BT L bt tc tm) : ∀ d m q, q + d = L → d < m → X12_next_L1 n tm (jN L) m (jN q) = some (jN (skF bt d q)) := by
  intro d
  induction d with
  | zero =>
    intro m q hq hm
    obtain ⟨m, rfl⟩ : ∃ y, m = y + 1 := ⟨m - 1, by omega⟩
    rw [X12_next_L1, m_at hL h (by omega), if_neg (show ¬ q < L by omega)]
    simp only [Option.bind_some]
    rw [if_neg (show ¬ (-1 : Int32) = 32 by decide)]; rfl
  | succ d ih =>
    intro m q hq hm
    obtain ⟨m, rfl⟩ : ∃ y, m = y + 1 := ⟨m - 1, by omega⟩
    rw [X12_next_L1, m_at hL h (by omega), if_pos (show q < L by omega)]
    simp only [Option.bind_some]
    have hb := (h q (by omega)).1
    unfold skF
    by_cases z : bt q = 32
    · rw [if_pos z, if_pos (show jN (bt q) = (32 : Int32) by rw [z]; rfl), show jN q + (1 : Int32) = jN (q + 1) from by simp (disch := omega) only [jl_0, jl_1, jl_2, jl_3, jl_4, jl_5, jl_6, jl_7, jl_8, jl_9, jl_10, jl_11, jl_12, jl_13, jl_14, jl_15, jl_16, jl_17, jl_18, jl_20, jl_23, jl_29, jl_30, jl_31, jl_32, jl_35, jl_40, jl_48, jl_50, jl_51, jl_57, jl_60, jl_61, jl_63, jl_64, jl_65, jl_89, jl_97, jl_99, jl_100, jl_101, jl_113, jl_122, jl_200, jl_240, jl_241, jl_255, jl_259, jl_260, jl_261, jl_262, jl_313, jl_500, jl_999, jl_10000, jl_10004, jl_10005, jl_10006, jl_10007, jl_10008, jl_10009, jl_10010, jl_10011, jl_10012, jl_10013, jl_10014, jl_10015, jl_10017, jl_10018, jl_10023, jl_12345, jl_1103515245, jN_add, jN_mul, jN_sub, jN_addm, jN_div, jN_irm, jN_nat, le_T, le_F, lt_T, lt_F, eq_F, ib_T, ib_F, add_j0, if_true, if_false, eq_self, Bool.false_eq_true, Option.bind_some, pb, jn, Nat.zero_add, Nat.add_zero]]
      exact ih m (q + 1) (by omega) (by omega)
    · rw [if_neg z, if_neg (show ¬ jN (bt q) = (32 : Int32) from fun y => z ((jN_inj (b := 32) (by omega) (by omega)).mp y))]
theorem m_letters (hL : L ≤ 200) (h : BT L bt tc tm) : ∀ d m q, q + d = L → d < m → X12_readsName_L1 n tm (jN L) m (jN q) = some (jN (enF bt 1 d q)) := by
  intro d
  induction d with
  | zero =>
    intro m q hq hm
    obtain ⟨m, rfl⟩ : ∃ y, m = y + 1 := ⟨m - 1, by omega⟩
    rw [X12_readsName_L1, m_at hL h (by omega), if_neg (show ¬ q < L by omega)]
    simp only [Option.bind_some]
    rw [if_pos (show X12_in1 (-1) (97 : Int32) (122 : Int32) = 0 from by decide)]; rfl
  | succ d ih =>
    intro m q hq hm
    obtain ⟨m, rfl⟩ : ∃ y, m = y + 1 := ⟨m - 1, by omega⟩
    rw [X12_readsName_L1, m_at hL h (by omega), if_pos (show q < L by omega)]
    simp only [Option.bind_some]
    rw [inl_1 _ (h q (by omega)).1]
    unfold enF
    by_cases z : so (bt q) = 1
    · rw [if_pos z, if_pos z, if_neg (show ¬ (1 : Int32) = 0 by decide), show jN q + (1 : Int32) = jN (q + 1) from by simp (disch := omega) only [jl_0, jl_1, jl_2, jl_3, jl_4, jl_5, jl_6, jl_7, jl_8, jl_9, jl_10, jl_11, jl_12, jl_13, jl_14, jl_15, jl_16, jl_17, jl_18, jl_20, jl_23, jl_29, jl_30, jl_31, jl_32, jl_35, jl_40, jl_48, jl_50, jl_51, jl_57, jl_60, jl_61, jl_63, jl_64, jl_65, jl_89, jl_97, jl_99, jl_100, jl_101, jl_113, jl_122, jl_200, jl_240, jl_241, jl_255, jl_259, jl_260, jl_261, jl_262, jl_313, jl_500, jl_999, jl_10000, jl_10004, jl_10005, jl_10006, jl_10007, jl_10008, jl_10009, jl_10010, jl_10011, jl_10012, jl_10013, jl_10014, jl_10015, jl_10017, jl_10018, jl_10023, jl_12345, jl_1103515245, jN_add, jN_mul, jN_sub, jN_addm, jN_div, jN_irm, jN_nat, le_T, le_F, lt_T, lt_F, eq_F, ib_T, ib_F, add_j0, if_true, if_false, eq_self, Bool.false_eq_true, Option.bind_some, pb, jn, Nat.zero_add, Nat.add_zero]]
      exact ih m (q + 1) (by omega) (by omega)
    · rw [if_neg z, if_neg z, if_pos (show (0 : Int32) = 0 from rfl)]
theorem ltr_at {t i : Nat} (ht : t < 18) (hi : i < 8) : ltr (8 * t + i) = if i < wlN (cT t) then jN (wN (cT t) i) else 32 := by
  unfold ltr
  rw [if_pos (by omega), show (8 * t + i) % 8 = i by omega, show (8 * t + i) / 8 = t by omega]
theorem m_isName (hn : 300 ≤ n) (hL : L ≤ 200) (h : BT L bt tc tm) {p e t : Nat} (ht : t < 18) (hp : p < e) (he : e ≤ L) (hs : ∀ i, p ≤ i → i < e → so (bt i) = 1) : X12_isNameOf n tm (jN L) ltr (jN e) (jN p) (jN t) = some (if mtB bt p e (cT t) = true then 1 else 0) := by
  obtain ⟨hc, -⟩ := cT_b t ht
  obtain ⟨-, b2, b3, -⟩ := wx_2 (cT t) hc
  unfold X12_isNameOf
  rw [jN_sub (by omega)]
  simp only [pb]
  have K : ∀ d m j, j + d = 8 → d < m → ∃ r v3, X12_isNameOf_L1 n tm (jN L) ltr (jN e) (jN p) (jN t) m 1 (jN j) = some (r, v3) ∧ ((r = 1 ∧ (∀ i, i < 8 → j ≤ i → ltr (8 * t + i) = if e ≤ p + i then (32 : Int32) else jN (bt (p + i)))) ∨ (r = 0 ∧ ¬ (∀ i, i < 8 → j ≤ i → ltr (8 * t + i) = if e ≤ p + i then (32 : Int32) else jN (bt (p + i))))) := by
    intro d
    induction d with
    | zero =>
      intro m j hj hm
      obtain ⟨m, rfl⟩ : ∃ y, m = y + 1 := ⟨m - 1, by omega⟩
      refine ⟨1, jN j, ?_, Or.inl ⟨rfl, fun i h1 h2 => by omega⟩⟩
      rw [X12_isNameOf_L1, if_pos (show (8 : Int32) ≤ jN j by rw [show j = 8 by omega]; decide)]
    | succ d ih =>
      intro m j hj hm
      obtain ⟨m, rfl⟩ : ∃ y, m = y + 1 := ⟨m - 1, by omega⟩
      have hcell : (if jN e ≤ jN p + jN j then some (32 : Int32) else ((X12_byteAt tm (jN L) (jN p + jN j)).bind fun r3 => some r3)) = some (if e ≤ p + j then (32 : Int32) else jN (bt (p + j))) := by
        rw [jN_add]
        by_cases z : e ≤ p + j
        · rw [if_pos z, if_pos (show jN e ≤ jN (p + j) by simp (disch := omega) only [jl_0, jl_1, jl_2, jl_3, jl_4, jl_5, jl_6, jl_7, jl_8, jl_9, jl_10, jl_11, jl_12, jl_13, jl_14, jl_15, jl_16, jl_17, jl_18, jl_20, jl_23, jl_29, jl_30, jl_31, jl_32, jl_35, jl_40, jl_48, jl_50, jl_51, jl_57, jl_60, jl_61, jl_63, jl_64, jl_65, jl_89, jl_97, jl_99, jl_100, jl_101, jl_113, jl_122, jl_200, jl_240, jl_241, jl_255, jl_259, jl_260, jl_261, jl_262, jl_313, jl_500, jl_999, jl_10000, jl_10004, jl_10005, jl_10006, jl_10007, jl_10008, jl_10009, jl_10010, jl_10011, jl_10012, jl_10013, jl_10014, jl_10015, jl_10017, jl_10018, jl_10023, jl_12345, jl_1103515245, jN_add, jN_mul, jN_sub, jN_addm, jN_div, jN_irm, jN_nat, le_T, le_F, lt_T, lt_F, eq_F, ib_T, ib_F, add_j0, if_true, if_false, eq_self, Bool.false_eq_true, Option.bind_some, pb, jn, Nat.zero_add, Nat.add_zero])]
        · rw [if_neg z, if_neg (show ¬ jN e ≤ jN (p + j) by simp (disch := omega) only [jl_0, jl_1, jl_2, jl_3, jl_4, jl_5, jl_6, jl_7, jl_8, jl_9, jl_10, jl_11, jl_12, jl_13, jl_14, jl_15, jl_16, jl_17, jl_18, jl_20, jl_23, jl_29, jl_30, jl_31, jl_32, jl_35, jl_40, jl_48, jl_50, jl_51, jl_57, jl_60, jl_61, jl_63, jl_64, jl_65, jl_89, jl_97, jl_99, jl_100, jl_101, jl_113, jl_122, jl_200, jl_240, jl_241, jl_255, jl_259, jl_260, jl_261, jl_262, jl_313, jl_500, jl_999, jl_10000, jl_10004, jl_10005, jl_10006, jl_10007, jl_10008, jl_10009, jl_10010, jl_10011, jl_10012, jl_10013, jl_10014, jl_10015, jl_10017, jl_10018, jl_10023, jl_12345, jl_1103515245, jN_add, jN_mul, jN_sub, jN_addm, jN_div, jN_irm, jN_nat, le_T, le_F, lt_T, lt_F, eq_F, ib_T, ib_F, add_j0, if_true, if_false, eq_self, Bool.false_eq_true, Option.bind_some, pb, jn, Nat.zero_add, Nat.add_zero]; exact not_false), m_at hL h (by omega), if_pos (show p + j < L by omega)]; rfl
      obtain ⟨r, v3, e3, e4⟩ := ih m (j + 1) (by omega) (by omega)
      rw [X12_isNameOf_L1, if_neg (show ¬ (8 : Int32) ≤ jN j by rw [jl_8, le_F (by omega) (by omega)]; exact not_false), if_neg (show ¬ (1 : Int32) = 0 by decide), show (8 : Int32) * jN t + jN j = jN (8 * t + j) from by simp (disch := omega) only [jl_0, jl_1, jl_2, jl_3, jl_4, jl_5, jl_6, jl_7, jl_8, jl_9, jl_10, jl_11, jl_12, jl_13, jl_14, jl_15, jl_16, jl_17, jl_18, jl_20, jl_23, jl_29, jl_30, jl_31, jl_32, jl_35, jl_40, jl_48, jl_50, jl_51, jl_57, jl_60, jl_61, jl_63, jl_64, jl_65, jl_89, jl_97, jl_99, jl_100, jl_101, jl_113, jl_122, jl_200, jl_240, jl_241, jl_255, jl_259, jl_260, jl_261, jl_262, jl_313, jl_500, jl_999, jl_10000, jl_10004, jl_10005, jl_10006, jl_10007, jl_10008, jl_10009, jl_10010, jl_10011, jl_10012, jl_10013, jl_10014, jl_10015, jl_10017, jl_10018, jl_10023, jl_12345, jl_1103515245, jN_add, jN_mul, jN_sub, jN_addm, jN_div, jN_irm, jN_nat, le_T, le_F, lt_T, lt_F, eq_F, ib_T, ib_F, add_j0, if_true, if_false, eq_self, Bool.false_eq_true, Option.bind_some, pb, jn, Nat.zero_add, Nat.add_zero], ib_T (show 8 * t + j < 144 by omega) (by omega), jN_nat (show 8 * t + j < 2147483648 by omega), hcell, show jN j + (1 : Int32) = jN (j + 1) from by simp (disch := omega) only [jl_0, jl_1, jl_2, jl_3, jl_4, jl_5, jl_6, jl_7, jl_8, jl_9, jl_10, jl_11, jl_12, jl_13, jl_14, jl_15, jl_16, jl_17, jl_18, jl_20, jl_23, jl_29, jl_30, jl_31, jl_32, jl_35, jl_40, jl_48, jl_50, jl_51, jl_57, jl_60, jl_61, jl_63, jl_64, jl_65, jl_89, jl_97, jl_99, jl_100, jl_101, jl_113, jl_122, jl_200, jl_240, jl_241, jl_255, jl_259, jl_260, jl_261, jl_262, jl_313, jl_500, jl_999, jl_10000, jl_10004, jl_10005, jl_10006, jl_10007, jl_10008, jl_10009, jl_10010, jl_10011, jl_10012, jl_10013, jl_10014, jl_10015, jl_10017, jl_10018, jl_10023, jl_12345, jl_1103515245, jN_add, jN_mul, jN_sub, jN_addm, jN_div, jN_irm, jN_nat, le_T, le_F, lt_T, lt_F, eq_F, ib_T, ib_F, add_j0, if_true, if_false, eq_self, Bool.false_eq_true, Option.bind_some, pb, jn, Nat.zero_add, Nat.add_zero]]
      simp only [if_true, Option.bind_some, pb]
      by_cases z : ltr (8 * t + j) = if e ≤ p + j then (32 : Int32) else jN (bt (p + j))
      · rw [if_pos z]
        have nx : (∀ i, i < 8 → j ≤ i → ltr (8 * t + i) = if e ≤ p + i then (32 : Int32) else jN (bt (p + i))) ↔ (∀ i, i < 8 → j + 1 ≤ i → ltr (8 * t + i) = if e ≤ p + i then (32 : Int32) else jN (bt (p + i))) := by
          constructor
          · intro y i h1 h2; exact y i h1 (by omega)
          · intro y i h1 h2
            by_cases hi : i = j
            · subst hi; exact z
            · exact y i h1 (by omega)
        refine ⟨r, v3, e3, ?_⟩
        rcases e4 with ⟨y1, y2⟩ | ⟨y1, y2⟩
        · exact Or.inl ⟨y1, nx.mpr y2⟩
        · exact Or.inr ⟨y1, fun y => y2 (nx.mp y)⟩
      · refine ⟨0, jN (j + 1), ?_, Or.inr ⟨rfl, fun y => z (y j (by omega) (Nat.le_refl _))⟩⟩
        rw [if_neg z]
        cases m with
        | zero => omega
        | succ m =>
          rw [X12_isNameOf_L1]
          by_cases y : (8 : Int32) ≤ jN (j + 1)
          · rw [if_pos y]
          · rw [if_neg y, if_pos (show (0 : Int32) = 0 from rfl)]
  have eqv : (e - p ≤ 8 ∧ ∀ i, i < 8 → 0 ≤ i → ltr (8 * t + i) = if e ≤ p + i then (32 : Int32) else jN (bt (p + i))) ↔ mtB bt p e (cT t) = true := by
    have n32 : ∀ i, i < e - p → ¬ jN (bt (p + i)) = (32 : Int32) := fun i hi z => by
      have y := so_1 (hs (p + i) (by omega) (by omega))
      have := (jN_inj (b := 32) (by omega) (by omega)).mp z
      omega
    unfold mtB
    rw [Bool.and_eq_true_iff, decide_eq_true_iff, decide_eq_true_iff]
    constructor
    · rintro ⟨h8, y⟩
      have hl : e - p = wlN (cT t) := by
        rcases Nat.lt_trichotomy (e - p) (wlN (cT t)) with q | q | q
        · have := y (e - p) (by omega) (by omega)
          obtain ⟨-, -, a3, a4, -⟩ := wx_1 (cT t) hc (e - p) q
          rw [ltr_at ht (by omega), if_pos q, if_pos (by omega)] at this
          exact absurd ((jN_inj (b := 32) (by omega) (by omega)).mp this) a4
        · exact q
        · have := y (wlN (cT t)) (by omega) (by omega)
          rw [ltr_at ht (by omega), if_neg (Nat.lt_irrefl _), if_neg (by omega)] at this
          exact absurd this.symm (n32 _ q)
      refine ⟨hl, fun j hj => ?_⟩
      have := y j (by omega) (by omega)
      obtain ⟨-, -, a3, -, -⟩ := wx_1 (cT t) hc j hj
      rw [ltr_at ht (by omega), if_pos hj, if_neg (by omega)] at this
      have y2 := so_1 (hs (p + j) (by omega) (by omega))
      exact ((jN_inj (by omega) (by omega)).mp this).symm
    · rintro ⟨hl, y⟩
      refine ⟨by omega, fun i hi _ => ?_⟩
      rw [ltr_at ht hi]
      by_cases q : i < wlN (cT t)
      · rw [if_pos q, if_neg (by omega), y i q]
      · rw [if_neg q, if_pos (by omega)]
  by_cases h8 : e - p ≤ 8
  · obtain ⟨r, v3, e3, e4⟩ := K 8 n 0 (by omega) (by omega)
    rw [if_neg (show ¬ (8 : Int32) < jN (e - p) by rw [jl_8, lt_F (by omega) (by omega)]; exact not_false), show X12_isNameOf_L1 n tm (jN L) ltr (jN e) (jN p) (jN t) n 1 (0 : Int32) = _ from e3]
    simp only [Option.bind_some]
    rcases e4 with ⟨rfl, y⟩ | ⟨rfl, y⟩
    · rw [if_pos (eqv.mp ⟨h8, y⟩)]; rfl
    · rw [if_neg (show ¬ mtB bt p e (cT t) = true from fun w => y (eqv.mpr w).2)]; rfl
  · obtain ⟨m, rfl⟩ : ∃ y, n = y + 1 := ⟨n - 1, by omega⟩
    rw [if_pos (show (8 : Int32) < jN (e - p) by rw [jl_8, lt_T (by omega) (by omega)]; trivial), if_neg (show ¬ mtB bt p e (cT t) = true from fun z => h8 (eqv.mpr z).1), X12_isNameOf_L1, if_neg (show ¬ (8 : Int32) ≤ 0 by decide), if_pos (show (0 : Int32) = 0 from rfl)]
    rfl
theorem m_names (hn : 300 ≤ n) (hL : L ≤ 200) (h : BT L bt tc tm) {p e : Nat} (hp : p < e) (he : e ≤ L) (hs : ∀ i, p ≤ i → i < e → so (bt i) = 1) : ∀ d m i tok, i + d = 18 → d < m → ∃ T, X12_readsName_L2 n tm (jN L) ltr (jN e) (jN p) m (jN i) tok = some (jN 18, T) ∧ ((∃ t, t < 18 ∧ mtB bt p e (cT t) = true ∧ T = jN t) ∨ ((∀ t, i ≤ t → t < 18 → ¬ mtB bt p e (cT t) = true) ∧ T = tok)) := by
  intro d
  induction d with
  | zero =>
    intro m i tok hi hm
    obtain ⟨m, rfl⟩ : ∃ y, m = y + 1 := ⟨m - 1, by omega⟩
    have : i = 18 := by omega
    subst this
    refine ⟨tok, ?_, Or.inr ⟨fun t h1 h2 => by omega, rfl⟩⟩
    rw [X12_readsName_L2, if_pos (show (18 : Int32) ≤ jN 18 by decide)]
  | succ d ih =>
    intro m i tok hi hm
    obtain ⟨m, rfl⟩ : ∃ y, m = y + 1 := ⟨m - 1, by omega⟩
    rw [X12_readsName_L2, if_neg (show ¬ (18 : Int32) ≤ jN i by rw [jl_18, le_F (by omega) (by omega)]; exact not_false), m_isName hn hL h (by omega) hp he hs, show jN i + (1 : Int32) = jN (i + 1) from by simp (disch := omega) only [jl_0, jl_1, jl_2, jl_3, jl_4, jl_5, jl_6, jl_7, jl_8, jl_9, jl_10, jl_11, jl_12, jl_13, jl_14, jl_15, jl_16, jl_17, jl_18, jl_20, jl_23, jl_29, jl_30, jl_31, jl_32, jl_35, jl_40, jl_48, jl_50, jl_51, jl_57, jl_60, jl_61, jl_63, jl_64, jl_65, jl_89, jl_97, jl_99, jl_100, jl_101, jl_113, jl_122, jl_200, jl_240, jl_241, jl_255, jl_259, jl_260, jl_261, jl_262, jl_313, jl_500, jl_999, jl_10000, jl_10004, jl_10005, jl_10006, jl_10007, jl_10008, jl_10009, jl_10010, jl_10011, jl_10012, jl_10013, jl_10014, jl_10015, jl_10017, jl_10018, jl_10023, jl_12345, jl_1103515245, jN_add, jN_mul, jN_sub, jN_addm, jN_div, jN_irm, jN_nat, le_T, le_F, lt_T, lt_F, eq_F, ib_T, ib_F, add_j0, if_true, if_false, eq_self, Bool.false_eq_true, Option.bind_some, pb, jn, Nat.zero_add, Nat.add_zero]]
    simp only [Option.bind_some, pb]
    by_cases z : mtB bt p e (cT i) = true
    · rw [if_pos z, if_neg (show ¬ (1 : Int32) = 0 by decide)]
      obtain ⟨T, e1, e2⟩ := ih m (i + 1) (jN i) (by omega) (by omega)
      refine ⟨T, e1, Or.inl ?_⟩
      rcases e2 with y | ⟨-, y⟩
      · exact y
      · exact ⟨i, by omega, z, y⟩
    · rw [if_neg z, if_pos (show (0 : Int32) = 0 from rfl)]
      obtain ⟨T, e1, e2⟩ := ih m (i + 1) tok (by omega) (by omega)
      refine ⟨T, e1, ?_⟩
      rcases e2 with y | ⟨y1, y2⟩
      · exact Or.inl y
      · refine Or.inr ⟨fun t h1 h2 => ?_, y2⟩
        by_cases hi2 : t = i
        · subst hi2; exact z
        · exact y1 t (by omega) h2
theorem m_digits (hL : L ≤ 200) (h : BT L bt tc tm) (p : Nat) : ∀ d m q x, q + d = L → p ≤ q → d < m → ∃ y, X12_readsNumber_L1 n tm (jN L) (jN p) m (jN q) (jN x) = some (jN (enF bt 2 d q), y) ∧ (enF bt 2 d q - p ≤ 4 → y = jN (nuF bt (enF bt 2 d q - q) q x)) := by
  intro d
  induction d with
  | zero =>
    intro m q x hq hpq hm
    obtain ⟨m, rfl⟩ : ∃ y, m = y + 1 := ⟨m - 1, by omega⟩
    refine ⟨jN x, ?_, fun _ => ?_⟩
    · rw [X12_readsNumber_L1, m_at hL h (by omega), if_neg (show ¬ q < L by omega)]
      simp only [Option.bind_some]
      rw [if_pos (show X12_in1 (-1) (48 : Int32) (57 : Int32) = 0 from by decide)]; rfl
    · unfold enF; rw [Nat.sub_self]; rfl
  | succ d ih =>
    intro m q x hq hpq hm
    obtain ⟨m, rfl⟩ : ∃ y, m = y + 1 := ⟨m - 1, by omega⟩
    have hb := (h q (by omega)).1
    rw [X12_readsNumber_L1, m_at hL h (by omega), if_pos (show q < L by omega)]
    simp only [Option.bind_some]
    rw [inl_2 _ hb, jN_sub hpq, show jN q + (1 : Int32) = jN (q + 1) from by simp (disch := omega) only [jl_0, jl_1, jl_2, jl_3, jl_4, jl_5, jl_6, jl_7, jl_8, jl_9, jl_10, jl_11, jl_12, jl_13, jl_14, jl_15, jl_16, jl_17, jl_18, jl_20, jl_23, jl_29, jl_30, jl_31, jl_32, jl_35, jl_40, jl_48, jl_50, jl_51, jl_57, jl_60, jl_61, jl_63, jl_64, jl_65, jl_89, jl_97, jl_99, jl_100, jl_101, jl_113, jl_122, jl_200, jl_240, jl_241, jl_255, jl_259, jl_260, jl_261, jl_262, jl_313, jl_500, jl_999, jl_10000, jl_10004, jl_10005, jl_10006, jl_10007, jl_10008, jl_10009, jl_10010, jl_10011, jl_10012, jl_10013, jl_10014, jl_10015, jl_10017, jl_10018, jl_10023, jl_12345, jl_1103515245, jN_add, jN_mul, jN_sub, jN_addm, jN_div, jN_irm, jN_nat, le_T, le_F, lt_T, lt_F, eq_F, ib_T, ib_F, add_j0, if_true, if_false, eq_self, Bool.false_eq_true, Option.bind_some, pb, jn, Nat.zero_add, Nat.add_zero]]
    unfold enF
    by_cases z : so (bt q) = 2
    · have h48 := so_2 z
      rw [if_pos z, if_pos z, if_neg (show ¬ (1 : Int32) = 0 by decide)]
      obtain ⟨g1, g2, -⟩ := enF_b bt 2 d (q + 1)
      by_cases y : q - p < 4
      · rw [if_neg (show ¬ (4 : Int32) ≤ jN (q - p) by rw [jl_4, le_F (by omega) (by omega)]; exact not_false), show (10 : Int32) * jN x + jN (bt q) - (48 : Int32) = jN (10 * x + bt q - 48) from by
          rw [jl_10, jl_48, jN_mul, jN_add, jN_sub (by omega)]]
        simp only [Option.bind_some]
        obtain ⟨v, e1, e2⟩ := ih m (q + 1) (10 * x + bt q - 48) (by omega) (by omega) (by omega)
        refine ⟨v, e1, fun w => ?_⟩
        rw [e2 w, show enF bt 2 d (q + 1) - q = (enF bt 2 d (q + 1) - (q + 1)) + 1 by omega]; rfl
      · rw [if_pos (show (4 : Int32) ≤ jN (q - p) by rw [jl_4, le_T (by omega) (by omega)]; trivial)]
        simp only [Option.bind_some]
        obtain ⟨v, e1, e2⟩ := ih m (q + 1) x (by omega) (by omega) (by omega)
        exact ⟨v, e1, fun w => by omega⟩
    · rw [if_neg z, if_neg z, if_pos (show (0 : Int32) = 0 from rfl)]
      exact ⟨jN x, rfl, fun _ => by rw [Nat.sub_self]; rfl⟩
/-- the next token -/
theorem m_next (hn : 300 ≤ n) (hL : L ≤ 200) (h : BT L bt tc tm) {q : Nat} (hq : q ≤ L) (val : Int32) : ∃ t v, X12_next n tm (jN L) ltr (jN q) val = some (jN (if sk bt L q < L then en bt L (sk bt L q) else L), jN (sk bt L q), t, v) ∧ WT (wd bt L (sk bt L q)) t v := by
  obtain ⟨s1, s2, s3⟩ := sk_b (bt := bt) hq
  unfold X12_next
  rw [m_skip hL h (L - q) n q (by omega) (by omega)]
  simp only [Option.bind_some]
  rw [show skF bt (L - q) q = sk bt L q from rfl]
  generalize hp : sk bt L q = p at s1 s2 s3
  rw [m_at hL h s2]
  simp only [Option.bind_some]
  by_cases hpl : p < L
  rotate_left
  · rw [if_neg hpl, if_neg (show ¬ (0 : Int32) ≤ -1 by decide), if_neg hpl, show p = L by omega]
    refine ⟨_, _, rfl, Or.inr (Or.inr (Or.inr ⟨?_, rfl⟩))⟩
    unfold wd; rw [if_neg (Nat.lt_irrefl _)]
  obtain ⟨hb, -, -⟩ := h p hpl
  obtain ⟨n1, n2, n3⟩ := en_b (bt := bt) hpl
  rw [if_pos hpl, if_pos hpl, if_pos (show (0 : Int32) ≤ jN (bt p) by rw [jl_0, le_T (by omega) (by omega)]; trivial), inl_1 _ hb, inl_2 _ hb]
  rcases so_3 (bt p) with z | z | z
  · rw [if_neg (show ¬ so (bt p) = 1 by omega), if_neg (show ¬ so (bt p) = 2 by omega), if_pos (show (0 : Int32) = 0 from rfl), if_pos (show (0 : Int32) = 0 from rfl)]
    have hen : en bt L p = p + 1 := by unfold en; rw [if_pos z]
    refine ⟨_, _, by rw [hen, show jN p + (1 : Int32) = jN (p + 1) from by simp (disch := omega) only [jl_0, jl_1, jl_2, jl_3, jl_4, jl_5, jl_6, jl_7, jl_8, jl_9, jl_10, jl_11, jl_12, jl_13, jl_14, jl_15, jl_16, jl_17, jl_18, jl_20, jl_23, jl_29, jl_30, jl_31, jl_32, jl_35, jl_40, jl_48, jl_50, jl_51, jl_57, jl_60, jl_61, jl_63, jl_64, jl_65, jl_89, jl_97, jl_99, jl_100, jl_101, jl_113, jl_122, jl_200, jl_240, jl_241, jl_255, jl_259, jl_260, jl_261, jl_262, jl_313, jl_500, jl_999, jl_10000, jl_10004, jl_10005, jl_10006, jl_10007, jl_10008, jl_10009, jl_10010, jl_10011, jl_10012, jl_10013, jl_10014, jl_10015, jl_10017, jl_10018, jl_10023, jl_12345, jl_1103515245, jN_add, jN_mul, jN_sub, jN_addm, jN_div, jN_irm, jN_nat, le_T, le_F, lt_T, lt_F, eq_F, ib_T, ib_F, add_j0, if_true, if_false, eq_self, Bool.false_eq_true, Option.bind_some, pb, jn, Nat.zero_add, Nat.add_zero]], ?_⟩
    have hw : wd bt L p = wdF bt p (p + 1) 24 0 := by unfold wd; rw [if_pos hpl, if_neg (by omega), hen]
    rw [hw, show (200 : Int32) + jN (bt p) = jN (200 + bt p) from by simp (disch := omega) only [jl_0, jl_1, jl_2, jl_3, jl_4, jl_5, jl_6, jl_7, jl_8, jl_9, jl_10, jl_11, jl_12, jl_13, jl_14, jl_15, jl_16, jl_17, jl_18, jl_20, jl_23, jl_29, jl_30, jl_31, jl_32, jl_35, jl_40, jl_48, jl_50, jl_51, jl_57, jl_60, jl_61, jl_63, jl_64, jl_65, jl_89, jl_97, jl_99, jl_100, jl_101, jl_113, jl_122, jl_200, jl_240, jl_241, jl_255, jl_259, jl_260, jl_261, jl_262, jl_313, jl_500, jl_999, jl_10000, jl_10004, jl_10005, jl_10006, jl_10007, jl_10008, jl_10009, jl_10010, jl_10011, jl_10012, jl_10013, jl_10014, jl_10015, jl_10017, jl_10018, jl_10023, jl_12345, jl_1103515245, jN_add, jN_mul, jN_sub, jN_addm, jN_div, jN_irm, jN_nat, le_T, le_F, lt_T, lt_F, eq_F, ib_T, ib_F, add_j0, if_true, if_false, eq_self, Bool.false_eq_true, Option.bind_some, pb, jn, Nat.zero_add, Nat.add_zero]]
    by_cases hc : ∃ c, c < 24 ∧ mtB bt p (p + 1) c = true
    · obtain ⟨c, hc, hm⟩ := hc
      have hm2 := Bool.and_eq_true_iff.mp hm
      have l1 := of_decide_eq_true hm2.1
      have l2 := of_decide_eq_true hm2.2
      have w3 := wx_3 c hc (by omega)
      have l3 := l2 0 (by omega)
      exact Or.inl ⟨c, hc, wdF_m hc hm 24 0 rfl (Nat.zero_le _), by rw [w3.2, ← l3]; rfl⟩
    · refine Or.inr (Or.inr (Or.inl ⟨wdF_n (fun c h1 h2 => hc ⟨c, h1, h2⟩) 24 0 rfl, 200 + bt p, rfl, by omega, by omega, by omega, fun c h1 h2 => hc ⟨c, h1, ?_⟩⟩))
      rcases tT_b c h1 with y | ⟨y1, y2, y3⟩
      · omega
      · unfold mtB
        rw [decide_eq_true (show p + 1 - p = wlN c by omega), Bool.true_and]
        refine decide_eq_true (fun j hj => ?_)
        have : j = 0 := by omega
        subst this
        rw [Nat.add_zero]; omega
  · rw [if_pos z, if_neg (show ¬ (1 : Int32) = 0 by decide)]
    have hen : en bt L p = enF bt 1 (L - p) p := by
      unfold en; rw [if_neg (by omega), z, show L - p = (L - (p + 1)) + 1 by omega]
      show _ = (if so (bt p) = 1 then enF bt 1 (L - (p + 1)) (p + 1) else p)
      rw [if_pos z]
    unfold X12_readsName
    rw [m_letters hL h (L - p) n p (by omega) (by omega), ← hen]
    simp only [Option.bind_some]
    obtain ⟨T, e1, e2⟩ := m_names (n := n) hn hL h n1 n2 (fun i q1 q2 => by rw [n3 i q1 q2]; exact z) 18 n 0 101 (by omega) (by omega)
    rw [show X12_readsName_L2 n tm (jN L) ltr (jN (en bt L p)) (jN p) n (0 : Int32) (101 : Int32) = _ from e1]
    refine ⟨T, val, rfl, ?_⟩
    have hw : wd bt L p = wdF bt p (en bt L p) 24 0 := by unfold wd; rw [if_pos hpl, if_neg (by omega)]
    rw [hw]
    rcases e2 with ⟨t, ht, hm, rfl⟩ | ⟨hno, rfl⟩
    · obtain ⟨hc, htt⟩ := cT_b t ht
      exact Or.inl ⟨cT t, hc, wdF_m hc hm 24 0 rfl (Nat.zero_le _), by rw [htt]⟩
    · refine Or.inr (Or.inr (Or.inl ⟨wdF_n (fun c h1 h2 => ?_) 24 0 rfl, 101, rfl, by omega, by omega, by omega, fun c h1 => (wx_5 c h1).1⟩))
      rcases tT_b c h1 with ⟨y1, y2⟩ | ⟨y1, y2, -⟩
      · exact hno (tT c) (Nat.zero_le _) y1 (by rw [y2]; exact h2)
      · have hm2 := Bool.and_eq_true_iff.mp h2
        have l2 := of_decide_eq_true hm2.2 0 (by omega)
        rw [Nat.add_zero] at l2
        rw [← l2] at y2; omega
  · rw [if_neg (show ¬ so (bt p) = 1 by omega), if_pos z, if_pos (show (0 : Int32) = 0 from rfl), if_neg (show ¬ (1 : Int32) = 0 by decide)]
    have hen : en bt L p = enF bt 2 (L - p) p := by
      unfold en; rw [if_neg (by omega), z, show L - p = (L - (p + 1)) + 1 by omega]
      show _ = (if so (bt p) = 2 then enF bt 2 (L - (p + 1)) (p + 1) else p)
      rw [if_pos z]
    unfold X12_readsNumber
    obtain ⟨y, e1, e2⟩ := m_digits (n := n) hL h p (L - p) n p 0 (by omega) (Nat.le_refl _) (by omega)
    rw [← hen] at e1 e2
    rw [show X12_readsNumber_L1 n tm (jN L) (jN p) n (jN p) (0 : Int32) = _ from e1]
    simp only [Option.bind_some]
    rw [jN_sub (by omega)]
    have hw : wd bt L p = if en bt L p - p ≤ 4 then jN (nuF bt (en bt L p - p) p 0) else -1 := by unfold wd; rw [if_pos hpl, if_pos z]
    rw [hw]
    by_cases h4 : en bt L p - p ≤ 4
    · rw [if_pos h4, if_pos (show jN (en bt L p - p) ≤ (4 : Int32) by rw [jl_4, le_T (by omega) (by omega)]; trivial)]
      refine ⟨_, _, rfl, Or.inr (Or.inl ⟨nuF bt (en bt L p - p) p 0, ?_, rfl, rfl, e2 h4⟩)⟩
      have b1 := nuF_b (bt := bt) (en bt L p - p) p 0 (fun i q1 q2 => so_2 (by rw [n3 i q1 (by omega)]; exact z))
      have b2 : (0 + 1) * 10 ^ (en bt L p - p) ≤ 10000 := by
        have : 10 ^ (en bt L p - p) ≤ 10 ^ 4 := Nat.pow_le_pow_right (by omega) h4
        omega
      omega
    · rw [if_neg h4, if_neg (show ¬ jN (en bt L p - p) ≤ (4 : Int32) by rw [jl_4, le_F (by omega) (by omega)]; exact not_false)]
      exact ⟨_, _, rfl, Or.inr (Or.inr (Or.inl ⟨rfl, 101, rfl, by omega, by omega, by omega, fun c h1 => (wx_5 c h1).1⟩))⟩
end NEXT
