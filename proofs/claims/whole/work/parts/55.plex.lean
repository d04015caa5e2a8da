/-! words: places in the class's text, and of the reference's names -/
def wtl : List (List Nat) := [[99, 104, 105, 109, 101], [108, 97, 103], [112, 114, 105, 100, 101], [115, 117, 110], [110, 117, 109, 98, 101, 114], [60], [61], [62], [110, 111, 116], [97, 110, 100], [111, 114], [105, 102], [40], [41], [59], [115, 101, 116], [107, 101, 101, 112], [97, 114, 103, 117, 101], [100, 105, 97, 108], [110, 111, 111, 110], [116, 97, 108, 108], [103, 117, 105, 108, 100], [108, 111, 119], [115, 108, 105, 116]]
def wN (c j : Nat) : Nat := (wtl.getD c []).getD j 0
def wlN (c : Nat) : Nat := (wtl.getD c []).length
def wbN (c : Nat) : Nat := [0, 6, 10, 16, 20, 27, 29, 31, 33, 37, 41, 44, 47, 49, 51, 53, 57, 62, 68, 73, 78, 83, 89, 93, 98].getD c 0
def so (k : Nat) : Nat := if 97 ≤ k ∧ k ≤ 122 then 1 else if 48 ≤ k ∧ k ≤ 57 then 2 else 0
theorem so_c : ∀ k, k < 256 → X6_sortOf (sb k) = some (jN (so k)) := by decide +kernel
theorem so_1 {k : Nat} (h : so k = 1) : 97 ≤ k ∧ k ≤ 122 := by
  unfold so at h; split at h
  · assumption
  · split at h <;> omega
theorem so_2 {k : Nat} (h : so k = 2) : 48 ≤ k ∧ k ≤ 57 := by
  unfold so at h; split at h
  · omega
  · split at h
    · assumption
    · omega
theorem so_0 {k : Nat} (h : so k = 0) : ¬ (97 ≤ k ∧ k ≤ 122) ∧ ¬ (48 ≤ k ∧ k ≤ 57) := by
  unfold so at h; split at h
  · omega
  · split at h
    · omega
    · exact ⟨by assumption, by assumption⟩
theorem so_3 (k : Nat) : so k = 0 ∨ so k = 1 ∨ so k = 2 := by unfold so; split; exact Or.inr (Or.inl rfl); split; exact Or.inr (Or.inr rfl); exact Or.inl rfl
theorem sb_j : ∀ k, k < 128 → sb k = jN k := by decide +kernel
theorem sb_32 : ∀ k, k < 256 → ((sb k = 32) ↔ k = 32) := by decide +kernel
theorem sb_n : ∀ k, k < 256 → 128 ≤ k → sb k < 0 := by decide +kernel
theorem sb_e {k a : Nat} (hk : k < 256) (ha : a < 128) (h : sb k = jN a) : k = a := by
  by_cases hq : k < 128
  · rw [sb_j k hq] at h; exact (jN_inj (by omega) (by omega)).mp h
  · have h1 := sb_n k hk (by omega)
    rw [h] at h1
    have h2 : (jN a < 0) = False := lt_F (b := 0) (by omega) (by omega)
    rw [h2] at h1; exact h1.elim
theorem wx_1 : ∀ c, c < 24 → ∀ j, j < wlN c → wch (wbN c + j) = jN (wN c j) ∧ ¬ wch (wbN c + j) = 32 ∧ wN c j < 128 ∧ ¬ wN c j = 32 ∧ wbN c + j < 97 := by decide +kernel
theorem wx_2 : ∀ c, c < 24 → wbN (c + 1) = wbN c + wlN c + 1 ∧ wlN c ≤ 6 ∧ 1 ≤ wlN c ∧ (wbN c + wlN c = 97 ∨ (wbN c + wlN c < 97 ∧ wch (wbN c + wlN c) = 32)) := by decide +kernel
/-- which word a name's number is -/
def cT (t : Nat) : Nat := if t < 6 then 18 + t else if t < 9 then 9 + t else if t = 9 then 11 else if t < 13 then t - 2 else t - 13
def tT (c : Nat) : Nat := if c < 5 then c + 13 else if c = 5 then 260 else if c = 6 then 261 else if c = 7 then 262 else if c < 11 then c + 2 else if c = 11 then 9 else if c = 12 then 240 else if c = 13 then 241 else if c = 14 then 259 else if c < 18 then c - 9 else c - 18
theorem cT_b : ∀ t, t < 18 → cT t < 24 ∧ tT (cT t) = t := by decide +kernel
theorem tT_b : ∀ c, c < 24 → (tT c < 18 ∧ cT (tT c) = c) ∨ (wlN c = 1 ∧ so (wN c 0) = 0 ∧ tT c = 200 + wN c 0) := by decide +kernel
theorem wx_3 : ∀ c, c < 24 → wlN c = 1 → so (wN c 0) = 0 ∧ tT c = 200 + wN c 0 := by decide +kernel
/-- the names, eight letters each -/
def ltr : Nat → Int32 := fun i => if i < 144 then (if i % 8 < wlN (cT (i / 8)) then jN (wN (cT (i / 8)) (i % 8)) else 32) else 0
def mtB (bt : Nat → Nat) (p e c : Nat) : Bool := decide (e - p = wlN c) && decide (∀ j, j < wlN c → bt (p + j) = wN c j)
theorem wx_4 : ∀ c, c < 24 → ∀ d, d < 24 → wlN c = wlN d → (∀ j, j < wlN c → wN c j = wN d j) → c = d := by decide +kernel
theorem mt_1 {bt : Nat → Nat} {p e c d : Nat} (hc : c < 24) (hd : d < 24) (h1 : mtB bt p e c = true) (h2 : mtB bt p e d = true) : c = d := by
  unfold mtB at h1 h2
  have a := Bool.and_eq_true_iff.mp h1
  have b := Bool.and_eq_true_iff.mp h2
  have a1 := of_decide_eq_true a.1
  have a2 := of_decide_eq_true a.2
  have b1 := of_decide_eq_true b.1
  have b2 := of_decide_eq_true b.2
  exact wx_4 c hc d hd (by omega) (fun j hj => (a2 j hj).symm.trans (b2 j (by omega)))
/-- the bytes of both sides -/
def BT (L : Nat) (bt : Nat → Nat) (tc tm : Nat → Int32) : Prop := ∀ i, i < L → bt i < 256 ∧ tm i = jN (bt i) ∧ tc i = sb (bt i)
theorem TR.bt {L : Nat} {tc tm : Nat → Int32} (h : TR L tc tm) : BT L (fun i => (tm i).toNatClampNeg) tc tm := by
  intro i hi
  obtain ⟨k, hk, e1, e2⟩ := h i hi
  have : (tm i).toNatClampNeg = k := by rw [e1, jN_nat (by omega)]
  show (tm i).toNatClampNeg < 256 ∧ tm i = jN (tm i).toNatClampNeg ∧ tc i = sb (tm i).toNatClampNeg
  rw [this]; exact ⟨hk, e1, e2⟩
def enF (bt : Nat → Nat) (σ : Nat) : Nat → Nat → Nat
  | 0, q => q
  | d + 1, q => if so (bt q) = σ then enF bt σ d (q + 1) else q
/-- where the row at p ends -/
def en (bt : Nat → Nat) (L p : Nat) : Nat := if so (bt p) = 0 then p + 1 else enF bt (so (bt p)) (L - (p + 1)) (p + 1)
theorem enF_b (bt : Nat → Nat) (σ : Nat) : ∀ d q, q ≤ enF bt σ d q ∧ enF bt σ d q ≤ q + d ∧ ∀ i, q ≤ i → i < enF bt σ d q → so (bt i) = σ := by
  intro d
  induction d with
  | zero => intro q; exact ⟨Nat.le_refl _, Nat.le_refl _, fun i h1 h2 => absurd h2 (by unfold enF; omega)⟩
  | succ d ih =>
    intro q
    unfold enF; split
    · rename_i hs
      obtain ⟨a, b, c⟩ := ih (q + 1)
      refine ⟨by omega, by omega, fun i h1 h2 => ?_⟩
      by_cases hq : i = q
      · subst hq; exact hs
      · exact c i (by omega) h2
    · exact ⟨Nat.le_refl _, by omega, fun i h1 h2 => by omega⟩
theorem en_b {bt : Nat → Nat} {L p : Nat} (hp : p < L) : p < en bt L p ∧ en bt L p ≤ L ∧ ∀ i, p ≤ i → i < en bt L p → so (bt i) = so (bt p) := by
  unfold en; split
  · exact ⟨by omega, by omega, fun i h1 h2 => by rw [show i = p by omega]⟩
  · obtain ⟨a, b, c⟩ := enF_b bt (so (bt p)) (L - (p + 1)) (p + 1)
    refine ⟨by omega, by omega, fun i h1 h2 => ?_⟩
    by_cases hq : i = p
    · rw [hq]
    · exact c i (by omega) h2
def wdF (bt : Nat → Nat) (p e : Nat) : Nat → Nat → Int32
  | 0, _ => -1
  | d + 1, c => if mtB bt p e c = true then jN (10000 + c) else wdF bt p e d (c + 1)
def nuF (bt : Nat → Nat) : Nat → Nat → Nat → Nat
  | 0, _, x => x
  | d + 1, q, x => nuF bt d (q + 1) (10 * x + bt q - 48)
/-- the class's word for the row at p -/
def wd (bt : Nat → Nat) (L p : Nat) : Int32 := if p < L then (if so (bt p) = 2 then (if en bt L p - p ≤ 4 then jN (nuF bt (en bt L p - p) p 0) else -1) else wdF bt p (en bt L p) 24 0) else -2
section CUT
variable {n L : Nat} {bt : Nat → Nat} {tc tm : Nat → Int32}
theorem c_end (hn : 300 ≤ n) (hL : L ≤ 200) (h : BT L bt tc tm) {p : Nat} (hp : p < L) : X6_endOfRow n (jN L) tc (jN p) = some (jN (en bt L p)) := by
  unfold X6_endOfRow
  rw [ib_T (show p < 200 by omega) (by omega), jN_nat (show p < 2147483648 by omega), (h p hp).2.2, so_c _ (h p hp).1]
  simp only [if_true, Option.bind_some]
  rw [show jN p + (1 : Int32) = jN (p + 1) from by simp (disch := omega) only [jl_0, jl_1, jl_2, jl_3, jl_4, jl_5, jl_6, jl_7, jl_8, jl_9, jl_10, jl_11, jl_12, jl_13, jl_14, jl_15, jl_16, jl_17, jl_18, jl_20, jl_23, jl_29, jl_30, jl_31, jl_32, jl_35, jl_40, jl_48, jl_50, jl_51, jl_57, jl_60, jl_61, jl_63, jl_64, jl_65, jl_89, jl_97, jl_99, jl_100, jl_101, jl_113, jl_122, jl_200, jl_240, jl_241, jl_255, jl_259, jl_260, jl_261, jl_262, jl_313, jl_500, jl_999, jl_10000, jl_10004, jl_10005, jl_10006, jl_10007, jl_10008, jl_10009, jl_10010, jl_10011, jl_10012, jl_10013, jl_10014, jl_10015, jl_10017, jl_10018, jl_10023, jl_12345, jl_1103515245, jN_add, jN_mul, jN_sub, jN_addm, jN_div, jN_irm, jN_nat, le_T, le_F, lt_T, lt_F, eq_F, ib_T, ib_F, add_j0, if_true, if_false, eq_self, Bool.false_eq_true, Option.bind_some, pb, jn, Nat.zero_add, Nat.add_zero]]
  have K : ∀ σ, (σ = 1 ∨ σ = 2) → ∀ d m q, q + d = L → d < m → X6_endOfRow_L1 n (jN L) tc (jN σ) m (jN q) = some (jN (enF bt σ d q)) := by
    intro σ hσ d
    have s0 : ¬ jN σ = 0 := by rcases hσ with rfl | rfl <;> decide
    induction d with
    | zero =>
      intro m q hq hm
      obtain ⟨m, rfl⟩ : ∃ y, m = y + 1 := ⟨m - 1, by omega⟩
      have : q = L := by omega
      subst this
      rw [X6_endOfRow_L1, if_neg s0, if_pos (Int32.le_refl _)]; rfl
    | succ d ih =>
      intro m q hq hm
      obtain ⟨m, rfl⟩ : ∃ y, m = y + 1 := ⟨m - 1, by omega⟩
      rw [X6_endOfRow_L1, if_neg s0, if_neg (show ¬ jN L ≤ jN q by simp (disch := omega) only [jl_0, jl_1, jl_2, jl_3, jl_4, jl_5, jl_6, jl_7, jl_8, jl_9, jl_10, jl_11, jl_12, jl_13, jl_14, jl_15, jl_16, jl_17, jl_18, jl_20, jl_23, jl_29, jl_30, jl_31, jl_32, jl_35, jl_40, jl_48, jl_50, jl_51, jl_57, jl_60, jl_61, jl_63, jl_64, jl_65, jl_89, jl_97, jl_99, jl_100, jl_101, jl_113, jl_122, jl_200, jl_240, jl_241, jl_255, jl_259, jl_260, jl_261, jl_262, jl_313, jl_500, jl_999, jl_10000, jl_10004, jl_10005, jl_10006, jl_10007, jl_10008, jl_10009, jl_10010, jl_10011, jl_10012, jl_10013, jl_10014, jl_10015, jl_10017, jl_10018, jl_10023, jl_12345, jl_1103515245, jN_add, jN_mul, jN_sub, jN_addm, jN_div, jN_irm, jN_nat, le_T, le_F, lt_T, lt_F, eq_F, ib_T, ib_F, add_j0, if_true, if_false, eq_self, Bool.false_eq_true, Option.bind_some, pb, jn, Nat.zero_add, Nat.add_zero]; exact not_false), ib_T (show q < 200 by omega) (by omega), jN_nat (show q < 2147483648 by omega), (h q (by omega)).2.2, so_c _ (h q (by omega)).1]
      simp only [if_true, Option.bind_some]
      unfold enF
      by_cases hq2 : so (bt q) = σ
      · rw [hq2, if_pos rfl, if_pos rfl, show jN q + (1 : Int32) = jN (q + 1) from by simp (disch := omega) only [jl_0, jl_1, jl_2, jl_3, jl_4, jl_5, jl_6, jl_7, jl_8, jl_9, jl_10, jl_11, jl_12, jl_13, jl_14, jl_15, jl_16, jl_17, jl_18, jl_20, jl_23, jl_29, jl_30, jl_31, jl_32, jl_35, jl_40, jl_48, jl_50, jl_51, jl_57, jl_60, jl_61, jl_63, jl_64, jl_65, jl_89, jl_97, jl_99, jl_100, jl_101, jl_113, jl_122, jl_200, jl_240, jl_241, jl_255, jl_259, jl_260, jl_261, jl_262, jl_313, jl_500, jl_999, jl_10000, jl_10004, jl_10005, jl_10006, jl_10007, jl_10008, jl_10009, jl_10010, jl_10011, jl_10012, jl_10013, jl_10014, jl_10015, jl_10017, jl_10018, jl_10023, jl_12345, jl_1103515245, jN_add, jN_mul, jN_sub, jN_addm, jN_div, jN_irm, jN_nat, le_T, le_F, lt_T, lt_F, eq_F, ib_T, ib_F, add_j0, if_true, if_false, eq_self, Bool.false_eq_true, Option.bind_some, pb, jn, Nat.zero_add, Nat.add_zero]]
        exact ih m (q + 1) (by omega) (by omega)
      · rw [if_neg hq2, if_neg (fun z => hq2 ((jN_inj (by rcases so_3 (bt q) with z | z | z <;> omega) (by omega)).mp z))]
  unfold en
  rcases so_3 (bt p) with z | z
  · obtain ⟨m, rfl⟩ : ∃ y, n = y + 1 := ⟨n - 1, by omega⟩
    rw [z, X6_endOfRow_L1, if_pos (show jN 0 = 0 from rfl), if_pos rfl]; rfl
  · rw [K (so (bt p)) z (L - (p + 1)) n (p + 1) (by omega) (by omega), if_neg (by omega)]; rfl
theorem c_num (hn : 300 ≤ n) (hL : L ≤ 200) (h : BT L bt tc tm) {p e : Nat} (hp : p ≤ e) (he : e ≤ L) (hs : ∀ i, p ≤ i → i < e → so (bt i) = 2) : X6_numberOf n tc (jN p) (jN e) = some (if e - p ≤ 4 then jN (nuF bt (e - p) p 0) else -1) := by
  unfold X6_numberOf
  rw [jN_sub hp]
  by_cases hq : e - p ≤ 4
  · rw [if_pos hq, if_pos (show jN (e - p) ≤ (4 : Int32) by simp (disch := omega) only [jl_0, jl_1, jl_2, jl_3, jl_4, jl_5, jl_6, jl_7, jl_8, jl_9, jl_10, jl_11, jl_12, jl_13, jl_14, jl_15, jl_16, jl_17, jl_18, jl_20, jl_23, jl_29, jl_30, jl_31, jl_32, jl_35, jl_40, jl_48, jl_50, jl_51, jl_57, jl_60, jl_61, jl_63, jl_64, jl_65, jl_89, jl_97, jl_99, jl_100, jl_101, jl_113, jl_122, jl_200, jl_240, jl_241, jl_255, jl_259, jl_260, jl_261, jl_262, jl_313, jl_500, jl_999, jl_10000, jl_10004, jl_10005, jl_10006, jl_10007, jl_10008, jl_10009, jl_10010, jl_10011, jl_10012, jl_10013, jl_10014, jl_10015, jl_10017, jl_10018, jl_10023, jl_12345, jl_1103515245, jN_add, jN_mul, jN_sub, jN_addm, jN_div, jN_irm, jN_nat, le_T, le_F, lt_T, lt_F, eq_F, ib_T, ib_F, add_j0, if_true, if_false, eq_self, Bool.false_eq_true, Option.bind_some, pb, jn, Nat.zero_add, Nat.add_zero])]
    have K : ∀ d m q x, q + d = e → p ≤ q → d < m → X6_numberOf_L1 n tc (jN e) m (jN x) (jN q) = some (jN (nuF bt d q x), jN e) := by
      intro d
      induction d with
      | zero =>
        intro m q x hq hpq hm
        obtain ⟨m, rfl⟩ : ∃ y, m = y + 1 := ⟨m - 1, by omega⟩
        have : q = e := by omega
        subst this
        rw [X6_numberOf_L1, if_pos (Int32.le_refl _)]; rfl
      | succ d ih =>
        intro m q x hq hpq hm
        obtain ⟨m, rfl⟩ : ∃ y, m = y + 1 := ⟨m - 1, by omega⟩
        have hb := so_2 (hs q hpq (by omega))
        rw [X6_numberOf_L1, if_neg (show ¬ jN e ≤ jN q by simp (disch := omega) only [jl_0, jl_1, jl_2, jl_3, jl_4, jl_5, jl_6, jl_7, jl_8, jl_9, jl_10, jl_11, jl_12, jl_13, jl_14, jl_15, jl_16, jl_17, jl_18, jl_20, jl_23, jl_29, jl_30, jl_31, jl_32, jl_35, jl_40, jl_48, jl_50, jl_51, jl_57, jl_60, jl_61, jl_63, jl_64, jl_65, jl_89, jl_97, jl_99, jl_100, jl_101, jl_113, jl_122, jl_200, jl_240, jl_241, jl_255, jl_259, jl_260, jl_261, jl_262, jl_313, jl_500, jl_999, jl_10000, jl_10004, jl_10005, jl_10006, jl_10007, jl_10008, jl_10009, jl_10010, jl_10011, jl_10012, jl_10013, jl_10014, jl_10015, jl_10017, jl_10018, jl_10023, jl_12345, jl_1103515245, jN_add, jN_mul, jN_sub, jN_addm, jN_div, jN_irm, jN_nat, le_T, le_F, lt_T, lt_F, eq_F, ib_T, ib_F, add_j0, if_true, if_false, eq_self, Bool.false_eq_true, Option.bind_some, pb, jn, Nat.zero_add, Nat.add_zero]; exact not_false), ib_T (show q < 200 by omega) (by omega), jN_nat (show q < 2147483648 by omega), (h q (by omega)).2.2, sb_j _ (by omega), show jN q + (1 : Int32) = jN (q + 1) from by simp (disch := omega) only [jl_0, jl_1, jl_2, jl_3, jl_4, jl_5, jl_6, jl_7, jl_8, jl_9, jl_10, jl_11, jl_12, jl_13, jl_14, jl_15, jl_16, jl_17, jl_18, jl_20, jl_23, jl_29, jl_30, jl_31, jl_32, jl_35, jl_40, jl_48, jl_50, jl_51, jl_57, jl_60, jl_61, jl_63, jl_64, jl_65, jl_89, jl_97, jl_99, jl_100, jl_101, jl_113, jl_122, jl_200, jl_240, jl_241, jl_255, jl_259, jl_260, jl_261, jl_262, jl_313, jl_500, jl_999, jl_10000, jl_10004, jl_10005, jl_10006, jl_10007, jl_10008, jl_10009, jl_10010, jl_10011, jl_10012, jl_10013, jl_10014, jl_10015, jl_10017, jl_10018, jl_10023, jl_12345, jl_1103515245, jN_add, jN_mul, jN_sub, jN_addm, jN_div, jN_irm, jN_nat, le_T, le_F, lt_T, lt_F, eq_F, ib_T, ib_F, add_j0, if_true, if_false, eq_self, Bool.false_eq_true, Option.bind_some, pb, jn, Nat.zero_add, Nat.add_zero]]
        simp only [if_true]
        rw [show (10 : Int32) * jN x + jN (bt q) - (48 : Int32) = jN (10 * x + bt q - 48) from by
          rw [jl_10, jl_48, jN_mul, jN_add, jN_sub (by omega)]]
        exact ih m (q + 1) (10 * x + bt q - 48) (by omega) (by omega) (by omega)
    rw [show X6_numberOf_L1 n tc (jN e) n (0 : Int32) (jN p) = _ from K (e - p) n p 0 (by omega) (by omega) (by omega)]
    rfl
  · rw [if_neg hq, if_neg (show ¬ jN (e - p) ≤ (4 : Int32) by simp (disch := omega) only [jl_0, jl_1, jl_2, jl_3, jl_4, jl_5, jl_6, jl_7, jl_8, jl_9, jl_10, jl_11, jl_12, jl_13, jl_14, jl_15, jl_16, jl_17, jl_18, jl_20, jl_23, jl_29, jl_30, jl_31, jl_32, jl_35, jl_40, jl_48, jl_50, jl_51, jl_57, jl_60, jl_61, jl_63, jl_64, jl_65, jl_89, jl_97, jl_99, jl_100, jl_101, jl_113, jl_122, jl_200, jl_240, jl_241, jl_255, jl_259, jl_260, jl_261, jl_262, jl_313, jl_500, jl_999, jl_10000, jl_10004, jl_10005, jl_10006, jl_10007, jl_10008, jl_10009, jl_10010, jl_10011, jl_10012, jl_10013, jl_10014, jl_10015, jl_10017, jl_10018, jl_10023, jl_12345, jl_1103515245, jN_add, jN_mul, jN_sub, jN_addm, jN_div, jN_irm, jN_nat, le_T, le_F, lt_T, lt_F, eq_F, ib_T, ib_F, add_j0, if_true, if_false, eq_self, Bool.false_eq_true, Option.bind_some, pb, jn, Nat.zero_add, Nat.add_zero]; exact not_false)]
end CUT
