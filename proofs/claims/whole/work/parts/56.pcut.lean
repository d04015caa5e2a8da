def skF (bt : Nat → Nat) : Nat → Nat → Nat
  | 0, q => q
  | d + 1, q => if bt q = 32 then skF bt d (q + 1) else q
/-- the next place that is no blank -/
def sk (bt : Nat → Nat) (L q : Nat) : Nat := skF bt (L - q) q
theorem skF_b (bt : Nat → Nat) : ∀ d q, q ≤ skF bt d q ∧ skF bt d q ≤ q + d ∧ (skF bt d q < q + d → bt (skF bt d q) ≠ 32) := by
  intro d
  induction d with
  | zero => intro q; exact ⟨Nat.le_refl _, Nat.le_refl _, fun h => absurd h (by unfold skF; omega)⟩
  | succ d ih =>
    intro q
    unfold skF; split
    · obtain ⟨a, b, c⟩ := ih (q + 1)
      exact ⟨by omega, by omega, fun h => c (by omega)⟩
    · rename_i h; exact ⟨Nat.le_refl _, by omega, fun _ => h⟩
theorem sk_sp {bt : Nat → Nat} {L q : Nat} (hq : q < L) (h : bt q = 32) : sk bt L q = sk bt L (q + 1) := by
  unfold sk
  rw [show L - q = (L - (q + 1)) + 1 by omega, skF, if_pos h]
theorem sk_no {bt : Nat → Nat} {L q : Nat} (h : bt q ≠ 32) : sk bt L q = q := by
  unfold sk
  cases hd : L - q with
  | zero => rfl
  | succ d => rw [skF, if_neg h]
theorem sk_b {bt : Nat → Nat} {L q : Nat} (hq : q ≤ L) : q ≤ sk bt L q ∧ sk bt L q ≤ L ∧ (sk bt L q < L → bt (sk bt L q) ≠ 32) := by
  obtain ⟨a, b, c⟩ := skF_b bt (L - q) q
  exact ⟨a, by unfold sk; omega, fun h => c (by unfold sk at h; omega)⟩
/-- where word i begins -/
def po (bt : Nat → Nat) (L : Nat) : Nat → Nat
  | 0 => sk bt L 0
  | i + 1 => if po bt L i < L then sk bt L (en bt L (po bt L i)) else L
theorem po_b {bt : Nat → Nat} {L : Nat} : ∀ i, po bt L i ≤ L ∧ (po bt L i < L → bt (po bt L i) ≠ 32) := by
  intro i
  cases i with
  | zero => exact (sk_b (Nat.zero_le _)).2
  | succ i =>
    unfold po; split
    · rename_i h; exact (sk_b (en_b h).2.1).2
    · exact ⟨Nat.le_refl _, fun h => absurd h (Nat.lt_irrefl _)⟩
section CUT2
variable {n L : Nat} {bt : Nat → Nat} {tc tm : Nat → Int32}
theorem c_isWord (hn : 300 ≤ n) (hL : L ≤ 200) (h : BT L bt tc tm) {p e c : Nat} (hc : c < 24) (hp : p ≤ e) (he : e ≤ L) (hl : e - p = wlN c) : X6_isWord n tc (jN (wbN c)) (jN p) (jN e) = some (if mtB bt p e c = true then 1 else 0) := by
  unfold X6_isWord
  simp only [jn]
  obtain ⟨-, hw6, -, -⟩ := wx_2 c hc
  have K : ∀ d m q, q + d = e → p ≤ q → d < m → X6_isWord_L1 n tc (jN (wbN c)) (jN p) (jN e) (fun _ => some (1 : Int32)) m (jN q) = some (if decide (∀ j, j < wlN c → q - p ≤ j → bt (p + j) = wN c j) = true then 1 else 0) := by
    intro d
    induction d with
    | zero =>
      intro m q hq hpq hm
      obtain ⟨m, rfl⟩ : ∃ y, m = y + 1 := ⟨m - 1, by omega⟩
      rw [X6_isWord_L1, if_pos (show jN e ≤ jN q by rw [show q = e by omega]; exact Int32.le_refl _), if_pos (decide_eq_true (fun j h1 h2 => by omega))]
    | succ d ih =>
      intro m q hq hpq hm
      obtain ⟨m, rfl⟩ : ∃ y, m = y + 1 := ⟨m - 1, by omega⟩
      obtain ⟨a1, a2, a3, a4, a5⟩ := wx_1 c hc (q - p) (by omega)
      have hbq := h q (by omega)
      rw [X6_isWord_L1, if_neg (show ¬ jN e ≤ jN q by simp (disch := omega) only [jl_0, jl_1, jl_2, jl_3, jl_4, jl_5, jl_6, jl_7, jl_8, jl_9, jl_10, jl_11, jl_12, jl_13, jl_14, jl_15, jl_16, jl_17, jl_18, jl_20, jl_23, jl_29, jl_30, jl_31, jl_32, jl_35, jl_40, jl_48, jl_50, jl_51, jl_57, jl_60, jl_61, jl_63, jl_64, jl_65, jl_89, jl_97, jl_99, jl_100, jl_101, jl_113, jl_122, jl_200, jl_240, jl_241, jl_255, jl_259, jl_260, jl_261, jl_262, jl_313, jl_500, jl_999, jl_10000, jl_10004, jl_10005, jl_10006, jl_10007, jl_10008, jl_10009, jl_10010, jl_10011, jl_10012, jl_10013, jl_10014, jl_10015, jl_10017, jl_10018, jl_10023, jl_12345, jl_1103515245, jN_add, jN_mul, jN_sub, jN_addm, jN_div, jN_irm, jN_nat, le_T, le_F, lt_T, lt_F, eq_F, ib_T, ib_F, add_j0, if_true, if_false, eq_self, Bool.false_eq_true, Option.bind_some, pb, jn, Nat.zero_add, Nat.add_zero]; exact not_false), jN_add, jN_sub (show p ≤ wbN c + q by omega), show wbN c + q - p = wbN c + (q - p) by omega, ib_T (show wbN c + (q - p) < 97 by omega) (by omega), ib_T (show q < 200 by omega) (by omega), jN_nat (show q < 2147483648 by omega), jN_nat (show wbN c + (q - p) < 2147483648 by omega), a1, hbq.2.2, show jN q + (1 : Int32) = jN (q + 1) from by simp (disch := omega) only [jl_0, jl_1, jl_2, jl_3, jl_4, jl_5, jl_6, jl_7, jl_8, jl_9, jl_10, jl_11, jl_12, jl_13, jl_14, jl_15, jl_16, jl_17, jl_18, jl_20, jl_23, jl_29, jl_30, jl_31, jl_32, jl_35, jl_40, jl_48, jl_50, jl_51, jl_57, jl_60, jl_61, jl_63, jl_64, jl_65, jl_89, jl_97, jl_99, jl_100, jl_101, jl_113, jl_122, jl_200, jl_240, jl_241, jl_255, jl_259, jl_260, jl_261, jl_262, jl_313, jl_500, jl_999, jl_10000, jl_10004, jl_10005, jl_10006, jl_10007, jl_10008, jl_10009, jl_10010, jl_10011, jl_10012, jl_10013, jl_10014, jl_10015, jl_10017, jl_10018, jl_10023, jl_12345, jl_1103515245, jN_add, jN_mul, jN_sub, jN_addm, jN_div, jN_irm, jN_nat, le_T, le_F, lt_T, lt_F, eq_F, ib_T, ib_F, add_j0, if_true, if_false, eq_self, Bool.false_eq_true, Option.bind_some, pb, jn, Nat.zero_add, Nat.add_zero]]
      simp only [if_true]
      by_cases hk : bt q = wN c (q - p)
      · rw [if_pos (show jN (wN c (q - p)) = sb (bt q) by rw [hk, sb_j _ a3]), ih m (q + 1) (by omega) (by omega) (by omega)]
        congr 2
        apply propext
        rw [decide_eq_true_iff, decide_eq_true_iff]
        constructor
        · intro z j h1 h2
          by_cases hj : j = q - p
          · subst hj; rw [show p + (q - p) = q by omega]; exact hk
          · exact z j h1 (by omega)
        · intro z j h1 h2; exact z j h1 (by omega)
      · rw [if_neg (show ¬ jN (wN c (q - p)) = sb (bt q) from fun z => hk (sb_e hbq.1 a3 z.symm)), if_neg (show ¬ decide _ = true from fun z => hk (by
          have := of_decide_eq_true z (q - p) (by omega) (by omega)
          rw [show p + (q - p) = q by omega] at this; exact this))]
  rw [K (e - p) n p (by omega) (by omega) (by omega)]
  unfold mtB
  rw [decide_eq_true hl, Bool.true_and]
  congr 2
  apply propext
  rw [decide_eq_true_iff, decide_eq_true_iff]
  exact ⟨fun z j h1 => z j h1 (by omega), fun z j h1 _ => z j h1⟩
theorem c_wordOf (hn : 300 ≤ n) (hL : L ≤ 200) (h : BT L bt tc tm) {p e : Nat} (hp : p ≤ e) (he : e ≤ L) : X6_wordOf n tc (jN p) (jN e) = some (wdF bt p e 24 0) := by
  unfold X6_wordOf
  simp only [jn]
  have S : ∀ c, c < 24 → ∀ m, X6_wordOf_L1 n tc (jN p) (jN e) (fun _ => some (-1 : Int32)) (m + (wlN c + 1)) (jN (10000 + c)) (jN (wbN c)) (jN (wbN c)) = if mtB bt p e c = true then some (jN (10000 + c)) else X6_wordOf_L1 n tc (jN p) (jN e) (fun _ => some (-1 : Int32)) m (jN (10000 + (c + 1))) (jN (wbN (c + 1))) (jN (wbN (c + 1))) := by
    intro c hc m
    obtain ⟨b1, b2, b3, b4⟩ := wx_2 c hc
    have K : ∀ d j, j + d = wlN c → X6_wordOf_L1 n tc (jN p) (jN e) (fun _ => some (-1 : Int32)) (m + (d + 1)) (jN (10000 + c)) (jN (wbN c)) (jN (wbN c + j)) = if mtB bt p e c = true then some (jN (10000 + c)) else X6_wordOf_L1 n tc (jN p) (jN e) (fun _ => some (-1 : Int32)) m (jN (10000 + (c + 1))) (jN (wbN (c + 1))) (jN (wbN (c + 1))) := by
      intro d
      induction d with
      | zero =>
        intro j hj
        have hj : j = wlN c := by omega
        subst hj
        rw [X6_wordOf_L1, if_neg (show ¬ (97 : Int32) < jN (wbN c + wlN c) by rw [jl_97, lt_F (by omega) (by omega)]; exact not_false)]
        simp only [jn]
        have hx : ∀ (A B : Option Int32), (if (97 : Int32) ≤ jN (wbN c + wlN c) then A else (if ib (jN (wbN c + wlN c)) 97 = true then (if wch (jN (wbN c + wlN c)).toNatClampNeg = (32 : Int32) then A else B) else none)) = A := by
          intro A B
          rcases b4 with z | ⟨z1, z2⟩
          · rw [if_pos (show (97 : Int32) ≤ jN (wbN c + wlN c) by rw [z]; decide)]
          · rw [if_neg (show ¬ (97 : Int32) ≤ jN (wbN c + wlN c) by rw [jl_97, le_F (by omega) (by omega)]; exact not_false), ib_T (by omega) (by omega), jN_nat (by omega), z2, if_pos rfl, if_pos rfl]
        rw [hx, show jN (wbN c + wlN c) - jN (wbN c) = jN (wlN c) from by rw [jN_sub (by omega)]; congr 1; omega, jN_sub hp, show jN (wbN c + wlN c) + (1 : Int32) = jN (wbN (c + 1)) from by rw [jl_1, jN_add, b1], show jN (10000 + c) + (1 : Int32) = jN (10000 + (c + 1)) from by rw [jl_1, jN_add, Nat.add_assoc]]
        by_cases hq : e - p = wlN c
        · rw [if_pos (show jN (wlN c) = jN (e - p) by rw [hq]), c_isWord hn hL h hc hp he hq]
          simp only [Option.bind_some]
          by_cases hm : mtB bt p e c = true
          · rw [if_pos hm, if_pos hm, if_neg (show ¬ (1 : Int32) = 0 by decide)]
          · rw [if_neg hm, if_neg hm, if_pos (show (0 : Int32) = 0 from rfl)]
        · rw [if_neg (show ¬ jN (wlN c) = jN (e - p) from fun z => hq ((jN_inj (by omega) (by omega)).mp z).symm), if_neg (show ¬ mtB bt p e c = true from fun z => hq (of_decide_eq_true (Bool.and_eq_true_iff.mp z).1))]
      | succ d ih =>
        intro j hj
        obtain ⟨a1, a2, a3, a4, a5⟩ := wx_1 c hc j (by omega)
        rw [show m + (d + 1 + 1) = (m + (d + 1)) + 1 by omega, X6_wordOf_L1, if_neg (show ¬ (97 : Int32) < jN (wbN c + j) by rw [jl_97, lt_F (by omega) (by omega)]; exact not_false)]
        simp only [jn]
        rw [if_neg (show ¬ (97 : Int32) ≤ jN (wbN c + j) by rw [jl_97, le_F (by omega) (by omega)]; exact not_false), ib_T (show wbN c + j < 97 by omega) (by omega), jN_nat (show wbN c + j < 2147483648 by omega)]
        simp only [jn, if_true]
        rw [if_neg a2, show jN (wbN c + j) + (1 : Int32) = jN (wbN c + (j + 1)) from by rw [jl_1, jN_add, Nat.add_assoc]]
        exact ih (j + 1) (by omega)
    exact K (wlN c) 0 (by omega)
  have T : ∀ d c m, c + d = 24 → 7 * d < m → X6_wordOf_L1 n tc (jN p) (jN e) (fun _ => some (-1 : Int32)) m (jN (10000 + c)) (jN (wbN c)) (jN (wbN c)) = some (wdF bt p e d c) := by
    intro d
    induction d with
    | zero =>
      intro c m hc hm
      obtain ⟨m, rfl⟩ : ∃ y, m = y + 1 := ⟨m - 1, by omega⟩
      have : c = 24 := by omega
      subst this
      rw [X6_wordOf_L1, if_pos (show (97 : Int32) < jN (wbN 24) by decide)]; rfl
    | succ d ih =>
      intro c m hc hm
      obtain ⟨-, b2, -, -⟩ := wx_2 c (by omega)
      obtain ⟨y, rfl⟩ : ∃ y, m = y + (wlN c + 1) := ⟨m - (wlN c + 1), by omega⟩
      rw [S c (by omega) y, ih (c + 1) y (by omega) (by omega)]
      rw [show wdF bt p e (d + 1) c = (if mtB bt p e c = true then jN (10000 + c) else wdF bt p e d (c + 1)) from rfl]
      split <;> rfl
  exact T 24 0 n (by omega) (by omega)
/-- the words of a tape, cut -/
def WS (bt : Nat → Nat) (L w : Nat) (words places : Nat → Int32) : Prop := ∀ i, i < w → words i = wd bt L (po bt L i) ∧ places i = jN (po bt L i) ∧ po bt L i < L
theorem c_cut (hn : 300 ≤ n) (hL : L ≤ 200) (h : BT L bt tc tm) (words places : Nat → Int32) : ∃ w words' places', w ≤ L ∧ po bt L w = L ∧ X6_cutWords n (jN L) tc words places = some (words', places') ∧ WS bt L w words' places' ∧ words' w = -2 ∧ places' w = jN L := by
  have K : ∀ d m p w it, L - p ≤ d → p ≤ L → d < m → it ≤ p → w ≤ p → po bt L w = sk bt L p → ∀ words places, WS bt L w words places → ∃ w' p' it' words' places', X6_cutWords_L1 n (jN L) tc m (jN w) (jN p) (jN it) words places = some (jN w', p', it', words', places') ∧ w' ≤ L ∧ po bt L w' = L ∧ WS bt L w' words' places' := by
    intro d
    induction d with
    | zero =>
      intro m p w it hd hpL hm hit hw hpo words places hW
      obtain ⟨m, rfl⟩ : ∃ y, m = y + 1 := ⟨m - 1, by omega⟩
      have : p = L := by omega
      subst this
      have hs : po bt p w = p := by
        have := (sk_b (bt := bt) (Nat.le_refl p)); omega
      refine ⟨w, jN p, jN it, words, places, ?_, hw, hs, hW⟩
      rw [X6_cutWords_L1]
      by_cases hq : (200 : Int32) ≤ jN it
      · rw [if_pos hq]
      · rw [if_neg hq, if_pos (Int32.le_refl _)]
    | succ d ih =>
      intro m p w it hd hpL hm hit hw hpo words places hW
      obtain ⟨m, rfl⟩ : ∃ y, m = y + 1 := ⟨m - 1, by omega⟩
      by_cases hp : p = L
      · subst hp
        have hs : po bt p w = p := by
          have := (sk_b (bt := bt) (Nat.le_refl p)); omega
        refine ⟨w, jN p, jN it, words, places, ?_, hw, hs, hW⟩
        rw [X6_cutWords_L1]
        by_cases hq : (200 : Int32) ≤ jN it
        · rw [if_pos hq]
        · rw [if_neg hq, if_pos (Int32.le_refl _)]
      · have hp : p < L := by omega
        obtain ⟨e1, e2, e3⟩ := en_b (bt := bt) hp
        have hb := h p hp
        rw [X6_cutWords_L1, if_neg (show ¬ (200 : Int32) ≤ jN it by rw [jl_200, le_F (by omega) (by omega)]; exact not_false), if_neg (show ¬ jN L ≤ jN p by simp (disch := omega) only [jl_0, jl_1, jl_2, jl_3, jl_4, jl_5, jl_6, jl_7, jl_8, jl_9, jl_10, jl_11, jl_12, jl_13, jl_14, jl_15, jl_16, jl_17, jl_18, jl_20, jl_23, jl_29, jl_30, jl_31, jl_32, jl_35, jl_40, jl_48, jl_50, jl_51, jl_57, jl_60, jl_61, jl_63, jl_64, jl_65, jl_89, jl_97, jl_99, jl_100, jl_101, jl_113, jl_122, jl_200, jl_240, jl_241, jl_255, jl_259, jl_260, jl_261, jl_262, jl_313, jl_500, jl_999, jl_10000, jl_10004, jl_10005, jl_10006, jl_10007, jl_10008, jl_10009, jl_10010, jl_10011, jl_10012, jl_10013, jl_10014, jl_10015, jl_10017, jl_10018, jl_10023, jl_12345, jl_1103515245, jN_add, jN_mul, jN_sub, jN_addm, jN_div, jN_irm, jN_nat, le_T, le_F, lt_T, lt_F, eq_F, ib_T, ib_F, add_j0, if_true, if_false, eq_self, Bool.false_eq_true, Option.bind_some, pb, jn, Nat.zero_add, Nat.add_zero]; exact not_false), c_end hn hL h hp, ib_T (show p < 200 by omega) (by omega), ib_T (show w < 201 by omega) (by omega), jN_nat (show p < 2147483648 by omega), jN_nat (show w < 2147483648 by omega), hb.2.2, so_c _ hb.1, show jN it + (1 : Int32) = jN (it + 1) from by simp (disch := omega) only [jl_0, jl_1, jl_2, jl_3, jl_4, jl_5, jl_6, jl_7, jl_8, jl_9, jl_10, jl_11, jl_12, jl_13, jl_14, jl_15, jl_16, jl_17, jl_18, jl_20, jl_23, jl_29, jl_30, jl_31, jl_32, jl_35, jl_40, jl_48, jl_50, jl_51, jl_57, jl_60, jl_61, jl_63, jl_64, jl_65, jl_89, jl_97, jl_99, jl_100, jl_101, jl_113, jl_122, jl_200, jl_240, jl_241, jl_255, jl_259, jl_260, jl_261, jl_262, jl_313, jl_500, jl_999, jl_10000, jl_10004, jl_10005, jl_10006, jl_10007, jl_10008, jl_10009, jl_10010, jl_10011, jl_10012, jl_10013, jl_10014, jl_10015, jl_10017, jl_10018, jl_10023, jl_12345, jl_1103515245, jN_add, jN_mul, jN_sub, jN_addm, jN_div, jN_irm, jN_nat, le_T, le_F, lt_T, lt_F, eq_F, ib_T, ib_F, add_j0, if_true, if_false, eq_self, Bool.false_eq_true, Option.bind_some, pb, jn, Nat.zero_add, Nat.add_zero], show jN w + (1 : Int32) = jN (w + 1) from by simp (disch := omega) only [jl_0, jl_1, jl_2, jl_3, jl_4, jl_5, jl_6, jl_7, jl_8, jl_9, jl_10, jl_11, jl_12, jl_13, jl_14, jl_15, jl_16, jl_17, jl_18, jl_20, jl_23, jl_29, jl_30, jl_31, jl_32, jl_35, jl_40, jl_48, jl_50, jl_51, jl_57, jl_60, jl_61, jl_63, jl_64, jl_65, jl_89, jl_97, jl_99, jl_100, jl_101, jl_113, jl_122, jl_200, jl_240, jl_241, jl_255, jl_259, jl_260, jl_261, jl_262, jl_313, jl_500, jl_999, jl_10000, jl_10004, jl_10005, jl_10006, jl_10007, jl_10008, jl_10009, jl_10010, jl_10011, jl_10012, jl_10013, jl_10014, jl_10015, jl_10017, jl_10018, jl_10023, jl_12345, jl_1103515245, jN_add, jN_mul, jN_sub, jN_addm, jN_div, jN_irm, jN_nat, le_T, le_F, lt_T, lt_F, eq_F, ib_T, ib_F, add_j0, if_true, if_false, eq_self, Bool.false_eq_true, Option.bind_some, pb, jn, Nat.zero_add, Nat.add_zero]]
        simp only [Option.bind_some, if_true]
        by_cases hsp : bt p = 32
        · rw [if_pos ((sb_32 _ hb.1).mpr hsp)]
          simp only [Option.bind_some]
          have hen : en bt L p = p + 1 := by unfold en; rw [hsp]; rfl
          rw [hen]
          exact ih m (p + 1) w (it + 1) (by omega) (by omega) (by omega) (by omega) (by omega) (by rw [hpo, sk_sp hp hsp]) words places hW
        · rw [if_neg (fun z => hsp ((sb_32 _ hb.1).mp z))]
          have hpw : po bt L w = p := by rw [hpo, sk_no hsp]
          have hwd : (if jN (so (bt p)) = (2 : Int32) then ((X6_numberOf n tc (jN p) (jN (en bt L p))).bind fun r8 => some r8) else ((X6_wordOf n tc (jN p) (jN (en bt L p))).bind fun r10 => some r10)) = some (wd bt L p) := by
            unfold wd
            rw [if_pos hp]
            by_cases h2 : so (bt p) = 2
            · rw [if_pos (show jN (so (bt p)) = (2 : Int32) by rw [h2]; rfl), if_pos h2, c_num hn hL h (by omega) e2 (fun i q1 q2 => by rw [e3 i q1 q2]; exact h2)]; rfl
            · rw [if_neg (show ¬ jN (so (bt p)) = (2 : Int32) from fun z => h2 ((jN_inj (b := 2) (by rcases so_3 (bt p) with y | y | y <;> omega) (by omega)).mp z)), if_neg h2, c_wordOf hn hL h (by omega) e2]; rfl
          rw [hwd]
          simp only [Option.bind_some]
          refine ih m (en bt L p) (w + 1) (it + 1) (by omega) e2 (by omega) (by omega) (by omega) ?_ (upd words w (wd bt L p)) (upd places w (jN p)) ?_
          · show (if po bt L w < L then sk bt L (en bt L (po bt L w)) else L) = _
            rw [hpw, if_pos hp]
          · intro i hi
            by_cases hiw : i = w
            · subst hiw; rw [upd_s, upd_s, hpw]; exact ⟨rfl, rfl, hp⟩
            · rw [upd_n hiw, upd_n hiw]; exact hW i (by omega)
  obtain ⟨w, p', it', words', places', g1, g2, g3, g4⟩ := K L n 0 0 0 (by omega) (by omega) (by omega) (by omega) (by omega) rfl words places (fun i hi => absurd hi (by omega))
  refine ⟨w, upd words' w (-2), upd places' w (jN L), g2, g3, ?_, ?_, by rw [upd_s], by rw [upd_s]⟩
  · unfold X6_cutWords
    rw [show X6_cutWords_L1 n (jN L) tc n (0 : Int32) (0 : Int32) (0 : Int32) words places = _ from g1]
    simp only [Option.bind_some]
    rw [ib_T (show w < 201 by omega) (by omega), jN_nat (show w < 2147483648 by omega)]
    simp only [if_true]
  · intro i hi
    rw [upd_n (by omega), upd_n (by omega)]; exact g4 i hi
end CUT2
