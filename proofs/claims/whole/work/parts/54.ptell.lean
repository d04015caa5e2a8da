/-! a rule's stretch: empty, or what it says; 1 where it holds -/
def CSEG (cr : Nat → Int32) (a b : Nat) (hv : (Nat → Int32) → Int32) : Prop := (a = b ∧ ∀ fv, hv fv = 1) ∨ ∃ e, CEV cr a b 10 e ∧ ∀ fv, hv fv = if e fv = 0 then 0 else 1
def MSEG (mr : Nat → Int32) (a b : Nat) (hv : (Nat → Int32) → Int32) : Prop := (a = b ∧ ∀ fv, hv fv = 1) ∨ ∃ e, MEV mr a b 10 e ∧ ∀ fv, hv fv = if e fv = 0 then 0 else 1
/-- the first rule that tells -/
def tlF (kk : Nat → Nat) (ww : Nat → Int32) (hv : Nat → (Nat → Int32) → Int32) (v : Int32) (fv : Nat → Int32) : Nat → Nat → Int32
  | 0, _ => 0
  | d + 1, i => if decide (X11_isUnder v (jN (kk i)) = some 0) = true then tlF kk ww hv v fv d (i + 1) else if hv i fv = 0 then tlF kk ww hv v fv d (i + 1) else ww i
def tlW (c : Nat) (kk : Nat → Nat) (ww : Nat → Int32) (hv : Nat → (Nat → Int32) → Int32) : Int32 → (Nat → Int32) → Int32 := fun v fv => tlF kk ww hv v fv c 0
/-- rules of the class at ρ -/
def RuC (ρ : Nat) (gc : Nat → Int32) (gk gw gs gd : Nat → Nat → Int32) (kl wl sl cl : Nat → Nat) (c : Nat) (kk : Nat → Nat) (ww : Nat → Int32) (hv : Nat → (Nat → Int32) → Int32) : Prop :=
  c ≤ 8 ∧ gc ρ = jN c ∧ c ≤ kl ρ ∧ kl ρ ≤ 200 ∧ c ≤ wl ρ ∧ wl ρ ≤ 200 ∧ c + 1 ≤ sl ρ ∧ sl ρ ≤ 200 ∧ cl ρ ≤ 200 ∧ ∃ a : Nat → Nat, ∀ i, i < c → kk i < 6 ∧ gk ρ i = jN (kk i) ∧ gw ρ i = ww i ∧ gs ρ i = jN (a i) ∧ gs ρ (i + 1) = jN (a (i + 1)) ∧ a (i + 1) ≤ cl ρ ∧ CSEG (gd ρ) (a i) (a (i + 1)) (hv i)
/-- rules of the reference, in its row -/
def RuM (s : Nat → Int32) (c : Nat) (kk : Nat → Nat) (ww : Nat → Int32) (hv : Nat → (Nat → Int32) → Int32) : Prop :=
  c ≤ 8 ∧ s 5 = jN c ∧ ∃ a : Nat → Nat, a 0 = 0 ∧ ∀ i, i < c → kk i < 6 ∧ s (89 + 3 * i) = jN (kk i) ∧ s (89 + 3 * i + 1) = ww i ∧ s (89 + 3 * i + 2) = jN (a (i + 1)) ∧ a (i + 1) ≤ 200 ∧ MSEG (fun j => s (113 + j)) (a i) (a (i + 1)) (hv i)
section TELL
variable {n ρ : Nat} {gc : Nat → Int32} {gk gw gs gd : Nat → Nat → Int32} {kl wl sl cl : Nat → Nat} {s : Nat → Int32} {c : Nat} {kk : Nat → Nat} {ww : Nat → Int32} {hv : Nat → (Nat → Int32) → Int32}
theorem c_holds (hn : 300 ≤ n) {a b : Nat} {h : (Nat → Int32) → Int32} (hs : CSEG (gd ρ) a b h) (hb : b ≤ cl ρ) (hcl : cl ρ ≤ 200) {fa fv : Nat → Int32} (hf : ∀ i, i < 5 → fa i = fv i) (st : Nat → Nat → Int32) : ∃ st', X7_holds_f0 n fa gd st cl ρ (jN a) (jN b) = some (h fv, st') := by
  unfold X7_holds_f0
  rcases hs with ⟨rfl, e⟩ | ⟨e, he, e2⟩
  · obtain ⟨m, rfl⟩ : ∃ m, n = m + 1 := ⟨n - 1, by omega⟩
    refine ⟨st, ?_⟩
    rw [X7_holds_f0_L1, if_pos (Int32.le_refl _)]
    simp only [Option.bind_some, jn, if_true]
    rw [e]
  · have hab := he.1
    obtain ⟨m, hm⟩ : ∃ m, n = (m + 1) + (b - a) := ⟨n - 1 - (b - a), by omega⟩
    obtain ⟨st', g1, g2, g3⟩ := he.2 n ρ gd cl (fun _ _ _ => rfl) hb hcl fa fv hf b (Nat.le_refl _) (by omega) 0 st (m + 1) (by omega)
    rw [← hm] at g3
    refine ⟨st', ?_⟩
    rw [show X7_holds_f0_L1 n fa gd cl ρ (jN b) n (0 : Int32) (jN a) st = _ from g3, X7_holds_f0_L1, if_pos (Int32.le_refl _)]
    simp only [Option.bind_some, jn]
    rw [if_neg (show ¬ jN (0 + 1) = 0 by decide), g2, e2]
    split <;> rfl
theorem m_holds (hn : 300 ≤ n) {v1 k : Nat} {a b : Nat} {h : (Nat → Int32) → Int32} (hs : MSEG (fun j => s (113 + j)) a b h) (hb : b ≤ 200) (ha : (if jN v1 = 0 then some (0 : Int32) else ((X12_ruleOf s (jN v1 - (1 : Int32)) (2 : Int32)).bind fun r1 => some r1)) = some (jN a)) (hz : X12_ruleOf s (jN v1) (2 : Int32) = some (jN b)) {fv : Nat → Int32} (hf : ∀ i, i < 5 → X12_knownOf s (jN i) (jN k) = some (fv i)) (pile : Nat → Int32) : ∃ pile', X12_holdsFor n s pile (jN v1) (jN k) = some (h fv, pile') := by
  unfold X12_holdsFor
  rw [ha]
  simp only [Option.bind_some]
  rcases hs with ⟨rfl, e⟩ | ⟨e, he, e2⟩
  · obtain ⟨m, rfl⟩ : ∃ m, n = m + 1 := ⟨n - 1, by omega⟩
    refine ⟨pile, ?_⟩
    rw [X12_holdsFor_L1, hz]
    simp only [Option.bind_some]
    rw [if_pos (Int32.le_refl _)]
    simp only [Option.bind_some, jn, if_true]
    rw [e]
  · have hab := he.1
    obtain ⟨m, hm⟩ : ∃ m, n = (m + 1) + (b - a) := ⟨n - 1 - (b - a), by omega⟩
    obtain ⟨p', g1, g2, g3⟩ := he.2 n s fv (jN v1) (jN k) b hf (fun _ _ _ => rfl) hz (Nat.le_refl _) hb 0 pile (m + 1) (by omega)
    rw [← hm] at g3
    refine ⟨p', ?_⟩
    rw [show X12_holdsFor_L1 n s (jN v1) (jN k) n (0 : Int32) (jN a) pile = _ from g3, X12_holdsFor_L1, hz]
    simp only [Option.bind_some]
    rw [if_pos (Int32.le_refl _)]
    simp only [Option.bind_some, jn]
    rw [if_neg (show ¬ jN (0 + 1) = 0 by decide), g2, e2]
    split <;> rfl
theorem RuC.rc (hn : 600 ≤ n) (h : RuC ρ gc gk gw gs gd kl wl sl cl c kk ww hv) : RC n ρ gc gk gw gs gd kl wl sl cl (tlW c kk ww hv) := by
  obtain ⟨h1, h2, h3, h4, h5, h6, h7, h8, h9, a, ha⟩ := h
  intro fa fv st v hv5 hf
  unfold X7_tell_f0
  simp only [jn]
  have L : ∀ d m i, i + d = c → d < m → ∀ st, ∃ st', X7_tell_f0_L1 n fa gc gk gw gs gd kl wl sl cl ρ (jN v) (fun o10 => some ((0 : Int32), o10.2)) m (jN i) st = some (tlF kk ww hv (jN v) fv d i, st') := by
    intro d
    induction d with
    | zero =>
      intro m i hi hm st
      obtain ⟨m, rfl⟩ : ∃ y, m = y + 1 := ⟨m - 1, by omega⟩
      have : i = c := by omega
      subst this
      refine ⟨st, ?_⟩
      rw [X7_tell_f0_L1, h2, if_pos (Int32.le_refl _)]
      rfl
    | succ d ih =>
      intro m i hi hm st
      obtain ⟨m, rfl⟩ : ∃ y, m = y + 1 := ⟨m - 1, by omega⟩
      obtain ⟨q1, q2, q3, q4, q5, q6, q7⟩ := ha i (by omega)
      obtain ⟨r, hr⟩ := iu_v v (kk i) (by omega) q1
      have ih' := ih m (i + 1) (by omega) (by omega)
      rw [X7_tell_f0_L1, h2, if_neg (show ¬ jN c ≤ jN i by simp (disch := omega) only [jl_0, jl_1, jl_2, jl_3, jl_4, jl_5, jl_6, jl_7, jl_8, jl_9, jl_10, jl_11, jl_12, jl_13, jl_14, jl_15, jl_16, jl_17, jl_18, jl_20, jl_23, jl_29, jl_30, jl_31, jl_32, jl_35, jl_40, jl_48, jl_50, jl_51, jl_57, jl_60, jl_61, jl_63, jl_64, jl_65, jl_89, jl_97, jl_99, jl_100, jl_101, jl_113, jl_122, jl_200, jl_240, jl_241, jl_255, jl_259, jl_260, jl_261, jl_262, jl_313, jl_500, jl_999, jl_10000, jl_10004, jl_10005, jl_10006, jl_10007, jl_10008, jl_10009, jl_10010, jl_10011, jl_10012, jl_10013, jl_10014, jl_10015, jl_10017, jl_10018, jl_10023, jl_12345, jl_1103515245, jN_add, jN_mul, jN_sub, jN_addm, jN_div, jN_irm, jN_nat, le_T, le_F, lt_T, lt_F, eq_F, ib_T, ib_F, add_j0, if_true, if_false, eq_self, Bool.false_eq_true, Option.bind_some, pb, jn, Nat.zero_add, Nat.add_zero]; exact not_false), show jN i + (1 : Int32) = jN (i + 1) from by simp (disch := omega) only [jl_0, jl_1, jl_2, jl_3, jl_4, jl_5, jl_6, jl_7, jl_8, jl_9, jl_10, jl_11, jl_12, jl_13, jl_14, jl_15, jl_16, jl_17, jl_18, jl_20, jl_23, jl_29, jl_30, jl_31, jl_32, jl_35, jl_40, jl_48, jl_50, jl_51, jl_57, jl_60, jl_61, jl_63, jl_64, jl_65, jl_89, jl_97, jl_99, jl_100, jl_101, jl_113, jl_122, jl_200, jl_240, jl_241, jl_255, jl_259, jl_260, jl_261, jl_262, jl_313, jl_500, jl_999, jl_10000, jl_10004, jl_10005, jl_10006, jl_10007, jl_10008, jl_10009, jl_10010, jl_10011, jl_10012, jl_10013, jl_10014, jl_10015, jl_10017, jl_10018, jl_10023, jl_12345, jl_1103515245, jN_add, jN_mul, jN_sub, jN_addm, jN_div, jN_irm, jN_nat, le_T, le_F, lt_T, lt_F, eq_F, ib_T, ib_F, add_j0, if_true, if_false, eq_self, Bool.false_eq_true, Option.bind_some, pb, jn, Nat.zero_add, Nat.add_zero], ib_T (show i < kl ρ by omega) (by omega), ib_T (show i < sl ρ by omega) (by omega), ib_T (show i + 1 < sl ρ by omega) (by omega), ib_T (show i < wl ρ by omega) (by omega), jN_nat (show i < 2147483648 by omega), jN_nat (show i + 1 < 2147483648 by omega), q2, q3, q4, q5, hr]
      simp only [if_true, Option.bind_some, jn]
      unfold tlF
      rw [hr]
      by_cases hr0 : r = 0
      · subst hr0
        rw [if_pos (show (0 : Int32) = 0 from rfl), if_pos (decide_eq_true rfl)]
        exact ih' st
      · rw [if_neg hr0, if_neg (show ¬ decide (some r = some (0 : Int32)) = true from fun z => hr0 (Option.some.inj (of_decide_eq_true z)))]
        obtain ⟨st1, e1⟩ := c_holds (n := n) (by omega) q7 q6 h9 hf st
        rw [e1]
        simp only [Option.bind_some]
        by_cases hh : hv i fv = 0
        · rw [if_pos hh, if_pos hh]; exact ih' st1
        · rw [if_neg hh, if_neg hh]; exact ⟨st1, rfl⟩
  exact L c n 0 (by omega) (by omega) st
theorem m_known (h : GS s) {k : Nat} (hk : k < 6) : ∀ i, i < 5 → X12_knownOf s (jN i) (jN k) = some (fcV s k i) := by
  intro i hi
  unfold X12_knownOf
  (have : i = 0 ∨ i = 1 ∨ i = 2 ∨ i = 3 ∨ i = 4 := by omega)
  rcases this with rfl | rfl | rfl | rfl | rfl
  · rw [if_pos (show jN 0 = 0 from rfl)]; rfl
  · rw [if_neg (show ¬ jN 1 = 0 by decide), if_pos (show jN 1 = 1 from rfl), show X12_get s (jN k) (1 : Int32) = some (s (iD k 1)) from m_get (j := 1) hk (by omega)]; rfl
  · rw [if_neg (show ¬ jN 2 = 0 by decide), if_neg (show ¬ jN 2 = 1 by decide), if_pos (show jN 2 = 2 from rfl), show X12_get s (jN k) (2 : Int32) = some (s (iD k 2)) from m_get (j := 2) hk (by omega)]; rfl
  · rw [if_neg (show ¬ jN 3 = 0 by decide), if_neg (show ¬ jN 3 = 1 by decide), if_neg (show ¬ jN 3 = 2 by decide), if_pos (show jN 3 = 3 from rfl), m_sky h]; rfl
  · rw [if_neg (show ¬ jN 4 = 0 by decide), if_neg (show ¬ jN 4 = 1 by decide), if_neg (show ¬ jN 4 = 2 by decide), if_neg (show ¬ jN 4 = 3 by decide)]; rfl
theorem RuM.rm (hn : 600 ≤ n) (h : RuM s c kk ww hv) : RM n s (tlW c kk ww hv) := by
  obtain ⟨h1, h2, a, h0, ha⟩ := h
  intro u pile k hk hg hu
  obtain ⟨kd, hkd, ek⟩ := hg.kind hk
  unfold X12_willOf wlW
  rw [ek]
  simp only [jn]
  have ru : ∀ i j, i < 8 → j < 3 → X12_ruleOf u (jN i) (jN j) = some (s (89 + 3 * i + j)) := by
    intro i j hi hj
    unfold X12_ruleOf
    rw [show (89 : Int32) + (3 : Int32) * jN i + jN j = jN (89 + 3 * i + j) from by simp (disch := omega) only [jl_0, jl_1, jl_2, jl_3, jl_4, jl_5, jl_6, jl_7, jl_8, jl_9, jl_10, jl_11, jl_12, jl_13, jl_14, jl_15, jl_16, jl_17, jl_18, jl_20, jl_23, jl_29, jl_30, jl_31, jl_32, jl_35, jl_40, jl_48, jl_50, jl_51, jl_57, jl_60, jl_61, jl_63, jl_64, jl_65, jl_89, jl_97, jl_99, jl_100, jl_101, jl_113, jl_122, jl_200, jl_240, jl_241, jl_255, jl_259, jl_260, jl_261, jl_262, jl_313, jl_500, jl_999, jl_10000, jl_10004, jl_10005, jl_10006, jl_10007, jl_10008, jl_10009, jl_10010, jl_10011, jl_10012, jl_10013, jl_10014, jl_10015, jl_10017, jl_10018, jl_10023, jl_12345, jl_1103515245, jN_add, jN_mul, jN_sub, jN_addm, jN_div, jN_irm, jN_nat, le_T, le_F, lt_T, lt_F, eq_F, ib_T, ib_F, add_j0, if_true, if_false, eq_self, Bool.false_eq_true, Option.bind_some, pb, jn, Nat.zero_add, Nat.add_zero], ib_T (show 89 + 3 * i + j < 313 by omega) (by omega), jN_nat (show 89 + 3 * i + j < 2147483648 by omega), if_pos rfl, hu _ (by omega)]
  have L : ∀ d m i, i + d = c → d < m → ∀ pile, ∃ pile', X12_willOf_L1 n u (jN k) (fun o12 => some ((0 : Int32), o12.2)) m (jN i) pile = some (tlF kk ww hv (jN kd) (fcV u k) d i, pile') := by
    intro d
    induction d with
    | zero =>
      intro m i hi hm pile
      obtain ⟨m, rfl⟩ : ∃ y, m = y + 1 := ⟨m - 1, by omega⟩
      have : i = c := by omega
      subst this
      refine ⟨pile, ?_⟩
      rw [X12_willOf_L1, hu 5 (Or.inl rfl), h2, if_pos (Int32.le_refl _)]
      rfl
    | succ d ih =>
      intro m i hi hm pile
      obtain ⟨m, rfl⟩ : ∃ y, m = y + 1 := ⟨m - 1, by omega⟩
      obtain ⟨q1, q2, q3, q4, q5, q6⟩ := ha i (by omega)
      obtain ⟨r, hr⟩ := iu_v kd (kk i) (by omega) q1
      obtain ⟨m4, hm4⟩ : ∃ y, n = y + 4 := ⟨n - 4, by omega⟩
      have hr2 : X12_isUnder n (jN kd) (jN (kk i)) = some r := by
        rw [hm4, ← iu_36 n m4 kd (kk i) (by omega) q1]; exact hr
      have ih' := ih m (i + 1) (by omega) (by omega)
      rw [X12_willOf_L1, hu 5 (Or.inl rfl), h2, if_neg (show ¬ jN c ≤ jN i by simp (disch := omega) only [jl_0, jl_1, jl_2, jl_3, jl_4, jl_5, jl_6, jl_7, jl_8, jl_9, jl_10, jl_11, jl_12, jl_13, jl_14, jl_15, jl_16, jl_17, jl_18, jl_20, jl_23, jl_29, jl_30, jl_31, jl_32, jl_35, jl_40, jl_48, jl_50, jl_51, jl_57, jl_60, jl_61, jl_63, jl_64, jl_65, jl_89, jl_97, jl_99, jl_100, jl_101, jl_113, jl_122, jl_200, jl_240, jl_241, jl_255, jl_259, jl_260, jl_261, jl_262, jl_313, jl_500, jl_999, jl_10000, jl_10004, jl_10005, jl_10006, jl_10007, jl_10008, jl_10009, jl_10010, jl_10011, jl_10012, jl_10013, jl_10014, jl_10015, jl_10017, jl_10018, jl_10023, jl_12345, jl_1103515245, jN_add, jN_mul, jN_sub, jN_addm, jN_div, jN_irm, jN_nat, le_T, le_F, lt_T, lt_F, eq_F, ib_T, ib_F, add_j0, if_true, if_false, eq_self, Bool.false_eq_true, Option.bind_some, pb, jn, Nat.zero_add, Nat.add_zero]; exact not_false), show X12_get u (jN k) (0 : Int32) = some (u (iD k 0)) from m_get (j := 0) hk (by omega), ek, show X12_ruleOf u (jN i) (0 : Int32) = some (s (89 + 3 * i + 0)) from ru i 0 (by omega) (by omega), Nat.add_zero, q2, show X12_ruleOf u (jN i) (1 : Int32) = some (s (89 + 3 * i + 1)) from ru i 1 (by omega) (by omega), q3, show jN i + (1 : Int32) = jN (i + 1) from by simp (disch := omega) only [jl_0, jl_1, jl_2, jl_3, jl_4, jl_5, jl_6, jl_7, jl_8, jl_9, jl_10, jl_11, jl_12, jl_13, jl_14, jl_15, jl_16, jl_17, jl_18, jl_20, jl_23, jl_29, jl_30, jl_31, jl_32, jl_35, jl_40, jl_48, jl_50, jl_51, jl_57, jl_60, jl_61, jl_63, jl_64, jl_65, jl_89, jl_97, jl_99, jl_100, jl_101, jl_113, jl_122, jl_200, jl_240, jl_241, jl_255, jl_259, jl_260, jl_261, jl_262, jl_313, jl_500, jl_999, jl_10000, jl_10004, jl_10005, jl_10006, jl_10007, jl_10008, jl_10009, jl_10010, jl_10011, jl_10012, jl_10013, jl_10014, jl_10015, jl_10017, jl_10018, jl_10023, jl_12345, jl_1103515245, jN_add, jN_mul, jN_sub, jN_addm, jN_div, jN_irm, jN_nat, le_T, le_F, lt_T, lt_F, eq_F, ib_T, ib_F, add_j0, if_true, if_false, eq_self, Bool.false_eq_true, Option.bind_some, pb, jn, Nat.zero_add, Nat.add_zero]]
      simp only [Option.bind_some, jn]
      rw [hr2]
      simp only [Option.bind_some]
      unfold tlF
      rw [hr]
      by_cases hr0 : r = 0
      · subst hr0
        rw [if_pos (show (0 : Int32) = 0 from rfl), if_pos (decide_eq_true rfl)]
        exact ih' pile
      · rw [if_neg hr0, if_neg (show ¬ decide (some r = some (0 : Int32)) = true from fun z => hr0 (Option.some.inj (of_decide_eq_true z)))]
        have hst : (if jN i = 0 then some (0 : Int32) else ((X12_ruleOf u (jN i - (1 : Int32)) (2 : Int32)).bind fun r1 => some r1)) = some (jN (a i)) := by
          by_cases hi0 : i = 0
          · subst hi0; rw [if_pos (show jN 0 = 0 from rfl), h0]; rfl
          · rw [if_neg (show ¬ jN i = 0 from fun z => hi0 ((jN_inj (b := 0) (by omega) (by omega)).mp z)), show jN i - (1 : Int32) = jN (i - 1) from by simp (disch := omega) only [jl_0, jl_1, jl_2, jl_3, jl_4, jl_5, jl_6, jl_7, jl_8, jl_9, jl_10, jl_11, jl_12, jl_13, jl_14, jl_15, jl_16, jl_17, jl_18, jl_20, jl_23, jl_29, jl_30, jl_31, jl_32, jl_35, jl_40, jl_48, jl_50, jl_51, jl_57, jl_60, jl_61, jl_63, jl_64, jl_65, jl_89, jl_97, jl_99, jl_100, jl_101, jl_113, jl_122, jl_200, jl_240, jl_241, jl_255, jl_259, jl_260, jl_261, jl_262, jl_313, jl_500, jl_999, jl_10000, jl_10004, jl_10005, jl_10006, jl_10007, jl_10008, jl_10009, jl_10010, jl_10011, jl_10012, jl_10013, jl_10014, jl_10015, jl_10017, jl_10018, jl_10023, jl_12345, jl_1103515245, jN_add, jN_mul, jN_sub, jN_addm, jN_div, jN_irm, jN_nat, le_T, le_F, lt_T, lt_F, eq_F, ib_T, ib_F, add_j0, if_true, if_false, eq_self, Bool.false_eq_true, Option.bind_some, pb, jn, Nat.zero_add, Nat.add_zero], show X12_ruleOf u (jN (i - 1)) (2 : Int32) = some (s (89 + 3 * (i - 1) + 2)) from ru (i - 1) 2 (by omega) (by omega), (ha (i - 1) (by omega)).2.2.2.1, show i - 1 + 1 = i by omega]
            rfl
        have hend : X12_ruleOf u (jN i) (2 : Int32) = some (jN (a (i + 1))) := by
          rw [show X12_ruleOf u (jN i) (2 : Int32) = some (s (89 + 3 * i + 2)) from ru i 2 (by omega) (by omega), q4]
        have q7 : MSEG (fun j => u (113 + j)) (a i) (a (i + 1)) (hv i) := by
          rcases q6 with z | ⟨e, z1, z2⟩
          · exact Or.inl z
          · exact Or.inr ⟨e, z1.cg (fun j _ hj => hu _ (by omega)), z2⟩
        obtain ⟨p1, e1⟩ := m_holds (n := n) (by omega) q7 q5 hst hend (m_known hg hk) pile
        rw [e1]
        simp only [Option.bind_some]
        by_cases hh : hv i (fcV u k) = 0
        · rw [if_pos hh, if_pos hh]; exact ih' p1
        · rw [if_neg hh, if_neg hh]; exact ⟨p1, rfl⟩
  exact L c n 0 (by omega) (by omega) pile
end TELL
