/-! What the rules tell: W. The two sides' rules tell it. -/
def fcV (s : Nat → Int32) (k : Nat) : Nat → Int32 := fun i => if i = 0 then s 0 else if i = 1 then s (iD k 1) else if i = 2 then s (iD k 2) else if i = 3 then skN s / jN 4 else jN k
def wlW (W : Int32 → (Nat → Int32) → Int32) (s : Nat → Int32) (k : Nat) : Int32 := W (s (iD k 0)) (fcV s k)
/-- the class's rules, those at ρ -/
def RC (n ρ : Nat) (gc : Nat → Int32) (gk gw gs gd : Nat → Nat → Int32) (kl wl sl cl : Nat → Nat) (W : Int32 → (Nat → Int32) → Int32) : Prop :=
  ∀ (fa fv : Nat → Int32) (st : Nat → Nat → Int32) (a : Nat), a ≤ 5 → (∀ i, i < 5 → fa i = fv i) → ∃ st', X7_tell_f0 n fa gc gk gw gs gd st kl wl sl cl ρ (jN a) = some (W (jN a) fv, st')
/-- the reference's rules, those that stand in s -/
def RM (n : Nat) (s : Nat → Int32) (W : Int32 → (Nat → Int32) → Int32) : Prop :=
  ∀ (u pile : Nat → Int32) (k : Nat), k < 6 → GS u → (∀ i, i = 5 ∨ (89 ≤ i ∧ i < 313) → u i = s i) → ∃ pile', X12_willOf n u pile (jN k) = some (wlW W u k, pile')
theorem RM.cg {n : Nat} {s u : Nat → Int32} {W : Int32 → (Nat → Int32) → Int32} (h : RM n s W) (hu : ∀ i, i = 5 ∨ (89 ≤ i ∧ i < 313) → u i = s i) : RM n u W := fun v pile k hk hg hv => h v pile k hk hg (fun i hi => (hv i hi).trans (hu i hi))
theorem RM.at {n : Nat} {s : Nat → Int32} {W : Int32 → (Nat → Int32) → Int32} (h : RM n s W) (hg : GS s) (pile : Nat → Int32) {k : Nat} (hk : k < 6) : ∃ pile', X12_willOf n s pile (jN k) = some (wlW W s k, pile') := h s pile k hk hg (fun _ _ => rfl)
section WW
variable {n ρ nr : Nat} {gc : Nat → Int32} {gk gw gs gd : Nat → Nat → Int32} {kl wl sl cl : Nat → Nat} {W : Int32 → (Nat → Int32) → Int32} {s : Nat → Int32}
theorem c_will (hC : RC n ρ gc gk gw gs gd kl wl sl cl W) (hr : ρ < nr) (h : GS s) (fa : Nat → Int32) (st : Nat → Nat → Int32) {k : Nat} (hk : k < 6) : ∃ fa' st', X9_willOf_q0 n (dOf s) (kOf s) (s 0) ρ fa gc gk gw gs gd st kl wl sl cl nr (jN k) = some (wlW W s k, fa', st') := by
  unfold X9_willOf_q0
  obtain ⟨a, ha, h0⟩ := h.kind hk
  obtain ⟨st', e⟩ := hC (upd (upd (upd (upd (upd fa 0 (s 0)) 1 (s (iD k 1))) 2 (s (iD k 2))) 3 (skN s / jN 4)) 4 (jN k)) (fcV s k) st a ha (fun i hi => by
    (have : i = 0 ∨ i = 1 ∨ i = 2 ∨ i = 3 ∨ i = 4 := by omega)
    rcases this with rfl | rfl | rfl | rfl | rfl <;> rfl)
  rw [ib_T hk (by omega), c_sky h]
  simp (disch := omega) only [if_true, jN_nat, dOf_at, Option.bind_some, decide_eq_true hr, h0, jl_4]
  rw [e]
  simp only [Option.bind_some]
  have hw : wlW W s k = W (jN a) (fcV s k) := by unfold wlW; rw [h0]
  rw [hw]
  exact ⟨_, _, rfl⟩
/-- MAY be set -/
def myB (W : Int32 → (Nat → Int32) → Int32) (s : Nat → Int32) (k : Nat) : Bool := decide (wlW W s k = 0) && !decide (pyB s k ≤ 0)
theorem m_may (hM : RM n s W) (h : GS s) (pile : Nat → Int32) {k : Nat} (hk : k < 6) : ∃ pile', X12_maySet n s pile (jN k) = some (if myB W s k = true then 1 else 0, pile') := by
  obtain ⟨p, e⟩ := hM.at h pile hk
  refine ⟨p, ?_⟩
  unfold X12_maySet myB
  rw [e, m_paysOf hk]
  simp only [Option.bind_some]
  split
  · rename_i h1
    split
    · rename_i h2; simp [h1, h2]
    · rename_i h2; simp [h1, h2]
  · rename_i h1; simp [h1]
theorem c_may (hC : RC n ρ gc gk gw gs gd kl wl sl cl W) (hr : ρ < nr) (h : GS s) (fa : Nat → Int32) (st : Nat → Nat → Int32) {k : Nat} (hk : k < 6) : ∃ fa' st', X9_mayBeSet_q0 n (dOf s) (kOf s) (s 0) ρ fa gc gk gw gs gd st kl wl sl cl nr (jN k) = some (if myB W s k = true then 1 else 0, fa', st') := by
  obtain ⟨fa', st', e⟩ := c_will hC hr h fa st hk
  unfold X9_mayBeSet_q0 myB
  rw [c_paysOf h hk]
  simp only [Option.bind_some]
  split
  · rename_i h1; exact ⟨fa, st, by simp [h1]⟩
  · rename_i h1
    rw [e]; simp only [Option.bind_some]
    refine ⟨fa', st', ?_⟩
    split
    · rename_i h2; simp [h1, h2]
    · rename_i h2; simp [h2]
/-- the act of THE REST: 0, or 1 more than the least that may be set; d dials from k on are looked at -/
def raF (W : Int32 → (Nat → Int32) → Int32) (s : Nat → Int32) : Nat → Nat → Nat
  | 0, _ => 0
  | d + 1, k => if myB W s k = true then k + 1 else raF W s d (k + 1)
def raN (W : Int32 → (Nat → Int32) → Int32) (s : Nat → Int32) : Nat := raF W s (nS s) 0
theorem raF_b : ∀ d k, raF W s d k ≤ d + k := by
  intro d
  induction d with
  | zero => intro k; exact Nat.zero_le _
  | succ d ih => intro k; unfold raF; split
                 · omega
                 · have := ih (k + 1); omega
theorem raN_b : raN W s ≤ nS s := raF_b (nS s) 0
theorem m_rest1 (hM : RM n s W) (h : GS s) (hn : 7 ≤ n) (pile : Nat → Int32) : ∃ pile', X12_restOne n s pile = some (if raN W s = 0 then -1 else jN (raN W s - 1), pile') := by
  obtain ⟨hc, h4⟩ := h.n
  have L : ∀ d m k p, k + d = nS s → d < m → ∃ p', X12_restOne_L1 n s (fun o3 => some ((-1 : Int32), o3.2)) m (jN k) p = some (if raF W s d k = 0 then -1 else jN (raF W s d k - 1), p') := by
    intro d
    induction d with
    | zero => intro m k p hk hm; obtain ⟨m, rfl⟩ : ∃ q, m = q + 1 := ⟨m - 1, by omega⟩
              refine ⟨p, ?_⟩
              rw [X12_restOne_L1, h4]; simp (disch := omega) only [jl_0, jl_1, jl_2, jl_3, jl_4, jl_5, jl_6, jl_7, jl_8, jl_9, jl_10, jl_11, jl_12, jl_13, jl_14, jl_15, jl_16, jl_17, jl_18, jl_20, jl_23, jl_29, jl_30, jl_31, jl_32, jl_35, jl_40, jl_48, jl_50, jl_51, jl_57, jl_60, jl_61, jl_63, jl_64, jl_65, jl_89, jl_97, jl_99, jl_100, jl_101, jl_113, jl_122, jl_200, jl_240, jl_241, jl_255, jl_259, jl_260, jl_261, jl_262, jl_313, jl_500, jl_999, jl_10000, jl_10004, jl_10005, jl_10006, jl_10007, jl_10008, jl_10009, jl_10010, jl_10011, jl_10012, jl_10013, jl_10014, jl_10015, jl_10017, jl_10018, jl_10023, jl_12345, jl_1103515245, jN_add, jN_mul, jN_sub, jN_addm, jN_div, jN_irm, jN_nat, le_T, le_F, lt_T, lt_F, eq_F, ib_T, ib_F, add_j0, if_true, if_false, eq_self, Bool.false_eq_true, Option.bind_some, pb, jn, Nat.zero_add, Nat.add_zero]; simp [raF]
    | succ d ih =>
      intro m k p hk hm; obtain ⟨m, rfl⟩ : ∃ q, m = q + 1 := ⟨m - 1, by omega⟩
      obtain ⟨p1, e⟩ := m_may hM h p (k := k) (by omega)
      rw [X12_restOne_L1, h4]
      unfold raF
      by_cases hq : myB W s k = true
      · refine ⟨p1, ?_⟩
        rw [if_pos hq]
        simp (disch := omega) only [jl_0, jl_1, jl_2, jl_3, jl_4, jl_5, jl_6, jl_7, jl_8, jl_9, jl_10, jl_11, jl_12, jl_13, jl_14, jl_15, jl_16, jl_17, jl_18, jl_20, jl_23, jl_29, jl_30, jl_31, jl_32, jl_35, jl_40, jl_48, jl_50, jl_51, jl_57, jl_60, jl_61, jl_63, jl_64, jl_65, jl_89, jl_97, jl_99, jl_100, jl_101, jl_113, jl_122, jl_200, jl_240, jl_241, jl_255, jl_259, jl_260, jl_261, jl_262, jl_313, jl_500, jl_999, jl_10000, jl_10004, jl_10005, jl_10006, jl_10007, jl_10008, jl_10009, jl_10010, jl_10011, jl_10012, jl_10013, jl_10014, jl_10015, jl_10017, jl_10018, jl_10023, jl_12345, jl_1103515245, jN_add, jN_mul, jN_sub, jN_addm, jN_div, jN_irm, jN_nat, le_T, le_F, lt_T, lt_F, eq_F, ib_T, ib_F, add_j0, if_true, if_false, eq_self, Bool.false_eq_true, Option.bind_some, pb, jn, Nat.zero_add, Nat.add_zero, e, hq]; rfl
      · obtain ⟨p2, e2⟩ := ih m (k + 1) p1 (by omega) (by omega)
        refine ⟨p2, ?_⟩
        rw [if_neg hq]
        simp (disch := omega) only [jl_0, jl_1, jl_2, jl_3, jl_4, jl_5, jl_6, jl_7, jl_8, jl_9, jl_10, jl_11, jl_12, jl_13, jl_14, jl_15, jl_16, jl_17, jl_18, jl_20, jl_23, jl_29, jl_30, jl_31, jl_32, jl_35, jl_40, jl_48, jl_50, jl_51, jl_57, jl_60, jl_61, jl_63, jl_64, jl_65, jl_89, jl_97, jl_99, jl_100, jl_101, jl_113, jl_122, jl_200, jl_240, jl_241, jl_255, jl_259, jl_260, jl_261, jl_262, jl_313, jl_500, jl_999, jl_10000, jl_10004, jl_10005, jl_10006, jl_10007, jl_10008, jl_10009, jl_10010, jl_10011, jl_10012, jl_10013, jl_10014, jl_10015, jl_10017, jl_10018, jl_10023, jl_12345, jl_1103515245, jN_add, jN_mul, jN_sub, jN_addm, jN_div, jN_irm, jN_nat, le_T, le_F, lt_T, lt_F, eq_F, ib_T, ib_F, add_j0, if_true, if_false, eq_self, Bool.false_eq_true, Option.bind_some, pb, jn, Nat.zero_add, Nat.add_zero, e, hq]
        exact e2
  exact L (nS s) n 0 pile (by omega) (by omega)
theorem c_restAct (hC : RC n ρ gc gk gw gs gd kl wl sl cl W) (hr : ρ < nr) (h : GS s) (hn : 7 ≤ n) (fa : Nat → Int32) (st : Nat → Nat → Int32) : ∃ fa' st', X9_restAct_q0 n (dOf s) (kOf s) (s 4) (s 0) ρ fa gc gk gw gs gd st kl wl sl cl nr = some (jN (raN W s), fa', st') := by
  obtain ⟨hc, h4⟩ := h.n
  have L : ∀ d m k fa st, k + d = nS s → d < m → ∃ fa' st', X9_restAct_q0_L1 n (dOf s) (kOf s) (s 4) (s 0) ρ gc gk gw gs gd kl wl sl cl nr (fun o3 => some ((0 : Int32), o3.2.1, o3.2.2)) m (jN k) fa st = some (jN (raF W s d k), fa', st') := by
    intro d
    induction d with
    | zero => intro m k fa st hk hm; obtain ⟨m, rfl⟩ : ∃ q, m = q + 1 := ⟨m - 1, by omega⟩
              refine ⟨fa, st, ?_⟩
              rw [X9_restAct_q0_L1, h4]; simp (disch := omega) only [jl_0, jl_1, jl_2, jl_3, jl_4, jl_5, jl_6, jl_7, jl_8, jl_9, jl_10, jl_11, jl_12, jl_13, jl_14, jl_15, jl_16, jl_17, jl_18, jl_20, jl_23, jl_29, jl_30, jl_31, jl_32, jl_35, jl_40, jl_48, jl_50, jl_51, jl_57, jl_60, jl_61, jl_63, jl_64, jl_65, jl_89, jl_97, jl_99, jl_100, jl_101, jl_113, jl_122, jl_200, jl_240, jl_241, jl_255, jl_259, jl_260, jl_261, jl_262, jl_313, jl_500, jl_999, jl_10000, jl_10004, jl_10005, jl_10006, jl_10007, jl_10008, jl_10009, jl_10010, jl_10011, jl_10012, jl_10013, jl_10014, jl_10015, jl_10017, jl_10018, jl_10023, jl_12345, jl_1103515245, jN_add, jN_mul, jN_sub, jN_addm, jN_div, jN_irm, jN_nat, le_T, le_F, lt_T, lt_F, eq_F, ib_T, ib_F, add_j0, if_true, if_false, eq_self, Bool.false_eq_true, Option.bind_some, pb, jn, Nat.zero_add, Nat.add_zero]; rfl
    | succ d ih =>
      intro m k fa st hk hm; obtain ⟨m, rfl⟩ : ∃ q, m = q + 1 := ⟨m - 1, by omega⟩
      obtain ⟨f1, s1, e⟩ := c_may hC hr h fa st (k := k) (by omega)
      rw [X9_restAct_q0_L1, h4]
      unfold raF
      by_cases hq : myB W s k = true
      · refine ⟨f1, s1, ?_⟩
        rw [if_pos hq]
        simp (disch := omega) only [jl_0, jl_1, jl_2, jl_3, jl_4, jl_5, jl_6, jl_7, jl_8, jl_9, jl_10, jl_11, jl_12, jl_13, jl_14, jl_15, jl_16, jl_17, jl_18, jl_20, jl_23, jl_29, jl_30, jl_31, jl_32, jl_35, jl_40, jl_48, jl_50, jl_51, jl_57, jl_60, jl_61, jl_63, jl_64, jl_65, jl_89, jl_97, jl_99, jl_100, jl_101, jl_113, jl_122, jl_200, jl_240, jl_241, jl_255, jl_259, jl_260, jl_261, jl_262, jl_313, jl_500, jl_999, jl_10000, jl_10004, jl_10005, jl_10006, jl_10007, jl_10008, jl_10009, jl_10010, jl_10011, jl_10012, jl_10013, jl_10014, jl_10015, jl_10017, jl_10018, jl_10023, jl_12345, jl_1103515245, jN_add, jN_mul, jN_sub, jN_addm, jN_div, jN_irm, jN_nat, le_T, le_F, lt_T, lt_F, eq_F, ib_T, ib_F, add_j0, if_true, if_false, eq_self, Bool.false_eq_true, Option.bind_some, pb, jn, Nat.zero_add, Nat.add_zero, e, hq]
      · obtain ⟨f2, s2, e2⟩ := ih m (k + 1) f1 s1 (by omega) (by omega)
        refine ⟨f2, s2, ?_⟩
        rw [if_neg hq, ← e2, h4]
        simp (disch := omega) only [jl_0, jl_1, jl_2, jl_3, jl_4, jl_5, jl_6, jl_7, jl_8, jl_9, jl_10, jl_11, jl_12, jl_13, jl_14, jl_15, jl_16, jl_17, jl_18, jl_20, jl_23, jl_29, jl_30, jl_31, jl_32, jl_35, jl_40, jl_48, jl_50, jl_51, jl_57, jl_60, jl_61, jl_63, jl_64, jl_65, jl_89, jl_97, jl_99, jl_100, jl_101, jl_113, jl_122, jl_200, jl_240, jl_241, jl_255, jl_259, jl_260, jl_261, jl_262, jl_313, jl_500, jl_999, jl_10000, jl_10004, jl_10005, jl_10006, jl_10007, jl_10008, jl_10009, jl_10010, jl_10011, jl_10012, jl_10013, jl_10014, jl_10015, jl_10017, jl_10018, jl_10023, jl_12345, jl_1103515245, jN_add, jN_mul, jN_sub, jN_addm, jN_div, jN_irm, jN_nat, le_T, le_F, lt_T, lt_F, eq_F, ib_T, ib_F, add_j0, if_true, if_false, eq_self, Bool.false_eq_true, Option.bind_some, pb, jn, Nat.zero_add, Nat.add_zero, e, hq]
  exact L (nS s) n 0 fa st (by omega) (by omega)
/-! a chime with an act -/
def meW (W : Int32 → (Nat → Int32) → Int32) (s : Nat → Int32) (k : Nat) : Int32 × (Nat → Int32) := if wlW W s k = 0 then stS s k else if wlW W s k = 2 then gaN s k else (0, s)
theorem meW_i (h : GS s) {k : Nat} (hk : k < 6) : GS (meW W s k).2 ∧ FR (meW W s k).2 s := by
  unfold meW; split
  · exact ⟨stS_g h hk, stS_f hk⟩
  · split
    · exact arS_i h hk _ h.n.1
    · exact ⟨h, FR.refl s⟩
theorem m_meets (hM : RM n s W) (h : GS s) (hn : 7 ≤ n) (pile : Nat → Int32) {k : Nat} (hk : k < 6) : ∃ pile', X12_meets n s pile (jN k) = some ((meW W s k).1, (meW W s k).2, pile') := by
  obtain ⟨p, e⟩ := hM.at h pile hk
  refine ⟨p, ?_⟩
  unfold X12_meets meW
  rw [e]; simp only [Option.bind_some, m_set hk, m_argues h hk hn]
  split
  · rfl
  · split <;> rfl
/-- what is done ahead of a chime -/
def acW (W : Int32 → (Nat → Int32) → Int32) (s : Nat → Int32) (a : Nat) : Int32 × (Nat → Int32) := if a = 0 then (0, s) else meW W s (a - 1)
def goW (W : Int32 → (Nat → Int32) → Int32) (s : Nat → Int32) (a : Nat) : Int32 × (Nat → Int32) :=
  ((acW W s a).1 + prN (acW W s a).2 / (2 : Int32), upd (upd (slN (acW W s a).2) 0 (s 0 + 1)) 2 (s 2 + ((acW W s a).1 + prN (acW W s a).2 / (2 : Int32))))
theorem acW_i (h : GS s) {a : Nat} (ha : a ≤ nS s) : GS (acW W s a).2 ∧ FR (acW W s a).2 s := by
  unfold acW; split
  · exact ⟨h, FR.refl s⟩
  · exact meW_i h (by have := h.n.1; omega)
theorem slN_i (h : GS s) : GS (slN s) ∧ FR (slN s) s := by
  have := slS_i h (nS s) h.n.1
  exact ⟨this.1, this.2.1⟩
theorem m_goesBy' (h : GS s) (hn : 7 ≤ n) {a : Nat} (ha : a ≤ nS s) {pile p1 p2 : Nat → Int32} {v r : Int32} (e1 : (if 0 ≤ v then some ((v - (1 : Int32)), pile) else ((X12_restOne n s pile).bind fun r1 => some (r1.1, r1.2))) = some (r, p1)) (e2 : (if r < 0 then some ((0 : Int32), s, p1) else ((X12_meets n s p1 r).bind fun r4 => some (r4.1, r4.2.1, r4.2.2))) = some ((acW W s a).1, (acW W s a).2, p2)) : X12_goesBy n s pile v = some ((goW W s a).1, (goW W s a).2, p2) := by
  obtain ⟨hg, hf⟩ := acW_i (W := W) h ha
  obtain ⟨hg2, hf2⟩ := slN_i hg
  unfold X12_goesBy
  rw [e1]; simp only [Option.bind_some]; rw [e2]; simp only [Option.bind_some]
  rw [m_pairs hg hn, show (0 : Int32) = jN 0 from rfl, m_slip hg hn]
  simp only [Option.bind_some]
  unfold goW
  have hf3 := hf2.trans hf
  rw [upd_n (show (2 : Nat) ≠ 0 by omega), hf3.low (i := 0) (by omega), hf3.low (i := 2) (by omega)]
theorem m_goesBy (hM : RM n s W) (h : GS s) (hn : 7 ≤ n) (pile : Nat → Int32) {a : Nat} (ha : a ≤ nS s) : ∃ pile', X12_goesBy n s pile (jN a) = some ((goW W s a).1, (goW W s a).2, pile') := by
  have h6 := h.n.1
  have hv : (if 0 ≤ jN a then some ((jN a - (1 : Int32)), pile) else ((X12_restOne n s pile).bind fun r1 => some (r1.1, r1.2))) = some (jN a - 1, pile) := by simp (disch := omega) only [jl_0, jl_1, jl_2, jl_3, jl_4, jl_5, jl_6, jl_7, jl_8, jl_9, jl_10, jl_11, jl_12, jl_13, jl_14, jl_15, jl_16, jl_17, jl_18, jl_20, jl_23, jl_29, jl_30, jl_31, jl_32, jl_35, jl_40, jl_48, jl_50, jl_51, jl_57, jl_60, jl_61, jl_63, jl_64, jl_65, jl_89, jl_97, jl_99, jl_100, jl_101, jl_113, jl_122, jl_200, jl_240, jl_241, jl_255, jl_259, jl_260, jl_261, jl_262, jl_313, jl_500, jl_999, jl_10000, jl_10004, jl_10005, jl_10006, jl_10007, jl_10008, jl_10009, jl_10010, jl_10011, jl_10012, jl_10013, jl_10014, jl_10015, jl_10017, jl_10018, jl_10023, jl_12345, jl_1103515245, jN_add, jN_mul, jN_sub, jN_addm, jN_div, jN_irm, jN_nat, le_T, le_F, lt_T, lt_F, eq_F, ib_T, ib_F, add_j0, if_true, if_false, eq_self, Bool.false_eq_true, Option.bind_some, pb, jn, Nat.zero_add, Nat.add_zero]
  by_cases h0 : a = 0
  · subst h0
    exact ⟨pile, m_goesBy' h hn ha hv (by rw [if_pos (by decide)]; rfl)⟩
  · obtain ⟨p, e⟩ := m_meets hM h hn pile (k := a - 1) (by omega)
    refine ⟨p, m_goesBy' h hn ha hv ?_⟩
    rw [show jN a - 1 = jN (a - 1) from by simp (disch := omega) only [jl_0, jl_1, jl_2, jl_3, jl_4, jl_5, jl_6, jl_7, jl_8, jl_9, jl_10, jl_11, jl_12, jl_13, jl_14, jl_15, jl_16, jl_17, jl_18, jl_20, jl_23, jl_29, jl_30, jl_31, jl_32, jl_35, jl_40, jl_48, jl_50, jl_51, jl_57, jl_60, jl_61, jl_63, jl_64, jl_65, jl_89, jl_97, jl_99, jl_100, jl_101, jl_113, jl_122, jl_200, jl_240, jl_241, jl_255, jl_259, jl_260, jl_261, jl_262, jl_313, jl_500, jl_999, jl_10000, jl_10004, jl_10005, jl_10006, jl_10007, jl_10008, jl_10009, jl_10010, jl_10011, jl_10012, jl_10013, jl_10014, jl_10015, jl_10017, jl_10018, jl_10023, jl_12345, jl_1103515245, jN_add, jN_mul, jN_sub, jN_addm, jN_div, jN_irm, jN_nat, le_T, le_F, lt_T, lt_F, eq_F, ib_T, ib_F, add_j0, if_true, if_false, eq_self, Bool.false_eq_true, Option.bind_some, pb, jn, Nat.zero_add, Nat.add_zero]]
    simp (disch := omega) only [jl_0, jl_1, jl_2, jl_3, jl_4, jl_5, jl_6, jl_7, jl_8, jl_9, jl_10, jl_11, jl_12, jl_13, jl_14, jl_15, jl_16, jl_17, jl_18, jl_20, jl_23, jl_29, jl_30, jl_31, jl_32, jl_35, jl_40, jl_48, jl_50, jl_51, jl_57, jl_60, jl_61, jl_63, jl_64, jl_65, jl_89, jl_97, jl_99, jl_100, jl_101, jl_113, jl_122, jl_200, jl_240, jl_241, jl_255, jl_259, jl_260, jl_261, jl_262, jl_313, jl_500, jl_999, jl_10000, jl_10004, jl_10005, jl_10006, jl_10007, jl_10008, jl_10009, jl_10010, jl_10011, jl_10012, jl_10013, jl_10014, jl_10015, jl_10017, jl_10018, jl_10023, jl_12345, jl_1103515245, jN_add, jN_mul, jN_sub, jN_addm, jN_div, jN_irm, jN_nat, le_T, le_F, lt_T, lt_F, eq_F, ib_T, ib_F, add_j0, if_true, if_false, eq_self, Bool.false_eq_true, Option.bind_some, pb, jn, Nat.zero_add, Nat.add_zero]
    rw [e]; unfold acW; rw [if_neg h0]; rfl
theorem m_goesRest (hM : RM n s W) (h : GS s) (hn : 7 ≤ n) (pile : Nat → Int32) : ∃ pile', X12_goesBy n s pile (-1 : Int32) = some ((goW W s (raN W s)).1, (goW W s (raN W s)).2, pile') := by
  have h6 := h.n.1
  have hb := raN_b (W := W) (s := s)
  obtain ⟨p1, e1⟩ := m_rest1 hM h hn pile
  have hv : (if 0 ≤ (-1 : Int32) then some (((-1 : Int32) - (1 : Int32)), pile) else ((X12_restOne n s pile).bind fun r1 => some (r1.1, r1.2))) = some (if raN W s = 0 then -1 else jN (raN W s - 1), p1) := by
    rw [if_neg (by decide), e1]; rfl
  by_cases h0 : raN W s = 0
  · exact ⟨p1, m_goesBy' h hn hb hv (by rw [if_pos h0, if_pos (by decide)]; unfold acW; rw [if_pos h0])⟩
  · obtain ⟨p, e⟩ := m_meets hM h hn p1 (k := raN W s - 1) (by omega)
    refine ⟨p, m_goesBy' h hn hb hv ?_⟩
    rw [if_neg h0]
    simp (disch := omega) only [jl_0, jl_1, jl_2, jl_3, jl_4, jl_5, jl_6, jl_7, jl_8, jl_9, jl_10, jl_11, jl_12, jl_13, jl_14, jl_15, jl_16, jl_17, jl_18, jl_20, jl_23, jl_29, jl_30, jl_31, jl_32, jl_35, jl_40, jl_48, jl_50, jl_51, jl_57, jl_60, jl_61, jl_63, jl_64, jl_65, jl_89, jl_97, jl_99, jl_100, jl_101, jl_113, jl_122, jl_200, jl_240, jl_241, jl_255, jl_259, jl_260, jl_261, jl_262, jl_313, jl_500, jl_999, jl_10000, jl_10004, jl_10005, jl_10006, jl_10007, jl_10008, jl_10009, jl_10010, jl_10011, jl_10012, jl_10013, jl_10014, jl_10015, jl_10017, jl_10018, jl_10023, jl_12345, jl_1103515245, jN_add, jN_mul, jN_sub, jN_addm, jN_div, jN_irm, jN_nat, le_T, le_F, lt_T, lt_F, eq_F, ib_T, ib_F, add_j0, if_true, if_false, eq_self, Bool.false_eq_true, Option.bind_some, pb, jn, Nat.zero_add, Nat.add_zero]
    rw [e]; unfold acW; rw [if_neg h0]; rfl
theorem c_goBy (hC : RC n ρ gc gk gw gs gd kl wl sl cl W) (hr : ρ < nr) (h : GS s) (hn : 7 ≤ n) (sh0 fa : Nat → Int32) (st : Nat → Nat → Int32) {a : Nat} (ha : a ≤ nS s) : ∃ sh' fa' st', X9_goBy_q0 n (dOf s) (pOf s) (kOf s) (s 4) (s 0) (s 2) ρ sh0 fa gc gk gw gs gd st kl wl sl cl nr (jN a) = some ((goW W s a).1, dOf (goW W s a).2, (goW W s a).2 0, (goW W s a).2 2, sh', fa', st') := by
  have h6 := h.n.1
  obtain ⟨hg, hf⟩ := acW_i (W := W) h ha
  have tail : ∀ (fa' : Nat → Int32) (st' : Nat → Nat → Int32) (X : Option (Int32 × (Nat → Nat → Int32) × (Nat → Int32) × (Nat → Nat → Int32))), X = some ((acW W s a).1, dOf (acW W s a).2, fa', st') → (X.bind fun j8 => ((X9_pairs_q0 n j8.2.1 (s 4)).bind fun r9 => ((X9_measureShades_q0 n j8.2.1 (pOf s) (kOf s) (s 4) (s 0) sh0).bind fun r11 => ((X9_slipAll_q0 n j8.2.1 (kOf s) (s 4) (s 0) r11).bind fun r13 => some ((j8.1 + (r9 / (2 : Int32))), r13, (s 0 + (1 : Int32)), (s 2 + (j8.1 + (r9 / (2 : Int32)))), r11, j8.2.2.1, j8.2.2.2))))) = some ((goW W s a).1, dOf (goW W s a).2, (goW W s a).2 0, (goW W s a).2 2, (fun i => if i < 6 then shA (acW W s a).2 i else sh0 i), fa', st') := by
    intro fa' st' X hX
    rw [hX]
    simp only [Option.bind_some]
    rw [← hf.low (i := 4) (by omega), ← hf.low (i := 0) (by omega), ← hf.kOfE, ← hf.pOfE, c_pairs hg hn, c_measure hg hn]
    simp only [Option.bind_some, c_slip hg hn]
    unfold goW; dsimp only
    rw [upd_s, upd_n (show (0 : Nat) ≠ 2 by omega), upd_s, dOf_D (by omega), dOf_D (by omega), hf.low (i := 0) (by omega)]
  unfold X9_goBy_q0
  by_cases h0 : a = 0
  · subst h0
    refine ⟨_, fa, st, tail fa st _ ?_⟩
    rw [if_pos (show jN 0 < 1 by decide)]; rfl
  · obtain ⟨f1, s1, e⟩ := c_will hC hr h fa st (k := a - 1) (by omega)
    refine ⟨_, f1, s1, tail f1 s1 _ ?_⟩
    rw [show jN a - 1 = jN (a - 1) from by simp (disch := omega) only [jl_0, jl_1, jl_2, jl_3, jl_4, jl_5, jl_6, jl_7, jl_8, jl_9, jl_10, jl_11, jl_12, jl_13, jl_14, jl_15, jl_16, jl_17, jl_18, jl_20, jl_23, jl_29, jl_30, jl_31, jl_32, jl_35, jl_40, jl_48, jl_50, jl_51, jl_57, jl_60, jl_61, jl_63, jl_64, jl_65, jl_89, jl_97, jl_99, jl_100, jl_101, jl_113, jl_122, jl_200, jl_240, jl_241, jl_255, jl_259, jl_260, jl_261, jl_262, jl_313, jl_500, jl_999, jl_10000, jl_10004, jl_10005, jl_10006, jl_10007, jl_10008, jl_10009, jl_10010, jl_10011, jl_10012, jl_10013, jl_10014, jl_10015, jl_10017, jl_10018, jl_10023, jl_12345, jl_1103515245, jN_add, jN_mul, jN_sub, jN_addm, jN_div, jN_irm, jN_nat, le_T, le_F, lt_T, lt_F, eq_F, ib_T, ib_F, add_j0, if_true, if_false, eq_self, Bool.false_eq_true, Option.bind_some, pb, jn, Nat.zero_add, Nat.add_zero]]
    rw [if_neg (show ¬ jN a < 1 by simp (disch := omega) only [jl_0, jl_1, jl_2, jl_3, jl_4, jl_5, jl_6, jl_7, jl_8, jl_9, jl_10, jl_11, jl_12, jl_13, jl_14, jl_15, jl_16, jl_17, jl_18, jl_20, jl_23, jl_29, jl_30, jl_31, jl_32, jl_35, jl_40, jl_48, jl_50, jl_51, jl_57, jl_60, jl_61, jl_63, jl_64, jl_65, jl_89, jl_97, jl_99, jl_100, jl_101, jl_113, jl_122, jl_200, jl_240, jl_241, jl_255, jl_259, jl_260, jl_261, jl_262, jl_313, jl_500, jl_999, jl_10000, jl_10004, jl_10005, jl_10006, jl_10007, jl_10008, jl_10009, jl_10010, jl_10011, jl_10012, jl_10013, jl_10014, jl_10015, jl_10017, jl_10018, jl_10023, jl_12345, jl_1103515245, jN_add, jN_mul, jN_sub, jN_addm, jN_div, jN_irm, jN_nat, le_T, le_F, lt_T, lt_F, eq_F, ib_T, ib_F, add_j0, if_true, if_false, eq_self, Bool.false_eq_true, Option.bind_some, pb, jn, Nat.zero_add, Nat.add_zero]; exact not_false), if_neg (show ¬ s 4 < jN a by rw [h.n.2]; simp (disch := omega) only [jl_0, jl_1, jl_2, jl_3, jl_4, jl_5, jl_6, jl_7, jl_8, jl_9, jl_10, jl_11, jl_12, jl_13, jl_14, jl_15, jl_16, jl_17, jl_18, jl_20, jl_23, jl_29, jl_30, jl_31, jl_32, jl_35, jl_40, jl_48, jl_50, jl_51, jl_57, jl_60, jl_61, jl_63, jl_64, jl_65, jl_89, jl_97, jl_99, jl_100, jl_101, jl_113, jl_122, jl_200, jl_240, jl_241, jl_255, jl_259, jl_260, jl_261, jl_262, jl_313, jl_500, jl_999, jl_10000, jl_10004, jl_10005, jl_10006, jl_10007, jl_10008, jl_10009, jl_10010, jl_10011, jl_10012, jl_10013, jl_10014, jl_10015, jl_10017, jl_10018, jl_10023, jl_12345, jl_1103515245, jN_add, jN_mul, jN_sub, jN_addm, jN_div, jN_irm, jN_nat, le_T, le_F, lt_T, lt_F, eq_F, ib_T, ib_F, add_j0, if_true, if_false, eq_self, Bool.false_eq_true, Option.bind_some, pb, jn, Nat.zero_add, Nat.add_zero]; exact not_false), e]
    simp only [Option.bind_some]
    unfold acW meW
    rw [if_neg h0]
    have hk : a - 1 < 6 := by omega
    by_cases h1 : wlW W s (a - 1) = 0
    · rw [if_pos h1, if_pos h1, c_set h hk]
      simp only [Option.bind_some]
      rw [if_neg (by rw [h1]; decide)]
    · rw [if_neg h1, if_neg h1]
      simp only [Option.bind_some]
      by_cases h2 : wlW W s (a - 1) = 2
      · rw [if_pos h2, if_pos h2, c_argued h hk hn]; rfl
      · rw [if_neg h2, if_neg h2]
end WW
