section STEP
variable {n nr ρ : Nat} {gc : Nat → Int32} {gk gw gs gd : Nat → Nat → Int32} {kl wl sl cl : Nat → Nat} {d p : Nat → Nat → Int32} {k : Nat → Int32} {r : Nat → Nat → Int32} {c ch e sc rc z : Int32} {s : Nat → Int32}
/-- AGAIN -/
theorem i_again (hn : 600 ≤ n) (h : IQ nr gc gk gw gs gd kl wl sl cl d p k r c ch e sc rc z ρ s) {d1 p1 : Nat → Nat → Int32} {k1 : Nat → Int32} {r1 : Nat → Nat → Int32} {c1 ch1 e1 sc1 rc1 z1 : Int32} {ρ1 : Nat} {ik : Int32} {kept : Nat → Int32} (h1 : I1 nr gc gk gw gs gd kl wl sl cl d1 p1 k1 r1 c1 ch1 e1 sc1 rc1 z1 ρ1 ik kept) :
    ∃ res resm, X11_again n d p k r c ch e sc rc z ρ d1 p1 k1 r1 c1 ch1 e1 sc1 rc1 z1 ρ1 ik nr = some res ∧ X12_again n s kept ik = some resm ∧ res.1 = resm.1 ∧ IQ nr gc gk gw gs gd kl wl sl cl res.2.1 res.2.2.1 res.2.2.2.1 res.2.2.2.2.1 res.2.2.2.2.2.1 res.2.2.2.2.2.2.1 res.2.2.2.2.2.2.2.1 res.2.2.2.2.2.2.2.2.1 res.2.2.2.2.2.2.2.2.2.1 res.2.2.2.2.2.2.2.2.2.2.1 res.2.2.2.2.2.2.2.2.2.2.2 resm.2 := by
  obtain ⟨-, -, hk⟩ := h1
  rcases hk with rfl | ⟨rfl, h2⟩
  · exact ⟨(-3, d, p, k, r, c, ch, e, sc, rc, z, ρ), (-3, s), by unfold X11_again; rw [if_pos rfl], by unfold X12_again; rw [if_pos rfl], rfl, h⟩
  · have hq := h2
    obtain ⟨⟨b1, b2, b3, b4, b5, b6, b7, b8, b9, b10⟩, hg1, hr1, -⟩ := h2
    obtain ⟨⟨a1, a2, a3, a4, a5, a6, a7, a8, a9, a10⟩, hg, hr, -⟩ := h
    subst a1 a2 a3 a4 a5 a6 a7 a8 a9 a10 b1 b2 b3 b4 b5 b6 b7 b8 b9 b10
    obtain ⟨u, f1, f2⟩ := o_again1 (n := n) (s := s) (by omega) kept
    have g1 := c_again1 (n := n) (s := s) (nr := nr) (ρ := ρ1) (by omega) hr1 kept (ρ0 := ρ)
    refine ⟨_, _, g1, f1, rfl, ?_⟩
    have := hq.copy f2
    have e1 : dOf u = dOf kept := dOf_cg (fun i _ _ => f2 i (by omega))
    have e2 : pOf u = pOf kept := pOf_cg (fun i _ _ => f2 i (by omega))
    have e3 : kOf u = kOf kept := kOf_cg (fun i _ _ => f2 i (by omega))
    have e4 : rOf u = rOf kept := rOf_cg (fun i _ _ => f2 i (by omega))
    rw [e1, e2, e3, e4, f2 4 (by omega), f2 0 (by omega), f2 1 (by omega), f2 2 (by omega), f2 6 (by omega), f2 3 (by omega)] at this
    exact this
/-- FEED -/
theorem i_feed (hn : 600 ≤ n) {lc lm : Int32} {tc tm : Nat → Int32} (h : IT lc tc tm lm) (v1 : Int64) (v3 : Int32) : ∃ res resm, X11_feed n lc tc v1 v3 = some res ∧ X12_feed n tm lm v1 v3 = some resm ∧ res.1 = resm.1 ∧ IT res.2.1 res.2.2 resm.2.1 resm.2.2 := by
  obtain ⟨L, hL, rfl, rfl, hT⟩ := h
  obtain ⟨x, tc', tm', L', h1, h2, h3, h4⟩ := o_feed (n := n) (by omega) hL hT v1 v3
  exact ⟨_, _, h3, h4, rfl, L', h1, rfl, rfl, h2⟩
theorem IT.nil (tc tm : Nat → Int32) : IT 0 tc tm 0 := ⟨0, by omega, rfl, rfl, fun i hi => by omega⟩
/-- RULES: a fault, or rules -/
theorem i_rules (hn : 600 ≤ n) (h : IQ nr gc gk gw gs gd kl wl sl cl d p k r c ch e sc rc z ρ s) {lc lm : Int32} {tc tm : Nat → Int32} (hT : IT lc tc tm lm) (words0 places kinds wills starts cc mc read : Nat → Int32) (val op : Int32) :
    ∃ res resm, X6_read n lc tc words0 places kinds wills starts cc = some res ∧ X12_rules n s tm lm ltr val op mc read = some resm ∧
      ((res.1 = 0 ∧ ∃ rf, X6_fault res.2.2.1 res.2.2.2.1 = some rf ∧ (-100 : Int32) - rf = resm.1 ∧ resm.2.1 = s ∧ resm.2.2.1 = 0) ∨
       (¬ res.1 = 0 ∧ resm.2.2.1 = 0 ∧ res.2.2.2.2.2.2.2.2.1 = resm.1 ∧ ib res.2.2.2.2.2.2.2.2.1 9 = true ∧ ib (res.2.2.2.2.2.2.2.2.1 + 1) 10 = true ∧ ib res.2.2.2.2.2.2.2.2.2 201 = true ∧
        ∀ g1 g2 g3 g4 : Nat → Int32, (∀ i, i < res.2.2.2.2.2.2.2.2.1.toNatClampNeg → g1 i = res.2.2.2.2.1 i) → (∀ i, i < res.2.2.2.2.2.2.2.2.1.toNatClampNeg → g2 i = res.2.2.2.2.2.1 i) → (∀ i, i < (res.2.2.2.2.2.2.2.2.1 + 1).toNatClampNeg → g3 i = (upd res.2.2.2.2.2.2.1 res.2.2.2.2.2.2.2.2.1.toNatClampNeg res.2.2.2.2.2.2.2.2.2) i) → (∀ i, i < res.2.2.2.2.2.2.2.2.2.toNatClampNeg → g4 i = res.2.2.2.2.2.2.2.1 i) →
          IQ (nr + 1) (upd gc nr res.2.2.2.2.2.2.2.2.1) (va_up gk nr g1) (va_up gw nr g2) (va_up gs nr g3) (va_up gd nr g4) (va_up kl nr res.2.2.2.2.2.2.2.2.1.toNatClampNeg) (va_up wl nr res.2.2.2.2.2.2.2.2.1.toNatClampNeg) (va_up sl nr (res.2.2.2.2.2.2.2.2.1 + 1).toNatClampNeg) (va_up cl nr res.2.2.2.2.2.2.2.2.2.toNatClampNeg) d p k r c ch e sc rc z nr resm.2.1)) := by
  obtain ⟨L, hL, rfl, rfl, hT⟩ := hT
  obtain ⟨⟨a1, a2, a3, a4, a5, a6, a7, a8, a9, a10⟩, hg, hr, -⟩ := h
  rcases o_read (n := n) (by omega) hL hT words0 places kinds wills starts cc s mc read val op with ⟨i, words', places', kinds', wills', starts', cc', cnt', a', at', bg', t', v', op', b', mc', read', h1, h2, h3⟩ | ⟨m, i, words', places', kinds', wills', starts', cc', a, s', at', bg', t', v', op', b', mc', read', kk, ww, hv, sa, h1, h2, h3, h4, h5, h6, h7, h8, h9, h10⟩
  · refine ⟨_, _, h2, h3, Or.inl ⟨rfl, places' i, ?_, rfl, rfl, rfl⟩⟩
    unfold X6_fault
    dsimp only
    rw [ib_T (show i < 201 by omega) (by omega), jN_nat (show i < 2147483648 by omega), if_pos rfl]
  · refine ⟨_, _, h4, h5, Or.inr ⟨show ¬ (1 : Int32) = 0 by decide, rfl, rfl, ib_T (show m < 9 by omega) (by omega), ?_, ib_T (show a < 201 by omega) (by omega), fun g1 g2 g3 g4 q1 q2 q3 q4 => ?_⟩⟩
    · dsimp only
      rw [show jN m + (1 : Int32) = jN (m + 1) from by rw [jl_1, jN_add]]; exact ib_T (show m + 1 < 10 by omega) (by omega)
    · obtain ⟨x1, x2⟩ := rules_sq hg h7
      refine ⟨?_, x1, Nat.lt_succ_self nr, m, kk, ww, hv, RuC.new h2 h3 h8 h9 h10 q1 q2 q3 q4, h6⟩
      rw [a1, a2, a3, a4, a5, a6, a7, a8, a9, a10]; exact x2
end STEP
