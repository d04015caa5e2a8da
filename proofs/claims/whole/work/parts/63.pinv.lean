/-! what ties a square of the class to a row of the reference -/
def IQ (nr : Nat) (gc : Nat → Int32) (gk gw gs gd : Nat → Nat → Int32) (kl wl sl cl : Nat → Nat) (d p : Nat → Nat → Int32) (k : Nat → Int32) (r : Nat → Nat → Int32) (c ch e sc rc z : Int32) (ρ : Nat) (s : Nat → Int32) : Prop :=
  SQ d p k r c ch e sc rc z s ∧ GS s ∧ ρ < nr ∧ ∃ m kk ww hv, RuC ρ gc gk gw gs gd kl wl sl cl m kk ww hv ∧ RuM s m kk ww hv
/-- the kept square -/
def I1 (nr : Nat) (gc : Nat → Int32) (gk gw gs gd : Nat → Nat → Int32) (kl wl sl cl : Nat → Nat) (d p : Nat → Nat → Int32) (k : Nat → Int32) (r : Nat → Nat → Int32) (c ch e sc rc z : Int32) (ρ : Nat) (isKept : Int32) (kept : Nat → Int32) : Prop :=
  (∃ u, SQ d p k r c ch e sc rc z u) ∧ ρ < nr ∧ (isKept = 0 ∨ (isKept = 1 ∧ IQ nr gc gk gw gs gd kl wl sl cl d p k r c ch e sc rc z ρ kept))
/-- the square of trials -/
def I2 (nr : Nat) (d p : Nat → Nat → Int32) (k : Nat → Int32) (r : Nat → Nat → Int32) (c ch e sc rc z : Int32) (ρ : Nat) : Prop := (∃ u, SQ d p k r c ch e sc rc z u) ∧ ρ < nr
/-- rows of a plan -/
def IP (pr : Nat → Nat → Int32) (pc : Int32) (rows : Nat → Int32) (mc : Int32) : Prop := pr = wOf rows ∧ ∃ m, m ≤ 4 ∧ pc = jN m ∧ mc = jN m
/-- the tape -/
def IT (lc : Int32) (tc tm : Nat → Int32) (lm : Int32) : Prop := ∃ L, L ≤ 200 ∧ lc = jN L ∧ lm = jN L ∧ TR L tc tm
/-- sheets, shelves, the trace -/
def IH (so le : Nat → Int32) (it : Nat → Nat → Int32) (he th hz bo : Nat → Int32) (tr : Int32) (mso msi mn ho h1 mt : Nat → Int32) (mtr : Int32) : Prop :=
  so = mso ∧ le = msi ∧ it = iOf mn ∧ HS mso msi ∧ HH he th hz ho h1 ∧ bo = mt ∧ ∃ t, t ≤ 30 ∧ tr = jN t ∧ mtr = jN t
section INV
variable {n nr ρ : Nat} {gc : Nat → Int32} {gk gw gs gd : Nat → Nat → Int32} {kl wl sl cl : Nat → Nat} {d p : Nat → Nat → Int32} {k : Nat → Int32} {r : Nat → Nat → Int32} {c ch e sc rc z : Int32} {s u : Nat → Int32}
theorem IQ.use (h : IQ nr gc gk gw gs gd kl wl sl cl d p k r c ch e sc rc z ρ s) (hn : 600 ≤ n) : ∃ W, RC n ρ gc gk gw gs gd kl wl sl cl W ∧ RM n s W ∧ gc ρ = s 5 := by
  obtain ⟨-, -, -, m, kk, ww, hv, h1, h2⟩ := h
  exact ⟨tlW m kk ww hv, h1.rc hn, h2.rm hn, h1.2.1.trans h2.2.1.symm⟩
/-- an act that leaves the rules -/
theorem IQ.step {d' p' : Nat → Nat → Int32} {k' : Nat → Int32} {r' : Nat → Nat → Int32} {c' ch' e' sc' rc' z' : Int32} (h : IQ nr gc gk gw gs gd kl wl sl cl d p k r c ch e sc rc z ρ s) (hs : SQ d' p' k' r' c' ch' e' sc' rc' z' u) (hg : GS u) (hk : RK u s) : IQ nr gc gk gw gs gd kl wl sl cl d' p' k' r' c' ch' e' sc' rc' z' ρ u := by
  obtain ⟨-, -, hr, m, kk, ww, hv, h1, h2⟩ := h
  exact ⟨hs, hg, hr, m, kk, ww, hv, h1, h2.cg (fun i hi => hk i (by omega))⟩
/-- the same row, up to place 313 -/
theorem IQ.copy (h : IQ nr gc gk gw gs gd kl wl sl cl d p k r c ch e sc rc z ρ s) (hu : ∀ i, i < 313 → u i = s i) : IQ nr gc gk gw gs gd kl wl sl cl (dOf u) (pOf u) (kOf u) (rOf u) (u 4) (u 0) (u 1) (u 2) (u 6) (u 3) ρ u := by
  obtain ⟨-, hg, hr, m, kk, ww, hv, h1, h2⟩ := h
  refine ⟨SQ.rf u, fun i => ?_, hr, m, kk, ww, hv, h1, h2.cg (fun i hi => hu i (by omega))⟩
  by_cases hi : i < 313
  · rw [hu i hi]; exact hg i
  · left; unfold bd
    rw [if_neg (by omega), if_neg (by omega), if_neg (by omega), if_neg (by omega), if_neg (by omega), if_neg (by omega), if_neg (by omega)]
/-- new rules are made: others stay -/
theorem IQ.push {x : Int32} {g1 g2 g3 g4 : Nat → Int32} {l1 l2 l3 l4 : Nat} (h : IQ nr gc gk gw gs gd kl wl sl cl d p k r c ch e sc rc z ρ s) : IQ (nr + 1) (upd gc nr x) (va_up gk nr g1) (va_up gw nr g2) (va_up gs nr g3) (va_up gd nr g4) (va_up kl nr l1) (va_up wl nr l2) (va_up sl nr l3) (va_up cl nr l4) d p k r c ch e sc rc z ρ s := by
  obtain ⟨h0, hg, hr, m, kk, ww, hv, h1, h2⟩ := h
  exact ⟨h0, hg, by omega, m, kk, ww, hv, h1.old hr, h2⟩
theorem I1.push {x : Int32} {g1 g2 g3 g4 : Nat → Int32} {l1 l2 l3 l4 : Nat} {ik : Int32} {kept : Nat → Int32} (h : I1 nr gc gk gw gs gd kl wl sl cl d p k r c ch e sc rc z ρ ik kept) : I1 (nr + 1) (upd gc nr x) (va_up gk nr g1) (va_up gw nr g2) (va_up gs nr g3) (va_up gd nr g4) (va_up kl nr l1) (va_up wl nr l2) (va_up sl nr l3) (va_up cl nr l4) d p k r c ch e sc rc z ρ ik kept := by
  obtain ⟨h0, hr, h1⟩ := h
  refine ⟨h0, by omega, ?_⟩
  rcases h1 with y | ⟨y1, y2⟩
  · exact Or.inl y
  · exact Or.inr ⟨y1, y2.push⟩
theorem I2.push (h : I2 nr d p k r c ch e sc rc z ρ) : I2 (nr + 1) d p k r c ch e sc rc z ρ := ⟨h.1, by have := h.2; omega⟩
/-- KEEP -/
theorem i_keep (hn : 600 ≤ n) (h : IQ nr gc gk gw gs gd kl wl sl cl d p k r c ch e sc rc z ρ s) {d1 p1 : Nat → Nat → Int32} {k1 : Nat → Int32} {r1 : Nat → Nat → Int32} {c1 ch1 e1 sc1 rc1 z1 : Int32} {ρ1 : Nat} {ik : Int32} {kept : Nat → Int32} (h1 : I1 nr gc gk gw gs gd kl wl sl cl d1 p1 k1 r1 c1 ch1 e1 sc1 rc1 z1 ρ1 ik kept) :
    ∃ res resm, X11_keep n d p k r c ch e sc rc z ρ d1 p1 k1 r1 nr = some res ∧ X12_keep n s kept = some resm ∧ res.1 = resm.1 ∧ I1 nr gc gk gw gs gd kl wl sl cl res.2.1 res.2.2.1 res.2.2.2.1 res.2.2.2.2.1 res.2.2.2.2.2.1 res.2.2.2.2.2.2.1 res.2.2.2.2.2.2.2.1 res.2.2.2.2.2.2.2.2.1 res.2.2.2.2.2.2.2.2.2.1 res.2.2.2.2.2.2.2.2.2.2.1 res.2.2.2.2.2.2.2.2.2.2.2.1 res.2.2.2.2.2.2.2.2.2.2.2.2 resm.2.1 ∧ res.2.2.2.2.2.2.2.2.2.2.2.2 = resm.2.2 := by
  obtain ⟨⟨u1, q1, q2, q3, q4, -⟩, -, -⟩ := h1
  have hq := h
  obtain ⟨⟨a1, a2, a3, a4, a5, a6, a7, a8, a9, a10⟩, hg, hr, -⟩ := h
  subst q1 q2 q3 q4 a1 a2 a3 a4 a5 a6 a7 a8 a9 a10
  obtain ⟨kept', f1, f2, f3⟩ := o_keep (n := n) (s := s) (by omega) hr u1 kept
  exact ⟨_, _, f1, f2, rfl, ⟨⟨kept', SQ.rf kept'⟩, hr, Or.inr ⟨rfl, hq.copy f3⟩⟩, rfl⟩
end INV
