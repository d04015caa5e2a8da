section HSTEP
variable {n nr ρ : Nat} {gc : Nat → Int32} {gk gw gs gd : Nat → Nat → Int32} {kl wl sl cl : Nat → Nat} {d p : Nat → Nat → Int32} {k : Nat → Int32} {r : Nat → Nat → Int32} {c ch e sc rc z : Int32} {s : Nat → Int32}
theorem i_shelf (h : IQ nr gc gk gw gs gd kl wl sl cl d p k r c ch e sc rc z ρ s) {so le : Nat → Int32} {it : Nat → Nat → Int32} {he th hz bo : Nat → Int32} {tr : Int32} {mso msi mn ho h1 mt : Nat → Int32} {mtr : Int32} (hh : IH so le it he th hz bo tr mso msi mn ho h1 mt mtr) (v1 v2 v3 : Int32) : ∃ res resm, X11_shelf c so le he th hz v1 v2 v3 = some res ∧ X12_shelf s mso msi ho h1 v1 v2 v3 = some resm ∧ res.1 = resm.1 ∧ IH so le it res.2.1 res.2.2.1 res.2.2.2 bo tr mso msi mn resm.2.1 resm.2.2 mt mtr := by
  obtain ⟨⟨a1, a2, a3, a4, a5, a6, a7, a8, a9, a10⟩, hg, hr, -⟩ := h
  subst a1 a2 a3 a4 a5 a6 a7 a8 a9 a10
  obtain ⟨rfl, rfl, h3, hS, hH, hR⟩ := hh
  obtain ⟨x, he', th', hz', ho', h1', f1, f2, f3⟩ := o_shelf hg hS hH v1 v2 v3
  exact ⟨_, _, f1, f2, rfl, rfl, rfl, h3, hS, f3, hR⟩
theorem i_taken (hn : 600 ≤ n) (h : IQ nr gc gk gw gs gd kl wl sl cl d p k r c ch e sc rc z ρ s) {so le : Nat → Int32} {it : Nat → Nat → Int32} {he th hz bo : Nat → Int32} {tr : Int32} {mso msi mn ho h1 mt : Nat → Int32} {mtr : Int32} (hh : IH so le it he th hz bo tr mso msi mn ho h1 mt mtr) (v1 v2 : Int32) : ∃ x, X11_taken d c he th hz v1 v2 = some x ∧ X12_taken n s ho h1 v1 v2 = some x := by
  obtain ⟨⟨a1, a2, a3, a4, a5, a6, a7, a8, a9, a10⟩, hg, hr, -⟩ := h
  subst a1 a2 a3 a4 a5 a6 a7 a8 a9 a10
  obtain ⟨-, -, -, -, hH, -⟩ := hh
  exact o_taken (n := n) hg (by omega) hH v1 v2
theorem i_act (hn : 600 ≤ n) (h : IQ nr gc gk gw gs gd kl wl sl cl d p k r c ch e sc rc z ρ s) {so le : Nat → Int32} {it : Nat → Nat → Int32} {he th hz bo : Nat → Int32} {tr : Int32} {mso msi mn ho h1 mt : Nat → Int32} {mtr : Int32} (hh : IH so le it he th hz bo tr mso msi mn ho h1 mt mtr) (nu sp ow ip v1 v2 v3 : Int32) : ∃ res resm, X11_act d c he th bo nu sp v1 v2 v3 = some res ∧ X12_act n s ho h1 mt ow ip v1 v2 v3 = some resm ∧ res.1 = resm.1 ∧ IH so le it he th hz res.2.1 res.2.2.1 mso msi mn ho h1 resm.2.1 resm.2.2.1 := by
  obtain ⟨⟨a1, a2, a3, a4, a5, a6, a7, a8, a9, a10⟩, hg, hr, -⟩ := h
  subst a1 a2 a3 a4 a5 a6 a7 a8 a9 a10
  obtain ⟨h1', h2', h3', hS, hH, rfl, -⟩ := hh
  obtain ⟨x, b', t, nu', sp', pa', ow', ip', ht, f1, f2⟩ := o_act (n := n) hg (by omega) hH bo nu sp ow ip v1 v2 v3
  exact ⟨_, _, f1, f2, rfl, h1', h2', h3', hS, hH, rfl, t, ht, rfl, rfl⟩
theorem i_many (hn : 600 ≤ n) (h : IQ nr gc gk gw gs gd kl wl sl cl d p k r c ch e sc rc z ρ s) {pr : Nat → Nat → Int32} {pc mc : Int32} {rows : Nat → Int32} (hp : IP pr pc rows mc) {lc lm : Int32} {tc tm : Nat → Int32} (hT : IT lc tc tm lm) {so le : Nat → Int32} {it : Nat → Nat → Int32} {he th hz bo : Nat → Int32} {tr : Int32} {mso msi mn ho h1 mt : Nat → Int32} {mtr : Int32} (hh : IH so le it he th hz bo tr mso msi mn ho h1 mt mtr) (v1 : Int32) : ∃ x, X11_many n d c rc ρ pc lc tr gc nr v1 = some x ∧ X12_many n s lm mc mtr v1 = some x := by
  obtain ⟨W, -, -, hgc⟩ := h.use hn
  obtain ⟨⟨a1, a2, a3, a4, a5, a6, a7, a8, a9, a10⟩, hg, hr, -⟩ := h
  subst a1 a2 a3 a4 a5 a6 a7 a8 a9 a10
  obtain ⟨-, m, -, rfl, rfl⟩ := hp
  obtain ⟨L, -, rfl, rfl, -⟩ := hT
  obtain ⟨-, -, -, -, -, -, t, -, rfl, rfl⟩ := hh
  exact o_many (n := n) hg (by omega) hr hgc (jN m) (jN L) (jN t) v1
end HSTEP
