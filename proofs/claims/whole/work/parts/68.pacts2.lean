section ACTS2
variable {n nr ρ : Nat} {gc : Nat → Int32} {gk gw gs gd : Nat → Nat → Int32} {kl wl sl cl : Nat → Nat} {d p : Nat → Nat → Int32} {k : Nat → Int32} {r : Nat → Nat → Int32} {c ch e sc rc z : Int32} {s : Nat → Int32}
theorem i_ends (h : IQ nr gc gk gw gs gd kl wl sl cl d p k r c ch e sc rc z ρ s) (v1 : Int32) : ∃ resm, X12_ends s v1 = some resm ∧ (X11_ends ch e v1).1 = resm.1 ∧ IQ nr gc gk gw gs gd kl wl sl cl d p k r c ch (X11_ends ch e v1).2 sc rc z ρ resm.2 := by
  have hq := h
  obtain ⟨⟨a1, a2, a3, a4, a5, a6, a7, a8, a9, a10⟩, hg, hr, -⟩ := h
  subst a1 a2 a3 a4 a5 a6 a7 a8 a9 a10
  obtain ⟨x, y, u, f1, f2, f3, f4, f5⟩ := o_ends hg v1
  exact ⟨_, f2, by rw [f1], by rw [f1]; exact hq.step f5 f3 f4⟩
theorem i_forget (h : IQ nr gc gk gw gs gd kl wl sl cl d p k r c ch e sc rc z ρ s) : ∃ u, X12_forget s = some (rc, u) ∧ IQ nr gc gk gw gs gd kl wl sl cl d p k r c ch e sc 0 z ρ u := by
  have hq := h
  obtain ⟨⟨a1, a2, a3, a4, a5, a6, a7, a8, a9, a10⟩, hg, hr, -⟩ := h
  subst a1 a2 a3 a4 a5 a6 a7 a8 a9 a10
  obtain ⟨u, f2, f3, f4, f5⟩ := o_forget hg
  exact ⟨u, f2, hq.step f5 f3 f4⟩
theorem i_seed (h : IQ nr gc gk gw gs gd kl wl sl cl d p k r c ch e sc rc z ρ s) (v : Int32) : ∃ u, X12_seed s v = some (z, u) ∧ IQ nr gc gk gw gs gd kl wl sl cl d p k r c ch e sc rc v ρ u := by
  have hq := h
  obtain ⟨⟨a1, a2, a3, a4, a5, a6, a7, a8, a9, a10⟩, hg, hr, -⟩ := h
  subst a1 a2 a3 a4 a5 a6 a7 a8 a9 a10
  obtain ⟨u, f2, f3, f4, f5⟩ := o_seed hg v
  exact ⟨u, f2, hq.step f5 f3 f4⟩
theorem i_alterRow {pr : Nat → Nat → Int32} {pc mc : Int32} {rows : Nat → Int32} (hp : IP pr pc rows mc) (v1 v2 v3 : Int32) : ∃ res resm, X11_alterRow pr pc v1 v2 v3 = some res ∧ X12_alterRow rows mc v1 v2 v3 = some resm ∧ res.1 = resm.1 ∧ IP res.2 pc resm.2 mc := by
  obtain ⟨rfl, m, hm, rfl, rfl⟩ := hp
  obtain ⟨x, rows', f1, f2⟩ := o_alterRow rows hm v1 v2 v3
  exact ⟨_, _, f1, f2, rfl, rfl, m, hm, rfl, rfl⟩
theorem i_row {pr : Nat → Nat → Int32} {pc mc : Int32} {rows : Nat → Int32} (hp : IP pr pc rows mc) (v1 v2 : Int32) : ∃ x, X11_row pr pc v1 v2 = some x ∧ X12_row rows mc v1 v2 = some x := by
  obtain ⟨rfl, m, hm, rfl, rfl⟩ := hp
  exact o_row rows hm v1 v2
theorem i_sheet (hn : 600 ≤ n) {so le : Nat → Int32} {it : Nat → Nat → Int32} {he th hz bo : Nat → Int32} {tr : Int32} {mso msi mn ho h1 mt : Nat → Int32} {mtr : Int32} (hh : IH so le it he th hz bo tr mso msi mn ho h1 mt mtr) (v1 v2 v3 : Int32) : ∃ res resm, X11_sheet n so le it v1 v2 v3 = some res ∧ X12_sheet n mso msi mn v1 v2 v3 = some resm ∧ res.1 = resm.1 ∧ IH res.2.1 res.2.2.1 res.2.2.2 he th hz bo tr resm.2.1 resm.2.2.1 resm.2.2.2 ho h1 mt mtr := by
  obtain ⟨rfl, rfl, rfl, hS, hR⟩ := hh
  obtain ⟨x, so', si', q', f1, f2, f3⟩ := o_sheet (n := n) (q := mn) (by omega) hS v1 v2 v3
  exact ⟨_, _, f1, f2, rfl, rfl, rfl, rfl, f3, hR⟩
theorem i_item {so le : Nat → Int32} {it : Nat → Nat → Int32} {he th hz bo : Nat → Int32} {tr : Int32} {mso msi mn ho h1 mt : Nat → Int32} {mtr : Int32} (hh : IH so le it he th hz bo tr mso msi mn ho h1 mt mtr) (v1 v2 v3 : Int32) : ∃ x, X11_item so le it v1 v2 v3 = some x ∧ X12_item mso msi mn v1 v2 v3 = some x := by
  obtain ⟨rfl, rfl, rfl, hS, -⟩ := hh
  exact o_item hS v1 v2 v3
theorem i_trace {so le : Nat → Int32} {it : Nat → Nat → Int32} {he th hz bo : Nat → Int32} {tr : Int32} {mso msi mn ho h1 mt : Nat → Int32} {mtr : Int32} (hh : IH so le it he th hz bo tr mso msi mn ho h1 mt mtr) (v1 : Int32) : ∃ x, X11_trace bo tr v1 = some x ∧ X12_trace mt mtr v1 = some x := by
  obtain ⟨-, -, -, -, -, rfl, t, ht, rfl, rfl⟩ := hh
  exact o_trace ht v1
end ACTS2
