section READS
variable {n nr ρ : Nat} {gc : Nat → Int32} {gk gw gs gd : Nat → Nat → Int32} {kl wl sl cl : Nat → Nat} {d p : Nat → Nat → Int32} {k : Nat → Int32} {r : Nat → Nat → Int32} {c ch e sc rc z : Int32} {s : Nat → Int32}
theorem i_write {so le : Nat → Int32} {it : Nat → Nat → Int32} {he th hz bo : Nat → Int32} {tr : Int32} {mso msi mn ho h1 mt : Nat → Int32} {mtr : Int32} (hh : IH so le it he th hz bo tr mso msi mn ho h1 mt mtr) (v1 v2 v3 : Int32) : ∃ res resm, X11_write so le it v1 v2 v3 = some res ∧ X12_write mso msi mn v1 v2 v3 = some resm ∧ res.1 = resm.1 ∧ IH so le res.2 he th hz bo tr mso msi resm.2 ho h1 mt mtr := by
  obtain ⟨rfl, rfl, rfl, hS, hR⟩ := hh
  obtain ⟨x, q', f1, f2⟩ := o_write (q := mn) hS v1 v2 v3
  exact ⟨_, _, f1, f2, rfl, rfl, rfl, rfl, hS, hR⟩
theorem i_seats (hn : 600 ≤ n) (h : IQ nr gc gk gw gs gd kl wl sl cl d p k r c ch e sc rc z ρ s) (sh : Nat → Int32) (v1 v2 : Int32) : ∃ res x, X11_seats n d p k c ch sh v1 v2 = some res ∧ X12_seats n s v1 v2 = some x ∧ res.1 = x := by
  obtain ⟨⟨a1, a2, a3, a4, a5, a6, a7, a8, a9, a10⟩, hg, hr, -⟩ := h
  subst a1 a2 a3 a4 a5 a6 a7 a8 a9 a10
  obtain ⟨x, sh', f1, f2⟩ := o_seats (n := n) hg (by omega) sh v1 v2
  exact ⟨_, _, f1, f2, rfl⟩
theorem i_spotOf (hn : 600 ≤ n) (h : IQ nr gc gk gw gs gd kl wl sl cl d p k r c ch e sc rc z ρ s) (sh : Nat → Int32) (v1 v2 : Int32) : ∃ res x, X11_spotOf n d p k c ch sh v1 v2 = some res ∧ X12_spotOf n s v1 v2 = some x ∧ res.1 = x := by
  obtain ⟨⟨a1, a2, a3, a4, a5, a6, a7, a8, a9, a10⟩, hg, hr, -⟩ := h
  subst a1 a2 a3 a4 a5 a6 a7 a8 a9 a10
  obtain ⟨x, sh', f1, f2⟩ := o_spotOf (n := n) hg (by omega) sh v1 v2
  exact ⟨_, _, f1, f2, rfl⟩
theorem i_dialOf (hn : 600 ≤ n) (h : IQ nr gc gk gw gs gd kl wl sl cl d p k r c ch e sc rc z ρ s) (sh fa : Nat → Int32) (st : Nat → Nat → Int32) (pile : Nat → Int32) (v1 v2 : Int32) : ∃ res resm, X11_dialOf n d p k c ch ρ sh fa gc gk gw gs gd st kl wl sl cl nr v1 v2 = some res ∧ X12_dialOf n s pile v1 v2 = some resm ∧ res.1 = resm.1 := by
  obtain ⟨W, hC, hM, -⟩ := h.use hn
  obtain ⟨⟨a1, a2, a3, a4, a5, a6, a7, a8, a9, a10⟩, hg, hr, -⟩ := h
  subst a1 a2 a3 a4 a5 a6 a7 a8 a9 a10
  obtain ⟨x, sh', fa', st', pile', f1, f2⟩ := o_dialOf (n := n) (W := W) (by omega) hC hr hM hg sh fa st pile v1 v2
  exact ⟨_, _, f1, f2, rfl⟩
theorem i_state (hn : 600 ≤ n) (h : IQ nr gc gk gw gs gd kl wl sl cl d p k r c ch e sc rc z ρ s) (v1 : Int32) : ∃ x, X11_state n d k c ch e sc v1 = some x ∧ X12_state n s v1 = some x := by
  obtain ⟨⟨a1, a2, a3, a4, a5, a6, a7, a8, a9, a10⟩, hg, hr, -⟩ := h
  subst a1 a2 a3 a4 a5 a6 a7 a8 a9 a10
  exact o_state (n := n) hg (by omega) v1
theorem i_middle (hn : 600 ≤ n) (h : IQ nr gc gk gw gs gd kl wl sl cl d p k r c ch e sc rc z ρ s) : ∃ x, X11_middle n d c = some x ∧ X12_middle n s = some x := by
  obtain ⟨⟨a1, a2, a3, a4, a5, a6, a7, a8, a9, a10⟩, hg, hr, -⟩ := h
  subst a1 a2 a3 a4 a5 a6 a7 a8 a9 a10
  exact o_middle (n := n) hg (by omega)
theorem i_knots (hn : 600 ≤ n) (h : IQ nr gc gk gw gs gd kl wl sl cl d p k r c ch e sc rc z ρ s) (v1 : Int32) : ∃ x, X11_knots n d c v1 = some x ∧ X12_knots n s v1 = some x := by
  obtain ⟨⟨a1, a2, a3, a4, a5, a6, a7, a8, a9, a10⟩, hg, hr, -⟩ := h
  subst a1 a2 a3 a4 a5 a6 a7 a8 a9 a10
  exact o_knots (n := n) hg (by omega) v1
theorem i_lone (hn : 600 ≤ n) (h : IQ nr gc gk gw gs gd kl wl sl cl d p k r c ch e sc rc z ρ s) (l dd : Nat → Int32) (ff v1 : Int32) : ∃ x resm, X11_lone n k r rc v1 = some x ∧ X12_lone n s l dd ff v1 = some resm ∧ x = resm.1 := by
  obtain ⟨⟨a1, a2, a3, a4, a5, a6, a7, a8, a9, a10⟩, hg, hr, -⟩ := h
  subst a1 a2 a3 a4 a5 a6 a7 a8 a9 a10
  obtain ⟨x, l', d', ff', f1, f2⟩ := o_lone (n := n) hg hn l dd ff v1
  exact ⟨_, _, f1, f2, rfl⟩
theorem i_liar (hn : 600 ≤ n) (h : IQ nr gc gk gw gs gd kl wl sl cl d p k r c ch e sc rc z ρ s) (l dd : Nat → Int32) : ∃ x resm, X11_liar n k r rc = some x ∧ X12_liar n s l dd = some resm ∧ x = resm.1 := by
  obtain ⟨⟨a1, a2, a3, a4, a5, a6, a7, a8, a9, a10⟩, hg, hr, -⟩ := h
  subst a1 a2 a3 a4 a5 a6 a7 a8 a9 a10
  obtain ⟨x, l', d', ff', f1, f2⟩ := o_liar (n := n) hg hn l dd
  exact ⟨_, _, f1, f2, rfl⟩
end READS
