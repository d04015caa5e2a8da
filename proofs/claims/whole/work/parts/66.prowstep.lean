section ROWSTEP
variable {n nr ρ ρ2 : Nat} {gc : Nat → Int32} {gk gw gs gd : Nat → Nat → Int32} {kl wl sl cl : Nat → Nat} {d p d2 p2 : Nat → Nat → Int32} {k k2 : Nat → Int32} {r r2 : Nat → Nat → Int32} {c ch e sc rc z c2 ch2 e2 sc2 rc2 z2 : Int32} {s : Nat → Int32}
theorem i_judge (hn : 600 ≤ n) (h : IQ nr gc gk gw gs gd kl wl sl cl d p k r c ch e sc rc z ρ s) (h2 : I2 nr d2 p2 k2 r2 c2 ch2 e2 sc2 rc2 z2 ρ2) {pr : Nat → Nat → Int32} {pc mc : Int32} {rows : Nat → Int32} (hp : IP pr pc rows mc) (sh fa : Nat → Int32) (st : Nat → Nat → Int32) (laid pile : Nat → Int32) :
    ∃ res resm, X11_judge n d p k r c ch e sc rc z ρ d2 p2 k2 r2 sh fa pr pc gc gk gw gs gd st kl wl sl cl nr = some res ∧ X12_judge n s laid pile rows mc = some resm ∧ res.1 = resm.1 ∧ I2 nr res.2.1 res.2.2.1 res.2.2.2.1 res.2.2.2.2.1 res.2.2.2.2.2.1 res.2.2.2.2.2.2.1 res.2.2.2.2.2.2.2.1 res.2.2.2.2.2.2.2.2.1 res.2.2.2.2.2.2.2.2.2.1 res.2.2.2.2.2.2.2.2.2.2.1 res.2.2.2.2.2.2.2.2.2.2.2.1 ∧ resm.2.1 = s := by
  obtain ⟨W, hC, hM, -⟩ := h.use hn
  obtain ⟨⟨a1, a2, a3, a4, a5, a6, a7, a8, a9, a10⟩, hg, hr, -⟩ := h
  obtain ⟨⟨u2, b1, b2, b3, b4, b5, b6, b7, b8, b9, b10⟩, hr2⟩ := h2
  subst a1 a2 a3 a4 a5 a6 a7 a8 a9 a10 b1 b2 b3 b4 b5 b6 b7 b8 b9 b10
  obtain ⟨rfl, m, hm, rfl, rfl⟩ := hp
  obtain ⟨x0, x1, x2, x3, x4, x5, x6, x7, x8, x9, x10, x11, x12, x13, x14, x15, x16, x17, f1, f2, f3, f4⟩ := o_judge (n := n) (W := W) (by omega) hC hr hM hg u2 sh fa rows hm st laid pile
  exact ⟨_, _, f1, f2, rfl, ⟨⟨_, f4⟩, f3⟩, rfl⟩
theorem i_wouldBe (hn : 600 ≤ n) (h : IQ nr gc gk gw gs gd kl wl sl cl d p k r c ch e sc rc z ρ s) (h2 : I2 nr d2 p2 k2 r2 c2 ch2 e2 sc2 rc2 z2 ρ2) {so le : Nat → Int32} {it : Nat → Nat → Int32} {he th hz bo : Nat → Int32} {tr : Int32} {mso msi mn ho h1 mt : Nat → Int32} {mtr : Int32} (hh : IH so le it he th hz bo tr mso msi mn ho h1 mt mtr) (sh fa : Nat → Int32) (st : Nat → Nat → Int32) (laid pile : Nat → Int32) (v1 v2 v3 : Int32) :
    ∃ res resm, X11_wouldBe n d p k r c ch e sc rc z ρ d2 p2 k2 r2 c2 ch2 e2 sc2 rc2 z2 ρ2 sh fa so le it gc gk gw gs gd st kl wl sl cl nr v1 v2 v3 = some res ∧ X12_wouldBe n s laid pile mso msi mn v1 v2 v3 = some resm ∧ res.1 = resm.1 ∧ I2 nr res.2.1 res.2.2.1 res.2.2.2.1 res.2.2.2.2.1 res.2.2.2.2.2.1 res.2.2.2.2.2.2.1 res.2.2.2.2.2.2.2.1 res.2.2.2.2.2.2.2.2.1 res.2.2.2.2.2.2.2.2.2.1 res.2.2.2.2.2.2.2.2.2.2.1 res.2.2.2.2.2.2.2.2.2.2.2.1 ∧ resm.2.1 = s := by
  obtain ⟨W, hC, hM, -⟩ := h.use hn
  obtain ⟨⟨a1, a2, a3, a4, a5, a6, a7, a8, a9, a10⟩, hg, hr, -⟩ := h
  obtain ⟨⟨u2, b1, b2, b3, b4, b5, b6, b7, b8, b9, b10⟩, hr2⟩ := h2
  subst a1 a2 a3 a4 a5 a6 a7 a8 a9 a10 b1 b2 b3 b4 b5 b6 b7 b8 b9 b10
  obtain ⟨rfl, rfl, rfl, hS, -⟩ := hh
  obtain ⟨x0, x1, x2, x3, x4, x5, x6, x7, x8, x9, x10, x11, x12, x13, x14, x15, x16, x17, f1, f2, f3, f4⟩ := o_wouldBe (n := n) (W := W) (by omega) hC hr hM hg hS u2 hr2 mn sh fa st laid pile v1 v2 v3
  exact ⟨_, _, f1, f2, rfl, ⟨⟨_, f4⟩, f3⟩, rfl⟩
theorem i_prove (hn : 600 ≤ n) (h : IQ nr gc gk gw gs gd kl wl sl cl d p k r c ch e sc rc z ρ s) (h2 : I2 nr d2 p2 k2 r2 c2 ch2 e2 sc2 rc2 z2 ρ2) {pr : Nat → Nat → Int32} {pc mc : Int32} {rows : Nat → Int32} (hp : IP pr pc rows mc) (sh fa first : Nat → Int32) (steps0 most many few ever : Int32) (acts : Nat → Int32) (marks : Nat → Nat → Int32) (dp wt : Int32) (st : Nat → Nat → Int32) (laid pile saved plan bp : Nat → Int32) (mm mn mf me : Int32) (v1 : Int32) :
    ∃ res resm, X11_prove n d p k r c ch e sc rc z ρ d2 p2 k2 r2 c2 ch2 e2 sc2 rc2 z2 ρ2 sh fa first steps0 most many few ever pr pc acts marks dp wt gc gk gw gs gd st kl wl sl cl nr v1 = some res ∧ X12_prove n s laid pile saved plan bp mm mn mf me rows mc v1 = some resm ∧ res.1 = resm.1 ∧ I2 nr res.2.1 res.2.2.1 res.2.2.2.1 res.2.2.2.2.1 res.2.2.2.2.2.1 res.2.2.2.2.2.2.1 res.2.2.2.2.2.2.2.1 res.2.2.2.2.2.2.2.2.1 res.2.2.2.2.2.2.2.2.2.1 res.2.2.2.2.2.2.2.2.2.2.1 res.2.2.2.2.2.2.2.2.2.2.2.1 ∧ resm.2.1 = s ∧ IP res.2.2.2.2.2.2.2.2.2.2.2.2.2.2.2.2.2.2.2.2.1 res.2.2.2.2.2.2.2.2.2.2.2.2.2.2.2.2.2.2.2.2.2.1 resm.2.2.2.2.2.2.2.2.2.2.2.1 resm.2.2.2.2.2.2.2.2.2.2.2.2 := by
  obtain ⟨W, hC, hM, -⟩ := h.use hn
  obtain ⟨⟨a1, a2, a3, a4, a5, a6, a7, a8, a9, a10⟩, hg, hr, -⟩ := h
  obtain ⟨⟨u2, b1, b2, b3, b4, b5, b6, b7, b8, b9, b10⟩, hr2⟩ := h2
  subst a1 a2 a3 a4 a5 a6 a7 a8 a9 a10 b1 b2 b3 b4 b5 b6 b7 b8 b9 b10
  obtain ⟨rfl, m, hm, rfl, rfl⟩ := hp
  obtain ⟨x0, x1, x2, x3, x4, x5, x6, x7, x8, x9, x10, x11, x12, x13, x14, x15, x16, x17, x18, x19, x20, x21, x22, x23, x24, x25, x26, x27, x28, x29, x30, x31, x32, x33, x34, x35, x36, f1, f2, f3, f5, f4⟩ := o_prove (n := n) (W := W) (by omega) hC hr hM hg u2 hr2 sh fa first 0 most many few ever rows hm acts marks dp wt st laid pile saved plan bp mm mn mf me steps0 v1
  exact ⟨_, _, f1, f2, rfl, ⟨⟨_, f4⟩, f3⟩, rfl, rfl, _, f5, rfl, rfl⟩
theorem i_goAll (hn : 600 ≤ n) (h : IQ nr gc gk gw gs gd kl wl sl cl d p k r c ch e sc rc z ρ s) {so le : Nat → Int32} {it : Nat → Nat → Int32} {he th hz bo : Nat → Int32} {tr : Int32} {mso msi mn ho h1 mt : Nat → Int32} {mtr : Int32} (hh : IH so le it he th hz bo tr mso msi mn ho h1 mt mtr) (sh fa : Nat → Int32) (st : Nat → Nat → Int32) (pile : Nat → Int32) (v1 v2 v3 : Int32) :
    ∃ res resm, X11_goAll n d p k c ch e sc ρ sh fa so le it gc gk gw gs gd st kl wl sl cl nr v1 v2 v3 = some res ∧ X12_goAll n s pile mso msi mn v1 v2 v3 = some resm ∧ res.1 = resm.1 ∧ IQ nr gc gk gw gs gd kl wl sl cl res.2.1 p k r c res.2.2.1 e res.2.2.2.1 rc z ρ resm.2.1 := by
  have hq := h
  obtain ⟨W, hC, hM, -⟩ := h.use hn
  obtain ⟨⟨a1, a2, a3, a4, a5, a6, a7, a8, a9, a10⟩, hg, hr, -⟩ := h
  subst a1 a2 a3 a4 a5 a6 a7 a8 a9 a10
  obtain ⟨rfl, rfl, rfl, hS, -⟩ := hh
  obtain ⟨x, u, sh', fa', st', pile', f1, f2, f3, f4, f5⟩ := o_goAll (n := n) (W := W) (by omega) hC hr hM hg hS mn sh fa st pile v1 v2 v3
  have hs := sq_go f4 hg.n.1
  rw [f5] at hs
  exact ⟨_, _, f1, f2, rfl, hq.step hs f3 (f4.RK hg.n.1)⟩
end ROWSTEP
