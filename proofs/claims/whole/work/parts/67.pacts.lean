section ACTS
variable {n nr ρ : Nat} {gc : Nat → Int32} {gk gw gs gd : Nat → Nat → Int32} {kl wl sl cl : Nat → Nat} {d p : Nat → Nat → Int32} {k : Nat → Int32} {r : Nat → Nat → Int32} {c ch e sc rc z : Int32} {s : Nat → Int32}
theorem i_dial (hn : 600 ≤ n) (h : IQ nr gc gk gw gs gd kl wl sl cl d p k r c ch e sc rc z ρ s) (v1 : Int32) (v2 : Int32) (v3 : Int32) (v4 : Int32) :
    ∃ res resm, X11_dial d c v1 v2 v3 v4 = some res ∧ X12_dial s v1 v2 v3 v4 = some resm ∧ res.1 = resm.1 ∧ IQ nr gc gk gw gs gd kl wl sl cl res.2.1 p k r res.2.2 ch e sc rc z ρ resm.2 := by
  have hq := h
  obtain ⟨W, hC, hM, -⟩ := h.use hn
  obtain ⟨⟨a1, a2, a3, a4, a5, a6, a7, a8, a9, a10⟩, hg, hr, -⟩ := h
  subst a1 a2 a3 a4 a5 a6 a7 a8 a9 a10
  obtain ⟨x0, x1, x2, x3, f1, f2, f3, f4, f5⟩ := o_dial hg v1 v2 v3 v4
  exact ⟨_, _, f1, f2, rfl, hq.step f5 f3 f4⟩
theorem i_change (hn : 600 ≤ n) (h : IQ nr gc gk gw gs gd kl wl sl cl d p k r c ch e sc rc z ρ s) (v1 : Int32) (v2 : Int32) (v3 : Int32) :
    ∃ res resm, X11_change d c v1 v2 v3 = some res ∧ X12_change s v1 v2 v3 = some resm ∧ res.1 = resm.1 ∧ IQ nr gc gk gw gs gd kl wl sl cl res.2 p k r c ch e sc rc z ρ resm.2 := by
  have hq := h
  obtain ⟨W, hC, hM, -⟩ := h.use hn
  obtain ⟨⟨a1, a2, a3, a4, a5, a6, a7, a8, a9, a10⟩, hg, hr, -⟩ := h
  subst a1 a2 a3 a4 a5 a6 a7 a8 a9 a10
  obtain ⟨x0, x1, x2, f1, f2, f3, f4, f5⟩ := o_change hg v1 v2 v3
  exact ⟨_, _, f1, f2, rfl, hq.step f5 f3 f4⟩
theorem i_remake (hn : 600 ≤ n) (h : IQ nr gc gk gw gs gd kl wl sl cl d p k r c ch e sc rc z ρ s) (v1 : Int32) (v2 : Int32) :
    ∃ res resm, X11_remake d c v1 v2 = some res ∧ X12_remake s v1 v2 = some resm ∧ res.1 = resm.1 ∧ IQ nr gc gk gw gs gd kl wl sl cl res.2 p k r c ch e sc rc z ρ resm.2 := by
  have hq := h
  obtain ⟨W, hC, hM, -⟩ := h.use hn
  obtain ⟨⟨a1, a2, a3, a4, a5, a6, a7, a8, a9, a10⟩, hg, hr, -⟩ := h
  subst a1 a2 a3 a4 a5 a6 a7 a8 a9 a10
  obtain ⟨x0, x1, x2, f1, f2, f3, f4, f5⟩ := o_remake hg v1 v2
  exact ⟨_, _, f1, f2, rfl, hq.step f5 f3 f4⟩
theorem i_sky (hn : 600 ≤ n) (h : IQ nr gc gk gw gs gd kl wl sl cl d p k r c ch e sc rc z ρ s) (v1 : Int32) (v2 : Int32) :
    ∃ res resm, X11_sky k v1 v2 = some res ∧ X12_sky s v1 v2 = some resm ∧ res.1 = resm.1 ∧ IQ nr gc gk gw gs gd kl wl sl cl d p res.2 r c ch e sc rc z ρ resm.2 := by
  have hq := h
  obtain ⟨W, hC, hM, -⟩ := h.use hn
  obtain ⟨⟨a1, a2, a3, a4, a5, a6, a7, a8, a9, a10⟩, hg, hr, -⟩ := h
  subst a1 a2 a3 a4 a5 a6 a7 a8 a9 a10
  obtain ⟨x0, x1, x2, f1, f2, f3, f4, f5⟩ := o_sky hg v1 v2
  exact ⟨_, _, f1, f2, rfl, hq.step f5 f3 f4⟩
theorem i_spot (hn : 600 ≤ n) (h : IQ nr gc gk gw gs gd kl wl sl cl d p k r c ch e sc rc z ρ s) (v1 : Int32) (v2 : Int32) (v3 : Int32) :
    ∃ res resm, X11_spot p v1 v2 v3 = some res ∧ X12_spot s v1 v2 v3 = some resm ∧ res.1 = resm.1 ∧ IQ nr gc gk gw gs gd kl wl sl cl d res.2 k r c ch e sc rc z ρ resm.2 := by
  have hq := h
  obtain ⟨W, hC, hM, -⟩ := h.use hn
  obtain ⟨⟨a1, a2, a3, a4, a5, a6, a7, a8, a9, a10⟩, hg, hr, -⟩ := h
  subst a1 a2 a3 a4 a5 a6 a7 a8 a9 a10
  obtain ⟨x0, x1, x2, f1, f2, f3, f4, f5⟩ := o_spot hg v1 v2 v3
  exact ⟨_, _, f1, f2, rfl, hq.step f5 f3 f4⟩
theorem i_anew (hn : 600 ≤ n) (h : IQ nr gc gk gw gs gd kl wl sl cl d p k r c ch e sc rc z ρ s)  :
    ∃ res resm, X11_anew n d c ch = some res ∧ X12_anew n s = some resm ∧ res.1 = resm.1 ∧ IQ nr gc gk gw gs gd kl wl sl cl res.2.1 p k r c res.2.2.1 e res.2.2.2 rc z ρ resm.2 := by
  have hq := h
  obtain ⟨W, hC, hM, -⟩ := h.use hn
  obtain ⟨⟨a1, a2, a3, a4, a5, a6, a7, a8, a9, a10⟩, hg, hr, -⟩ := h
  subst a1 a2 a3 a4 a5 a6 a7 a8 a9 a10
  obtain ⟨x0, x1, x2, x3, x4, f1, f2, f3, f4, f5⟩ := o_anew (n := n) hg (by omega)
  exact ⟨_, _, f1, f2, rfl, hq.step f5 f3 f4⟩
theorem i_report (hn : 600 ≤ n) (h : IQ nr gc gk gw gs gd kl wl sl cl d p k r c ch e sc rc z ρ s) (v1 : Int32) (v2 : Int32) (v3 : Int32) (v4 : Int32) :
    ∃ res resm, X11_report r rc v1 v2 v3 v4 = some res ∧ X12_report s v1 v2 v3 v4 = some resm ∧ res.1 = resm.1 ∧ IQ nr gc gk gw gs gd kl wl sl cl d p k res.2.1 c ch e sc res.2.2 z ρ resm.2 := by
  have hq := h
  obtain ⟨W, hC, hM, -⟩ := h.use hn
  obtain ⟨⟨a1, a2, a3, a4, a5, a6, a7, a8, a9, a10⟩, hg, hr, -⟩ := h
  subst a1 a2 a3 a4 a5 a6 a7 a8 a9 a10
  obtain ⟨x0, x1, x2, x3, f1, f2, f3, f4, f5⟩ := o_report hg v1 v2 v3 v4
  exact ⟨_, _, f1, f2, rfl, hq.step f5 f3 f4⟩
theorem i_chime (hn : 600 ≤ n) (h : IQ nr gc gk gw gs gd kl wl sl cl d p k r c ch e sc rc z ρ s) (sh : Nat → Int32) (fa : Nat → Int32) (st : Nat → Nat → Int32) (pile : Nat → Int32) :
    ∃ res resm, X11_chime n d p k c ch e sc ρ sh fa gc gk gw gs gd st kl wl sl cl nr = some res ∧ X12_chime n s pile = some resm ∧ res.1 = resm.1 ∧ IQ nr gc gk gw gs gd kl wl sl cl res.2.1 p k r c res.2.2.1 e res.2.2.2.1 rc z ρ resm.2.1 := by
  have hq := h
  obtain ⟨W, hC, hM, -⟩ := h.use hn
  obtain ⟨⟨a1, a2, a3, a4, a5, a6, a7, a8, a9, a10⟩, hg, hr, -⟩ := h
  subst a1 a2 a3 a4 a5 a6 a7 a8 a9 a10
  obtain ⟨x0, x1, x2, x3, x4, x5, x6, x7, x8, f1, f2, f3, f4, f5⟩ := o_chime (n := n) (W := W) (by omega) hC hr hM hg sh fa st pile
  exact ⟨_, _, f1, f2, rfl, hq.step f5 f3 f4⟩
theorem i_lot (hn : 600 ≤ n) (h : IQ nr gc gk gw gs gd kl wl sl cl d p k r c ch e sc rc z ρ s) (sh : Nat → Int32) (fa : Nat → Int32) (st : Nat → Nat → Int32) (pile : Nat → Int32) :
    ∃ res resm, X11_lot n d p k c ch e sc z ρ sh fa gc gk gw gs gd st kl wl sl cl nr = some res ∧ X12_lot n s pile = some resm ∧ res.1 = resm.1 ∧ IQ nr gc gk gw gs gd kl wl sl cl res.2.1 p k r c res.2.2.1 e res.2.2.2.1 rc res.2.2.2.2.1 ρ resm.2.1 := by
  have hq := h
  obtain ⟨W, hC, hM, -⟩ := h.use hn
  obtain ⟨⟨a1, a2, a3, a4, a5, a6, a7, a8, a9, a10⟩, hg, hr, -⟩ := h
  subst a1 a2 a3 a4 a5 a6 a7 a8 a9 a10
  obtain ⟨x0, x1, x2, x3, x4, x5, x6, x7, x8, x9, f1, f2, f3, f4, f5⟩ := o_lot (n := n) (W := W) (by omega) hC hr hM hg sh fa st pile
  exact ⟨_, _, f1, f2, rfl, hq.step f5 f3 f4⟩
end ACTS
