section TRIAL
variable {n nr ρ ρ2 : Nat} {gc : Nat → Int32} {gk gw gs gd : Nat → Nat → Int32} {kl wl sl cl : Nat → Nat} {d p d2 p2 : Nat → Nat → Int32} {k k2 : Nat → Int32} {r r2 : Nat → Nat → Int32} {c ch e sc rc z c2 ch2 e2 sc2 rc2 z2 : Int32} {s : Nat → Int32}
theorem i_on (hn : 600 ≤ n) (h : IQ nr gc gk gw gs gd kl wl sl cl d p k r c ch e sc rc z ρ s) (h2 : I2 nr d2 p2 k2 r2 c2 ch2 e2 sc2 rc2 z2 ρ2) (sh fa : Nat → Int32) (st : Nat → Nat → Int32) (laid pile : Nat → Int32) (v1 : Int32) :
    ∃ res resm, X11_on n d p k r c ch e sc rc z ρ d2 p2 k2 r2 c2 ch2 e2 sc2 rc2 z2 ρ2 sh fa gc gk gw gs gd st kl wl sl cl nr v1 = some res ∧ X12_on n s laid pile v1 = some resm ∧ res.1 = resm.1 ∧ I2 nr res.2.1 res.2.2.1 res.2.2.2.1 res.2.2.2.2.1 res.2.2.2.2.2.1 res.2.2.2.2.2.2.1 res.2.2.2.2.2.2.2.1 res.2.2.2.2.2.2.2.2.1 res.2.2.2.2.2.2.2.2.2.1 res.2.2.2.2.2.2.2.2.2.2.1 res.2.2.2.2.2.2.2.2.2.2.2.1 ∧ resm.2.1 = s := by
  obtain ⟨W, hC, hM, -⟩ := h.use hn
  obtain ⟨⟨a1, a2, a3, a4, a5, a6, a7, a8, a9, a10⟩, hg, hr, -⟩ := h
  obtain ⟨⟨u2, b1, b2, b3, b4, b5, b6, b7, b8, b9, b10⟩, hr2⟩ := h2
  subst a1 a2 a3 a4 a5 a6 a7 a8 a9 a10 b1 b2 b3 b4 b5 b6 b7 b8 b9 b10
  obtain ⟨x0, x1, x2, x3, x4, x5, x6, x7, x8, x9, x10, x11, x12, x13, x14, x15, x16, x17, f1, f2, f3, f4⟩ := o_on (n := n) (W := W) (by omega) hC hr hM hg u2 hr2 sh fa st laid pile v1
  exact ⟨_, _, f1, f2, rfl, ⟨⟨_, f4⟩, f3⟩, rfl⟩
theorem i_when (hn : 600 ≤ n) (h : IQ nr gc gk gw gs gd kl wl sl cl d p k r c ch e sc rc z ρ s) (h2 : I2 nr d2 p2 k2 r2 c2 ch2 e2 sc2 rc2 z2 ρ2) (sh fa : Nat → Int32) (st : Nat → Nat → Int32) (laid pile : Nat → Int32) (v1 : Int32) :
    ∃ res resm, X11_when n d p k r c ch e sc rc z ρ d2 p2 k2 r2 c2 ch2 e2 sc2 rc2 z2 ρ2 sh fa gc gk gw gs gd st kl wl sl cl nr v1 = some res ∧ X12_when n s laid pile v1 = some resm ∧ res.1 = resm.1 ∧ I2 nr res.2.1 res.2.2.1 res.2.2.2.1 res.2.2.2.2.1 res.2.2.2.2.2.1 res.2.2.2.2.2.2.1 res.2.2.2.2.2.2.2.1 res.2.2.2.2.2.2.2.2.1 res.2.2.2.2.2.2.2.2.2.1 res.2.2.2.2.2.2.2.2.2.2.1 res.2.2.2.2.2.2.2.2.2.2.2.1 ∧ resm.2.1 = s := by
  obtain ⟨W, hC, hM, -⟩ := h.use hn
  obtain ⟨⟨a1, a2, a3, a4, a5, a6, a7, a8, a9, a10⟩, hg, hr, -⟩ := h
  obtain ⟨⟨u2, b1, b2, b3, b4, b5, b6, b7, b8, b9, b10⟩, hr2⟩ := h2
  subst a1 a2 a3 a4 a5 a6 a7 a8 a9 a10 b1 b2 b3 b4 b5 b6 b7 b8 b9 b10
  obtain ⟨x0, x1, x2, x3, x4, x5, x6, x7, x8, x9, x10, x11, x12, x13, x14, x15, x16, x17, f1, f2, f3, f4⟩ := o_when (n := n) (W := W) (by omega) hC hr hM hg u2 hr2 sh fa st laid pile v1
  exact ⟨_, _, f1, f2, rfl, ⟨⟨_, f4⟩, f3⟩, rfl⟩
theorem i_late (hn : 600 ≤ n) (h : IQ nr gc gk gw gs gd kl wl sl cl d p k r c ch e sc rc z ρ s) (h2 : I2 nr d2 p2 k2 r2 c2 ch2 e2 sc2 rc2 z2 ρ2) (sh fa : Nat → Int32) (st : Nat → Nat → Int32) (laid pile : Nat → Int32) (v1 : Int32) :
    ∃ res resm, X11_late n d p k r c ch e sc rc z ρ d2 p2 k2 r2 c2 ch2 e2 sc2 rc2 z2 ρ2 sh fa gc gk gw gs gd st kl wl sl cl nr v1 = some res ∧ X12_late n s laid pile v1 = some resm ∧ res.1 = resm.1 ∧ I2 nr res.2.1 res.2.2.1 res.2.2.2.1 res.2.2.2.2.1 res.2.2.2.2.2.1 res.2.2.2.2.2.2.1 res.2.2.2.2.2.2.2.1 res.2.2.2.2.2.2.2.2.1 res.2.2.2.2.2.2.2.2.2.1 res.2.2.2.2.2.2.2.2.2.2.1 res.2.2.2.2.2.2.2.2.2.2.2.1 ∧ resm.2.1 = s := by
  obtain ⟨W, hC, hM, -⟩ := h.use hn
  obtain ⟨⟨a1, a2, a3, a4, a5, a6, a7, a8, a9, a10⟩, hg, hr, -⟩ := h
  obtain ⟨⟨u2, b1, b2, b3, b4, b5, b6, b7, b8, b9, b10⟩, hr2⟩ := h2
  subst a1 a2 a3 a4 a5 a6 a7 a8 a9 a10 b1 b2 b3 b4 b5 b6 b7 b8 b9 b10
  obtain ⟨x0, x1, x2, x3, x4, x5, x6, x7, x8, x9, x10, x11, x12, x13, x14, x15, x16, x17, f1, f2, f3, f4⟩ := o_late (n := n) (W := W) (by omega) hC hr hM hg u2 hr2 sh fa st laid pile v1
  exact ⟨_, _, f1, f2, rfl, ⟨⟨_, f4⟩, f3⟩, rfl⟩
theorem i_prideFor (hn : 600 ≤ n) (h : IQ nr gc gk gw gs gd kl wl sl cl d p k r c ch e sc rc z ρ s) (h2 : I2 nr d2 p2 k2 r2 c2 ch2 e2 sc2 rc2 z2 ρ2) (sh fa mk : Nat → Int32) (st : Nat → Nat → Int32) (laid pile : Nat → Int32) (v1 : Int32) :
    ∃ res resm, X11_prideFor n d p k r c ch e sc rc z ρ d2 p2 k2 r2 c2 ch2 e2 sc2 rc2 z2 ρ2 sh fa mk gc gk gw gs gd st kl wl sl cl nr v1 = some res ∧ X12_prideFor n s laid pile v1 = some resm ∧ res.1 = resm.1 ∧ I2 nr res.2.1 res.2.2.1 res.2.2.2.1 res.2.2.2.2.1 res.2.2.2.2.2.1 res.2.2.2.2.2.2.1 res.2.2.2.2.2.2.2.1 res.2.2.2.2.2.2.2.2.1 res.2.2.2.2.2.2.2.2.2.1 res.2.2.2.2.2.2.2.2.2.2.1 res.2.2.2.2.2.2.2.2.2.2.2.1 ∧ resm.2.1 = s := by
  obtain ⟨W, hC, hM, -⟩ := h.use hn
  obtain ⟨⟨a1, a2, a3, a4, a5, a6, a7, a8, a9, a10⟩, hg, hr, -⟩ := h
  obtain ⟨⟨u2, b1, b2, b3, b4, b5, b6, b7, b8, b9, b10⟩, hr2⟩ := h2
  subst a1 a2 a3 a4 a5 a6 a7 a8 a9 a10 b1 b2 b3 b4 b5 b6 b7 b8 b9 b10
  obtain ⟨x0, x1, x2, x3, x4, x5, x6, x7, x8, x9, x10, x11, x12, x13, x14, x15, x16, x17, x18, f1, f2, f3, f4⟩ := o_prideFor (n := n) (W := W) (by omega) hC hr hM hg u2 hr2 sh fa mk st laid pile v1
  exact ⟨_, _, f1, f2, rfl, ⟨⟨_, f4⟩, f3⟩, rfl⟩
theorem i_spotFor (hn : 600 ≤ n) (h : IQ nr gc gk gw gs gd kl wl sl cl d p k r c ch e sc rc z ρ s) (h2 : I2 nr d2 p2 k2 r2 c2 ch2 e2 sc2 rc2 z2 ρ2) (sh fa mk : Nat → Int32) (st : Nat → Nat → Int32) (laid pile : Nat → Int32) (v1 : Int32) :
    ∃ res resm, X11_spotFor n d p k r c ch e sc rc z ρ d2 p2 k2 r2 c2 ch2 e2 sc2 rc2 z2 ρ2 sh fa mk gc gk gw gs gd st kl wl sl cl nr v1 = some res ∧ X12_spotFor n s laid pile v1 = some resm ∧ res.1 = resm.1 ∧ I2 nr res.2.1 res.2.2.1 res.2.2.2.1 res.2.2.2.2.1 res.2.2.2.2.2.1 res.2.2.2.2.2.2.1 res.2.2.2.2.2.2.2.1 res.2.2.2.2.2.2.2.2.1 res.2.2.2.2.2.2.2.2.2.1 res.2.2.2.2.2.2.2.2.2.2.1 res.2.2.2.2.2.2.2.2.2.2.2.1 ∧ resm.2.1 = s := by
  obtain ⟨W, hC, hM, -⟩ := h.use hn
  obtain ⟨⟨a1, a2, a3, a4, a5, a6, a7, a8, a9, a10⟩, hg, hr, -⟩ := h
  obtain ⟨⟨u2, b1, b2, b3, b4, b5, b6, b7, b8, b9, b10⟩, hr2⟩ := h2
  subst a1 a2 a3 a4 a5 a6 a7 a8 a9 a10 b1 b2 b3 b4 b5 b6 b7 b8 b9 b10
  obtain ⟨x0, x1, x2, x3, x4, x5, x6, x7, x8, x9, x10, x11, x12, x13, x14, x15, x16, x17, x18, f1, f2, f3, f4⟩ := o_spotFor (n := n) (W := W) (by omega) hC hr hM hg u2 hr2 sh fa mk st laid pile v1
  exact ⟨_, _, f1, f2, rfl, ⟨⟨_, f4⟩, f3⟩, rfl⟩
theorem i_times (hn : 600 ≤ n) (h : IQ nr gc gk gw gs gd kl wl sl cl d p k r c ch e sc rc z ρ s) (h2 : I2 nr d2 p2 k2 r2 c2 ch2 e2 sc2 rc2 z2 ρ2) (sh fa mk : Nat → Int32) (st : Nat → Nat → Int32) (laid pile : Nat → Int32) (v1 v2 : Int32) :
    ∃ res resm, X11_times n d p k r c ch e sc rc z ρ d2 p2 k2 r2 c2 ch2 e2 sc2 rc2 z2 ρ2 sh fa mk gc gk gw gs gd st kl wl sl cl nr v1 v2 = some res ∧ X12_times n s laid pile v1 v2 = some resm ∧ res.1 = resm.1 ∧ I2 nr res.2.1 res.2.2.1 res.2.2.2.1 res.2.2.2.2.1 res.2.2.2.2.2.1 res.2.2.2.2.2.2.1 res.2.2.2.2.2.2.2.1 res.2.2.2.2.2.2.2.2.1 res.2.2.2.2.2.2.2.2.2.1 res.2.2.2.2.2.2.2.2.2.2.1 res.2.2.2.2.2.2.2.2.2.2.2.1 ∧ resm.2.1 = s := by
  obtain ⟨W, hC, hM, -⟩ := h.use hn
  obtain ⟨⟨a1, a2, a3, a4, a5, a6, a7, a8, a9, a10⟩, hg, hr, -⟩ := h
  obtain ⟨⟨u2, b1, b2, b3, b4, b5, b6, b7, b8, b9, b10⟩, hr2⟩ := h2
  subst a1 a2 a3 a4 a5 a6 a7 a8 a9 a10 b1 b2 b3 b4 b5 b6 b7 b8 b9 b10
  obtain ⟨x0, x1, x2, x3, x4, x5, x6, x7, x8, x9, x10, x11, x12, x13, x14, x15, x16, x17, x18, f1, f2, f3, f4⟩ := o_times (n := n) (W := W) (by omega) hC hr hM hg u2 hr2 sh fa mk st laid pile v1 v2
  exact ⟨_, _, f1, f2, rfl, ⟨⟨_, f4⟩, f3⟩, rfl⟩
theorem i_best (hn : 600 ≤ n) (h : IQ nr gc gk gw gs gd kl wl sl cl d p k r c ch e sc rc z ρ s) (h2 : I2 nr d2 p2 k2 r2 c2 ch2 e2 sc2 rc2 z2 ρ2) (sh fa fi ac : Nat → Int32) (ste mo ma fe ev dp wa : Int32) (mk st : Nat → Nat → Int32) (pile saved plan bp : Nat → Int32) (mm mn mf me : Int32) (v1 : Int32) :
    ∃ res resm, X11_best n d p k r c ch e sc rc z ρ d2 p2 k2 r2 c2 ch2 e2 sc2 rc2 z2 ρ2 sh fa fi ste mo ma fe ev ac mk dp wa gc gk gw gs gd st kl wl sl cl nr v1 = some res ∧ X12_best n s pile saved plan bp mm mn mf me v1 = some resm ∧ res.1 = resm.1 ∧ I2 nr res.2.1 res.2.2.1 res.2.2.2.1 res.2.2.2.2.1 res.2.2.2.2.2.1 res.2.2.2.2.2.2.1 res.2.2.2.2.2.2.2.1 res.2.2.2.2.2.2.2.2.1 res.2.2.2.2.2.2.2.2.2.1 res.2.2.2.2.2.2.2.2.2.2.1 res.2.2.2.2.2.2.2.2.2.2.2.1 ∧ resm.2.1 = s := by
  obtain ⟨W, hC, hM, -⟩ := h.use hn
  obtain ⟨⟨a1, a2, a3, a4, a5, a6, a7, a8, a9, a10⟩, hg, hr, -⟩ := h
  obtain ⟨⟨u2, b1, b2, b3, b4, b5, b6, b7, b8, b9, b10⟩, hr2⟩ := h2
  subst a1 a2 a3 a4 a5 a6 a7 a8 a9 a10 b1 b2 b3 b4 b5 b6 b7 b8 b9 b10
  obtain ⟨x0, x1, x2, x3, x4, x5, x6, x7, x8, x9, x10, x11, x12, x13, x14, x15, x16, x17, x18, x19, x20, x21, x22, x23, x24, x25, x26, x27, x28, x29, x30, x31, x32, x33, f1, f2, f3, f4⟩ := o_best (n := n) (W := W) (by omega) hC hr hM hg u2 hr2 sh fa fi ac ste mo ma fe ev dp wa mk st pile saved plan bp mm mn mf me v1
  exact ⟨_, _, f1, f2, rfl, ⟨⟨_, f4⟩, f3⟩, rfl⟩
theorem i_ways (hn : 600 ≤ n) (h : IQ nr gc gk gw gs gd kl wl sl cl d p k r c ch e sc rc z ρ s) (h2 : I2 nr d2 p2 k2 r2 c2 ch2 e2 sc2 rc2 z2 ρ2) (sh fa fi ac : Nat → Int32) (ste mo ma fe ev dp wa : Int32) (mk st : Nat → Nat → Int32) (pile saved plan bp : Nat → Int32) (mm mn mf me : Int32) (v1 : Int32) :
    ∃ res resm, X11_ways n d p k r c ch e sc rc z ρ d2 p2 k2 r2 c2 ch2 e2 sc2 rc2 z2 ρ2 sh fa fi ste mo ma fe ev ac mk dp wa gc gk gw gs gd st kl wl sl cl nr v1 = some res ∧ X12_ways n s pile saved plan bp mm mn mf me v1 = some resm ∧ res.1 = resm.1 ∧ I2 nr res.2.1 res.2.2.1 res.2.2.2.1 res.2.2.2.2.1 res.2.2.2.2.2.1 res.2.2.2.2.2.2.1 res.2.2.2.2.2.2.2.1 res.2.2.2.2.2.2.2.2.1 res.2.2.2.2.2.2.2.2.2.1 res.2.2.2.2.2.2.2.2.2.2.1 res.2.2.2.2.2.2.2.2.2.2.2.1 ∧ resm.2.1 = s := by
  obtain ⟨W, hC, hM, -⟩ := h.use hn
  obtain ⟨⟨a1, a2, a3, a4, a5, a6, a7, a8, a9, a10⟩, hg, hr, -⟩ := h
  obtain ⟨⟨u2, b1, b2, b3, b4, b5, b6, b7, b8, b9, b10⟩, hr2⟩ := h2
  subst a1 a2 a3 a4 a5 a6 a7 a8 a9 a10 b1 b2 b3 b4 b5 b6 b7 b8 b9 b10
  obtain ⟨x0, x1, x2, x3, x4, x5, x6, x7, x8, x9, x10, x11, x12, x13, x14, x15, x16, x17, x18, x19, x20, x21, x22, x23, x24, x25, x26, x27, x28, x29, x30, x31, x32, x33, f1, f2, f3, f4⟩ := o_ways (n := n) (W := W) (by omega) hC hr hM hg u2 hr2 sh fa fi ac ste mo ma fe ev dp wa mk st pile saved plan bp mm mn mf me v1
  exact ⟨_, _, f1, f2, rfl, ⟨⟨_, f4⟩, f3⟩, rfl⟩
theorem i_ith (hn : 600 ≤ n) (h : IQ nr gc gk gw gs gd kl wl sl cl d p k r c ch e sc rc z ρ s) (h2 : I2 nr d2 p2 k2 r2 c2 ch2 e2 sc2 rc2 z2 ρ2) (sh fa fi ac : Nat → Int32) (ste mo ma fe ev dp wa : Int32) (mk st : Nat → Nat → Int32) (pile saved plan bp : Nat → Int32) (mm mn mf me : Int32) (v1 v2 : Int32) :
    ∃ res resm, X11_ith n d p k r c ch e sc rc z ρ d2 p2 k2 r2 c2 ch2 e2 sc2 rc2 z2 ρ2 sh fa fi ste mo ma fe ev ac mk dp wa gc gk gw gs gd st kl wl sl cl nr v1 v2 = some res ∧ X12_ith n s pile saved plan bp mm mn mf me v1 v2 = some resm ∧ res.1 = resm.1 ∧ I2 nr res.2.1 res.2.2.1 res.2.2.2.1 res.2.2.2.2.1 res.2.2.2.2.2.1 res.2.2.2.2.2.2.1 res.2.2.2.2.2.2.2.1 res.2.2.2.2.2.2.2.2.1 res.2.2.2.2.2.2.2.2.2.1 res.2.2.2.2.2.2.2.2.2.2.1 res.2.2.2.2.2.2.2.2.2.2.2.1 ∧ resm.2.1 = s := by
  obtain ⟨W, hC, hM, -⟩ := h.use hn
  obtain ⟨⟨a1, a2, a3, a4, a5, a6, a7, a8, a9, a10⟩, hg, hr, -⟩ := h
  obtain ⟨⟨u2, b1, b2, b3, b4, b5, b6, b7, b8, b9, b10⟩, hr2⟩ := h2
  subst a1 a2 a3 a4 a5 a6 a7 a8 a9 a10 b1 b2 b3 b4 b5 b6 b7 b8 b9 b10
  obtain ⟨x0, x1, x2, x3, x4, x5, x6, x7, x8, x9, x10, x11, x12, x13, x14, x15, x16, x17, x18, x19, x20, x21, x22, x23, x24, x25, x26, x27, x28, x29, x30, x31, x32, x33, f1, f2, f3, f4⟩ := o_ith (n := n) (W := W) (by omega) hC hr hM hg u2 hr2 sh fa fi ac ste mo ma fe ev dp wa mk st pile saved plan bp mm mn mf me v1 v2
  exact ⟨_, _, f1, f2, rfl, ⟨⟨_, f4⟩, f3⟩, rfl⟩
theorem i_order (hn : 600 ≤ n) (h : IQ nr gc gk gw gs gd kl wl sl cl d p k r c ch e sc rc z ρ s) (h2 : I2 nr d2 p2 k2 r2 c2 ch2 e2 sc2 rc2 z2 ρ2) (sh fa fi ac : Nat → Int32) (ste mo ma fe ev dp wa : Int32) (mk st : Nat → Nat → Int32) (pile saved plan bp : Nat → Int32) (mm mn mf me : Int32) (v1 v2 : Int32) :
    ∃ res resm, X11_order n d p k r c ch e sc rc z ρ d2 p2 k2 r2 c2 ch2 e2 sc2 rc2 z2 ρ2 sh fa fi ste mo ma fe ev ac mk dp wa gc gk gw gs gd st kl wl sl cl nr v1 v2 = some res ∧ X12_order n s pile saved plan bp mm mn mf me v1 v2 = some resm ∧ res.1 = resm.1 ∧ I2 nr res.2.1 res.2.2.1 res.2.2.2.1 res.2.2.2.2.1 res.2.2.2.2.2.1 res.2.2.2.2.2.2.1 res.2.2.2.2.2.2.2.1 res.2.2.2.2.2.2.2.2.1 res.2.2.2.2.2.2.2.2.2.1 res.2.2.2.2.2.2.2.2.2.2.1 res.2.2.2.2.2.2.2.2.2.2.2.1 ∧ resm.2.1 = s := by
  obtain ⟨W, hC, hM, -⟩ := h.use hn
  obtain ⟨⟨a1, a2, a3, a4, a5, a6, a7, a8, a9, a10⟩, hg, hr, -⟩ := h
  obtain ⟨⟨u2, b1, b2, b3, b4, b5, b6, b7, b8, b9, b10⟩, hr2⟩ := h2
  subst a1 a2 a3 a4 a5 a6 a7 a8 a9 a10 b1 b2 b3 b4 b5 b6 b7 b8 b9 b10
  obtain ⟨x0, x1, x2, x3, x4, x5, x6, x7, x8, x9, x10, x11, x12, x13, x14, x15, x16, x17, x18, x19, x20, x21, x22, x23, x24, x25, x26, x27, x28, x29, x30, x31, x32, x33, f1, f2, f3, f4⟩ := o_order (n := n) (W := W) (by omega) hC hr hM hg u2 hr2 sh fa fi ac ste mo ma fe ev dp wa mk st pile saved plan bp mm mn mf me v1 v2
  exact ⟨_, _, f1, f2, rfl, ⟨⟨_, f4⟩, f3⟩, rfl⟩
theorem i_bars (hn : 600 ≤ n) (h : IQ nr gc gk gw gs gd kl wl sl cl d p k r c ch e sc rc z ρ s) (h2 : I2 nr d2 p2 k2 r2 c2 ch2 e2 sc2 rc2 z2 ρ2) (sh fa fi ac : Nat → Int32) (ste mo ma fe ev dp wa : Int32) (mk st : Nat → Nat → Int32) (pile saved plan bp : Nat → Int32) (mm mn mf me : Int32) (v1 v2 : Int32) :
    ∃ res resm, X11_bars n d p k r c ch e sc rc z ρ d2 p2 k2 r2 c2 ch2 e2 sc2 rc2 z2 ρ2 sh fa fi ste mo ma fe ev ac mk dp wa gc gk gw gs gd st kl wl sl cl nr v1 v2 = some res ∧ X12_bars n s pile saved plan bp mm mn mf me v1 v2 = some resm ∧ res.1 = resm.1 ∧ I2 nr res.2.1 res.2.2.1 res.2.2.2.1 res.2.2.2.2.1 res.2.2.2.2.2.1 res.2.2.2.2.2.2.1 res.2.2.2.2.2.2.2.1 res.2.2.2.2.2.2.2.2.1 res.2.2.2.2.2.2.2.2.2.1 res.2.2.2.2.2.2.2.2.2.2.1 res.2.2.2.2.2.2.2.2.2.2.2.1 ∧ resm.2.1 = s := by
  obtain ⟨W, hC, hM, -⟩ := h.use hn
  obtain ⟨⟨a1, a2, a3, a4, a5, a6, a7, a8, a9, a10⟩, hg, hr, -⟩ := h
  obtain ⟨⟨u2, b1, b2, b3, b4, b5, b6, b7, b8, b9, b10⟩, hr2⟩ := h2
  subst a1 a2 a3 a4 a5 a6 a7 a8 a9 a10 b1 b2 b3 b4 b5 b6 b7 b8 b9 b10
  obtain ⟨x0, x1, x2, x3, x4, x5, x6, x7, x8, x9, x10, x11, x12, x13, x14, x15, x16, x17, x18, x19, x20, x21, x22, x23, x24, x25, x26, x27, x28, x29, x30, x31, x32, x33, f1, f2, f3, f4⟩ := o_bars (n := n) (W := W) (by omega) hC hr hM hg u2 hr2 sh fa fi ac ste mo ma fe ev dp wa mk st pile saved plan bp mm mn mf me v1 v2
  exact ⟨_, _, f1, f2, rfl, ⟨⟨_, f4⟩, f3⟩, rfl⟩
theorem i_game (hn : 600 ≤ n) (h : IQ nr gc gk gw gs gd kl wl sl cl d p k r c ch e sc rc z ρ s) (h2 : I2 nr d2 p2 k2 r2 c2 ch2 e2 sc2 rc2 z2 ρ2) (sh fa : Nat → Int32) (op dp : Int32) (mk st : Nat → Nat → Int32) (pile saved plan : Nat → Int32) (v1 : Int32) :
    ∃ res resm, X11_game n d p k r c ch e sc rc z ρ d2 p2 k2 r2 c2 ch2 e2 sc2 rc2 z2 ρ2 sh fa op mk dp gc gk gw gs gd st kl wl sl cl nr v1 = some res ∧ X12_game n s pile saved plan v1 = some resm ∧ res.1 = resm.1 ∧ I2 nr res.2.1 res.2.2.1 res.2.2.2.1 res.2.2.2.2.1 res.2.2.2.2.2.1 res.2.2.2.2.2.2.1 res.2.2.2.2.2.2.2.1 res.2.2.2.2.2.2.2.2.1 res.2.2.2.2.2.2.2.2.2.1 res.2.2.2.2.2.2.2.2.2.2.1 res.2.2.2.2.2.2.2.2.2.2.2.1 ∧ resm.2.1 = s := by
  obtain ⟨W, hC, hM, -⟩ := h.use hn
  obtain ⟨⟨a1, a2, a3, a4, a5, a6, a7, a8, a9, a10⟩, hg, hr, -⟩ := h
  obtain ⟨⟨u2, b1, b2, b3, b4, b5, b6, b7, b8, b9, b10⟩, hr2⟩ := h2
  subst a1 a2 a3 a4 a5 a6 a7 a8 a9 a10 b1 b2 b3 b4 b5 b6 b7 b8 b9 b10
  obtain ⟨x0, x1, x2, x3, x4, x5, x6, x7, x8, x9, x10, x11, x12, x13, x14, x15, x16, x17, x18, x19, x20, x21, f1, f2, f3, f4⟩ := o_game (n := n) (W := W) (by omega) hC hr hM hg u2 hr2 sh fa op dp mk st pile saved plan v1
  exact ⟨_, _, f1, f2, rfl, ⟨⟨_, f4⟩, f3⟩, rfl⟩
theorem i_play (hn : 600 ≤ n) (h : IQ nr gc gk gw gs gd kl wl sl cl d p k r c ch e sc rc z ρ s) (h2 : I2 nr d2 p2 k2 r2 c2 ch2 e2 sc2 rc2 z2 ρ2) (sh fa : Nat → Int32) (op dp : Int32) (mk st : Nat → Nat → Int32) (pile saved plan : Nat → Int32) (v1 : Int32) :
    ∃ res resm, X11_play n d p k r c ch e sc rc z ρ d2 p2 k2 r2 c2 ch2 e2 sc2 rc2 z2 ρ2 sh fa op mk dp gc gk gw gs gd st kl wl sl cl nr v1 = some res ∧ X12_play n s pile saved plan v1 = some resm ∧ res.1 = resm.1 ∧ I2 nr res.2.1 res.2.2.1 res.2.2.2.1 res.2.2.2.2.1 res.2.2.2.2.2.1 res.2.2.2.2.2.2.1 res.2.2.2.2.2.2.2.1 res.2.2.2.2.2.2.2.2.1 res.2.2.2.2.2.2.2.2.2.1 res.2.2.2.2.2.2.2.2.2.2.1 res.2.2.2.2.2.2.2.2.2.2.2.1 ∧ resm.2.1 = s := by
  obtain ⟨W, hC, hM, -⟩ := h.use hn
  obtain ⟨⟨a1, a2, a3, a4, a5, a6, a7, a8, a9, a10⟩, hg, hr, -⟩ := h
  obtain ⟨⟨u2, b1, b2, b3, b4, b5, b6, b7, b8, b9, b10⟩, hr2⟩ := h2
  subst a1 a2 a3 a4 a5 a6 a7 a8 a9 a10 b1 b2 b3 b4 b5 b6 b7 b8 b9 b10
  obtain ⟨x0, x1, x2, x3, x4, x5, x6, x7, x8, x9, x10, x11, x12, x13, x14, x15, x16, x17, x18, x19, x20, x21, f1, f2, f3, f4⟩ := o_play (n := n) (W := W) (by omega) hC hr hM hg u2 hr2 sh fa op dp mk st pile saved plan v1
  exact ⟨_, _, f1, f2, rfl, ⟨⟨_, f4⟩, f3⟩, rfl⟩
end TRIAL
