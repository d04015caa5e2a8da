/-! Acts that let chimes go by, in truth or on trial. -/
section OPS3
variable {n ρ nr : Nat} {gc : Nat → Int32} {gk gw gs gd : Nat → Nat → Int32} {kl wl sl cl : Nat → Nat} {W : Int32 → (Nat → Int32) → Int32} {s : Nat → Int32}
theorem sq_go {u : Nat → Int32} (h : FG u s) (hn : nS s ≤ 6) : SQ (dOf u) (pOf s) (kOf s) (rOf s) (s 4) (u 0) (s 1) (u 2) (s 6) (u 3) u :=
  ⟨rfl, (h.pOfE hn).symm, (h.kOfE hn).symm, (h.rOfE hn).symm, (h.low (by omega) (by omega) (by omega) (by omega) hn).symm, rfl, (h.low (by omega) (by omega) (by omega) (by omega) hn).symm, rfl, (h.low (by omega) (by omega) (by omega) (by omega) hn).symm, rfl⟩
theorem FG.hi {u : Nat → Int32} (h : FG u s) (hn : nS s ≤ 6) : ∀ i, 65 ≤ i → u i = s i := fun i hi => h.low (by omega) (by omega) (by omega) (by omega) hn
theorem FG.RK {u : Nat → Int32} (h : FG u s) (hn : nS s ≤ 6) : RK u s := h.R hn
theorem goW_w (h : GS s) {a : Nat} (ha : a ≤ nS s) : NB 100 (goW W s a).1 := by
  have hc := h.n.1
  have h1 : NB 18 (acW W s a).1 := by
    unfold acW; split
    · exact ⟨0, by omega, rfl⟩
    · unfold meW; split
      · exact pyB_b h (by omega)
      · split
        · have : ∀ o, o ≤ 6 → NB o (arS s (a - 1) o).1 := by
            intro o
            induction o with
            | zero => intro _; exact ⟨0, by omega, rfl⟩
            | succ o ih =>
              intro ho
              obtain ⟨x, hx, e⟩ := ih (by omega)
              show NB _ (arX (arS s (a - 1) o) (a - 1) o).1
              unfold arX; split
              · refine ⟨x + 1, by omega, ?_⟩; dsimp only; rw [e]; simp (disch := omega) only [jl_0, jl_1, jl_2, jl_3, jl_4, jl_5, jl_6, jl_7, jl_8, jl_9, jl_10, jl_11, jl_12, jl_13, jl_14, jl_15, jl_16, jl_17, jl_18, jl_20, jl_23, jl_29, jl_30, jl_31, jl_32, jl_35, jl_40, jl_48, jl_50, jl_51, jl_57, jl_60, jl_61, jl_63, jl_64, jl_65, jl_89, jl_97, jl_99, jl_100, jl_101, jl_113, jl_122, jl_200, jl_240, jl_241, jl_255, jl_259, jl_260, jl_261, jl_262, jl_313, jl_500, jl_999, jl_10000, jl_10004, jl_10005, jl_10006, jl_10007, jl_10008, jl_10009, jl_10010, jl_10011, jl_10012, jl_10013, jl_10014, jl_10015, jl_10017, jl_10018, jl_10023, jl_12345, jl_1103515245, jN_add, jN_mul, jN_sub, jN_addm, jN_div, jN_irm, jN_nat, le_T, le_F, lt_T, lt_F, eq_F, ib_T, ib_F, add_j0, if_true, if_false, eq_self, Bool.false_eq_true, Option.bind_some, pb, jn, Nat.zero_add, Nat.add_zero]
              · exact ⟨x, by omega, e⟩
          exact (this _ hc).mono (by omega)
        · exact ⟨0, by omega, rfl⟩
  have h2 : NB 100 (prN (acW W s a).2) := by
    have hI : ∀ u a x b y, x = jN y → b ≤ 6 → NB (y + b) (prI u a x b) := by
      intro u a x b y hx
      induction b with
      | zero => intro _; exact ⟨y, by omega, hx⟩
      | succ b ih =>
        intro hb
        obtain ⟨z, hz, e⟩ := ih (by omega)
        unfold prI; split
        · refine ⟨z + 1, by omega, ?_⟩; rw [e]; simp (disch := omega) only [jl_0, jl_1, jl_2, jl_3, jl_4, jl_5, jl_6, jl_7, jl_8, jl_9, jl_10, jl_11, jl_12, jl_13, jl_14, jl_15, jl_16, jl_17, jl_18, jl_20, jl_23, jl_29, jl_30, jl_31, jl_32, jl_35, jl_40, jl_48, jl_50, jl_51, jl_57, jl_60, jl_61, jl_63, jl_64, jl_65, jl_89, jl_97, jl_99, jl_100, jl_101, jl_113, jl_122, jl_200, jl_240, jl_241, jl_255, jl_259, jl_260, jl_261, jl_262, jl_313, jl_500, jl_999, jl_10000, jl_10004, jl_10005, jl_10006, jl_10007, jl_10008, jl_10009, jl_10010, jl_10011, jl_10012, jl_10013, jl_10014, jl_10015, jl_10017, jl_10018, jl_10023, jl_12345, jl_1103515245, jN_add, jN_mul, jN_sub, jN_addm, jN_div, jN_irm, jN_nat, le_T, le_F, lt_T, lt_F, eq_F, ib_T, ib_F, add_j0, if_true, if_false, eq_self, Bool.false_eq_true, Option.bind_some, pb, jn, Nat.zero_add, Nat.add_zero]
        · exact ⟨z, by omega, e⟩
    have hO : ∀ u c a, c ≤ 6 → a ≤ 6 → NB (a * 6) (prO u c a) := by
      intro u c a hc
      induction a with
      | zero => intro _; exact ⟨0, by omega, rfl⟩
      | succ a ih =>
        intro ha
        obtain ⟨z, hz, e⟩ := ih (by omega)
        exact (hI u a (prO u c a) c z e hc).mono (by omega)
    unfold prN
    have hg := (acW_i (W := W) h ha).1.n.1
    exact (hO _ _ _ hg hg).mono (by omega)
  obtain ⟨x, hx, e1⟩ := h1
  obtain ⟨y, hy, e2⟩ := h2
  unfold goW; dsimp only; rw [e1, e2]
  simp (disch := omega) only [jl_0, jl_1, jl_2, jl_3, jl_4, jl_5, jl_6, jl_7, jl_8, jl_9, jl_10, jl_11, jl_12, jl_13, jl_14, jl_15, jl_16, jl_17, jl_18, jl_20, jl_23, jl_29, jl_30, jl_31, jl_32, jl_35, jl_40, jl_48, jl_50, jl_51, jl_57, jl_60, jl_61, jl_63, jl_64, jl_65, jl_89, jl_97, jl_99, jl_100, jl_101, jl_113, jl_122, jl_200, jl_240, jl_241, jl_255, jl_259, jl_260, jl_261, jl_262, jl_313, jl_500, jl_999, jl_10000, jl_10004, jl_10005, jl_10006, jl_10007, jl_10008, jl_10009, jl_10010, jl_10011, jl_10012, jl_10013, jl_10014, jl_10015, jl_10017, jl_10018, jl_10023, jl_12345, jl_1103515245, jN_add, jN_mul, jN_sub, jN_addm, jN_div, jN_irm, jN_nat, le_T, le_F, lt_T, lt_F, eq_F, ib_T, ib_F, add_j0, if_true, if_false, eq_self, Bool.false_eq_true, Option.bind_some, pb, jn, Nat.zero_add, Nat.add_zero]; exact ⟨_, by omega, rfl⟩
theorem o_chime (hn : 20 ≤ n) (hC : RC n ρ gc gk gw gs gd kl wl sl cl W) (hr : ρ < nr) (hM : RM n s W) (h : GS s) (sh fa : Nat → Int32) (st : Nat → Nat → Int32) (pile : Nat → Int32) : ∃ r d ch sc sh' fa' st' u pile', X11_chime n (dOf s) (pOf s) (kOf s) (s 4) (s 0) (s 1) (s 2) ρ sh fa gc gk gw gs gd st kl wl sl cl nr = some (r, d, ch, sc, sh', fa', st') ∧ X12_chime n s pile = some (r, u, pile') ∧ GS u ∧ RK u s ∧ SQ d (pOf s) (kOf s) (rOf s) (s 4) ch (s 1) sc (s 6) (s 3) u := by
  unfold X11_chime X12_chime
  by_cases hq : goB s = true
  · obtain ⟨a, b, c, e1⟩ := c_rest hn hC hr h 1 (by omega) sh fa st
    obtain ⟨p, e2⟩ := m_goesRest hM h (by omega) pile
    have hre : reF W 1 (0, s) = (0 + (goW W s (raN W s)).1, (goW W s (raN W s)).2) := by unfold reF; rw [if_pos hq]; rfl
    have hb := raN_b (W := W) (s := s)
    have hsq := sq_go (goW_G (W := W) h hb) h.n.1
    rw [goW_3 h hb] at hsq
    refine ⟨(goW W s (raN W s)).1, _, _, _, a, b, c, (goW W s (raN W s)).2, p, ?_, ?_, goW_g h hb (of_decide_eq_true hq), (goW_G h hb).RK h.n.1, hsq⟩
    · rw [c_oT hq, if_pos rfl, show (1 : Int32) = jN 1 from rfl, e1, hre]
      simp only [Option.bind_some, Int32.zero_add]
    · rw [m_oT hq, if_pos rfl, e2]; rfl
  · refine ⟨-4, dOf s, s 0, s 2, sh, fa, st, s, pile, ?_, ?_, h, RK.refl s, SQ.rf s⟩
    · rw [c_oF hq, if_neg (by decide)]
    · rw [m_oF hq, if_neg (by decide)]
theorem o_lot (hn : 20 ≤ n) (hC : RC n ρ gc gk gw gs gd kl wl sl cl W) (hr : ρ < nr) (hM : RM n s W) (h : GS s) (sh fa : Nat → Int32) (st : Nat → Nat → Int32) (pile : Nat → Int32) : ∃ r d ch sc z sh' fa' st' u pile', X11_lot n (dOf s) (pOf s) (kOf s) (s 4) (s 0) (s 1) (s 2) (s 3) ρ sh fa gc gk gw gs gd st kl wl sl cl nr = some (r, d, ch, sc, z, sh', fa', st') ∧ X12_lot n s pile = some (r, u, pile') ∧ GS u ∧ RK u s ∧ SQ d (pOf s) (kOf s) (rOf s) (s 4) ch (s 1) sc (s 6) z u := by
  unfold X11_lot X12_lot
  by_cases hq : goB s = true
  · obtain ⟨a, b, c, e1⟩ := c_byLot hn hC hr h 1 (by omega) sh fa st
    obtain ⟨p, e2⟩ := m_byLot hn hM h pile
    have hre : loF W 1 (0, s) = (0 + (loG W s).1, (loG W s).2) := by unfold loF; rw [if_pos hq]; rfl
    obtain ⟨g1, g2⟩ := loG_i (W := W) h (of_decide_eq_true hq)
    refine ⟨(loG W s).1, _, _, _, _, a, b, c, (loG W s).2, p, ?_, ?_, g1, g2.RK h.n.1, sq_go g2 h.n.1⟩
    · rw [c_oT hq, if_pos rfl, show (1 : Int32) = jN 1 from rfl, e1, hre]
      simp only [Option.bind_some, Int32.zero_add]
    · rw [m_oT hq, if_pos rfl, e2]; rfl
  · refine ⟨-4, dOf s, s 0, s 2, s 3, sh, fa, st, s, pile, ?_, ?_, h, RK.refl s, SQ.rf s⟩
    · rw [c_oF hq, if_neg (by decide)]
    · rw [m_oF hq, if_neg (by decide)]
theorem dn65 (s l : Nat → Int32) : ∀ i, i < 65 → (fun i => if i < 65 then s i else l i) i = s i := fun i hi => if_pos hi
theorem o_on (hn : 70 ≤ n) (hC : RC n ρ gc gk gw gs gd kl wl sl cl W) (hr : ρ < nr) (hM : RM n s W) (h : GS s) (s2 : Nat → Int32) {ρ2 : Nat} (hr2 : ρ2 < nr) (sh fa : Nat → Int32) (st : Nat → Nat → Int32) (laid pile : Nat → Int32) (v1 : Int32) :
    ∃ r d2 p2 k2 r2 c2 ch2 e2 sc2 rc2 z2 ρ2' sh' fa' st' u2 laid' pile', X11_on n (dOf s) (pOf s) (kOf s) (rOf s) (s 4) (s 0) (s 1) (s 2) (s 6) (s 3) ρ (dOf s2) (pOf s2) (kOf s2) (rOf s2) (s2 4) (s2 0) (s2 1) (s2 2) (s2 6) (s2 3) ρ2 sh fa gc gk gw gs gd st kl wl sl cl nr v1 = some (r, d2, p2, k2, r2, c2, ch2, e2, sc2, rc2, z2, ρ2', sh', fa', st') ∧ X12_on n s laid pile v1 = some (r, s, laid', pile') ∧ ρ2' < nr ∧ SQ d2 p2 k2 r2 c2 ch2 e2 sc2 rc2 z2 u2 := by
  unfold X11_on X12_on
  rw [isIn_eq, q2_rest]
  rcases in1_or v1 0 16 (by decide) (by decide) with e1 | ⟨x, hx1, hx2, rfl⟩
  · exact ⟨-1, _, _, _, _, _, _, _, _, _, _, ρ2, sh, fa, st, s2, laid, pile, by simp (disch := omega) only [jl_0, jl_1, jl_2, jl_3, jl_4, jl_5, jl_6, jl_7, jl_8, jl_9, jl_10, jl_11, jl_12, jl_13, jl_14, jl_15, jl_16, jl_17, jl_18, jl_20, jl_23, jl_29, jl_30, jl_31, jl_32, jl_35, jl_40, jl_48, jl_50, jl_51, jl_57, jl_60, jl_61, jl_63, jl_64, jl_65, jl_89, jl_97, jl_99, jl_100, jl_101, jl_113, jl_122, jl_200, jl_240, jl_241, jl_255, jl_259, jl_260, jl_261, jl_262, jl_313, jl_500, jl_999, jl_10000, jl_10004, jl_10005, jl_10006, jl_10007, jl_10008, jl_10009, jl_10010, jl_10011, jl_10012, jl_10013, jl_10014, jl_10015, jl_10017, jl_10018, jl_10023, jl_12345, jl_1103515245, jN_add, jN_mul, jN_sub, jN_addm, jN_div, jN_irm, jN_nat, le_T, le_F, lt_T, lt_F, eq_F, ib_T, ib_F, add_j0, if_true, if_false, eq_self, Bool.false_eq_true, Option.bind_some, pb, jn, Nat.zero_add, Nat.add_zero, e1], by simp (disch := omega) only [jl_0, jl_1, jl_2, jl_3, jl_4, jl_5, jl_6, jl_7, jl_8, jl_9, jl_10, jl_11, jl_12, jl_13, jl_14, jl_15, jl_16, jl_17, jl_18, jl_20, jl_23, jl_29, jl_30, jl_31, jl_32, jl_35, jl_40, jl_48, jl_50, jl_51, jl_57, jl_60, jl_61, jl_63, jl_64, jl_65, jl_89, jl_97, jl_99, jl_100, jl_101, jl_113, jl_122, jl_200, jl_240, jl_241, jl_255, jl_259, jl_260, jl_261, jl_262, jl_313, jl_500, jl_999, jl_10000, jl_10004, jl_10005, jl_10006, jl_10007, jl_10008, jl_10009, jl_10010, jl_10011, jl_10012, jl_10013, jl_10014, jl_10015, jl_10017, jl_10018, jl_10023, jl_12345, jl_1103515245, jN_add, jN_mul, jN_sub, jN_addm, jN_div, jN_irm, jN_nat, le_T, le_F, lt_T, lt_F, eq_F, ib_T, ib_F, add_j0, if_true, if_false, eq_self, Bool.false_eq_true, Option.bind_some, pb, jn, Nat.zero_add, Nat.add_zero, e1], hr2, SQ.rf s2⟩
  obtain ⟨a, b, c, e1⟩ := c_rest (by omega) hC hr h x hx2 sh fa st
  obtain ⟨p, e2⟩ := m_rest (by omega) hM h x hx2 pile
  obtain ⟨g1, g2, g3⟩ := reF_i (W := W) h x 0
  have hq := sq_go g2 h.n.1
  rw [g3] at hq
  refine ⟨(reF W x (0, s)).1, _, _, _, _, _, _, _, _, _, _, ρ, a, b, c, (reF W x (0, s)).2, (fun i => if i < 65 then s i else laid i), p, ?_, ?_, hr, hq⟩
  · rw [c_copy (by omega) s s2 hr]
    simp only [Option.bind_some, e1]
    rw [show X12_in1 (jN x) (0 : Int32) (16 : Int32) = jN 1 from in1_T hx1 hx2 (by decide), if_neg (by decide)]
  · rw [show X12_in1 (jN x) (0 : Int32) (16 : Int32) = jN 1 from in1_T hx1 hx2 (by decide), if_neg (by decide), m_down (by omega)]
    simp only [Option.bind_some, e2]
    rw [m_laid (by omega) (dn65 s laid) (g2.hi h.n.1)]
    rfl
end OPS3
