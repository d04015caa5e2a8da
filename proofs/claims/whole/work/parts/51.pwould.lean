section WOULD
variable {n ρ nr : Nat} {gc : Nat → Int32} {gk gw gs gd : Nat → Nat → Int32} {kl wl sl cl : Nat → Nat} {W : Int32 → (Nat → Int32) → Int32} {s : Nat → Int32}
theorem o_wouldBe (hn : 70 ≤ n) (hC : RC n ρ gc gk gw gs gd kl wl sl cl W) (hr : ρ < nr) (hM : RM n s W) (h : GS s) {so si : Nat → Int32} (hS : HS so si) (s2 : Nat → Int32) {ρ2 : Nat} (hr2 : ρ2 < nr) (q sh fa : Nat → Int32) (st : Nat → Nat → Int32) (laid pile : Nat → Int32) (v1 v2 v3 : Int32) :
    ∃ r d2 p2 k2 r2 c2 ch2 e2 sc2 rc2 z2 ρ2' sh' fa' st' u2 laid' pile', X11_wouldBe n (dOf s) (pOf s) (kOf s) (rOf s) (s 4) (s 0) (s 1) (s 2) (s 6) (s 3) ρ (dOf s2) (pOf s2) (kOf s2) (rOf s2) (s2 4) (s2 0) (s2 1) (s2 2) (s2 6) (s2 3) ρ2 sh fa so si (iOf q) gc gk gw gs gd st kl wl sl cl nr v1 v2 v3 = some (r, d2, p2, k2, r2, c2, ch2, e2, sc2, rc2, z2, ρ2', sh', fa', st') ∧ X12_wouldBe n s laid pile so si q v1 v2 v3 = some (r, s, laid', pile') ∧ ρ2' < nr ∧ SQ d2 p2 k2 r2 c2 ch2 e2 sc2 rc2 z2 u2 := by
  unfold X11_wouldBe X12_wouldBe
  rw [isSh_eq, isIn_eq]
  rcases sh_or v1 with e | ⟨k, hk, rfl, e⟩
  · rw [e, if_pos (show jN 0 = 0 from rfl), if_pos (show jN 0 = 0 from rfl)]; exact ⟨_, _, _, _, _, _, _, _, _, _, _, ρ2, _, _, _, s2, _, _, rfl, rfl, hr2, SQ.rf s2⟩
  rw [e, if_neg (show ¬ jN 1 = 0 by decide), if_neg (show ¬ jN 1 = 0 by decide)]
  rcases in1_or v3 0 20 (by decide) (by decide) with e1 | ⟨N, -, hN, rfl⟩
  · rw [show X12_in1 v3 (0 : Int32) (20 : Int32) = jN 0 from e1, if_pos (show jN 0 = 0 from rfl), if_pos (show jN 0 = 0 from rfl)]; exact ⟨_, _, _, _, _, _, _, _, _, _, _, ρ2, _, _, _, s2, _, _, rfl, rfl, hr2, SQ.rf s2⟩
  rw [show X12_in1 (jN N) (0 : Int32) (20 : Int32) = jN 1 from in1_T (Nat.zero_le _) hN (by decide), if_neg (show ¬ jN 1 = 0 by decide), if_neg (show ¬ jN 1 = 0 by decide)]
  obtain ⟨L, hL, eL⟩ := (hS k hk).2
  obtain ⟨f1, r1, f2⟩ := lack_eq hS hk 0
  rw [f1, f2, m_down (by omega)]
  simp only [Option.bind_some, jn]
  have hn6 := h.n.1
  -- what ends the reference's walk
  have stop : ∀ (r v5 : Int32) (j m3 : Nat) (u pile : Nat → Int32), ¬ r = 0 → X12_wouldBe_L1 n si q (jN k) v2 (jN N) (m3 + 1) r v5 (jN j) u pile = some (r, v5, jN j, u, pile) := by
    intro r v5 j m3 u pile hne
    rw [X12_wouldBe_L1]
    by_cases hq : jN N ≤ jN j
    · rw [if_pos hq]
    · rw [if_neg hq, if_neg hne]
  by_cases hr1 : r1 = 0
  rotate_left
  · obtain ⟨m, hm⟩ : ∃ m, n = m + 1 := ⟨n - 1, by omega⟩
    rw [if_neg hr1]
    refine ⟨r1, _, _, _, _, _, _, _, _, _, _, ρ2, _, _, _, s2, (fun i => if i < 65 then s i else laid i), pile, rfl, ?_, hr2, SQ.rf s2⟩
    rw [show X12_wouldBe_L1 n si q (jN k) v2 (jN N) n r1 (0 : Int32) (0 : Int32) s pile = some (r1, (0 : Int32), jN 0, s, pile) from by
      have := stop r1 0 0 m s pile hr1
      rw [← hm] at this; exact this]
    simp only [Option.bind_some]
    rw [m_laid (by omega) (dn65 s laid) (fun _ _ => rfl)]
    simp only [Option.bind_some]
    rw [if_neg hr1]
  subst hr1
  rw [if_pos (show (0 : Int32) = 0 from rfl), c_copy (by omega) s s2 hr]
  simp only [Option.bind_some]
  have main : ∀ (d m m3 j : Nat), j + d = N → d < m → d + 1 < m3 → ∀ (x : Int32) (u : Nat → Int32) (pile sh fa : Nat → Int32) (st : Nat → Nat → Int32), GS u → RM n u W → FG u s → u 3 = s 3 → ((j = 0 ∧ X2_hasItem si (jN k) (v2 + jN 0) = some 0 ∧ X12_isItem si (jN k) v2 (jN 0) = some 0) ∨ ∃ a, a + j ≤ L ∧ v2 = jN a) →
      ∃ r u' sh' fa' st' pile' rm y v6, X11_wouldBe_L1 n (pOf s) (kOf s) (rOf s) (s 4) (s 1) (s 6) (s 3) ρ si (iOf q) gc gk gw gs gd kl wl sl cl nr (jN k) v2 (jN N) (fun o11 => some (o11.1, o11.2.2.1, pOf s, kOf s, rOf s, s 4, o11.2.2.2.1, s 1, o11.2.2.2.2.1, s 6, s 3, ρ, o11.2.2.2.2.2.1, o11.2.2.2.2.2.2.1, o11.2.2.2.2.2.2.2)) m x (jN j) (dOf u) (u 0) (u 2) sh fa st = some (r, dOf u', pOf s, kOf s, rOf s, s 4, u' 0, s 1, u' 2, s 6, s 3, ρ, sh', fa', st') ∧ X12_wouldBe_L1 n si q (jN k) v2 (jN N) m3 0 x (jN j) u pile = some (rm, y, v6, u', pile') ∧ (if rm = 0 then y else rm) = r ∧ FG u' s ∧ u' 3 = s 3 := by
    intro d
    induction d with
    | zero =>
      intro m m3 j hj hm hm3 x u pile sh fa st hg hMu hf h3 _
      obtain ⟨m, rfl⟩ : ∃ y, m = y + 1 := ⟨m - 1, by omega⟩
      obtain ⟨m3, rfl⟩ : ∃ y, m3 = y + 1 := ⟨m3 - 1, by omega⟩
      have : j = N := by omega
      subst this
      refine ⟨x, u, sh, fa, st, pile, 0, x, jN j, ?_, ?_, rfl, hf, h3⟩
      · rw [X11_wouldBe_L1, if_pos (Int32.le_refl _)]
      · rw [X12_wouldBe_L1, if_pos (Int32.le_refl _)]
    | succ d ih =>
      intro m m3 j hj hm hm3 x u pile sh fa st hg hMu hf h3 hv
      obtain ⟨m, rfl⟩ : ∃ y, m = y + 1 := ⟨m - 1, by omega⟩
      obtain ⟨m3, rfl⟩ : ∃ y, m3 = y + 2 := ⟨m3 - 2, by omega⟩
      have hle : ¬ jN N ≤ jN j := by simp (disch := omega) only [jl_0, jl_1, jl_2, jl_3, jl_4, jl_5, jl_6, jl_7, jl_8, jl_9, jl_10, jl_11, jl_12, jl_13, jl_14, jl_15, jl_16, jl_17, jl_18, jl_20, jl_23, jl_29, jl_30, jl_31, jl_32, jl_35, jl_40, jl_48, jl_50, jl_51, jl_57, jl_60, jl_61, jl_63, jl_64, jl_65, jl_89, jl_97, jl_99, jl_100, jl_101, jl_113, jl_122, jl_200, jl_240, jl_241, jl_255, jl_259, jl_260, jl_261, jl_262, jl_313, jl_500, jl_999, jl_10000, jl_10004, jl_10005, jl_10006, jl_10007, jl_10008, jl_10009, jl_10010, jl_10011, jl_10012, jl_10013, jl_10014, jl_10015, jl_10017, jl_10018, jl_10023, jl_12345, jl_1103515245, jN_add, jN_mul, jN_sub, jN_addm, jN_div, jN_irm, jN_nat, le_T, le_F, lt_T, lt_F, eq_F, ib_T, ib_F, add_j0, if_true, if_false, eq_self, Bool.false_eq_true, Option.bind_some, pb, jn, Nat.zero_add, Nat.add_zero]; exact not_false
      rw [X11_wouldBe_L1, X12_wouldBe_L1, if_neg hle, if_neg hle, if_pos (show (0 : Int32) = 0 from rfl), show jN j + (1 : Int32) = jN (j + 1) from by simp (disch := omega) only [jl_0, jl_1, jl_2, jl_3, jl_4, jl_5, jl_6, jl_7, jl_8, jl_9, jl_10, jl_11, jl_12, jl_13, jl_14, jl_15, jl_16, jl_17, jl_18, jl_20, jl_23, jl_29, jl_30, jl_31, jl_32, jl_35, jl_40, jl_48, jl_50, jl_51, jl_57, jl_60, jl_61, jl_63, jl_64, jl_65, jl_89, jl_97, jl_99, jl_100, jl_101, jl_113, jl_122, jl_200, jl_240, jl_241, jl_255, jl_259, jl_260, jl_261, jl_262, jl_313, jl_500, jl_999, jl_10000, jl_10004, jl_10005, jl_10006, jl_10007, jl_10008, jl_10009, jl_10010, jl_10011, jl_10012, jl_10013, jl_10014, jl_10015, jl_10017, jl_10018, jl_10023, jl_12345, jl_1103515245, jN_add, jN_mul, jN_sub, jN_addm, jN_div, jN_irm, jN_nat, le_T, le_F, lt_T, lt_F, eq_F, ib_T, ib_F, add_j0, if_true, if_false, eq_self, Bool.false_eq_true, Option.bind_some, pb, jn, Nat.zero_add, Nat.add_zero]]
      rcases hv with ⟨rfl, z1, z2⟩ | ⟨a, haj, rfl⟩
      · rw [z1, z2]
        refine ⟨-12, u, sh, fa, st, pile, -12, x + 0, jN (0 + 1), rfl, ?_, rfl, hf, h3⟩
        simp only [Option.bind_some, if_true]
        rw [if_neg (show ¬ (-12 : Int32) = 0 by decide)]
        simp only [Option.bind_some]
        exact stop _ _ _ _ _ _ (by decide)
      rcases it_at hk hL eL haj with ⟨y0, y1, y2⟩ | ⟨y0, y1, y2⟩
      · rw [y1, y2]
        refine ⟨-12, u, sh, fa, st, pile, -12, x + 0, jN (j + 1), rfl, ?_, rfl, hf, h3⟩
        simp only [Option.bind_some, if_true]
        rw [if_neg (show ¬ (-12 : Int32) = 0 by decide)]
        simp only [Option.bind_some]
        exact stop _ _ _ _ _ _ (by decide)
      rw [y1, y2]
      simp only [Option.bind_some]
      rw [if_neg (show ¬ (1 : Int32) = 0 by decide), if_neg (show ¬ (1 : Int32) = 0 by decide), show (40 : Int32) * jN k + jN a + jN j = jN (40 * k + a + j) from by simp (disch := omega) only [jl_0, jl_1, jl_2, jl_3, jl_4, jl_5, jl_6, jl_7, jl_8, jl_9, jl_10, jl_11, jl_12, jl_13, jl_14, jl_15, jl_16, jl_17, jl_18, jl_20, jl_23, jl_29, jl_30, jl_31, jl_32, jl_35, jl_40, jl_48, jl_50, jl_51, jl_57, jl_60, jl_61, jl_63, jl_64, jl_65, jl_89, jl_97, jl_99, jl_100, jl_101, jl_113, jl_122, jl_200, jl_240, jl_241, jl_255, jl_259, jl_260, jl_261, jl_262, jl_313, jl_500, jl_999, jl_10000, jl_10004, jl_10005, jl_10006, jl_10007, jl_10008, jl_10009, jl_10010, jl_10011, jl_10012, jl_10013, jl_10014, jl_10015, jl_10017, jl_10018, jl_10023, jl_12345, jl_1103515245, jN_add, jN_mul, jN_sub, jN_addm, jN_div, jN_irm, jN_nat, le_T, le_F, lt_T, lt_F, eq_F, ib_T, ib_F, add_j0, if_true, if_false, eq_self, Bool.false_eq_true, Option.bind_some, pb, jn, Nat.zero_add, Nat.add_zero], show jN a + jN j = jN (a + j) from by simp (disch := omega) only [jl_0, jl_1, jl_2, jl_3, jl_4, jl_5, jl_6, jl_7, jl_8, jl_9, jl_10, jl_11, jl_12, jl_13, jl_14, jl_15, jl_16, jl_17, jl_18, jl_20, jl_23, jl_29, jl_30, jl_31, jl_32, jl_35, jl_40, jl_48, jl_50, jl_51, jl_57, jl_60, jl_61, jl_63, jl_64, jl_65, jl_89, jl_97, jl_99, jl_100, jl_101, jl_113, jl_122, jl_200, jl_240, jl_241, jl_255, jl_259, jl_260, jl_261, jl_262, jl_313, jl_500, jl_999, jl_10000, jl_10004, jl_10005, jl_10006, jl_10007, jl_10008, jl_10009, jl_10010, jl_10011, jl_10012, jl_10013, jl_10014, jl_10015, jl_10017, jl_10018, jl_10023, jl_12345, jl_1103515245, jN_add, jN_mul, jN_sub, jN_addm, jN_div, jN_irm, jN_nat, le_T, le_F, lt_T, lt_F, eq_F, ib_T, ib_F, add_j0, if_true, if_false, eq_self, Bool.false_eq_true, Option.bind_some, pb, jn, Nat.zero_add, Nat.add_zero], ib_T hk (by omega), ib_T (show a + j < 40 by omega) (by omega), ib_T (show 40 * k + a + j < 160 by omega) (by omega), jN_nat (show k < 2147483648 by omega), jN_nat (show a + j < 2147483648 by omega), jN_nat (show 40 * k + a + j < 2147483648 by omega), iOf_at hk (by omega), ← Nat.add_assoc]
      simp only [if_true, Option.bind_some, show ((1 : Int32) = 0) = False from eq_false (by decide), if_false, jn]
      rw [q2_isAct, q2_isOver, q2_goBy]
      have e4 : u 4 = s 4 := hf.low (by omega) (by omega) (by omega) (by omega) hn6
      have e1 : u 1 = s 1 := hf.low (by omega) (by omega) (by omega) (by omega) hn6
      have nx : ∀ (y : Int32) (u : Nat → Int32) (pile sh fa : Nat → Int32) (st : Nat → Nat → Int32), GS u → RM n u W → FG u s → u 3 = s 3 → _ := fun y u pile sh fa st g1 g2 g3 g4 => ih m (m3 + 1) (j + 1) (by omega) (by omega) (by omega) y u pile sh fa st g1 g2 g3 g4 (Or.inr ⟨a, by omega, rfl⟩)
      rw [← e4, ← e1]
      rcases act_or hg (q (40 * k + a + j)) with ⟨a1, a2⟩ | ⟨b, hb, a0, a1, a2⟩
      · rw [a1, a2]
        refine ⟨-4, u, sh, fa, st, pile, -4, x + 0, jN (j + 1), by rw [if_pos rfl, e4, e1], ?_, rfl, hf, h3⟩
        simp only [Option.bind_some, if_true]
        rw [if_neg (show ¬ (-4 : Int32) = 0 by decide)]
        simp only [Option.bind_some]
        exact stop _ _ _ _ _ _ (by decide)
      · rw [a1, a2, if_neg (show ¬ (1 : Int32) = 0 by decide), if_neg (show ¬ (1 : Int32) = 0 by decide)]
        by_cases hq : goB u = true
        · obtain ⟨p1, g1⟩ := m_goesBy (W := W) hMu hg (by omega) pile hb
          obtain ⟨sh1, fa1, st1, g2⟩ := c_goBy (W := W) hC hr hg (by omega) sh fa st hb
          have i1 := goW_g (W := W) hg hb (of_decide_eq_true hq)
          have i2 := goW_G (W := W) hg hb
          have i3 := goW_3 (W := W) hg hb
          have hf2 : FG (goW W u b).2 s := i2.trans hf hn6
          rw [← hf.pOfE hn6, ← hf.kOfE hn6]
          rw [a0, c_oT hq, m_oT hq, if_pos rfl, if_pos rfl, g2]
          simp only [Option.bind_some, if_true]
          rw [g1]
          simp only [Option.bind_some]
          rw [e4, e1, hf.pOfE hn6, hf.kOfE hn6]
          exact nx _ _ p1 sh1 fa1 st1 i1 (hMu.go i2 hg.n.1) hf2 (i3.trans h3)
        · rw [c_oF hq, m_oF hq, if_neg (show ¬ (1 : Int32) = 0 by decide), if_neg (show ¬ (1 : Int32) = 0 by decide)]
          refine ⟨-4, u, sh, fa, st, pile, -4, x + 0, jN (j + 1), by rw [e4, e1], ?_, rfl, hf, h3⟩
          simp only [Option.bind_some]
          rw [if_neg (show ¬ (-4 : Int32) = 0 by decide)]
          simp only [Option.bind_some]
          exact stop _ _ _ _ _ _ (by decide)
  obtain ⟨r, u', sh', fa', st', pile', rm, y, v6, g1, g2, g3, g4, g5⟩ := main N n n 0 (by omega) (by omega) (by omega) 0 s pile sh fa st h hM (FG.refl s) rfl (by
    rcases it_or hk hL eL v2 with z | ⟨a, ha, rfl⟩
    · exact Or.inl ⟨rfl, z⟩
    · exact Or.inr ⟨a, by omega, rfl⟩)
  have hsq := sq_go g4 hn6
  rw [g5] at hsq
  refine ⟨r, _, _, _, _, _, _, _, _, _, _, ρ, sh', fa', st', u', (fun i => if i < 65 then s i else laid i), pile', g1, ?_, hr, hsq⟩
  rw [show X12_wouldBe_L1 n si q (jN k) v2 (jN N) n (0 : Int32) (0 : Int32) (0 : Int32) s pile = _ from g2]
  simp only [Option.bind_some]
  rw [m_laid (by omega) (dn65 s laid) (g4.hi hn6)]
  simp only [Option.bind_some]
  rw [← g3]
  split <;> rfl
/-- PROVE: the best plan, row for row -/
theorem o_prove (hn : 70 ≤ n) (hC : RC n ρ gc gk gw gs gd kl wl sl cl W) (hr : ρ < nr) (hM : RM n s W) (h : GS s) (s2 : Nat → Int32) {ρ2 : Nat} (hr2 : ρ2 < nr) (sh fa first : Nat → Int32) (v : Nat) (most many few ever : Int32) (rows : Nat → Int32) {rc : Nat} (hrc : rc ≤ 4) (acts : Nat → Int32) (marks : Nat → Nat → Int32) (dp wt : Int32) (st : Nat → Nat → Int32) (laid pile saved plan bp : Nat → Int32) (mm mn mf me : Int32) (steps0 : Int32) (v1 : Int32) :
    ∃ r d2 p2 k2 r2 c2 ch2 e2 sc2 rc2 z2 ρ2' sh' fa' first' steps' most' many' few' ever' rows' rc' acts' marks' dp' wt' st' u2 laid' pile' saved' plan' bp' mm' mn' mf' me', X11_prove n (dOf s) (pOf s) (kOf s) (rOf s) (s 4) (s 0) (s 1) (s 2) (s 6) (s 3) ρ (dOf s2) (pOf s2) (kOf s2) (rOf s2) (s2 4) (s2 0) (s2 1) (s2 2) (s2 6) (s2 3) ρ2 sh fa first steps0 most many few ever (wOf rows) (jN rc) acts marks dp wt gc gk gw gs gd st kl wl sl cl nr v1 = some (r, d2, p2, k2, r2, c2, ch2, e2, sc2, rc2, z2, ρ2', sh', fa', first', steps', most', many', few', ever', wOf rows', jN rc', acts', marks', dp', wt', st') ∧ X12_prove n s laid pile saved plan bp mm mn mf me rows (jN rc) v1 = some (r, s, laid', pile', saved', plan', bp', mm', mn', mf', me', rows', jN rc') ∧ ρ2' < nr ∧ rc' ≤ 4 ∧ SQ d2 p2 k2 r2 c2 ch2 e2 sc2 rc2 z2 u2 := by
  unfold X11_prove X12_prove X12_isPlan
  rw [isIn_eq]
  rcases in1_or v1 0 4 (by decide) (by decide) with e1 | ⟨nn, -, hnn, rfl⟩
  · rw [show X12_in1 v1 (0 : Int32) (4 : Int32) = jN 0 from e1, if_pos (show jN 0 = 0 from rfl), if_pos (show jN 0 = 0 from rfl)]
    exact ⟨_, _, _, _, _, _, _, _, _, _, _, ρ2, _, _, _, _, _, _, _, _, rows, rc, _, _, _, _, _, s2, _, _, _, _, _, _, _, _, _, rfl, rfl, hr2, hrc, SQ.rf s2⟩
  rw [show X12_in1 (jN nn) (0 : Int32) (4 : Int32) = jN 1 from in1_T (Nat.zero_le _) hnn (by decide), if_neg (show ¬ jN 1 = 0 by decide), if_neg (show ¬ jN 1 = 0 by decide)]
  have hn6 := h.n.1
  obtain ⟨d2, p2, k2, r2, c2, ch2, e2, sc2, rc2, z2, sh1, fa1, first1, most1, many1, few1, ever1, acts1, marks1, st1, u1, pile1, saved1, plan1, bp1, mf1, g1, g2, g3, g4, g5⟩ := o_look (W := W) hn hC hr hM h s2 sh fa first acts marks st pile saved plan bp hnn 0
  obtain ⟨x, E, hx, hE, hx0, hE1, hle, H1, H2, hday⟩ := plN_i h hnn
  obtain ⟨q1, q2, q3, q4, q5, q6, q7, q8, q9, q10⟩ := g3
  subst q1 q2 q3 q4
  rw [g1, g2]
  simp only [Option.bind_some]
  rw [hday]
  unfold X5_writeRows_oq0
  rw [c_copy (by omega) s u1 hr, m_down (by omega)]
  simp only [Option.bind_some]
  have main : ∀ (d m m3 j : Nat), j + d = plN s nn → d < m → d < m3 → ∀ (u : Nat → Int32) (pile sh fa : Nat → Int32) (st : Nat → Nat → Int32) (rows : Nat → Int32), GS u → RM n u W → FG u s → u 3 = s 3 → u 0 = jN (x + j) →
      ∃ u' sh' fa' st' pile' rows' vj, X5_writeRows_oq0_L1 n (pOf s) (kOf s) (s 4) ρ first1 (jN (plN s nn)) gc gk gw gs gd kl wl sl cl nr m (jN j) (dOf u) (u 0) (u 2) sh fa (wOf rows) st = some (vj, dOf u', u' 0, u' 2, sh', fa', wOf rows', st') ∧ X12_prove_L1 n bp1 (jN (plN s nn)) m3 (jN j) u pile rows = some (vj, u', pile', rows') ∧ FG u' s ∧ u' 3 = s 3 := by
    intro d
    induction d with
    | zero =>
      intro m m3 j hj hm hm3 u pile sh fa st rows hg hMu hf h3 _
      obtain ⟨m, rfl⟩ : ∃ y, m = y + 1 := ⟨m - 1, by omega⟩
      obtain ⟨m3, rfl⟩ : ∃ y, m3 = y + 1 := ⟨m3 - 1, by omega⟩
      have : j = plN s nn := by omega
      subst this
      refine ⟨u, sh, fa, st, pile, rows, jN (plN s nn), ?_, ?_, hf, h3⟩
      · rw [X5_writeRows_oq0_L1, if_pos (Int32.le_refl _)]
      · rw [X12_prove_L1, if_pos (Int32.le_refl _)]
    | succ d ih =>
      intro m m3 j hj hm hm3 u pile sh fa st rows hg hMu hf h3 hux
      obtain ⟨m, rfl⟩ : ∃ y, m = y + 1 := ⟨m - 1, by omega⟩
      obtain ⟨m3, rfl⟩ : ∃ y, m3 = y + 1 := ⟨m3 - 1, by omega⟩
      have hle' : ¬ jN (plN s nn) ≤ jN j := by simp (disch := omega) only [jl_0, jl_1, jl_2, jl_3, jl_4, jl_5, jl_6, jl_7, jl_8, jl_9, jl_10, jl_11, jl_12, jl_13, jl_14, jl_15, jl_16, jl_17, jl_18, jl_20, jl_23, jl_29, jl_30, jl_31, jl_32, jl_35, jl_40, jl_48, jl_50, jl_51, jl_57, jl_60, jl_61, jl_63, jl_64, jl_65, jl_89, jl_97, jl_99, jl_100, jl_101, jl_113, jl_122, jl_200, jl_240, jl_241, jl_255, jl_259, jl_260, jl_261, jl_262, jl_313, jl_500, jl_999, jl_10000, jl_10004, jl_10005, jl_10006, jl_10007, jl_10008, jl_10009, jl_10010, jl_10011, jl_10012, jl_10013, jl_10014, jl_10015, jl_10017, jl_10018, jl_10023, jl_12345, jl_1103515245, jN_add, jN_mul, jN_sub, jN_addm, jN_div, jN_irm, jN_nat, le_T, le_F, lt_T, lt_F, eq_F, ib_T, ib_F, add_j0, if_true, if_false, eq_self, Bool.false_eq_true, Option.bind_some, pb, jn, Nat.zero_add, Nat.add_zero]; exact not_false
      have e4 : u 4 = s 4 := hf.low (by omega) (by omega) (by omega) (by omega) hn6
      have e1 : u 1 = s 1 := hf.low (by omega) (by omega) (by omega) (by omega) hn6
      have hxj := H1 j (by omega)
      have hq : goB u = true := decide_eq_true (by rw [hux, e1, hE1]; exact (jN_lt (by omega) (by omega)).mpr hxj)
      obtain ⟨w1, b, hb, w2⟩ := g5 j (by omega)
      have hbu : b ≤ nS u := by rw [hf.nn hn6]; exact hb
      obtain ⟨p1, k1⟩ := m_goesBy (W := W) hMu hg (by omega) pile hbu
      obtain ⟨sh2, fa2, st2, k2'⟩ := c_goBy (W := W) hC hr hg (by omega) sh fa st hbu
      have i1 := goW_g (W := W) hg hbu (of_decide_eq_true hq)
      have i2 := goW_G (W := W) hg hbu
      have i3 := goW_3 (W := W) hg hbu
      have hf2 : FG (goW W u b).2 s := i2.trans hf hn6
      have i4 : (goW W u b).2 4 = s 4 := (i2.low (by omega) (by omega) (by omega) (by omega) hg.n.1).trans e4
      have x0 : (3 : Int32) * jN j = jN (3 * j) := by simp (disch := omega) only [jl_0, jl_1, jl_2, jl_3, jl_4, jl_5, jl_6, jl_7, jl_8, jl_9, jl_10, jl_11, jl_12, jl_13, jl_14, jl_15, jl_16, jl_17, jl_18, jl_20, jl_23, jl_29, jl_30, jl_31, jl_32, jl_35, jl_40, jl_48, jl_50, jl_51, jl_57, jl_60, jl_61, jl_63, jl_64, jl_65, jl_89, jl_97, jl_99, jl_100, jl_101, jl_113, jl_122, jl_200, jl_240, jl_241, jl_255, jl_259, jl_260, jl_261, jl_262, jl_313, jl_500, jl_999, jl_10000, jl_10004, jl_10005, jl_10006, jl_10007, jl_10008, jl_10009, jl_10010, jl_10011, jl_10012, jl_10013, jl_10014, jl_10015, jl_10017, jl_10018, jl_10023, jl_12345, jl_1103515245, jN_add, jN_mul, jN_sub, jN_addm, jN_div, jN_irm, jN_nat, le_T, le_F, lt_T, lt_F, eq_F, ib_T, ib_F, add_j0, if_true, if_false, eq_self, Bool.false_eq_true, Option.bind_some, pb, jn, Nat.zero_add, Nat.add_zero]
      have x1 : jN (3 * j) + (1 : Int32) = jN (3 * j + 1) := by simp (disch := omega) only [jl_0, jl_1, jl_2, jl_3, jl_4, jl_5, jl_6, jl_7, jl_8, jl_9, jl_10, jl_11, jl_12, jl_13, jl_14, jl_15, jl_16, jl_17, jl_18, jl_20, jl_23, jl_29, jl_30, jl_31, jl_32, jl_35, jl_40, jl_48, jl_50, jl_51, jl_57, jl_60, jl_61, jl_63, jl_64, jl_65, jl_89, jl_97, jl_99, jl_100, jl_101, jl_113, jl_122, jl_200, jl_240, jl_241, jl_255, jl_259, jl_260, jl_261, jl_262, jl_313, jl_500, jl_999, jl_10000, jl_10004, jl_10005, jl_10006, jl_10007, jl_10008, jl_10009, jl_10010, jl_10011, jl_10012, jl_10013, jl_10014, jl_10015, jl_10017, jl_10018, jl_10023, jl_12345, jl_1103515245, jN_add, jN_mul, jN_sub, jN_addm, jN_div, jN_irm, jN_nat, le_T, le_F, lt_T, lt_F, eq_F, ib_T, ib_F, add_j0, if_true, if_false, eq_self, Bool.false_eq_true, Option.bind_some, pb, jn, Nat.zero_add, Nat.add_zero]
      have x2 : jN (3 * j) + (2 : Int32) = jN (3 * j + 2) := by simp (disch := omega) only [jl_0, jl_1, jl_2, jl_3, jl_4, jl_5, jl_6, jl_7, jl_8, jl_9, jl_10, jl_11, jl_12, jl_13, jl_14, jl_15, jl_16, jl_17, jl_18, jl_20, jl_23, jl_29, jl_30, jl_31, jl_32, jl_35, jl_40, jl_48, jl_50, jl_51, jl_57, jl_60, jl_61, jl_63, jl_64, jl_65, jl_89, jl_97, jl_99, jl_100, jl_101, jl_113, jl_122, jl_200, jl_240, jl_241, jl_255, jl_259, jl_260, jl_261, jl_262, jl_313, jl_500, jl_999, jl_10000, jl_10004, jl_10005, jl_10006, jl_10007, jl_10008, jl_10009, jl_10010, jl_10011, jl_10012, jl_10013, jl_10014, jl_10015, jl_10017, jl_10018, jl_10023, jl_12345, jl_1103515245, jN_add, jN_mul, jN_sub, jN_addm, jN_div, jN_irm, jN_nat, le_T, le_F, lt_T, lt_F, eq_F, ib_T, ib_F, add_j0, if_true, if_false, eq_self, Bool.false_eq_true, Option.bind_some, pb, jn, Nat.zero_add, Nat.add_zero]
      have w0 : ∀ (r : Nat → Int32) (y : Int32), va_up (wOf r) j (upd (wOf r j) 0 y) = wOf (upd r (3 * j) y) := fun r y => wOf_up (j := 0) (by omega) (by omega)
      have w1' : ∀ (r : Nat → Int32) (y : Int32), va_up (wOf r) j (upd (wOf r j) 1 y) = wOf (upd r (3 * j + 1) y) := fun r y => wOf_up (j := 1) (by omega) (by omega)
      have w2' : ∀ (r : Nat → Int32) (y : Int32), va_up (wOf r) j (upd (wOf r j) 2 y) = wOf (upd r (3 * j + 2) y) := fun r y => wOf_up (j := 2) (by omega) (by omega)
      obtain ⟨u', sh', fa', st', pile', rows', vj, z1, z2, z3, z4⟩ := ih m m3 (j + 1) (by omega) (by omega) (by omega) (goW W u b).2 p1 sh2 fa2 st2 (upd (upd (upd rows (3 * j) (jN b)) (3 * j + 1) (goW W u b).1) (3 * j + 2) (rsN (goW W u b).2)) i1 (hMu.go i2 hg.n.1) hf2 (i3.trans h3) (by rw [goW_0, hux]; simp (disch := omega) only [jl_0, jl_1, jl_2, jl_3, jl_4, jl_5, jl_6, jl_7, jl_8, jl_9, jl_10, jl_11, jl_12, jl_13, jl_14, jl_15, jl_16, jl_17, jl_18, jl_20, jl_23, jl_29, jl_30, jl_31, jl_32, jl_35, jl_40, jl_48, jl_50, jl_51, jl_57, jl_60, jl_61, jl_63, jl_64, jl_65, jl_89, jl_97, jl_99, jl_100, jl_101, jl_113, jl_122, jl_200, jl_240, jl_241, jl_255, jl_259, jl_260, jl_261, jl_262, jl_313, jl_500, jl_999, jl_10000, jl_10004, jl_10005, jl_10006, jl_10007, jl_10008, jl_10009, jl_10010, jl_10011, jl_10012, jl_10013, jl_10014, jl_10015, jl_10017, jl_10018, jl_10023, jl_12345, jl_1103515245, jN_add, jN_mul, jN_sub, jN_addm, jN_div, jN_irm, jN_nat, le_T, le_F, lt_T, lt_F, eq_F, ib_T, ib_F, add_j0, if_true, if_false, eq_self, Bool.false_eq_true, Option.bind_some, pb, jn, Nat.zero_add, Nat.add_zero]; rfl)
      refine ⟨u', sh', fa', st', pile', rows', vj, ?_, ?_, z3, z4⟩
      · rw [X5_writeRows_oq0_L1, if_neg hle', q2_goBy, q2_rightSet, ib_T (show j < 4 by omega) (by omega), jN_nat (show j < 2147483648 by omega), w1, w2, ← e4, ← hf.pOfE hn6, ← hf.kOfE hn6]
        simp only [if_true]
        rw [k2']
        simp only [Option.bind_some]
        rw [e4, ← i4, c_rightSet i1 (by omega)]
        simp only [Option.bind_some]
        rw [w0, w1', w2', show jN j + (1 : Int32) = jN (j + 1) from by simp (disch := omega) only [jl_0, jl_1, jl_2, jl_3, jl_4, jl_5, jl_6, jl_7, jl_8, jl_9, jl_10, jl_11, jl_12, jl_13, jl_14, jl_15, jl_16, jl_17, jl_18, jl_20, jl_23, jl_29, jl_30, jl_31, jl_32, jl_35, jl_40, jl_48, jl_50, jl_51, jl_57, jl_60, jl_61, jl_63, jl_64, jl_65, jl_89, jl_97, jl_99, jl_100, jl_101, jl_113, jl_122, jl_200, jl_240, jl_241, jl_255, jl_259, jl_260, jl_261, jl_262, jl_313, jl_500, jl_999, jl_10000, jl_10004, jl_10005, jl_10006, jl_10007, jl_10008, jl_10009, jl_10010, jl_10011, jl_10012, jl_10013, jl_10014, jl_10015, jl_10017, jl_10018, jl_10023, jl_12345, jl_1103515245, jN_add, jN_mul, jN_sub, jN_addm, jN_div, jN_irm, jN_nat, le_T, le_F, lt_T, lt_F, eq_F, ib_T, ib_F, add_j0, if_true, if_false, eq_self, Bool.false_eq_true, Option.bind_some, pb, jn, Nat.zero_add, Nat.add_zero], i4, hf.pOfE hn6, hf.kOfE hn6]
        exact z1
      · rw [X12_prove_L1, if_neg hle', x0, x1, x2, ib_T (show j < 4 by omega) (by omega), ib_T (show 3 * j < 12 by omega) (by omega), ib_T (show 3 * j + 1 < 12 by omega) (by omega), ib_T (show 3 * j + 2 < 12 by omega) (by omega), jN_nat (show j < 2147483648 by omega), jN_nat (show 3 * j < 2147483648 by omega), jN_nat (show 3 * j + 1 < 2147483648 by omega), jN_nat (show 3 * j + 2 < 2147483648 by omega), w2]
        simp only [if_true]
        rw [k1]
        simp only [Option.bind_some]
        rw [m_those i1 (by omega)]
        simp only [Option.bind_some]
        rw [show jN j + (1 : Int32) = jN (j + 1) from by simp (disch := omega) only [jl_0, jl_1, jl_2, jl_3, jl_4, jl_5, jl_6, jl_7, jl_8, jl_9, jl_10, jl_11, jl_12, jl_13, jl_14, jl_15, jl_16, jl_17, jl_18, jl_20, jl_23, jl_29, jl_30, jl_31, jl_32, jl_35, jl_40, jl_48, jl_50, jl_51, jl_57, jl_60, jl_61, jl_63, jl_64, jl_65, jl_89, jl_97, jl_99, jl_100, jl_101, jl_113, jl_122, jl_200, jl_240, jl_241, jl_255, jl_259, jl_260, jl_261, jl_262, jl_313, jl_500, jl_999, jl_10000, jl_10004, jl_10005, jl_10006, jl_10007, jl_10008, jl_10009, jl_10010, jl_10011, jl_10012, jl_10013, jl_10014, jl_10015, jl_10017, jl_10018, jl_10023, jl_12345, jl_1103515245, jN_add, jN_mul, jN_sub, jN_addm, jN_div, jN_irm, jN_nat, le_T, le_F, lt_T, lt_F, eq_F, ib_T, ib_F, add_j0, if_true, if_false, eq_self, Bool.false_eq_true, Option.bind_some, pb, jn, Nat.zero_add, Nat.add_zero]]
        exact z2
  obtain ⟨u', sh', fa', st', pile', rows', vj, z1, z2, z3, z4⟩ := main (plN s nn) n n 0 (by omega) (by omega) (by omega) s pile1 sh1 fa1 st1 rows h hM (FG.refl s) rfl hx0
  have hsq := sq_go z3 hn6
  rw [z4] at hsq
  refine ⟨jN (plN s nn), _, _, _, _, _, _, _, _, _, _, ρ, sh', fa', first1, jN (plN s nn), most1, many1, few1, ever1, rows', plN s nn, acts1, marks1, jN nn, 0, st', u', (fun i => if i < 65 then s i else laid i), pile', saved1, plan1, bp1, most1, many1, mf1, ever1, ?_, ?_, hr, by omega, hsq⟩
  · rw [show X5_writeRows_oq0_L1 n (pOf s) (kOf s) (s 4) ρ first1 (jN (plN s nn)) gc gk gw gs gd kl wl sl cl nr n (0 : Int32) (dOf s) (s 0) (s 2) sh1 fa1 (wOf rows) st1 = _ from z1]
    rfl
  · rw [show X12_prove_L1 n bp1 (jN (plN s nn)) n (0 : Int32) s pile1 rows = _ from z2]
    simp only [Option.bind_some]
    rw [m_laid (by omega) (dn65 s laid) (z3.hi hn6)]
    rfl
end WOULD
