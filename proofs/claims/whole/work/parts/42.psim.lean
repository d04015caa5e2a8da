section SIM
variable {n ρ nr : Nat} {gc : Nat → Int32} {gk gw gs gd : Nat → Nat → Int32} {kl wl sl cl : Nat → Nat} {W : Int32 → (Nat → Int32) → Int32}
theorem cv_neg (u : Nat → Int32) (sc : Int32) : dOf (upd u 2 sc) = dOf u ∧ pOf (upd u 2 sc) = pOf u ∧ kOf (upd u 2 sc) = kOf u ∧ upd u 2 sc 4 = u 4 ∧ upd u 2 sc 0 = u 0 ∧ upd u 2 sc 1 = u 1 ∧ upd u 2 sc 2 = sc ∧ upd u 2 sc 3 = u 3 :=
  ⟨dOf_D (by omega), pOf_D (by omega), kOf_D (by omega), upd_n (by omega), upd_n (by omega), upd_n (by omega), upd_s _ _ _, upd_n (by omega)⟩
theorem sim_plans (hn : 70 ≤ n) (hC : RC n ρ gc gk gw gs gd kl wl sl cl W) (hr : ρ < nr) {N nn x E c0 : Nat} (hN : N ≤ nn) (hnn : nn ≤ 4) (hx : x ≤ 16) (hE : E ≤ 16) (H1 : ∀ d, d < N → x + d < E) (H2 : N = nn ∨ E ≤ x + N) (wanted : Int32) :
    ∀ (e d D : Nat), d + e = N → e < D → ∀ (u pile saved plan bp : Nat → Int32) (mm mn mf me sc : Int32) (sh fa first acts : Nat → Int32) (steps most many few ever : Int32) (marks st : Nat → Nat → Int32) (w t C : Nat),
    GS u → nS u = c0 → RM n u W → u 0 = jN (x + d) → u 1 = jN E → w ≤ 100 * d → t ≤ d → (∀ i, i < d → acts i = plan i ∧ NB c0 (plan i)) → PR N c0 C first steps most many few ever bp mm mn mf me → C + 7 ^ e ≤ 3000 →
    ∃ (t' : Nat → Int32) (sh' fa' first' : Nat → Int32) (steps' most' many' few' ever' : Int32) (acts' : Nat → Int32) (marks' st' : Nat → Nat → Int32) (pile' saved' plan' bp' : Nat → Int32) (mm' mn' mf' me' : Int32),
      X5_explore n D (dOf u) (pOf u) (kOf u) (u 4) (u 0) (u 1) sc ρ sh fa first steps most many few ever acts marks (jN nn) wanted gc gk gw gs gd st kl wl sl cl nr (jN d) (jN w) (jN t) = some (dOf t', t' 0, t' 2, sh', fa', first', steps', most', many', few', ever', acts', marks', st') ∧
      X12_goesPlans n D u pile saved plan bp mm mn mf me (jN d) (jN N) (jN w) (jN t) wanted = some (u, pile', saved', plan', bp', mm', mn', mf', me') ∧
      FG t' u ∧ t' 3 = u 3 ∧ (∀ i, i < d → acts' i = acts i) ∧ (∀ i, i < d → plan' i = plan i) ∧ (∀ r, r < d → marks' r = marks r) ∧ (∀ i, i < 65 * d → saved' i = saved i) ∧ PR N c0 (C + 7 ^ e) first' steps' most' many' few' ever' bp' mm' mn' mf' me' ∧ many' ≠ 0 := by
  intro e
  induction e with
  | zero =>
    intro d D hd hD u pile saved plan bp mm mn mf me sc sh fa first acts steps most many few ever marks st w t C hg hu0 hM h0 h1 hw ht hA hP hCb
    obtain ⟨D, rfl⟩ : ∃ q, D = q + 1 := ⟨D - 1, by omega⟩
    have hdN : d = N := by omega
    obtain ⟨first', steps', most', many', few', ever', bp', mm', mn', mf', me', e1, e2, e3, e4⟩ := sim_leaf hn hg (w := w) (t := t) (C := C) (by omega) hdN (by omega) (by omega) (by omega) wanted hP hA
    obtain ⟨c1, c2, c3, c4, c5, c6, c7, c8⟩ := cv_neg u sc
    refine ⟨upd u 2 sc, sh, fa, first', steps', most', many', few', ever', acts, marks, st, pile, saved, plan, bp', mm', mn', mf', me', ?_, ?_, (FG.refl u).up' (Or.inr (Or.inl rfl)), c8, fun _ _ => rfl, fun _ _ => rfl, fun _ _ => rfl, fun _ _ => rfl, e3, e4⟩
    · rw [X5_explore]
      unfold X5_explore_b
      simp only [jn]
      rw [c1, c5, c7, e1]
      simp only [Option.bind_some]
      by_cases hq1 : jN nn ≤ jN d
      · rw [if_pos hq1]
      · rw [if_neg hq1]
        have hnd : d < nn := by
          rcases Nat.lt_or_ge d nn with q | q
          · exact q
          · exact absurd ((jN_le (by omega) (by omega)).mpr q) hq1
        rw [if_neg (show ¬ (4 : Int32) ≤ jN d by simp (disch := omega) only [jl_0, jl_1, jl_2, jl_3, jl_4, jl_5, jl_6, jl_7, jl_8, jl_9, jl_10, jl_11, jl_12, jl_13, jl_14, jl_15, jl_16, jl_17, jl_18, jl_20, jl_23, jl_29, jl_30, jl_31, jl_32, jl_35, jl_40, jl_48, jl_50, jl_51, jl_57, jl_60, jl_61, jl_63, jl_64, jl_65, jl_89, jl_97, jl_99, jl_100, jl_101, jl_113, jl_122, jl_200, jl_240, jl_241, jl_255, jl_259, jl_260, jl_261, jl_262, jl_313, jl_500, jl_999, jl_10000, jl_10004, jl_10005, jl_10006, jl_10007, jl_10008, jl_10009, jl_10010, jl_10011, jl_10012, jl_10013, jl_10014, jl_10015, jl_10017, jl_10018, jl_10023, jl_12345, jl_1103515245, jN_add, jN_mul, jN_sub, jN_addm, jN_div, jN_irm, jN_nat, le_T, le_F, lt_T, lt_F, eq_F, ib_T, ib_F, add_j0, if_true, if_false, eq_self, Bool.false_eq_true, Option.bind_some, pb, jn, Nat.zero_add, Nat.add_zero]; exact not_false), q2_isOver]
        have hov : ¬ goB u = true := by
          intro q
          have := of_decide_eq_true q
          rw [h0, h1, jN_lt (by omega) (by omega)] at this
          rcases H2 with z | z <;> omega
        rw [c_oF hov, if_neg (by decide)]
    · rw [X12_goesPlans]
      unfold X12_goesPlans_b
      rw [if_pos (by rw [hdN]), e2]; rfl
  | succ e ih =>
    intro d D hd hD u pile saved plan bp mm mn mf me sc sh fa first acts steps most many few ever marks st w t C hg hu0 hM h0 h1 hw ht hA hP hCb
    obtain ⟨D, rfl⟩ : ∃ q, D = q + 1 := ⟨D - 1, by omega⟩
    have hdN : d < N := by omega
    have hxd := H1 d hdN
    obtain ⟨hc, h4⟩ := hg.n
    have hgo : goB u = true := by unfold goB; rw [h0, h1]; exact decide_eq_true ((jN_lt (by omega) (by omega)).mpr hxd)
    obtain ⟨mk, em, hmk, hmo⟩ := c_markp (n := n) (by omega) hg marks d
    have es := m_saves (n := n) hn u saved (d := d) (by omega)
    -- the acts, one after the other
    have loop : ∀ (q a : Nat), a + q = nS u + 1 → ∀ (m m2 : Nat), q < m → q < m2 → ∀ (tt pile saved plan bp : Nat → Int32) (mm mn mf me : Int32) (sh fa first acts : Nat → Int32) (steps most many few ever : Int32) (marks st : Nat → Nat → Int32) (C : Nat), FG tt u → tt 3 = u 3 → (∀ i, i < d → acts i = plan i ∧ NB c0 (plan i)) → MK (marks d) u (nS u) → (∀ i, i < 65 → saved (65 * d + i) = u i) → PR N c0 C first steps most many few ever bp mm mn mf me → (0 < q ∨ many ≠ 0) → C + q * 7 ^ e ≤ 3000 →
        ∃ (v v2 : Int32) (t' : Nat → Int32) (sh' fa' first' : Nat → Int32) (steps' most' many' few' ever' : Int32) (acts' : Nat → Int32) (marks' st' : Nat → Nat → Int32) (pile' saved' plan' bp' : Nat → Int32) (mm' mn' mf' me' : Int32),
        X5_explore_L1 n (X5_explore n D) (pOf u) (kOf u) (u 4) (u 1) ρ (jN nn) wanted gc gk gw gs gd kl wl sl cl nr (jN d) (jN w) (jN t) m (jN a) (dOf tt) (tt 0) (tt 2) sh fa first steps most many few ever acts marks st = some (v, dOf t', t' 0, t' 2, sh', fa', first', steps', most', many', few', ever', acts', marks', st') ∧
        X12_goesPlans_L1 n (X12_goesPlans n D) (jN d) (jN N) (jN w) (jN t) wanted m2 (jN a) u pile saved plan bp mm mn mf me = some (v2, u, pile', saved', plan', bp', mm', mn', mf', me') ∧
        FG t' u ∧ t' 3 = u 3 ∧ (∀ i, i < d → acts' i = acts i) ∧ (∀ i, i < d → plan' i = plan i) ∧ (∀ r, r < d → marks' r = marks r) ∧ (∀ i, i < 65 * d → saved' i = saved i) ∧ PR N c0 (C + q * 7 ^ e) first' steps' most' many' few' ever' bp' mm' mn' mf' me' ∧ many' ≠ 0 := by
      intro q
      induction q with
      | zero =>
        intro a ha m m2 hm hm2 tt pile saved plan bp mm mn mf me sh fa first acts steps most many few ever marks st C hft ht3 hA hmk hsv hP hmz hCb
        obtain ⟨m, rfl⟩ : ∃ z, m = z + 1 := ⟨m - 1, by omega⟩
        obtain ⟨m2, rfl⟩ : ∃ z, m2 = z + 1 := ⟨m2 - 1, by omega⟩
        have hlt : u 4 < jN a := by rw [h4, jN_lt (by omega) (by omega)]; omega
        refine ⟨jN a, jN a, tt, sh, fa, first, steps, most, many, few, ever, acts, marks, st, pile, saved, plan, bp, mm, mn, mf, me, ?_, ?_, hft, ht3, fun _ _ => rfl, fun _ _ => rfl, fun _ _ => rfl, fun _ _ => rfl, ?_, ?_⟩
        · rw [X5_explore_L1, if_pos hlt]
        · rw [X12_goesPlans_L1, if_pos hlt]
        · rw [Nat.zero_mul, Nat.add_zero]; exact hP
        · rcases hmz with z | z
          · omega
          · exact z
      | succ q ihq =>
        intro a ha m m2 hm hm2 tt pile saved plan bp mm mn mf me sh fa first acts steps most many few ever marks st C hft ht3 hA hmk hsv hP hmz hCb
        obtain ⟨m, rfl⟩ : ∃ z, m = z + 1 := ⟨m - 1, by omega⟩
        obtain ⟨m2, rfl⟩ : ∃ z, m2 = z + 1 := ⟨m2 - 1, by omega⟩
        have hCb' : C + 7 ^ e + q * 7 ^ e ≤ 3000 := by rw [Nat.succ_mul] at hCb; omega
        have hlt : ¬ u 4 < jN a := by rw [h4, jN_lt (by omega) (by omega)]; omega
        have haS : a ≤ nS u := by omega
        -- a chime with this act
        have eb := c_back (n := n) (by omega) hg hft hmk
        obtain ⟨p1, e1⟩ := m_goesBy (W := W) hM hg (by omega) pile haS
        have hE2 := E2.of u (tt 2)
        have hG2 : GS (upd u 2 (tt 2)) := hE2.gs hg
        obtain ⟨c1, c2, c3, c4, c5, c6, c7, c8⟩ := cv_neg u (tt 2)
        have hna : a ≤ nS (upd u 2 (tt 2)) := by rw [hE2.nn]; exact haS
        obtain ⟨sh1, fa1, st1, e2⟩ := c_goBy (W := W) hC hr hG2 (by omega) sh fa st (a := a) hna
        obtain ⟨hw1, hw2⟩ := hE2.go (W := W) a
        rw [c1, c2, c3, c4, c5, c7, hw1, hw2.dOfE, hw2 0 (by omega)] at e2
        have g1 := goW_g (W := W) hg haS (of_decide_eq_true hgo)
        have g2 := goW_G (W := W) hg haS
        have g3 := goW_3 (W := W) hg haS
        have g4 : (goW W u a).2 0 = jN (x + (d + 1)) := by rw [goW_0, h0]; simp (disch := omega) only [jl_0, jl_1, jl_2, jl_3, jl_4, jl_5, jl_6, jl_7, jl_8, jl_9, jl_10, jl_11, jl_12, jl_13, jl_14, jl_15, jl_16, jl_17, jl_18, jl_20, jl_23, jl_29, jl_30, jl_31, jl_32, jl_35, jl_40, jl_48, jl_50, jl_51, jl_57, jl_60, jl_61, jl_63, jl_64, jl_65, jl_89, jl_97, jl_99, jl_100, jl_101, jl_113, jl_122, jl_200, jl_240, jl_241, jl_255, jl_259, jl_260, jl_261, jl_262, jl_313, jl_500, jl_999, jl_10000, jl_10004, jl_10005, jl_10006, jl_10007, jl_10008, jl_10009, jl_10010, jl_10011, jl_10012, jl_10013, jl_10014, jl_10015, jl_10017, jl_10018, jl_10023, jl_12345, jl_1103515245, jN_add, jN_mul, jN_sub, jN_addm, jN_div, jN_irm, jN_nat, le_T, le_F, lt_T, lt_F, eq_F, ib_T, ib_F, add_j0, if_true, if_false, eq_self, Bool.false_eq_true, Option.bind_some, pb, jn, Nat.zero_add, Nat.add_zero]; rfl
        have g5 : (goW W u a).2 1 = jN E := (g2.low (by omega) (by omega) (by omega) (by omega) hc).trans h1
        obtain ⟨y, hy, hy2⟩ := goW_w (W := W) hg haS
        -- and what comes behind it
        have hA' : ∀ i, i < d + 1 → (upd acts d (jN a)) i = (upd plan d (jN a)) i ∧ NB c0 ((upd plan d (jN a)) i) := fun i hi => by
          by_cases hid : i = d
          · subst hid; rw [upd_s, upd_s]; exact ⟨rfl, a, by omega, rfl⟩
          · rw [upd_n hid, upd_n hid]; exact hA i (by omega)
        obtain ⟨t1, sh2, fa2, fi2, ste2, mo2, ma2, fe2, ev2, ac2, mk2, st2, pi2, sa2, pl2, bp2, mm2, mn2, mf2, me2, f1, f2, f3, f4, f5, f6, f7, f8, f9, f10⟩ := ih (d + 1) D (by omega) (by omega) (goW W u a).2 p1 saved (upd plan d (jN a)) bp mm mn mf me ((goW W (upd u 2 (tt 2)) a).2 2) sh1 fa1 first (upd acts d (jN a)) steps most many few ever marks st1 (w + y) (if a = 0 then t else t + 1) C g1 ((g2.nn hc).trans hu0) (hM.go g2 hc) g4 g5 (by omega) (by split <;> omega) hA' hP (by omega)
        have f3' : FG t1 u := f3.trans g2 hc
        have hsv2 : ∀ i, i < 65 → sa2 (65 * d + i) = u i := fun i hi => by rw [f8 _ (by omega)]; exact hsv i hi
        have er := m_restores (n := n) hn (u := (goW W u a).2) (s := u) (l := sa2) (d := d) (by omega) hsv2 (g2.hi hc)
        obtain ⟨v, v2, t', sh', fa', fi', ste', mo', ma', fe', ev', ac', mk', st', pi', sa', pl', bp', mm', mn', mf', me', k1, k2, k3, k4, k5, k6, k7, k8, k9, k10⟩ := ihq (a + 1) (by omega) m m2 (by omega) (by omega) t1 pi2 sa2 pl2 bp2 mm2 mn2 mf2 me2 sh2 fa2 fi2 ac2 ste2 mo2 ma2 fe2 ev2 mk2 st2 (C + 7 ^ e) f3' (f4.trans g3) (fun i hi => by rw [f5 i (by omega), f6 i (by omega), upd_n (by omega), upd_n (by omega)]; exact hA i hi) (by rw [f7 d (by omega)]; exact hmk) hsv2 f9 (Or.inr f10) hCb'
        refine ⟨v, v2, t', sh', fa', fi', ste', mo', ma', fe', ev', ac', mk', st', pi', sa', pl', bp', mm', mn', mf', me', ?_, ?_, k3, k4, ?_, ?_, ?_, ?_, ?_, k10⟩
        · rw [X5_explore_L1, if_neg hlt, ib_T (show d < 4 by omega) (by omega), jN_nat (show d < 2147483648 by omega), if_pos rfl, pm_back, eb]
          simp only [Option.bind_some, if_true]
          rw [q2_goBy, e2]
          simp only [Option.bind_some, pb]
          rw [hy2, jN_add, show jN d + 1 = jN (d + 1) from by simp (disch := omega) only [jl_0, jl_1, jl_2, jl_3, jl_4, jl_5, jl_6, jl_7, jl_8, jl_9, jl_10, jl_11, jl_12, jl_13, jl_14, jl_15, jl_16, jl_17, jl_18, jl_20, jl_23, jl_29, jl_30, jl_31, jl_32, jl_35, jl_40, jl_48, jl_50, jl_51, jl_57, jl_60, jl_61, jl_63, jl_64, jl_65, jl_89, jl_97, jl_99, jl_100, jl_101, jl_113, jl_122, jl_200, jl_240, jl_241, jl_255, jl_259, jl_260, jl_261, jl_262, jl_313, jl_500, jl_999, jl_10000, jl_10004, jl_10005, jl_10006, jl_10007, jl_10008, jl_10009, jl_10010, jl_10011, jl_10012, jl_10013, jl_10014, jl_10015, jl_10017, jl_10018, jl_10023, jl_12345, jl_1103515245, jN_add, jN_mul, jN_sub, jN_addm, jN_div, jN_irm, jN_nat, le_T, le_F, lt_T, lt_F, eq_F, ib_T, ib_F, add_j0, if_true, if_false, eq_self, Bool.false_eq_true, Option.bind_some, pb, jn, Nat.zero_add, Nat.add_zero], show jN a + 1 = jN (a + 1) from by simp (disch := omega) only [jl_0, jl_1, jl_2, jl_3, jl_4, jl_5, jl_6, jl_7, jl_8, jl_9, jl_10, jl_11, jl_12, jl_13, jl_14, jl_15, jl_16, jl_17, jl_18, jl_20, jl_23, jl_29, jl_30, jl_31, jl_32, jl_35, jl_40, jl_48, jl_50, jl_51, jl_57, jl_60, jl_61, jl_63, jl_64, jl_65, jl_89, jl_97, jl_99, jl_100, jl_101, jl_113, jl_122, jl_200, jl_240, jl_241, jl_255, jl_259, jl_260, jl_261, jl_262, jl_313, jl_500, jl_999, jl_10000, jl_10004, jl_10005, jl_10006, jl_10007, jl_10008, jl_10009, jl_10010, jl_10011, jl_10012, jl_10013, jl_10014, jl_10015, jl_10017, jl_10018, jl_10023, jl_12345, jl_1103515245, jN_add, jN_mul, jN_sub, jN_addm, jN_div, jN_irm, jN_nat, le_T, le_F, lt_T, lt_F, eq_F, ib_T, ib_F, add_j0, if_true, if_false, eq_self, Bool.false_eq_true, Option.bind_some, pb, jn, Nat.zero_add, Nat.add_zero]]
          have ht' : (if jN a = 0 then jN t else jN t + 1) = jN (if a = 0 then t else t + 1) := by
            by_cases hz : a = 0
            · subst hz; rfl
            · rw [if_neg hz, if_neg (show ¬ jN a = 0 from fun z => hz ((jN_inj (b := 0) (by omega) (by omega)).mp z))]; simp (disch := omega) only [jl_0, jl_1, jl_2, jl_3, jl_4, jl_5, jl_6, jl_7, jl_8, jl_9, jl_10, jl_11, jl_12, jl_13, jl_14, jl_15, jl_16, jl_17, jl_18, jl_20, jl_23, jl_29, jl_30, jl_31, jl_32, jl_35, jl_40, jl_48, jl_50, jl_51, jl_57, jl_60, jl_61, jl_63, jl_64, jl_65, jl_89, jl_97, jl_99, jl_100, jl_101, jl_113, jl_122, jl_200, jl_240, jl_241, jl_255, jl_259, jl_260, jl_261, jl_262, jl_313, jl_500, jl_999, jl_10000, jl_10004, jl_10005, jl_10006, jl_10007, jl_10008, jl_10009, jl_10010, jl_10011, jl_10012, jl_10013, jl_10014, jl_10015, jl_10017, jl_10018, jl_10023, jl_12345, jl_1103515245, jN_add, jN_mul, jN_sub, jN_addm, jN_div, jN_irm, jN_nat, le_T, le_F, lt_T, lt_F, eq_F, ib_T, ib_F, add_j0, if_true, if_false, eq_self, Bool.false_eq_true, Option.bind_some, pb, jn, Nat.zero_add, Nat.add_zero]
          rw [ht']
          rw [g2.pOfE hc, g2.kOfE hc, g2.low (i := 4) (by omega) (by omega) (by omega) (by omega) hc, g2.low (i := 1) (by omega) (by omega) (by omega) (by omega) hc] at f1
          rw [f1]
          simp only [Option.bind_some]
          exact k1
        · rw [X12_goesPlans_L1, if_neg hlt, ib_T (show d < 4 by omega) (by omega), jN_nat (show d < 2147483648 by omega), if_pos rfl, e1]
          simp only [Option.bind_some, pb]
          rw [hy2, jN_add, show jN d + 1 = jN (d + 1) from by simp (disch := omega) only [jl_0, jl_1, jl_2, jl_3, jl_4, jl_5, jl_6, jl_7, jl_8, jl_9, jl_10, jl_11, jl_12, jl_13, jl_14, jl_15, jl_16, jl_17, jl_18, jl_20, jl_23, jl_29, jl_30, jl_31, jl_32, jl_35, jl_40, jl_48, jl_50, jl_51, jl_57, jl_60, jl_61, jl_63, jl_64, jl_65, jl_89, jl_97, jl_99, jl_100, jl_101, jl_113, jl_122, jl_200, jl_240, jl_241, jl_255, jl_259, jl_260, jl_261, jl_262, jl_313, jl_500, jl_999, jl_10000, jl_10004, jl_10005, jl_10006, jl_10007, jl_10008, jl_10009, jl_10010, jl_10011, jl_10012, jl_10013, jl_10014, jl_10015, jl_10017, jl_10018, jl_10023, jl_12345, jl_1103515245, jN_add, jN_mul, jN_sub, jN_addm, jN_div, jN_irm, jN_nat, le_T, le_F, lt_T, lt_F, eq_F, ib_T, ib_F, add_j0, if_true, if_false, eq_self, Bool.false_eq_true, Option.bind_some, pb, jn, Nat.zero_add, Nat.add_zero], show jN a + 1 = jN (a + 1) from by simp (disch := omega) only [jl_0, jl_1, jl_2, jl_3, jl_4, jl_5, jl_6, jl_7, jl_8, jl_9, jl_10, jl_11, jl_12, jl_13, jl_14, jl_15, jl_16, jl_17, jl_18, jl_20, jl_23, jl_29, jl_30, jl_31, jl_32, jl_35, jl_40, jl_48, jl_50, jl_51, jl_57, jl_60, jl_61, jl_63, jl_64, jl_65, jl_89, jl_97, jl_99, jl_100, jl_101, jl_113, jl_122, jl_200, jl_240, jl_241, jl_255, jl_259, jl_260, jl_261, jl_262, jl_313, jl_500, jl_999, jl_10000, jl_10004, jl_10005, jl_10006, jl_10007, jl_10008, jl_10009, jl_10010, jl_10011, jl_10012, jl_10013, jl_10014, jl_10015, jl_10017, jl_10018, jl_10023, jl_12345, jl_1103515245, jN_add, jN_mul, jN_sub, jN_addm, jN_div, jN_irm, jN_nat, le_T, le_F, lt_T, lt_F, eq_F, ib_T, ib_F, add_j0, if_true, if_false, eq_self, Bool.false_eq_true, Option.bind_some, pb, jn, Nat.zero_add, Nat.add_zero]]
          have ht' : (if jN a ≤ 0 then jN t else jN t + 1) = jN (if a = 0 then t else t + 1) := by
            by_cases hz : a = 0
            · subst hz; rfl
            · rw [if_neg hz, if_neg (show ¬ jN a ≤ 0 by simp (disch := omega) only [jl_0, jl_1, jl_2, jl_3, jl_4, jl_5, jl_6, jl_7, jl_8, jl_9, jl_10, jl_11, jl_12, jl_13, jl_14, jl_15, jl_16, jl_17, jl_18, jl_20, jl_23, jl_29, jl_30, jl_31, jl_32, jl_35, jl_40, jl_48, jl_50, jl_51, jl_57, jl_60, jl_61, jl_63, jl_64, jl_65, jl_89, jl_97, jl_99, jl_100, jl_101, jl_113, jl_122, jl_200, jl_240, jl_241, jl_255, jl_259, jl_260, jl_261, jl_262, jl_313, jl_500, jl_999, jl_10000, jl_10004, jl_10005, jl_10006, jl_10007, jl_10008, jl_10009, jl_10010, jl_10011, jl_10012, jl_10013, jl_10014, jl_10015, jl_10017, jl_10018, jl_10023, jl_12345, jl_1103515245, jN_add, jN_mul, jN_sub, jN_addm, jN_div, jN_irm, jN_nat, le_T, le_F, lt_T, lt_F, eq_F, ib_T, ib_F, add_j0, if_true, if_false, eq_self, Bool.false_eq_true, Option.bind_some, pb, jn, Nat.zero_add, Nat.add_zero]; exact not_false)]; simp (disch := omega) only [jl_0, jl_1, jl_2, jl_3, jl_4, jl_5, jl_6, jl_7, jl_8, jl_9, jl_10, jl_11, jl_12, jl_13, jl_14, jl_15, jl_16, jl_17, jl_18, jl_20, jl_23, jl_29, jl_30, jl_31, jl_32, jl_35, jl_40, jl_48, jl_50, jl_51, jl_57, jl_60, jl_61, jl_63, jl_64, jl_65, jl_89, jl_97, jl_99, jl_100, jl_101, jl_113, jl_122, jl_200, jl_240, jl_241, jl_255, jl_259, jl_260, jl_261, jl_262, jl_313, jl_500, jl_999, jl_10000, jl_10004, jl_10005, jl_10006, jl_10007, jl_10008, jl_10009, jl_10010, jl_10011, jl_10012, jl_10013, jl_10014, jl_10015, jl_10017, jl_10018, jl_10023, jl_12345, jl_1103515245, jN_add, jN_mul, jN_sub, jN_addm, jN_div, jN_irm, jN_nat, le_T, le_F, lt_T, lt_F, eq_F, ib_T, ib_F, add_j0, if_true, if_false, eq_self, Bool.false_eq_true, Option.bind_some, pb, jn, Nat.zero_add, Nat.add_zero]
          rw [ht', f2]
          simp only [Option.bind_some]
          rw [er]
          simp only [Option.bind_some]
          exact k2
        · intro i hi; rw [k5 i hi, f5 i (by omega), upd_n (by omega)]
        · intro i hi; rw [k6 i hi, f6 i (by omega), upd_n (by omega)]
        · intro r hr; rw [k7 r hr, f7 r (by omega)]
        · intro i hi; rw [k8 i hi, f8 i (by omega)]
        · rw [show C + (q + 1) * 7 ^ e = C + 7 ^ e + q * 7 ^ e from by rw [Nat.succ_mul]; omega]; exact k9
    have hp7 : 7 ^ (e + 1) = 7 * 7 ^ e := by rw [Nat.pow_succ, Nat.mul_comm]
    have hle : (nS u + 1) * 7 ^ e ≤ 7 * 7 ^ e := Nat.mul_le_mul_right _ (by omega)
    obtain ⟨c1, c2, c3, c4, c5, c6, c7, c8⟩ := cv_neg u sc
    obtain ⟨v, v2, t', sh', fa', fi', ste', mo', ma', fe', ev', ac', mk', st', pi', sa', pl', bp', mm', mn', mf', me', k1, k2, k3, k4, k5, k6, k7, k8, k9, k10⟩ := loop (nS u + 1) 0 (by omega) n n (by omega) (by omega) (upd u 2 sc) pile (fun i => if 65 * d ≤ i ∧ i < 65 * d + 65 then u (i - 65 * d) else saved i) plan bp mm mn mf me sh fa first acts steps most many few ever mk st C ((FG.refl u).up' (Or.inr (Or.inl rfl))) c8 hA hmk (fun i hi => by
      show (if 65 * d ≤ 65 * d + i ∧ 65 * d + i < 65 * d + 65 then u (65 * d + i - 65 * d) else saved (65 * d + i)) = u i
      rw [if_pos (by omega)]; congr 1; omega) hP (Or.inl (by omega)) (by omega)
    refine ⟨t', sh', fa', fi', ste', mo', ma', fe', ev', ac', mk', st', pi', sa', pl', bp', mm', mn', mf', me', ?_, ?_, k3, k4, k5, k6, ?_, ?_, ?_, k10⟩
    · rw [X5_explore]
      unfold X5_explore_b
      simp only [jn]
      rw [if_neg (show ¬ jN nn ≤ jN d by simp (disch := omega) only [jl_0, jl_1, jl_2, jl_3, jl_4, jl_5, jl_6, jl_7, jl_8, jl_9, jl_10, jl_11, jl_12, jl_13, jl_14, jl_15, jl_16, jl_17, jl_18, jl_20, jl_23, jl_29, jl_30, jl_31, jl_32, jl_35, jl_40, jl_48, jl_50, jl_51, jl_57, jl_60, jl_61, jl_63, jl_64, jl_65, jl_89, jl_97, jl_99, jl_100, jl_101, jl_113, jl_122, jl_200, jl_240, jl_241, jl_255, jl_259, jl_260, jl_261, jl_262, jl_313, jl_500, jl_999, jl_10000, jl_10004, jl_10005, jl_10006, jl_10007, jl_10008, jl_10009, jl_10010, jl_10011, jl_10012, jl_10013, jl_10014, jl_10015, jl_10017, jl_10018, jl_10023, jl_12345, jl_1103515245, jN_add, jN_mul, jN_sub, jN_addm, jN_div, jN_irm, jN_nat, le_T, le_F, lt_T, lt_F, eq_F, ib_T, ib_F, add_j0, if_true, if_false, eq_self, Bool.false_eq_true, Option.bind_some, pb, jn, Nat.zero_add, Nat.add_zero]; exact not_false), if_neg (show ¬ (4 : Int32) ≤ jN d by simp (disch := omega) only [jl_0, jl_1, jl_2, jl_3, jl_4, jl_5, jl_6, jl_7, jl_8, jl_9, jl_10, jl_11, jl_12, jl_13, jl_14, jl_15, jl_16, jl_17, jl_18, jl_20, jl_23, jl_29, jl_30, jl_31, jl_32, jl_35, jl_40, jl_48, jl_50, jl_51, jl_57, jl_60, jl_61, jl_63, jl_64, jl_65, jl_89, jl_97, jl_99, jl_100, jl_101, jl_113, jl_122, jl_200, jl_240, jl_241, jl_255, jl_259, jl_260, jl_261, jl_262, jl_313, jl_500, jl_999, jl_10000, jl_10004, jl_10005, jl_10006, jl_10007, jl_10008, jl_10009, jl_10010, jl_10011, jl_10012, jl_10013, jl_10014, jl_10015, jl_10017, jl_10018, jl_10023, jl_12345, jl_1103515245, jN_add, jN_mul, jN_sub, jN_addm, jN_div, jN_irm, jN_nat, le_T, le_F, lt_T, lt_F, eq_F, ib_T, ib_F, add_j0, if_true, if_false, eq_self, Bool.false_eq_true, Option.bind_some, pb, jn, Nat.zero_add, Nat.add_zero]; exact not_false), q2_isOver, c_oT hgo, if_pos rfl, ib_T (show d < 4 by omega) (by omega), if_pos rfl, jN_nat (show d < 2147483648 by omega), em]
      simp only [Option.bind_some]
      rw [c1, c5, c7] at k1
      rw [show X5_explore_L1 n (X5_explore n D) (pOf u) (kOf u) (u 4) (u 1) ρ (jN nn) wanted gc gk gw gs gd kl wl sl cl nr (jN d) (jN w) (jN t) n (0 : Int32) (dOf u) (u 0) sc sh fa first steps most many few ever acts mk st = _ from k1]
      rfl
    · rw [X12_goesPlans]
      unfold X12_goesPlans_b
      rw [if_neg (show ¬ jN d = jN N from fun q => by have := (jN_inj (by omega) (by omega)).mp q; omega), es]
      simp only [Option.bind_some]
      rw [show X12_goesPlans_L1 n (X12_goesPlans n D) (jN d) (jN N) (jN w) (jN t) wanted n (0 : Int32) u pile _ plan bp mm mn mf me = _ from k2]
      rfl
    · intro r hr; rw [k7 r hr, hmo r (by omega)]
    · intro i hi; rw [k8 i hi, if_neg (by omega)]
    · obtain ⟨a1, a2, a3⟩ := k9
      refine ⟨a1, a2, ?_⟩
      rcases a3 with z | ⟨c, z1, z2, z3⟩
      · exact Or.inl z
      · exact Or.inr ⟨c, z1, by omega, z3⟩
end SIM
