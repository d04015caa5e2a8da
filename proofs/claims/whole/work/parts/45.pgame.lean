section GAME
variable {n ρ nr : Nat} {gc : Nat → Int32} {gk gw gs gd : Nat → Nat → Int32} {kl wl sl cl : Nat → Nat} {W : Int32 → (Nat → Int32) → Int32}
theorem sim_game (hn : 70 ≤ n) (hC : RC n ρ gc gk gw gs gd kl wl sl cl W) (hr : ρ < nr) {N nn x E : Nat} (hN : N ≤ nn) (hnn : nn ≤ 4) (hx : x ≤ 16) (hE : E ≤ 16) (H1 : ∀ d, d < N → x + d < E) (H2 : N = nn ∨ E ≤ x + N) :
    ∀ (e d D : Nat), d + e = N → e < D → ∀ (u pile saved plan : Nat → Int32) (sc op : Int32) (sh fa : Nat → Int32) (marks st : Nat → Nat → Int32),
    GS u → RM n u W → u 0 = jN (x + d) → u 1 = jN E →
    ∃ (V : Nat) (t' sh' fa' : Nat → Int32) (op' : Int32) (marks' st' : Nat → Nat → Int32) (pile' saved' plan' : Nat → Int32), V ≤ 100 * e ∧
      X5_valueFrom n D (dOf u) (pOf u) (kOf u) (u 4) (u 0) (u 1) sc ρ sh fa op marks (jN nn) gc gk gw gs gd st kl wl sl cl nr (jN d) = some (jN V, dOf t', t' 0, t' 2, sh', fa', op', marks', st') ∧
      X12_playedFrom n D u pile saved plan (jN d) (jN N) = some (jN V, u, pile', saved', plan') ∧
      FG t' u ∧ t' 3 = u 3 ∧ (0 < d → op' = op) ∧ (d = 0 → 0 < e → op' = plan' 0) ∧ (∀ r, r < d → marks' r = marks r) ∧ (∀ i, i < 65 * d → saved' i = saved i) := by
  intro e
  induction e with
  | zero =>
    intro d D hd hD u pile saved plan sc op sh fa marks st hg hM h0 h1
    obtain ⟨D, rfl⟩ : ∃ q, D = q + 1 := ⟨D - 1, by omega⟩
    have hdN : d = N := by omega
    obtain ⟨c1, c2, c3, c4, c5, c6, c7, c8⟩ := cv_neg u sc
    refine ⟨0, upd u 2 sc, sh, fa, op, marks, st, pile, saved, plan, by omega, ?_, ?_, (FG.refl u).up' (Or.inr (Or.inl rfl)), c8, fun _ => rfl, fun _ z => absurd z (by omega), fun _ _ => rfl, fun _ _ => rfl⟩
    · rw [X5_valueFrom]
      unfold X5_valueFrom_b
      rw [c1, c5, c7]
      by_cases hq1 : jN nn ≤ jN d
      · rw [if_pos hq1]; rfl
      · rw [if_neg hq1]
        have hnd : d < nn := by
          rcases Nat.lt_or_ge d nn with q | q
          · exact q
          · exact absurd ((jN_le (by omega) (by omega)).mpr q) hq1
        rw [if_neg (show ¬ (4 : Int32) ≤ jN d by simp (disch := omega) only [jl_0, jl_1, jl_2, jl_3, jl_4, jl_5, jl_6, jl_7, jl_8, jl_9, jl_10, jl_11, jl_12, jl_13, jl_14, jl_15, jl_16, jl_17, jl_18, jl_20, jl_23, jl_29, jl_30, jl_31, jl_32, jl_35, jl_40, jl_48, jl_50, jl_51, jl_57, jl_60, jl_61, jl_63, jl_64, jl_65, jl_89, jl_97, jl_99, jl_100, jl_101, jl_113, jl_122, jl_200, jl_240, jl_241, jl_255, jl_259, jl_260, jl_261, jl_262, jl_313, jl_500, jl_999, jl_10000, jl_10004, jl_10005, jl_10006, jl_10007, jl_10008, jl_10009, jl_10010, jl_10011, jl_10012, jl_10013, jl_10014, jl_10015, jl_10017, jl_10018, jl_10023, jl_12345, jl_1103515245, jN_add, jN_mul, jN_sub, jN_addm, jN_div, jN_irm, jN_nat, le_T, le_F, lt_T, lt_F, eq_F, ib_T, ib_F, add_j0, if_true, if_false, eq_self, Bool.false_eq_true, Option.bind_some, pb, jn, Nat.zero_add, Nat.add_zero]; exact not_false), q2_isOver]
        have hov : ¬ goB u = true := by
          intro q
          have := of_decide_eq_true q
          rw [h0, h1, jN_lt (by omega) (by omega)] at this
          rcases H2 with z | z <;> omega
        rw [c_oF hov, if_neg (by decide)]; rfl
    · rw [X12_playedFrom]
      unfold X12_playedFrom_b
      rw [if_pos (by rw [hdN])]; rfl
  | succ e ih =>
    intro d D hd hD u pile saved plan sc op sh fa marks st hg hM h0 h1
    obtain ⟨D, rfl⟩ : ∃ q, D = q + 1 := ⟨D - 1, by omega⟩
    have hdN : d < N := by omega
    have hxd := H1 d hdN
    obtain ⟨hc, h4⟩ := hg.n
    have hgo : goB u = true := by unfold goB; rw [h0, h1]; exact decide_eq_true ((jN_lt (by omega) (by omega)).mpr hxd)
    obtain ⟨mk, em, hmk, hmo⟩ := c_markp (n := n) (by omega) hg marks d
    have es := m_saves (n := n) hn u saved (d := d) (by omega)
    have loop : ∀ (q a : Nat), a + q = nS u + 1 → ∀ (m m2 : Nat), q < m → q < m2 → ∀ (tt pile saved plan : Nat → Int32) (V : Nat) (ch op0 : Int32) (sh fa : Nat → Int32) (marks st : Nat → Nat → Int32), FG tt u → tt 3 = u 3 → MK (marks d) u (nS u) → (∀ i, i < 65 → saved (65 * d + i) = u i) → V ≤ 100 * (e + 1) → ((a = 0 ∧ ch = -1) ∨ (0 < a ∧ ∃ b, b ≤ 6 ∧ ch = jN b ∧ (d = 0 → op0 = ch))) → (0 < d → op0 = op) →
        ∃ (v v2 : Int32) (V' : Nat) (ch' : Int32) (t' sh' fa' : Nat → Int32) (op' : Int32) (marks' st' : Nat → Nat → Int32) (pile' saved' plan' : Nat → Int32), V' ≤ 100 * (e + 1) ∧
        X5_valueFrom_L1 n (X5_valueFrom n D) (pOf u) (kOf u) (u 4) (u 1) ρ (jN nn) gc gk gw gs gd kl wl sl cl nr (jN d) m (jN V) (jN a) (dOf tt) (tt 0) (tt 2) sh fa op0 marks st = some (jN V', v, dOf t', t' 0, t' 2, sh', fa', op', marks', st') ∧
        X12_playedFrom_L1 n (X12_playedFrom n D) (jN d) (jN N) m2 (jN V) ch (jN a) u pile saved plan = some (jN V', ch', v2, u, pile', saved', plan') ∧
        FG t' u ∧ t' 3 = u 3 ∧ (0 < d → op' = op) ∧ (d = 0 → op' = ch') ∧ (∀ r, r < d → marks' r = marks r) ∧ (∀ i, i < 65 * d → saved' i = saved i) := by
      intro q
      induction q with
      | zero =>
        intro a ha m m2 hm hm2 tt pile saved plan V ch op0 sh fa marks st hft ht3 hmk hsv hV hch hop
        obtain ⟨m, rfl⟩ : ∃ z, m = z + 1 := ⟨m - 1, by omega⟩
        obtain ⟨m2, rfl⟩ : ∃ z, m2 = z + 1 := ⟨m2 - 1, by omega⟩
        have hlt : u 4 < jN a := by rw [h4, jN_lt (by omega) (by omega)]; omega
        refine ⟨jN a, jN a, V, ch, tt, sh, fa, op0, marks, st, pile, saved, plan, hV, by rw [X5_valueFrom_L1, if_pos hlt], by rw [X12_playedFrom_L1, if_pos hlt], hft, ht3, hop, fun z => ?_, fun _ _ => rfl, fun _ _ => rfl⟩
        rcases hch with ⟨q1, -⟩ | ⟨-, b, -, -, q3⟩
        · omega
        · exact q3 z
      | succ q ihq =>
        intro a ha m m2 hm hm2 tt pile saved plan V ch op0 sh fa marks st hft ht3 hmk hsv hV hch hop
        obtain ⟨m, rfl⟩ : ∃ z, m = z + 1 := ⟨m - 1, by omega⟩
        obtain ⟨m2, rfl⟩ : ∃ z, m2 = z + 1 := ⟨m2 - 1, by omega⟩
        have hlt : ¬ u 4 < jN a := by rw [h4, jN_lt (by omega) (by omega)]; omega
        have haS : a ≤ nS u := by omega
        have eb := c_back (n := n) (by omega) hg hft hmk
        obtain ⟨p1, e1⟩ := m_goesBy (W := W) hM hg (by omega) pile haS
        have hE2 := E2.of u (tt 2)
        have hG2 : GS (upd u 2 (tt 2)) := hE2.gs hg
        obtain ⟨c1, c2, c3, c4, c5, c6, c7, c8⟩ := cv_neg u (tt 2)
        have hna : a ≤ nS (upd u 2 (tt 2)) := by rw [hE2.nn]; exact haS
        obtain ⟨sh1, fa1, st1, e2⟩ := c_goBy (W := W) hC hr hG2 (by omega) sh fa st (a := a) hna
        obtain ⟨hw1, hw2⟩ := hE2.go (W := W) a
        rw [c1, c2, c3, c4, c5, c7, hw1, hw2.dOfE, hw2 0 (by omega)] at e2
        have g1 := goW_g (W := W) hg haS (of_decide_eq_true hgo)
        have g2 := goW_G (W := W) hg haS
        have g3 := goW_3 (W := W) hg haS
        have g4 : (goW W u a).2 0 = jN (x + (d + 1)) := by rw [goW_0, h0]; simp (disch := omega) only [jl_0, jl_1, jl_2, jl_3, jl_4, jl_5, jl_6, jl_7, jl_8, jl_9, jl_10, jl_11, jl_12, jl_13, jl_14, jl_15, jl_16, jl_17, jl_18, jl_20, jl_23, jl_29, jl_30, jl_31, jl_32, jl_35, jl_40, jl_48, jl_50, jl_51, jl_57, jl_60, jl_61, jl_63, jl_64, jl_65, jl_89, jl_97, jl_99, jl_100, jl_101, jl_113, jl_122, jl_200, jl_240, jl_241, jl_255, jl_259, jl_260, jl_261, jl_262, jl_313, jl_500, jl_999, jl_10000, jl_10004, jl_10005, jl_10006, jl_10007, jl_10008, jl_10009, jl_10010, jl_10011, jl_10012, jl_10013, jl_10014, jl_10015, jl_10017, jl_10018, jl_10023, jl_12345, jl_1103515245, jN_add, jN_mul, jN_sub, jN_addm, jN_div, jN_irm, jN_nat, le_T, le_F, lt_T, lt_F, eq_F, ib_T, ib_F, add_j0, if_true, if_false, eq_self, Bool.false_eq_true, Option.bind_some, pb, jn, Nat.zero_add, Nat.add_zero]; rfl
        have g5 : (goW W u a).2 1 = jN E := (g2.low (by omega) (by omega) (by omega) (by omega) hc).trans h1
        obtain ⟨y, hy, hy2⟩ := goW_w (W := W) hg haS
        obtain ⟨V1, t1, sh2, fa2, op2, mk2, st2, pi2, sa2, pl2, hV1, f1, f2, f3, f4, f5, f6, f7, f8⟩ := ih (d + 1) D (by omega) (by omega) (goW W u a).2 p1 saved plan ((goW W (upd u 2 (tt 2)) a).2 2) op0 sh1 fa1 marks st1 g1 (hM.go g2 hc) g4 g5
        have hop2 : op2 = op0 := f5 (by omega)
        subst hop2
        have f3' : FG t1 u := f3.trans g2 hc
        have hsv2 : ∀ i, i < 65 → sa2 (65 * d + i) = u i := fun i hi => by rw [f8 _ (by omega)]; exact hsv i hi
        have er := m_restores (n := n) hn (u := (goW W u a).2) (s := u) (l := sa2) (d := d) (by omega) hsv2 (g2.hi hc)
        have hvv : jN y + jN V1 = jN (y + V1) := jN_add _ _
        -- which one is better
        have better : ∃ (Vb : Nat) (chb opb : Int32), Vb ≤ 100 * (e + 1) ∧ (if jN a = 0 then (if jN d = 0 then (jN (y + V1), jN a) else (jN (y + V1), op2)) else (if (if irm (jN d) (2 : Int32) = 0 then (if jN (y + V1) ≤ jN V then (0 : Int32) else 1) else (if jN V ≤ jN (y + V1) then (0 : Int32) else 1)) = 0 then (jN V, op2) else (if jN d = 0 then (jN (y + V1), jN a) else (jN (y + V1), op2)))) = (jN Vb, opb) ∧ ∃ j11 : Int32, (if ch < 0 then some (1 : Int32) else (if irm (jN d) (2 : Int32) = 0 then (if jN (y + V1) ≤ jN V then some (0 : Int32) else some 1) else (if jN V ≤ jN (y + V1) then some (0 : Int32) else some 1))) = some j11 ∧ (if j11 = 0 then ch else jN a) = chb ∧ (if j11 = 0 then jN V else jN (y + V1)) = jN Vb ∧ (∃ b, b ≤ 6 ∧ chb = jN b ∧ (d = 0 → opb = chb)) ∧ (0 < d → opb = op) := by
          have dz : (jN d = 0) = (d = 0) := by rw [show (0 : Int32) = jN 0 from rfl, jN_inj (by omega) (by omega)]
          have az : (jN a = 0) = (a = 0) := by rw [show (0 : Int32) = jN 0 from rfl, jN_inj (by omega) (by omega)]
          have new : ∃ opb, (if jN d = 0 then (jN (y + V1), jN a) else (jN (y + V1), op2)) = (jN (y + V1), opb) ∧ (d = 0 → opb = jN a) ∧ (0 < d → opb = op) := by
            by_cases hd0 : d = 0
            · rw [if_pos (dz ▸ hd0)]; exact ⟨jN a, rfl, fun _ => rfl, fun z => absurd z (by omega)⟩
            · rw [if_neg (fun z => hd0 (dz ▸ z))]; exact ⟨op2, rfl, fun z => absurd z hd0, fun z => hop z⟩
          obtain ⟨opb, n1, n2, n3⟩ := new
          rcases hch with ⟨q1, q2⟩ | ⟨q1, b, q2, q3, q4⟩
          · refine ⟨y + V1, jN a, opb, by omega, ?_, 1, ?_, ?_, ?_, ⟨a, by omega, rfl, n2⟩, n3⟩
            · rw [if_pos (az ▸ q1)]; exact n1
            · rw [q2, if_pos (by decide)]
            · rw [if_neg (by decide)]
            · rw [if_neg (by decide)]
          · have hch0 : ¬ ch < 0 := by rw [q3]; simp (disch := omega) only [jl_0, jl_1, jl_2, jl_3, jl_4, jl_5, jl_6, jl_7, jl_8, jl_9, jl_10, jl_11, jl_12, jl_13, jl_14, jl_15, jl_16, jl_17, jl_18, jl_20, jl_23, jl_29, jl_30, jl_31, jl_32, jl_35, jl_40, jl_48, jl_50, jl_51, jl_57, jl_60, jl_61, jl_63, jl_64, jl_65, jl_89, jl_97, jl_99, jl_100, jl_101, jl_113, jl_122, jl_200, jl_240, jl_241, jl_255, jl_259, jl_260, jl_261, jl_262, jl_313, jl_500, jl_999, jl_10000, jl_10004, jl_10005, jl_10006, jl_10007, jl_10008, jl_10009, jl_10010, jl_10011, jl_10012, jl_10013, jl_10014, jl_10015, jl_10017, jl_10018, jl_10023, jl_12345, jl_1103515245, jN_add, jN_mul, jN_sub, jN_addm, jN_div, jN_irm, jN_nat, le_T, le_F, lt_T, lt_F, eq_F, ib_T, ib_F, add_j0, if_true, if_false, eq_self, Bool.false_eq_true, Option.bind_some, pb, jn, Nat.zero_add, Nat.add_zero]; exact not_false
            rw [if_neg (fun z => absurd (az ▸ z : a = 0) (by omega)), if_neg hch0]
            by_cases hp : irm (jN d) (2 : Int32) = 0
            · rw [if_pos hp, if_pos hp]
              by_cases hq : jN (y + V1) ≤ jN V
              · rw [if_pos hq, if_pos hq, if_pos rfl]
                exact ⟨V, ch, op2, hV, rfl, 0, rfl, by rw [if_pos rfl], by rw [if_pos rfl], ⟨b, q2, q3, q4⟩, hop⟩
              · rw [if_neg hq, if_neg hq, if_neg (show ¬ (1 : Int32) = 0 by decide), n1]
                exact ⟨y + V1, jN a, opb, by omega, rfl, 1, rfl, by rw [if_neg (show ¬ (1 : Int32) = 0 by decide)], by rw [if_neg (show ¬ (1 : Int32) = 0 by decide)], ⟨a, by omega, rfl, n2⟩, n3⟩
            · rw [if_neg hp, if_neg hp]
              by_cases hq : jN V ≤ jN (y + V1)
              · rw [if_pos hq, if_pos hq, if_pos rfl]
                exact ⟨V, ch, op2, hV, rfl, 0, rfl, by rw [if_pos rfl], by rw [if_pos rfl], ⟨b, q2, q3, q4⟩, hop⟩
              · rw [if_neg hq, if_neg hq, if_neg (show ¬ (1 : Int32) = 0 by decide), n1]
                exact ⟨y + V1, jN a, opb, by omega, rfl, 1, rfl, by rw [if_neg (show ¬ (1 : Int32) = 0 by decide)], by rw [if_neg (show ¬ (1 : Int32) = 0 by decide)], ⟨a, by omega, rfl, n2⟩, n3⟩
        obtain ⟨Vb, chb, opb, b0, b1, j11, b2, b3, b4, b5, b6⟩ := better
        obtain ⟨v, v2, V', ch', t', sh', fa', op', mk', st', pi', sa', pl', k0, k1, k2, k3, k4, k5, k6, k7, k8⟩ := ihq (a + 1) (by omega) m m2 (by omega) (by omega) t1 pi2 sa2 pl2 Vb chb opb sh2 fa2 mk2 st2 f3' (f4.trans g3) (by rw [f7 d (by omega)]; exact hmk) hsv2 b0 (Or.inr ⟨by omega, b5⟩) b6
        refine ⟨v, v2, V', ch', t', sh', fa', op', mk', st', pi', sa', pl', k0, ?_, ?_, k3, k4, k5, k6, ?_, ?_⟩
        · rw [X5_valueFrom_L1, if_neg hlt, ib_T (show d < 4 by omega) (by omega), jN_nat (show d < 2147483648 by omega), if_pos rfl, pm_back, eb]
          simp only [Option.bind_some]
          rw [q2_goBy, e2]
          simp only [Option.bind_some, pb]
          rw [hy2, show jN d + 1 = jN (d + 1) from by simp (disch := omega) only [jl_0, jl_1, jl_2, jl_3, jl_4, jl_5, jl_6, jl_7, jl_8, jl_9, jl_10, jl_11, jl_12, jl_13, jl_14, jl_15, jl_16, jl_17, jl_18, jl_20, jl_23, jl_29, jl_30, jl_31, jl_32, jl_35, jl_40, jl_48, jl_50, jl_51, jl_57, jl_60, jl_61, jl_63, jl_64, jl_65, jl_89, jl_97, jl_99, jl_100, jl_101, jl_113, jl_122, jl_200, jl_240, jl_241, jl_255, jl_259, jl_260, jl_261, jl_262, jl_313, jl_500, jl_999, jl_10000, jl_10004, jl_10005, jl_10006, jl_10007, jl_10008, jl_10009, jl_10010, jl_10011, jl_10012, jl_10013, jl_10014, jl_10015, jl_10017, jl_10018, jl_10023, jl_12345, jl_1103515245, jN_add, jN_mul, jN_sub, jN_addm, jN_div, jN_irm, jN_nat, le_T, le_F, lt_T, lt_F, eq_F, ib_T, ib_F, add_j0, if_true, if_false, eq_self, Bool.false_eq_true, Option.bind_some, pb, jn, Nat.zero_add, Nat.add_zero], show jN a + 1 = jN (a + 1) from by simp (disch := omega) only [jl_0, jl_1, jl_2, jl_3, jl_4, jl_5, jl_6, jl_7, jl_8, jl_9, jl_10, jl_11, jl_12, jl_13, jl_14, jl_15, jl_16, jl_17, jl_18, jl_20, jl_23, jl_29, jl_30, jl_31, jl_32, jl_35, jl_40, jl_48, jl_50, jl_51, jl_57, jl_60, jl_61, jl_63, jl_64, jl_65, jl_89, jl_97, jl_99, jl_100, jl_101, jl_113, jl_122, jl_200, jl_240, jl_241, jl_255, jl_259, jl_260, jl_261, jl_262, jl_313, jl_500, jl_999, jl_10000, jl_10004, jl_10005, jl_10006, jl_10007, jl_10008, jl_10009, jl_10010, jl_10011, jl_10012, jl_10013, jl_10014, jl_10015, jl_10017, jl_10018, jl_10023, jl_12345, jl_1103515245, jN_add, jN_mul, jN_sub, jN_addm, jN_div, jN_irm, jN_nat, le_T, le_F, lt_T, lt_F, eq_F, ib_T, ib_F, add_j0, if_true, if_false, eq_self, Bool.false_eq_true, Option.bind_some, pb, jn, Nat.zero_add, Nat.add_zero]]
          rw [g2.pOfE hc, g2.kOfE hc, g2.low (i := 4) (by omega) (by omega) (by omega) (by omega) hc, g2.low (i := 1) (by omega) (by omega) (by omega) (by omega) hc] at f1
          rw [f1]
          simp only [Option.bind_some]
          rw [hvv, b1]
          exact k1
        · rw [X12_playedFrom_L1, if_neg hlt, e1]
          simp only [Option.bind_some, pb]
          rw [hy2, show jN d + 1 = jN (d + 1) from by simp (disch := omega) only [jl_0, jl_1, jl_2, jl_3, jl_4, jl_5, jl_6, jl_7, jl_8, jl_9, jl_10, jl_11, jl_12, jl_13, jl_14, jl_15, jl_16, jl_17, jl_18, jl_20, jl_23, jl_29, jl_30, jl_31, jl_32, jl_35, jl_40, jl_48, jl_50, jl_51, jl_57, jl_60, jl_61, jl_63, jl_64, jl_65, jl_89, jl_97, jl_99, jl_100, jl_101, jl_113, jl_122, jl_200, jl_240, jl_241, jl_255, jl_259, jl_260, jl_261, jl_262, jl_313, jl_500, jl_999, jl_10000, jl_10004, jl_10005, jl_10006, jl_10007, jl_10008, jl_10009, jl_10010, jl_10011, jl_10012, jl_10013, jl_10014, jl_10015, jl_10017, jl_10018, jl_10023, jl_12345, jl_1103515245, jN_add, jN_mul, jN_sub, jN_addm, jN_div, jN_irm, jN_nat, le_T, le_F, lt_T, lt_F, eq_F, ib_T, ib_F, add_j0, if_true, if_false, eq_self, Bool.false_eq_true, Option.bind_some, pb, jn, Nat.zero_add, Nat.add_zero], show jN a + 1 = jN (a + 1) from by simp (disch := omega) only [jl_0, jl_1, jl_2, jl_3, jl_4, jl_5, jl_6, jl_7, jl_8, jl_9, jl_10, jl_11, jl_12, jl_13, jl_14, jl_15, jl_16, jl_17, jl_18, jl_20, jl_23, jl_29, jl_30, jl_31, jl_32, jl_35, jl_40, jl_48, jl_50, jl_51, jl_57, jl_60, jl_61, jl_63, jl_64, jl_65, jl_89, jl_97, jl_99, jl_100, jl_101, jl_113, jl_122, jl_200, jl_240, jl_241, jl_255, jl_259, jl_260, jl_261, jl_262, jl_313, jl_500, jl_999, jl_10000, jl_10004, jl_10005, jl_10006, jl_10007, jl_10008, jl_10009, jl_10010, jl_10011, jl_10012, jl_10013, jl_10014, jl_10015, jl_10017, jl_10018, jl_10023, jl_12345, jl_1103515245, jN_add, jN_mul, jN_sub, jN_addm, jN_div, jN_irm, jN_nat, le_T, le_F, lt_T, lt_F, eq_F, ib_T, ib_F, add_j0, if_true, if_false, eq_self, Bool.false_eq_true, Option.bind_some, pb, jn, Nat.zero_add, Nat.add_zero], f2]
          simp only [Option.bind_some]
          rw [er]
          simp only [Option.bind_some, jn]
          rw [hvv, b2]
          simp only [Option.bind_some]
          rw [b3, b4]
          exact k2
        · intro r hr; rw [k7 r hr, f7 r (by omega)]
        · intro i hi; rw [k8 i hi, f8 i (by omega)]
    obtain ⟨c1, c2, c3, c4, c5, c6, c7, c8⟩ := cv_neg u sc
    obtain ⟨v, v2, V', ch', t', sh', fa', op', mk', st', pi', sa', pl', k0, k1, k2, k3, k4, k5, k6, k7, k8⟩ := loop (nS u + 1) 0 (by omega) n n (by omega) (by omega) (upd u 2 sc) pile (fun i => if 65 * d ≤ i ∧ i < 65 * d + 65 then u (i - 65 * d) else saved i) plan 0 (-1) op sh fa mk st ((FG.refl u).up' (Or.inr (Or.inl rfl))) c8 hmk (fun i hi => by
      show (if 65 * d ≤ 65 * d + i ∧ 65 * d + i < 65 * d + 65 then u (65 * d + i - 65 * d) else saved (65 * d + i)) = u i
      rw [if_pos (by omega)]; congr 1; omega) (by omega) (Or.inl ⟨rfl, rfl⟩) (fun _ => rfl)
    refine ⟨V', t', sh', fa', op', mk', st', pi', sa', upd pl' d ch', k0, ?_, ?_, k3, k4, k5, fun z _ => ?_, ?_, ?_⟩
    · rw [X5_valueFrom]
      unfold X5_valueFrom_b
      rw [if_neg (show ¬ jN nn ≤ jN d by simp (disch := omega) only [jl_0, jl_1, jl_2, jl_3, jl_4, jl_5, jl_6, jl_7, jl_8, jl_9, jl_10, jl_11, jl_12, jl_13, jl_14, jl_15, jl_16, jl_17, jl_18, jl_20, jl_23, jl_29, jl_30, jl_31, jl_32, jl_35, jl_40, jl_48, jl_50, jl_51, jl_57, jl_60, jl_61, jl_63, jl_64, jl_65, jl_89, jl_97, jl_99, jl_100, jl_101, jl_113, jl_122, jl_200, jl_240, jl_241, jl_255, jl_259, jl_260, jl_261, jl_262, jl_313, jl_500, jl_999, jl_10000, jl_10004, jl_10005, jl_10006, jl_10007, jl_10008, jl_10009, jl_10010, jl_10011, jl_10012, jl_10013, jl_10014, jl_10015, jl_10017, jl_10018, jl_10023, jl_12345, jl_1103515245, jN_add, jN_mul, jN_sub, jN_addm, jN_div, jN_irm, jN_nat, le_T, le_F, lt_T, lt_F, eq_F, ib_T, ib_F, add_j0, if_true, if_false, eq_self, Bool.false_eq_true, Option.bind_some, pb, jn, Nat.zero_add, Nat.add_zero]; exact not_false), if_neg (show ¬ (4 : Int32) ≤ jN d by simp (disch := omega) only [jl_0, jl_1, jl_2, jl_3, jl_4, jl_5, jl_6, jl_7, jl_8, jl_9, jl_10, jl_11, jl_12, jl_13, jl_14, jl_15, jl_16, jl_17, jl_18, jl_20, jl_23, jl_29, jl_30, jl_31, jl_32, jl_35, jl_40, jl_48, jl_50, jl_51, jl_57, jl_60, jl_61, jl_63, jl_64, jl_65, jl_89, jl_97, jl_99, jl_100, jl_101, jl_113, jl_122, jl_200, jl_240, jl_241, jl_255, jl_259, jl_260, jl_261, jl_262, jl_313, jl_500, jl_999, jl_10000, jl_10004, jl_10005, jl_10006, jl_10007, jl_10008, jl_10009, jl_10010, jl_10011, jl_10012, jl_10013, jl_10014, jl_10015, jl_10017, jl_10018, jl_10023, jl_12345, jl_1103515245, jN_add, jN_mul, jN_sub, jN_addm, jN_div, jN_irm, jN_nat, le_T, le_F, lt_T, lt_F, eq_F, ib_T, ib_F, add_j0, if_true, if_false, eq_self, Bool.false_eq_true, Option.bind_some, pb, jn, Nat.zero_add, Nat.add_zero]; exact not_false), q2_isOver, c_oT hgo, if_pos rfl, ib_T (show d < 4 by omega) (by omega), if_pos rfl, jN_nat (show d < 2147483648 by omega), em]
      simp only [Option.bind_some]
      rw [c1, c5, c7] at k1
      rw [show X5_valueFrom_L1 n (X5_valueFrom n D) (pOf u) (kOf u) (u 4) (u 1) ρ (jN nn) gc gk gw gs gd kl wl sl cl nr (jN d) n (0 : Int32) (0 : Int32) (dOf u) (u 0) sc sh fa op mk st = _ from k1]
      rfl
    · rw [X12_playedFrom]
      unfold X12_playedFrom_b
      rw [if_neg (show ¬ jN d = jN N from fun q => by have := (jN_inj (by omega) (by omega)).mp q; omega), es]
      simp only [Option.bind_some]
      rw [show X12_playedFrom_L1 n (X12_playedFrom n D) (jN d) (jN N) n (0 : Int32) (-1 : Int32) (0 : Int32) u pile _ plan = _ from k2]
      simp only [Option.bind_some]
      rw [ib_T (show d < 4 by omega) (by omega), if_pos rfl, jN_nat (show d < 2147483648 by omega)]
    · subst z; rw [upd_s]; exact k6 rfl
    · intro r hr; rw [k7 r hr, hmo r (by omega)]
    · intro i hi; rw [k8 i hi, if_neg (by omega)]
end GAME
