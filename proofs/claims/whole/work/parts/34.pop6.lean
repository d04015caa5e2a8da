section OPS6
variable {n ρ nr : Nat} {gc : Nat → Int32} {gk gw gs gd : Nat → Nat → Int32} {kl wl sl cl : Nat → Nat} {W : Int32 → (Nat → Int32) → Int32} {s : Nat → Int32}
theorem sq_go2 {u b : Nat → Int32} (h : FG u b) (hn : nS b ≤ 6) (hp : pOf b = pOf s) (hk : kOf b = kOf s) (hr : rOf b = rOf s) (h4 : b 4 = s 4) (h1 : b 1 = s 1) (h6 : b 6 = s 6) : SQ (dOf u) (pOf s) (kOf s) (rOf s) (s 4) (u 0) (s 1) (u 2) (s 6) (u 3) u := by
  have := sq_go h hn
  rw [hp, hk, hr, h4, h1, h6] at this
  exact this
/-! the dearest -/
def deX (p : Int32 × Int32) (w : Int32) (v : Nat) : Int32 × Int32 := if w ≤ p.2 then p else (jN v, w)
def deW (W : Int32 → (Nat → Int32) → Int32) (s : Nat → Int32) (k f v : Nat) : Int32 := (reF W 16 (0, upd s (iD k f) (jN v))).1
def deF (W : Int32 → (Nat → Int32) → Int32) (s : Nat → Int32) (k f : Nat) : Nat → Int32 × Int32
  | 0 => (0, -1)
  | v + 1 => deX (deF W s k f v) (deW W s k f v) v
theorem dr_i (h : GS s) {k f : Nat} {v : Int32} (hk : k < 6) (hf : f = 2 ∨ f = 3) (hb : NB (bd (iD k f)) v) : GS (upd s (iD k f) v) ∧ nS (upd s (iD k f) v) = nS s ∧ pOf (upd s (iD k f) v) = pOf s ∧ kOf (upd s (iD k f) v) = kOf s ∧ rOf (upd s (iD k f) v) = rOf s ∧ (∀ i, i < 35 ∨ 65 ≤ i → upd s (iD k f) v i = s i) := by
  have hi : 35 ≤ iD k f ∧ iD k f < 65 := by unfold iD; omega
  refine ⟨h.up (Or.inr hb), ?_, pOf_D (by omega), kOf_D (by omega), rOf_D (by omega), fun i q => upd_n (by omega)⟩
  unfold nS; rw [upd_n (by omega)]
theorem m_best1 (hn : 70 ≤ n) (hM : RM n s W) (h : GS s) {k f M : Nat} (hk : k < 6) (hf : f = 2 ∨ f = 3) (hM9 : M ≤ 9) (hb : ∀ v, v ≤ M → NB (bd (iD k f)) (jN v)) {l : Nat → Int32} (hl : ∀ i, i < 65 → l i = s i) : ∀ (d m j : Nat) (pile : Nat → Int32), j + d = M + 1 → d < m → ∃ a v pile', X12_bestFor_L1 n l (jN k) (jN f) (jN M) m (deF W s k f j).1 (deF W s k f j).2 (jN j) s pile = some ((deF W s k f (M + 1)).1, a, v, s, pile') := by
  intro d
  induction d with
  | zero =>
    intro m j pile hj hm; obtain ⟨m, rfl⟩ : ∃ q, m = q + 1 := ⟨m - 1, by omega⟩
    have hjM : j = M + 1 := by omega
    subst hjM
    refine ⟨(deF W s k f (M + 1)).2, jN (M + 1), pile, ?_⟩
    rw [X12_bestFor_L1, if_pos (show jN M < jN (M + 1) by simp (disch := omega) only [jl_0, jl_1, jl_2, jl_3, jl_4, jl_5, jl_6, jl_7, jl_8, jl_9, jl_10, jl_11, jl_12, jl_13, jl_14, jl_15, jl_16, jl_17, jl_18, jl_20, jl_23, jl_29, jl_30, jl_31, jl_32, jl_35, jl_40, jl_48, jl_50, jl_51, jl_57, jl_60, jl_61, jl_63, jl_64, jl_65, jl_89, jl_97, jl_99, jl_100, jl_101, jl_113, jl_122, jl_200, jl_240, jl_241, jl_255, jl_259, jl_260, jl_261, jl_262, jl_313, jl_500, jl_999, jl_10000, jl_10004, jl_10005, jl_10006, jl_10007, jl_10008, jl_10009, jl_10010, jl_10011, jl_10012, jl_10013, jl_10014, jl_10015, jl_10017, jl_10018, jl_10023, jl_12345, jl_1103515245, jN_add, jN_mul, jN_sub, jN_addm, jN_div, jN_irm, jN_nat, le_T, le_F, lt_T, lt_F, eq_F, ib_T, ib_F, add_j0, if_true, if_false, eq_self, Bool.false_eq_true, Option.bind_some, pb, jn, Nat.zero_add, Nat.add_zero])]
  | succ d ih =>
    intro m j pile hj hm; obtain ⟨m, rfl⟩ : ∃ q, m = q + 1 := ⟨m - 1, by omega⟩
    obtain ⟨g1, g2, g3, g4, g5, g6⟩ := dr_i h (v := jN j) hk hf (hb j (by omega))
    have hn6 : nS (upd s (iD k f) (jN j)) ≤ 6 := by rw [g2]; exact h.n.1
    obtain ⟨p, e1⟩ := m_rest (W := W) (by omega) (hM.cg (fun i hi => g6 i (by omega))) g1 16 (by omega) pile
    obtain ⟨q1, q2, q3⟩ := reF_i (W := W) g1 16 0
    obtain ⟨a, v, p2, e2⟩ := ih m (j + 1) p (by omega) (by omega)
    refine ⟨a, v, p2, ?_⟩
    rw [X12_bestFor_L1, if_neg (show ¬ jN M < jN j by simp (disch := omega) only [jl_0, jl_1, jl_2, jl_3, jl_4, jl_5, jl_6, jl_7, jl_8, jl_9, jl_10, jl_11, jl_12, jl_13, jl_14, jl_15, jl_16, jl_17, jl_18, jl_20, jl_23, jl_29, jl_30, jl_31, jl_32, jl_35, jl_40, jl_48, jl_50, jl_51, jl_57, jl_60, jl_61, jl_63, jl_64, jl_65, jl_89, jl_97, jl_99, jl_100, jl_101, jl_113, jl_122, jl_200, jl_240, jl_241, jl_255, jl_259, jl_260, jl_261, jl_262, jl_313, jl_500, jl_999, jl_10000, jl_10004, jl_10005, jl_10006, jl_10007, jl_10008, jl_10009, jl_10010, jl_10011, jl_10012, jl_10013, jl_10014, jl_10015, jl_10017, jl_10018, jl_10023, jl_12345, jl_1103515245, jN_add, jN_mul, jN_sub, jN_addm, jN_div, jN_irm, jN_nat, le_T, le_F, lt_T, lt_F, eq_F, ib_T, ib_F, add_j0, if_true, if_false, eq_self, Bool.false_eq_true, Option.bind_some, pb, jn, Nat.zero_add, Nat.add_zero]; exact not_false), m_puts hk (by omega)]
    simp only [Option.bind_some]
    rw [show (16 : Int32) = jN 16 from rfl, e1]
    simp only [Option.bind_some, pb]
    rw [m_laid (by omega) hl (fun i hi => (q2.hi hn6 i hi).trans (g6 i (by omega)))]
    simp only [Option.bind_some]
    rw [← e2, show jN j + 1 = jN (j + 1) from by simp (disch := omega) only [jl_0, jl_1, jl_2, jl_3, jl_4, jl_5, jl_6, jl_7, jl_8, jl_9, jl_10, jl_11, jl_12, jl_13, jl_14, jl_15, jl_16, jl_17, jl_18, jl_20, jl_23, jl_29, jl_30, jl_31, jl_32, jl_35, jl_40, jl_48, jl_50, jl_51, jl_57, jl_60, jl_61, jl_63, jl_64, jl_65, jl_89, jl_97, jl_99, jl_100, jl_101, jl_113, jl_122, jl_200, jl_240, jl_241, jl_255, jl_259, jl_260, jl_261, jl_262, jl_313, jl_500, jl_999, jl_10000, jl_10004, jl_10005, jl_10006, jl_10007, jl_10008, jl_10009, jl_10010, jl_10011, jl_10012, jl_10013, jl_10014, jl_10015, jl_10017, jl_10018, jl_10023, jl_12345, jl_1103515245, jN_add, jN_mul, jN_sub, jN_addm, jN_div, jN_irm, jN_nat, le_T, le_F, lt_T, lt_F, eq_F, ib_T, ib_F, add_j0, if_true, if_false, eq_self, Bool.false_eq_true, Option.bind_some, pb, jn, Nat.zero_add, Nat.add_zero]]
    show X12_bestFor_L1 n l (jN k) (jN f) (jN M) m (if deW W s k f j ≤ (deF W s k f j).2 then (deF W s k f j).1 else jN j) (if deW W s k f j ≤ (deF W s k f j).2 then (deF W s k f j).2 else deW W s k f j) (jN (j + 1)) s p = X12_bestFor_L1 n l (jN k) (jN f) (jN M) m (deX (deF W s k f j) (deW W s k f j) j).1 (deX (deF W s k f j) (deW W s k f j) j).2 (jN (j + 1)) s p
    unfold deX
    by_cases hq : deW W s k f j ≤ (deF W s k f j).2
    · rw [if_pos hq, if_pos hq, if_pos hq]
    · rw [if_neg hq, if_neg hq, if_neg hq]
theorem c_dear1 (hn : 70 ≤ n) (hC : RC n ρ gc gk gw gs gd kl wl sl cl W) (hr : ρ < nr) (h : GS s) {k f M : Nat} (hk : k < 6) (hf : f = 2 ∨ f = 3) (hM9 : M ≤ 9) (hmo : X11_mostOf (jN f) = jN M) (hb : ∀ v, v ≤ M → NB (bd (iD k f)) (jN v)) {mk : Nat → Int32} (hmk : MK mk s (nS s)) : ∀ (d m j : Nat) (t : Nat → Int32) (y : Int32) (sh fa : Nat → Int32) (st : Nat → Nat → Int32), NB (bd (iD k f)) y → FG t (upd s (iD k f) y) → t 3 = s 3 → j + d = M + 1 → d < m → ∃ a v t' y' sh' fa' st', X11_dearest_L1 n (pOf s) (kOf s) (s 4) (s 1) ρ mk gc gk gw gs gd kl wl sl cl nr (jN k) (jN f) m (deF W s k f j).1 (deF W s k f j).2 (jN j) (dOf t) (t 0) (t 2) sh fa st = some ((deF W s k f (M + 1)).1, a, v, dOf t', t' 0, t' 2, sh', fa', st') ∧ NB (bd (iD k f)) y' ∧ FG t' (upd s (iD k f) y') ∧ t' 3 = s 3 := by
  intro d
  induction d with
  | zero =>
    intro m j t y sh fa st hy hft ht3 hj hm; obtain ⟨m, rfl⟩ : ∃ q, m = q + 1 := ⟨m - 1, by omega⟩
    have hjM : j = M + 1 := by omega
    subst hjM
    refine ⟨(deF W s k f (M + 1)).2, jN (M + 1), t, y, sh, fa, st, ?_, hy, hft, ht3⟩
    rw [X11_dearest_L1, hmo, if_pos (show jN M < jN (M + 1) by simp (disch := omega) only [jl_0, jl_1, jl_2, jl_3, jl_4, jl_5, jl_6, jl_7, jl_8, jl_9, jl_10, jl_11, jl_12, jl_13, jl_14, jl_15, jl_16, jl_17, jl_18, jl_20, jl_23, jl_29, jl_30, jl_31, jl_32, jl_35, jl_40, jl_48, jl_50, jl_51, jl_57, jl_60, jl_61, jl_63, jl_64, jl_65, jl_89, jl_97, jl_99, jl_100, jl_101, jl_113, jl_122, jl_200, jl_240, jl_241, jl_255, jl_259, jl_260, jl_261, jl_262, jl_313, jl_500, jl_999, jl_10000, jl_10004, jl_10005, jl_10006, jl_10007, jl_10008, jl_10009, jl_10010, jl_10011, jl_10012, jl_10013, jl_10014, jl_10015, jl_10017, jl_10018, jl_10023, jl_12345, jl_1103515245, jN_add, jN_mul, jN_sub, jN_addm, jN_div, jN_irm, jN_nat, le_T, le_F, lt_T, lt_F, eq_F, ib_T, ib_F, add_j0, if_true, if_false, eq_self, Bool.false_eq_true, Option.bind_some, pb, jn, Nat.zero_add, Nat.add_zero])]
  | succ d ih =>
    intro m j t y sh fa st hy hft ht3 hj hm; obtain ⟨m, rfl⟩ : ∃ q, m = q + 1 := ⟨m - 1, by omega⟩
    obtain ⟨b1, b2, b3, b4, b5, b6⟩ := dr_i h (v := y) hk hf hy
    obtain ⟨g1, g2, g3, g4, g5, g6⟩ := dr_i h (v := jN j) hk hf (hb j (by omega))
    have hn6 : nS (upd s (iD k f) (jN j)) ≤ 6 := by rw [g2]; exact h.n.1
    have hmk' : MK mk (upd s (iD k f) y) (nS (upd s (iD k f) y)) := by
      rw [b2]
      refine ⟨by rw [b6 0 (by omega)]; exact hmk.1, fun q hq => ?_⟩
      rw [upd_n (by unfold iD; omega), upd_n (by unfold iD; omega)]; exact hmk.2 q hq
    have e1 := c_back (n := n) (by omega) b1 hft hmk'
    rw [b6 4 (by omega), b6 0 (by omega)] at e1
    -- the square for the next value, with the score that has run up
    have hE := E2.of (upd s (iD k f) (jN j)) (t 2)
    have hG : GS (upd (upd s (iD k f) (jN j)) 2 (t 2)) := hE.gs g1
    obtain ⟨a, b, c, e2⟩ := c_rest (W := W) (by omega) hC hr hG 16 (by omega) sh fa st
    have hw := (hE.re (W := W) 16 0).1
    rw [hE.dOfE, hE.pOfE, hE.kOfE, g3, g4, hE 4 (by omega), hE 0 (by omega), hE 1 (by omega), upd_s, g6 4 (by omega), g6 0 (by omega), g6 1 (by omega), hw] at e2
    obtain ⟨q1, q2, q3⟩ := reF_i (W := W) hG 16 0
    have hn6' : nS (upd (upd s (iD k f) (jN j)) 2 (t 2)) ≤ 6 := by rw [hE.nn]; exact hn6
    have q2' : FG (reF W 16 (0, upd (upd s (iD k f) (jN j)) 2 (t 2))).2 (upd s (iD k f) (jN j)) := q2.trans ((FG.refl _).up' (Or.inr (Or.inl rfl))) hn6
    have q3' : (reF W 16 (0, upd (upd s (iD k f) (jN j)) 2 (t 2))).2 3 = s 3 := by rw [q3, upd_n (by omega), g6 3 (by omega)]
    obtain ⟨a2, v2, t2, y2, sh2, fa2, st2, e3, r1, r2, r3⟩ := ih m (j + 1) _ (jN j) a b c (hb j (by omega)) q2' q3' (by omega) (by omega)
    refine ⟨a2, v2, t2, y2, sh2, fa2, st2, ?_, r1, r2, r3⟩
    rw [X11_dearest_L1, hmo, if_neg (show ¬ jN M < jN j by simp (disch := omega) only [jl_0, jl_1, jl_2, jl_3, jl_4, jl_5, jl_6, jl_7, jl_8, jl_9, jl_10, jl_11, jl_12, jl_13, jl_14, jl_15, jl_16, jl_17, jl_18, jl_20, jl_23, jl_29, jl_30, jl_31, jl_32, jl_35, jl_40, jl_48, jl_50, jl_51, jl_57, jl_60, jl_61, jl_63, jl_64, jl_65, jl_89, jl_97, jl_99, jl_100, jl_101, jl_113, jl_122, jl_200, jl_240, jl_241, jl_255, jl_259, jl_260, jl_261, jl_262, jl_313, jl_500, jl_999, jl_10000, jl_10004, jl_10005, jl_10006, jl_10007, jl_10008, jl_10009, jl_10010, jl_10011, jl_10012, jl_10013, jl_10014, jl_10015, jl_10017, jl_10018, jl_10023, jl_12345, jl_1103515245, jN_add, jN_mul, jN_sub, jN_addm, jN_div, jN_irm, jN_nat, le_T, le_F, lt_T, lt_F, eq_F, ib_T, ib_F, add_j0, if_true, if_false, eq_self, Bool.false_eq_true, Option.bind_some, pb, jn, Nat.zero_add, Nat.add_zero]; exact not_false), e1]
    simp only [Option.bind_some]
    rw [ib_T hk (by omega), ib_T (show f < 5 by omega) (by omega), jN_nat (by omega), jN_nat (show f < 2147483648 by omega), dOf_up hk (by omega), upd_upd, q2_rest, if_pos rfl, if_pos rfl, show (16 : Int32) = jN 16 from rfl, e2]
    simp only [Option.bind_some, pb]
    rw [← e3, show jN j + 1 = jN (j + 1) from by simp (disch := omega) only [jl_0, jl_1, jl_2, jl_3, jl_4, jl_5, jl_6, jl_7, jl_8, jl_9, jl_10, jl_11, jl_12, jl_13, jl_14, jl_15, jl_16, jl_17, jl_18, jl_20, jl_23, jl_29, jl_30, jl_31, jl_32, jl_35, jl_40, jl_48, jl_50, jl_51, jl_57, jl_60, jl_61, jl_63, jl_64, jl_65, jl_89, jl_97, jl_99, jl_100, jl_101, jl_113, jl_122, jl_200, jl_240, jl_241, jl_255, jl_259, jl_260, jl_261, jl_262, jl_313, jl_500, jl_999, jl_10000, jl_10004, jl_10005, jl_10006, jl_10007, jl_10008, jl_10009, jl_10010, jl_10011, jl_10012, jl_10013, jl_10014, jl_10015, jl_10017, jl_10018, jl_10023, jl_12345, jl_1103515245, jN_add, jN_mul, jN_sub, jN_addm, jN_div, jN_irm, jN_nat, le_T, le_F, lt_T, lt_F, eq_F, ib_T, ib_F, add_j0, if_true, if_false, eq_self, Bool.false_eq_true, Option.bind_some, pb, jn, Nat.zero_add, Nat.add_zero]]
    rfl
theorem o_dear (hn : 70 ≤ n) (hC : RC n ρ gc gk gw gs gd kl wl sl cl W) (hr : ρ < nr) (h : GS s) {k f M : Nat} (hk : k < 6) (hf : f = 2 ∨ f = 3) (hM9 : M ≤ 9) (hmo : X11_mostOf (jN f) = jN M) (hb : ∀ v, v ≤ M → NB (bd (iD k f)) (jN v)) (s2 : Nat → Int32) (sh fa mk : Nat → Int32) (st : Nat → Nat → Int32) :
    ∃ d2 p2 k2 r2 c2 ch2 e2 sc2 rc2 z2 ρ2' sh' fa' mk' st' u2, X11_dearest n (dOf s) (pOf s) (kOf s) (rOf s) (s 4) (s 0) (s 1) (s 2) (s 6) (s 3) ρ (dOf s2) (pOf s2) (kOf s2) (rOf s2) sh fa mk gc gk gw gs gd st kl wl sl cl nr (jN k) (jN f) = some ((deF W s k f (M + 1)).1, d2, p2, k2, r2, c2, ch2, e2, sc2, rc2, z2, ρ2', sh', fa', mk', st') ∧ ρ2' < nr ∧ SQ d2 p2 k2 r2 c2 ch2 e2 sc2 rc2 z2 u2 := by
  obtain ⟨m, e1, hm⟩ := c_mark (n := n) (by omega) h mk
  have hself : upd s (iD k f) (s (iD k f)) = s := upd_self rfl
  have hyy : NB (bd (iD k f)) (s (iD k f)) := by
    rcases hf with rfl | rfl
    · rw [bd_D2 hk]; exact h.pride hk
    · rw [bd_D3 hk]; exact h.spot hk
  obtain ⟨a, v, t', y', sh', fa', st', e2, r1, r2, r3⟩ := c_dear1 (W := W) hn hC hr h hk hf hM9 hmo hb hm (M + 1) n 0 s (s (iD k f)) sh fa st hyy (by rw [hself]; exact FG.refl s) rfl (by omega) (by omega)
  obtain ⟨b1, b2, b3, b4, b5, b6⟩ := dr_i h (v := y') hk hf r1
  have hsq := sq_go2 (s := s) r2 (by rw [b2]; exact h.n.1) b3 b4 b5 (b6 4 (by omega)) (b6 1 (by omega)) (b6 6 (by omega))
  rw [r3] at hsq
  refine ⟨_, _, _, _, _, _, _, _, _, _, ρ, sh', fa', m, st', t', ?_, hr, hsq⟩
  unfold X11_dearest
  rw [c_copy (by omega) s s2 hr]
  simp only [Option.bind_some]
  rw [e1]
  simp only [Option.bind_some]
  rw [show (-1 : Int32) = (deF W s k f 0).2 from rfl, show X11_dearest_L1 n (pOf s) (kOf s) (s 4) (s 1) ρ m gc gk gw gs gd kl wl sl cl nr (jN k) (jN f) n (0 : Int32) (deF W s k f 0).2 (0 : Int32) (dOf s) (s 0) (s 2) sh fa st = _ from e2]
  rfl
theorem o_prideFor (hn : 70 ≤ n) (hC : RC n ρ gc gk gw gs gd kl wl sl cl W) (hr : ρ < nr) (hM : RM n s W) (h : GS s) (s2 : Nat → Int32) {ρ2 : Nat} (hr2 : ρ2 < nr) (sh fa mk : Nat → Int32) (st : Nat → Nat → Int32) (laid pile : Nat → Int32) (v1 : Int32) :
    ∃ r d2 p2 k2 r2 c2 ch2 e2 sc2 rc2 z2 ρ2' sh' fa' mk' st' u2 laid' pile', X11_prideFor n (dOf s) (pOf s) (kOf s) (rOf s) (s 4) (s 0) (s 1) (s 2) (s 6) (s 3) ρ (dOf s2) (pOf s2) (kOf s2) (rOf s2) (s2 4) (s2 0) (s2 1) (s2 2) (s2 6) (s2 3) ρ2 sh fa mk gc gk gw gs gd st kl wl sl cl nr v1 = some (r, d2, p2, k2, r2, c2, ch2, e2, sc2, rc2, z2, ρ2', sh', fa', mk', st') ∧ X12_prideFor n s laid pile v1 = some (r, s, laid', pile') ∧ ρ2' < nr ∧ SQ d2 p2 k2 r2 c2 ch2 e2 sc2 rc2 z2 u2 := by
  unfold X11_prideFor X12_prideFor X12_bestFor
  rcases has_or h v1 with ⟨e1, e2⟩ | ⟨k, hk, rfl, e1, e2⟩
  · exact ⟨-1, _, _, _, _, _, _, _, _, _, _, ρ2, sh, fa, mk, st, s2, laid, pile, by simp (disch := omega) only [jl_0, jl_1, jl_2, jl_3, jl_4, jl_5, jl_6, jl_7, jl_8, jl_9, jl_10, jl_11, jl_12, jl_13, jl_14, jl_15, jl_16, jl_17, jl_18, jl_20, jl_23, jl_29, jl_30, jl_31, jl_32, jl_35, jl_40, jl_48, jl_50, jl_51, jl_57, jl_60, jl_61, jl_63, jl_64, jl_65, jl_89, jl_97, jl_99, jl_100, jl_101, jl_113, jl_122, jl_200, jl_240, jl_241, jl_255, jl_259, jl_260, jl_261, jl_262, jl_313, jl_500, jl_999, jl_10000, jl_10004, jl_10005, jl_10006, jl_10007, jl_10008, jl_10009, jl_10010, jl_10011, jl_10012, jl_10013, jl_10014, jl_10015, jl_10017, jl_10018, jl_10023, jl_12345, jl_1103515245, jN_add, jN_mul, jN_sub, jN_addm, jN_div, jN_irm, jN_nat, le_T, le_F, lt_T, lt_F, eq_F, ib_T, ib_F, add_j0, if_true, if_false, eq_self, Bool.false_eq_true, Option.bind_some, pb, jn, Nat.zero_add, Nat.add_zero, e2], by simp (disch := omega) only [jl_0, jl_1, jl_2, jl_3, jl_4, jl_5, jl_6, jl_7, jl_8, jl_9, jl_10, jl_11, jl_12, jl_13, jl_14, jl_15, jl_16, jl_17, jl_18, jl_20, jl_23, jl_29, jl_30, jl_31, jl_32, jl_35, jl_40, jl_48, jl_50, jl_51, jl_57, jl_60, jl_61, jl_63, jl_64, jl_65, jl_89, jl_97, jl_99, jl_100, jl_101, jl_113, jl_122, jl_200, jl_240, jl_241, jl_255, jl_259, jl_260, jl_261, jl_262, jl_313, jl_500, jl_999, jl_10000, jl_10004, jl_10005, jl_10006, jl_10007, jl_10008, jl_10009, jl_10010, jl_10011, jl_10012, jl_10013, jl_10014, jl_10015, jl_10017, jl_10018, jl_10023, jl_12345, jl_1103515245, jN_add, jN_mul, jN_sub, jN_addm, jN_div, jN_irm, jN_nat, le_T, le_F, lt_T, lt_F, eq_F, ib_T, ib_F, add_j0, if_true, if_false, eq_self, Bool.false_eq_true, Option.bind_some, pb, jn, Nat.zero_add, Nat.add_zero, e1], hr2, SQ.rf s2⟩
  have hk6 : k < 6 := by have := h.n.1; omega
  have hb : ∀ v, v ≤ 9 → NB (bd (iD k 2)) (jN v) := fun v hv => by rw [bd_D2 hk6]; exact ⟨v, hv, rfl⟩
  obtain ⟨d2, p2, k2, r2, c2, ch2, en2, sc2, rc2, z2, ρ2', sh', fa', mk', st', u2, e3, q1, q2⟩ := o_dear (W := W) hn hC hr h hk6 (Or.inl rfl) (by omega) (show X11_mostOf (jN 2) = jN 9 from rfl) hb s2 sh fa mk st
  obtain ⟨a, v, p, e4⟩ := m_best1 (W := W) hn hM h hk6 (Or.inl rfl) (by omega) hb (dn65 s laid) 10 n 0 pile (by omega) (by omega)
  refine ⟨(deF W s k 2 (9 + 1)).1, d2, p2, k2, r2, c2, ch2, en2, sc2, rc2, z2, ρ2', sh', fa', mk', st', u2, (fun i => if i < 65 then s i else laid i), p, ?_, ?_, q1, q2⟩
  rotate_left 1
  · rw [e1, if_neg (show ¬ jN 1 = 0 by decide), m_down (by omega)]
    simp only [Option.bind_some]
    rw [show X12_bestFor_L1 n (fun i => if i < 65 then s i else laid i) (jN k) (2 : Int32) (9 : Int32) n (0 : Int32) (-1 : Int32) (0 : Int32) s pile = _ from e4]
    simp only [Option.bind_some]
  · rw [e2, if_neg (show ¬ jN 1 = 0 by decide), show (2 : Int32) = jN 2 from rfl, e3]; simp only [Option.bind_some]
theorem o_spotFor (hn : 70 ≤ n) (hC : RC n ρ gc gk gw gs gd kl wl sl cl W) (hr : ρ < nr) (hM : RM n s W) (h : GS s) (s2 : Nat → Int32) {ρ2 : Nat} (hr2 : ρ2 < nr) (sh fa mk : Nat → Int32) (st : Nat → Nat → Int32) (laid pile : Nat → Int32) (v1 : Int32) :
    ∃ r d2 p2 k2 r2 c2 ch2 e2 sc2 rc2 z2 ρ2' sh' fa' mk' st' u2 laid' pile', X11_spotFor n (dOf s) (pOf s) (kOf s) (rOf s) (s 4) (s 0) (s 1) (s 2) (s 6) (s 3) ρ (dOf s2) (pOf s2) (kOf s2) (rOf s2) (s2 4) (s2 0) (s2 1) (s2 2) (s2 6) (s2 3) ρ2 sh fa mk gc gk gw gs gd st kl wl sl cl nr v1 = some (r, d2, p2, k2, r2, c2, ch2, e2, sc2, rc2, z2, ρ2', sh', fa', mk', st') ∧ X12_spotFor n s laid pile v1 = some (r, s, laid', pile') ∧ ρ2' < nr ∧ SQ d2 p2 k2 r2 c2 ch2 e2 sc2 rc2 z2 u2 := by
  unfold X11_spotFor X12_spotFor X12_bestFor
  rcases has_or h v1 with ⟨e1, e2⟩ | ⟨k, hk, rfl, e1, e2⟩
  · exact ⟨-1, _, _, _, _, _, _, _, _, _, _, ρ2, sh, fa, mk, st, s2, laid, pile, by simp (disch := omega) only [jl_0, jl_1, jl_2, jl_3, jl_4, jl_5, jl_6, jl_7, jl_8, jl_9, jl_10, jl_11, jl_12, jl_13, jl_14, jl_15, jl_16, jl_17, jl_18, jl_20, jl_23, jl_29, jl_30, jl_31, jl_32, jl_35, jl_40, jl_48, jl_50, jl_51, jl_57, jl_60, jl_61, jl_63, jl_64, jl_65, jl_89, jl_97, jl_99, jl_100, jl_101, jl_113, jl_122, jl_200, jl_240, jl_241, jl_255, jl_259, jl_260, jl_261, jl_262, jl_313, jl_500, jl_999, jl_10000, jl_10004, jl_10005, jl_10006, jl_10007, jl_10008, jl_10009, jl_10010, jl_10011, jl_10012, jl_10013, jl_10014, jl_10015, jl_10017, jl_10018, jl_10023, jl_12345, jl_1103515245, jN_add, jN_mul, jN_sub, jN_addm, jN_div, jN_irm, jN_nat, le_T, le_F, lt_T, lt_F, eq_F, ib_T, ib_F, add_j0, if_true, if_false, eq_self, Bool.false_eq_true, Option.bind_some, pb, jn, Nat.zero_add, Nat.add_zero, e2], by simp (disch := omega) only [jl_0, jl_1, jl_2, jl_3, jl_4, jl_5, jl_6, jl_7, jl_8, jl_9, jl_10, jl_11, jl_12, jl_13, jl_14, jl_15, jl_16, jl_17, jl_18, jl_20, jl_23, jl_29, jl_30, jl_31, jl_32, jl_35, jl_40, jl_48, jl_50, jl_51, jl_57, jl_60, jl_61, jl_63, jl_64, jl_65, jl_89, jl_97, jl_99, jl_100, jl_101, jl_113, jl_122, jl_200, jl_240, jl_241, jl_255, jl_259, jl_260, jl_261, jl_262, jl_313, jl_500, jl_999, jl_10000, jl_10004, jl_10005, jl_10006, jl_10007, jl_10008, jl_10009, jl_10010, jl_10011, jl_10012, jl_10013, jl_10014, jl_10015, jl_10017, jl_10018, jl_10023, jl_12345, jl_1103515245, jN_add, jN_mul, jN_sub, jN_addm, jN_div, jN_irm, jN_nat, le_T, le_F, lt_T, lt_F, eq_F, ib_T, ib_F, add_j0, if_true, if_false, eq_self, Bool.false_eq_true, Option.bind_some, pb, jn, Nat.zero_add, Nat.add_zero, e1], hr2, SQ.rf s2⟩
  have hk6 : k < 6 := by have := h.n.1; omega
  have hb : ∀ v, v ≤ 5 → NB (bd (iD k 3)) (jN v) := fun v hv => by rw [bd_D3 hk6]; exact ⟨v, hv, rfl⟩
  obtain ⟨d2, p2, k2, r2, c2, ch2, en2, sc2, rc2, z2, ρ2', sh', fa', mk', st', u2, e3, q1, q2⟩ := o_dear (W := W) hn hC hr h hk6 (Or.inr rfl) (by omega) (show X11_mostOf (jN 3) = jN 5 from rfl) hb s2 sh fa mk st
  obtain ⟨a, v, p, e4⟩ := m_best1 (W := W) hn hM h hk6 (Or.inr rfl) (by omega) hb (dn65 s laid) 6 n 0 pile (by omega) (by omega)
  refine ⟨(deF W s k 3 (5 + 1)).1, d2, p2, k2, r2, c2, ch2, en2, sc2, rc2, z2, ρ2', sh', fa', mk', st', u2, (fun i => if i < 65 then s i else laid i), p, ?_, ?_, q1, q2⟩
  rotate_left 1
  · rw [e1, if_neg (show ¬ jN 1 = 0 by decide), m_down (by omega)]
    simp only [Option.bind_some]
    rw [show X12_bestFor_L1 n (fun i => if i < 65 then s i else laid i) (jN k) (3 : Int32) (5 : Int32) n (0 : Int32) (-1 : Int32) (0 : Int32) s pile = _ from e4]
    simp only [Option.bind_some]
  · rw [e2, if_neg (show ¬ jN 1 = 0 by decide), show (3 : Int32) = jN 3 from rfl, e3]; simp only [Option.bind_some]
end OPS6
