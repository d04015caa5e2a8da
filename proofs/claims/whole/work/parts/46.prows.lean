section GAMEOPS
variable {n ρ nr : Nat} {gc : Nat → Int32} {gk gw gs gd : Nat → Nat → Int32} {kl wl sl cl : Nat → Nat} {W : Int32 → (Nat → Int32) → Int32} {s : Nat → Int32}
theorem o_valueOf (hn : 70 ≤ n) (hC : RC n ρ gc gk gw gs gd kl wl sl cl W) (hr : ρ < nr) (hM : RM n s W) (h : GS s) (s2 sh fa : Nat → Int32) (op : Int32) (mk st : Nat → Nat → Int32) (pile saved plan : Nat → Int32) {nn : Nat} (hnn : nn ≤ 4) :
    ∃ (V : Nat) (d2 p2 : Nat → Nat → Int32) (k2 : Nat → Int32) (r2 : Nat → Nat → Int32) (c2 ch2 e2 sc2 rc2 z2 : Int32) (sh' fa' : Nat → Int32) (op' : Int32) (mk' st' : Nat → Nat → Int32) (u2 pile' saved' plan' : Nat → Int32), V ≤ 400 ∧
      X5_valueOf_oq0 n (dOf s) (pOf s) (kOf s) (rOf s) (s 4) (s 0) (s 1) (s 2) (s 6) (s 3) ρ (dOf s2) (pOf s2) (kOf s2) (rOf s2) sh fa op mk gc gk gw gs gd st kl wl sl cl nr (jN nn) = some (jN V, d2, p2, k2, r2, c2, ch2, e2, sc2, rc2, z2, ρ, sh', fa', op', mk', jN nn, st') ∧
      X12_playedFrom n 6 s pile saved plan (0 : Int32) (X12_daysOf s (jN nn)) = some (jN V, s, pile', saved', plan') ∧ SQ d2 p2 k2 r2 c2 ch2 e2 sc2 rc2 z2 u2 ∧ (goB s = true → 1 ≤ nn → op' = plan' 0) := by
  obtain ⟨x, E, hx, hE, h0, h1, hle, H1, H2, hday⟩ := plN_i h hnn
  obtain ⟨V, t', sh', fa', op', mk', st', pi', sa', pl', hV, e1, e2, g1, g2, g3, g4, g5, g6⟩ := sim_game (W := W) hn hC hr hle hnn hx hE H1 H2 (plN s nn) 0 6 (by omega) (by omega) s pile saved plan (s 2) op sh fa mk st h hM h0 h1
  have hsq := sq_go g1 h.n.1
  rw [g2] at hsq
  refine ⟨V, dOf t', pOf s, kOf s, rOf s, s 4, t' 0, s 1, t' 2, s 6, s 3, sh', fa', op', mk', st', t', pi', sa', pl', by omega, ?_, ?_, hsq, fun q z => g4 rfl ?_⟩
  · unfold X5_valueOf_oq0
    rw [c_copy (by omega) s s2 hr]
    simp only [Option.bind_some]
    rw [show X5_valueFrom n 6 (dOf s) (pOf s) (kOf s) (s 4) (s 0) (s 1) (s 2) ρ sh fa op mk (jN nn) gc gk gw gs gd st kl wl sl cl nr (0 : Int32) = _ from e1]
    rfl
  · rw [hday]; exact e2
  · have hlt : x < E := by
      have := of_decide_eq_true q
      rw [h0, h1, jN_lt (by omega) (by omega)] at this; exact this
    rcases H2 with z2 | z2 <;> omega
theorem o_game (hn : 70 ≤ n) (hC : RC n ρ gc gk gw gs gd kl wl sl cl W) (hr : ρ < nr) (hM : RM n s W) (h : GS s) (s2 : Nat → Int32) {ρ2 : Nat} (hr2 : ρ2 < nr) (sh fa : Nat → Int32) (op dp : Int32) (mk st : Nat → Nat → Int32) (pile saved plan : Nat → Int32) (v1 : Int32) :
    ∃ r d2 p2 k2 r2 c2 ch2 e2 sc2 rc2 z2 ρ2' sh' fa' op' mk' dp' st' u2 pile' saved' plan', X11_game n (dOf s) (pOf s) (kOf s) (rOf s) (s 4) (s 0) (s 1) (s 2) (s 6) (s 3) ρ (dOf s2) (pOf s2) (kOf s2) (rOf s2) (s2 4) (s2 0) (s2 1) (s2 2) (s2 6) (s2 3) ρ2 sh fa op mk dp gc gk gw gs gd st kl wl sl cl nr v1 = some (r, d2, p2, k2, r2, c2, ch2, e2, sc2, rc2, z2, ρ2', sh', fa', op', mk', dp', st') ∧ X12_game n s pile saved plan v1 = some (r, s, pile', saved', plan') ∧ ρ2' < nr ∧ SQ d2 p2 k2 r2 c2 ch2 e2 sc2 rc2 z2 u2 := by
  unfold X11_game X12_game
  rw [isIn_eq]
  rcases in1_or v1 1 4 (by decide) (by decide) with e1 | ⟨v, hv1, hv2, rfl⟩
  · exact ⟨-1, _, _, _, _, _, _, _, _, _, _, ρ2, sh, fa, op, mk, dp, st, s2, pile, saved, plan, by simp (disch := omega) only [jl_0, jl_1, jl_2, jl_3, jl_4, jl_5, jl_6, jl_7, jl_8, jl_9, jl_10, jl_11, jl_12, jl_13, jl_14, jl_15, jl_16, jl_17, jl_18, jl_20, jl_23, jl_29, jl_30, jl_31, jl_32, jl_35, jl_40, jl_48, jl_50, jl_51, jl_57, jl_60, jl_61, jl_63, jl_64, jl_65, jl_89, jl_97, jl_99, jl_100, jl_101, jl_113, jl_122, jl_200, jl_240, jl_241, jl_255, jl_259, jl_260, jl_261, jl_262, jl_313, jl_500, jl_999, jl_10000, jl_10004, jl_10005, jl_10006, jl_10007, jl_10008, jl_10009, jl_10010, jl_10011, jl_10012, jl_10013, jl_10014, jl_10015, jl_10017, jl_10018, jl_10023, jl_12345, jl_1103515245, jN_add, jN_mul, jN_sub, jN_addm, jN_div, jN_irm, jN_nat, le_T, le_F, lt_T, lt_F, eq_F, ib_T, ib_F, add_j0, if_true, if_false, eq_self, Bool.false_eq_true, Option.bind_some, pb, jn, Nat.zero_add, Nat.add_zero, e1], by simp (disch := omega) only [jl_0, jl_1, jl_2, jl_3, jl_4, jl_5, jl_6, jl_7, jl_8, jl_9, jl_10, jl_11, jl_12, jl_13, jl_14, jl_15, jl_16, jl_17, jl_18, jl_20, jl_23, jl_29, jl_30, jl_31, jl_32, jl_35, jl_40, jl_48, jl_50, jl_51, jl_57, jl_60, jl_61, jl_63, jl_64, jl_65, jl_89, jl_97, jl_99, jl_100, jl_101, jl_113, jl_122, jl_200, jl_240, jl_241, jl_255, jl_259, jl_260, jl_261, jl_262, jl_313, jl_500, jl_999, jl_10000, jl_10004, jl_10005, jl_10006, jl_10007, jl_10008, jl_10009, jl_10010, jl_10011, jl_10012, jl_10013, jl_10014, jl_10015, jl_10017, jl_10018, jl_10023, jl_12345, jl_1103515245, jN_add, jN_mul, jN_sub, jN_addm, jN_div, jN_irm, jN_nat, le_T, le_F, lt_T, lt_F, eq_F, ib_T, ib_F, add_j0, if_true, if_false, eq_self, Bool.false_eq_true, Option.bind_some, pb, jn, Nat.zero_add, Nat.add_zero, e1], hr2, SQ.rf s2⟩
  have ev1 : X12_in1 (jN v) (1 : Int32) (4 : Int32) = jN 1 := in1_T hv1 hv2 (by decide)
  rw [ev1, if_neg (show ¬ jN 1 = 0 by decide), if_neg (show ¬ jN 1 = 0 by decide)]
  obtain ⟨V, d2, p2, k2, r2, c2, ch2, e2, sc2, rc2, z2, sh', fa', op', mk', st', u2, pile', saved', plan', hV, f1, f2, f3, f4⟩ := o_valueOf (W := W) hn hC hr hM h s2 sh fa op mk st pile saved plan hv2
  refine ⟨jN V, d2, p2, k2, r2, c2, ch2, e2, sc2, rc2, z2, ρ, sh', fa', op', mk', jN v, st', u2, pile', saved', plan', ?_, ?_, hr, f3⟩
  · rw [f1]; rfl
  · rw [f2]; rfl
theorem o_play (hn : 70 ≤ n) (hC : RC n ρ gc gk gw gs gd kl wl sl cl W) (hr : ρ < nr) (hM : RM n s W) (h : GS s) (s2 : Nat → Int32) {ρ2 : Nat} (hr2 : ρ2 < nr) (sh fa : Nat → Int32) (op dp : Int32) (mk st : Nat → Nat → Int32) (pile saved plan : Nat → Int32) (v1 : Int32) :
    ∃ r d2 p2 k2 r2 c2 ch2 e2 sc2 rc2 z2 ρ2' sh' fa' op' mk' dp' st' u2 pile' saved' plan', X11_play n (dOf s) (pOf s) (kOf s) (rOf s) (s 4) (s 0) (s 1) (s 2) (s 6) (s 3) ρ (dOf s2) (pOf s2) (kOf s2) (rOf s2) (s2 4) (s2 0) (s2 1) (s2 2) (s2 6) (s2 3) ρ2 sh fa op mk dp gc gk gw gs gd st kl wl sl cl nr v1 = some (r, d2, p2, k2, r2, c2, ch2, e2, sc2, rc2, z2, ρ2', sh', fa', op', mk', dp', st') ∧ X12_play n s pile saved plan v1 = some (r, s, pile', saved', plan') ∧ ρ2' < nr ∧ SQ d2 p2 k2 r2 c2 ch2 e2 sc2 rc2 z2 u2 := by
  unfold X11_play X12_play
  rw [isIn_eq]
  rcases in1_or v1 1 4 (by decide) (by decide) with e1 | ⟨v, hv1, hv2, rfl⟩
  · exact ⟨-1, _, _, _, _, _, _, _, _, _, _, ρ2, sh, fa, op, mk, dp, st, s2, pile, saved, plan, by simp (disch := omega) only [jl_0, jl_1, jl_2, jl_3, jl_4, jl_5, jl_6, jl_7, jl_8, jl_9, jl_10, jl_11, jl_12, jl_13, jl_14, jl_15, jl_16, jl_17, jl_18, jl_20, jl_23, jl_29, jl_30, jl_31, jl_32, jl_35, jl_40, jl_48, jl_50, jl_51, jl_57, jl_60, jl_61, jl_63, jl_64, jl_65, jl_89, jl_97, jl_99, jl_100, jl_101, jl_113, jl_122, jl_200, jl_240, jl_241, jl_255, jl_259, jl_260, jl_261, jl_262, jl_313, jl_500, jl_999, jl_10000, jl_10004, jl_10005, jl_10006, jl_10007, jl_10008, jl_10009, jl_10010, jl_10011, jl_10012, jl_10013, jl_10014, jl_10015, jl_10017, jl_10018, jl_10023, jl_12345, jl_1103515245, jN_add, jN_mul, jN_sub, jN_addm, jN_div, jN_irm, jN_nat, le_T, le_F, lt_T, lt_F, eq_F, ib_T, ib_F, add_j0, if_true, if_false, eq_self, Bool.false_eq_true, Option.bind_some, pb, jn, Nat.zero_add, Nat.add_zero, e1], by simp (disch := omega) only [jl_0, jl_1, jl_2, jl_3, jl_4, jl_5, jl_6, jl_7, jl_8, jl_9, jl_10, jl_11, jl_12, jl_13, jl_14, jl_15, jl_16, jl_17, jl_18, jl_20, jl_23, jl_29, jl_30, jl_31, jl_32, jl_35, jl_40, jl_48, jl_50, jl_51, jl_57, jl_60, jl_61, jl_63, jl_64, jl_65, jl_89, jl_97, jl_99, jl_100, jl_101, jl_113, jl_122, jl_200, jl_240, jl_241, jl_255, jl_259, jl_260, jl_261, jl_262, jl_313, jl_500, jl_999, jl_10000, jl_10004, jl_10005, jl_10006, jl_10007, jl_10008, jl_10009, jl_10010, jl_10011, jl_10012, jl_10013, jl_10014, jl_10015, jl_10017, jl_10018, jl_10023, jl_12345, jl_1103515245, jN_add, jN_mul, jN_sub, jN_addm, jN_div, jN_irm, jN_nat, le_T, le_F, lt_T, lt_F, eq_F, ib_T, ib_F, add_j0, if_true, if_false, eq_self, Bool.false_eq_true, Option.bind_some, pb, jn, Nat.zero_add, Nat.add_zero, e1], hr2, SQ.rf s2⟩
  have ev1 : X12_in1 (jN v) (1 : Int32) (4 : Int32) = jN 1 := in1_T hv1 hv2 (by decide)
  rw [ev1, if_neg (show ¬ jN 1 = 0 by decide), if_neg (show ¬ jN 1 = 0 by decide)]
  obtain ⟨V, d2, p2, k2, r2, c2, ch2, e2, sc2, rc2, z2, sh', fa', op', mk', st', u2, pile', saved', plan', hV, f1, f2, f3, f4⟩ := o_valueOf (W := W) hn hC hr hM h s2 sh fa op mk st pile saved plan hv2
  by_cases hq : goB s = true
  · refine ⟨op', d2, p2, k2, r2, c2, ch2, e2, sc2, rc2, z2, ρ, sh', fa', op', mk', jN v, st', u2, pile', saved', plan', ?_, ?_, hr, f3⟩
    · rw [c_oT hq, if_pos rfl, f1]; rfl
    · rw [m_oT hq, if_pos rfl, f2]
      simp only [Option.bind_some]
      rw [if_pos (by simp (disch := omega) only [jl_0, jl_1, jl_2, jl_3, jl_4, jl_5, jl_6, jl_7, jl_8, jl_9, jl_10, jl_11, jl_12, jl_13, jl_14, jl_15, jl_16, jl_17, jl_18, jl_20, jl_23, jl_29, jl_30, jl_31, jl_32, jl_35, jl_40, jl_48, jl_50, jl_51, jl_57, jl_60, jl_61, jl_63, jl_64, jl_65, jl_89, jl_97, jl_99, jl_100, jl_101, jl_113, jl_122, jl_200, jl_240, jl_241, jl_255, jl_259, jl_260, jl_261, jl_262, jl_313, jl_500, jl_999, jl_10000, jl_10004, jl_10005, jl_10006, jl_10007, jl_10008, jl_10009, jl_10010, jl_10011, jl_10012, jl_10013, jl_10014, jl_10015, jl_10017, jl_10018, jl_10023, jl_12345, jl_1103515245, jN_add, jN_mul, jN_sub, jN_addm, jN_div, jN_irm, jN_nat, le_T, le_F, lt_T, lt_F, eq_F, ib_T, ib_F, add_j0, if_true, if_false, eq_self, Bool.false_eq_true, Option.bind_some, pb, jn, Nat.zero_add, Nat.add_zero]), f4 hq hv1]
  · refine ⟨-3, _, _, _, _, _, _, _, _, _, _, ρ2, sh, fa, op, mk, dp, st, s2, pile, saved, plan, ?_, ?_, hr2, SQ.rf s2⟩
    · rw [c_oF hq, if_neg (by decide)]
    · rw [m_oF hq, if_neg (by decide)]
end GAMEOPS
section ROWS
variable {n ρ nr : Nat} {gc : Nat → Int32} {gk gw gs gd : Nat → Nat → Int32} {kl wl sl cl : Nat → Nat} {W : Int32 → (Nat → Int32) → Int32} {s : Nat → Int32}
def wOf (r : Nat → Int32) : Nat → Nat → Int32 := fun k j => if k < 4 ∧ j < 3 then r (3 * k + j) else 0
theorem wOf_at {r : Nat → Int32} {k j : Nat} (hk : k < 4) (hj : j < 3) : wOf r k j = r (3 * k + j) := if_pos ⟨hk, hj⟩
theorem wOf_up {r : Nat → Int32} {k j : Nat} {v : Int32} (hk : k < 4) (hj : j < 3) : va_up (wOf r) k (upd (wOf r k) j v) = wOf (upd r (3 * k + j) v) := by
  funext a b
  by_cases ha : a = k
  · subst ha; rw [vup_s]
    by_cases hb : b = j
    · subst hb; rw [upd_s, wOf_at hk hj, upd_s]
    · rw [upd_n hb]; unfold wOf; split
      · rw [upd_n (by omega)]
      · rfl
  · rw [vup_n ha]; unfold wOf; split
    · rw [upd_n (by omega)]
    · rfl
theorem row_or {c : Nat} (hc : c ≤ 4) (v1 v2 : Int32) : (X5_hasRow (jN c) v1 v2 = 0 ∧ X12_isRow (jN c) v1 v2 = 0) ∨ ∃ k j, k < c ∧ j < 3 ∧ v1 = jN k ∧ v2 = jN j ∧ X5_hasRow (jN c) v1 v2 = 1 ∧ X12_isRow (jN c) v1 v2 = 1 := by
  unfold X5_hasRow X12_isRow
  rcases jN_cases v1 with hv | ⟨k, hk, rfl⟩
  · left
    rw [if_pos hv, show X12_in1 v1 (0 : Int32) (jN c - 1) = jN 0 from in1_or_neg hv, if_pos (show jN 0 = 0 from rfl)]
    exact ⟨rfl, rfl⟩
  · have hk0 : ¬ jN k < 0 := by simp (disch := omega) only [jl_0, jl_1, jl_2, jl_3, jl_4, jl_5, jl_6, jl_7, jl_8, jl_9, jl_10, jl_11, jl_12, jl_13, jl_14, jl_15, jl_16, jl_17, jl_18, jl_20, jl_23, jl_29, jl_30, jl_31, jl_32, jl_35, jl_40, jl_48, jl_50, jl_51, jl_57, jl_60, jl_61, jl_63, jl_64, jl_65, jl_89, jl_97, jl_99, jl_100, jl_101, jl_113, jl_122, jl_200, jl_240, jl_241, jl_255, jl_259, jl_260, jl_261, jl_262, jl_313, jl_500, jl_999, jl_10000, jl_10004, jl_10005, jl_10006, jl_10007, jl_10008, jl_10009, jl_10010, jl_10011, jl_10012, jl_10013, jl_10014, jl_10015, jl_10017, jl_10018, jl_10023, jl_12345, jl_1103515245, jN_add, jN_mul, jN_sub, jN_addm, jN_div, jN_irm, jN_nat, le_T, le_F, lt_T, lt_F, eq_F, ib_T, ib_F, add_j0, if_true, if_false, eq_self, Bool.false_eq_true, Option.bind_some, pb, jn, Nat.zero_add, Nat.add_zero]; exact not_false
    rw [if_neg hk0]
    by_cases hkc : k < c
    · have e1 : X12_in1 (jN k) (0 : Int32) (jN c - 1) = jN 1 := by
        rw [show jN c - 1 = jN (c - 1) from by simp (disch := omega) only [jl_0, jl_1, jl_2, jl_3, jl_4, jl_5, jl_6, jl_7, jl_8, jl_9, jl_10, jl_11, jl_12, jl_13, jl_14, jl_15, jl_16, jl_17, jl_18, jl_20, jl_23, jl_29, jl_30, jl_31, jl_32, jl_35, jl_40, jl_48, jl_50, jl_51, jl_57, jl_60, jl_61, jl_63, jl_64, jl_65, jl_89, jl_97, jl_99, jl_100, jl_101, jl_113, jl_122, jl_200, jl_240, jl_241, jl_255, jl_259, jl_260, jl_261, jl_262, jl_313, jl_500, jl_999, jl_10000, jl_10004, jl_10005, jl_10006, jl_10007, jl_10008, jl_10009, jl_10010, jl_10011, jl_10012, jl_10013, jl_10014, jl_10015, jl_10017, jl_10018, jl_10023, jl_12345, jl_1103515245, jN_add, jN_mul, jN_sub, jN_addm, jN_div, jN_irm, jN_nat, le_T, le_F, lt_T, lt_F, eq_F, ib_T, ib_F, add_j0, if_true, if_false, eq_self, Bool.false_eq_true, Option.bind_some, pb, jn, Nat.zero_add, Nat.add_zero]]; exact in1_T (lo := 0) (by omega) (by omega) (by omega)
      rw [e1, if_neg (show ¬ jN c ≤ jN k by simp (disch := omega) only [jl_0, jl_1, jl_2, jl_3, jl_4, jl_5, jl_6, jl_7, jl_8, jl_9, jl_10, jl_11, jl_12, jl_13, jl_14, jl_15, jl_16, jl_17, jl_18, jl_20, jl_23, jl_29, jl_30, jl_31, jl_32, jl_35, jl_40, jl_48, jl_50, jl_51, jl_57, jl_60, jl_61, jl_63, jl_64, jl_65, jl_89, jl_97, jl_99, jl_100, jl_101, jl_113, jl_122, jl_200, jl_240, jl_241, jl_255, jl_259, jl_260, jl_261, jl_262, jl_313, jl_500, jl_999, jl_10000, jl_10004, jl_10005, jl_10006, jl_10007, jl_10008, jl_10009, jl_10010, jl_10011, jl_10012, jl_10013, jl_10014, jl_10015, jl_10017, jl_10018, jl_10023, jl_12345, jl_1103515245, jN_add, jN_mul, jN_sub, jN_addm, jN_div, jN_irm, jN_nat, le_T, le_F, lt_T, lt_F, eq_F, ib_T, ib_F, add_j0, if_true, if_false, eq_self, Bool.false_eq_true, Option.bind_some, pb, jn, Nat.zero_add, Nat.add_zero]; exact not_false), if_neg (show ¬ jN 1 = 0 by decide)]
      rcases jN_cases v2 with hv | ⟨j, hj, rfl⟩
      · left
        rw [if_pos hv, show X12_in1 v2 (0 : Int32) (2 : Int32) = jN 0 from in1_or_neg hv, if_pos (show jN 0 = 0 from rfl)]
        exact ⟨rfl, rfl⟩
      · rw [if_neg (show ¬ jN j < 0 by simp (disch := omega) only [jl_0, jl_1, jl_2, jl_3, jl_4, jl_5, jl_6, jl_7, jl_8, jl_9, jl_10, jl_11, jl_12, jl_13, jl_14, jl_15, jl_16, jl_17, jl_18, jl_20, jl_23, jl_29, jl_30, jl_31, jl_32, jl_35, jl_40, jl_48, jl_50, jl_51, jl_57, jl_60, jl_61, jl_63, jl_64, jl_65, jl_89, jl_97, jl_99, jl_100, jl_101, jl_113, jl_122, jl_200, jl_240, jl_241, jl_255, jl_259, jl_260, jl_261, jl_262, jl_313, jl_500, jl_999, jl_10000, jl_10004, jl_10005, jl_10006, jl_10007, jl_10008, jl_10009, jl_10010, jl_10011, jl_10012, jl_10013, jl_10014, jl_10015, jl_10017, jl_10018, jl_10023, jl_12345, jl_1103515245, jN_add, jN_mul, jN_sub, jN_addm, jN_div, jN_irm, jN_nat, le_T, le_F, lt_T, lt_F, eq_F, ib_T, ib_F, add_j0, if_true, if_false, eq_self, Bool.false_eq_true, Option.bind_some, pb, jn, Nat.zero_add, Nat.add_zero]; exact not_false)]
        by_cases hj3 : j < 3
        · right
          refine ⟨k, j, hkc, hj3, rfl, rfl, ?_, ?_⟩
          · rw [if_neg (show ¬ (3 : Int32) ≤ jN j by simp (disch := omega) only [jl_0, jl_1, jl_2, jl_3, jl_4, jl_5, jl_6, jl_7, jl_8, jl_9, jl_10, jl_11, jl_12, jl_13, jl_14, jl_15, jl_16, jl_17, jl_18, jl_20, jl_23, jl_29, jl_30, jl_31, jl_32, jl_35, jl_40, jl_48, jl_50, jl_51, jl_57, jl_60, jl_61, jl_63, jl_64, jl_65, jl_89, jl_97, jl_99, jl_100, jl_101, jl_113, jl_122, jl_200, jl_240, jl_241, jl_255, jl_259, jl_260, jl_261, jl_262, jl_313, jl_500, jl_999, jl_10000, jl_10004, jl_10005, jl_10006, jl_10007, jl_10008, jl_10009, jl_10010, jl_10011, jl_10012, jl_10013, jl_10014, jl_10015, jl_10017, jl_10018, jl_10023, jl_12345, jl_1103515245, jN_add, jN_mul, jN_sub, jN_addm, jN_div, jN_irm, jN_nat, le_T, le_F, lt_T, lt_F, eq_F, ib_T, ib_F, add_j0, if_true, if_false, eq_self, Bool.false_eq_true, Option.bind_some, pb, jn, Nat.zero_add, Nat.add_zero]; exact not_false)]
          · rw [show X12_in1 (jN j) (0 : Int32) (2 : Int32) = jN 1 from in1_T (lo := 0) (hi := 2) (by omega) (by omega) (by decide), if_neg (show ¬ jN 1 = 0 by decide)]
        · left
          rw [if_pos (show (3 : Int32) ≤ jN j by simp (disch := omega) only [jl_0, jl_1, jl_2, jl_3, jl_4, jl_5, jl_6, jl_7, jl_8, jl_9, jl_10, jl_11, jl_12, jl_13, jl_14, jl_15, jl_16, jl_17, jl_18, jl_20, jl_23, jl_29, jl_30, jl_31, jl_32, jl_35, jl_40, jl_48, jl_50, jl_51, jl_57, jl_60, jl_61, jl_63, jl_64, jl_65, jl_89, jl_97, jl_99, jl_100, jl_101, jl_113, jl_122, jl_200, jl_240, jl_241, jl_255, jl_259, jl_260, jl_261, jl_262, jl_313, jl_500, jl_999, jl_10000, jl_10004, jl_10005, jl_10006, jl_10007, jl_10008, jl_10009, jl_10010, jl_10011, jl_10012, jl_10013, jl_10014, jl_10015, jl_10017, jl_10018, jl_10023, jl_12345, jl_1103515245, jN_add, jN_mul, jN_sub, jN_addm, jN_div, jN_irm, jN_nat, le_T, le_F, lt_T, lt_F, eq_F, ib_T, ib_F, add_j0, if_true, if_false, eq_self, Bool.false_eq_true, Option.bind_some, pb, jn, Nat.zero_add, Nat.add_zero]), show X12_in1 (jN j) (0 : Int32) (2 : Int32) = jN 0 from in1_F (lo := 0) (hi := 2) (by omega) (by omega) (by decide), if_pos (show jN 0 = 0 from rfl)]
          exact ⟨rfl, rfl⟩
    · left
      have e1 : X12_in1 (jN k) (0 : Int32) (jN c - 1) = jN 0 := by
        by_cases h0 : c = 0
        · subst h0
          have e : (jN 0 - 1 : Int32) < 0 := by decide
          unfold X12_in1
          rw [if_neg hk0, if_pos (by rw [neg_lt e k hk]; trivial)]; rfl
        · rw [show jN c - 1 = jN (c - 1) from by simp (disch := omega) only [jl_0, jl_1, jl_2, jl_3, jl_4, jl_5, jl_6, jl_7, jl_8, jl_9, jl_10, jl_11, jl_12, jl_13, jl_14, jl_15, jl_16, jl_17, jl_18, jl_20, jl_23, jl_29, jl_30, jl_31, jl_32, jl_35, jl_40, jl_48, jl_50, jl_51, jl_57, jl_60, jl_61, jl_63, jl_64, jl_65, jl_89, jl_97, jl_99, jl_100, jl_101, jl_113, jl_122, jl_200, jl_240, jl_241, jl_255, jl_259, jl_260, jl_261, jl_262, jl_313, jl_500, jl_999, jl_10000, jl_10004, jl_10005, jl_10006, jl_10007, jl_10008, jl_10009, jl_10010, jl_10011, jl_10012, jl_10013, jl_10014, jl_10015, jl_10017, jl_10018, jl_10023, jl_12345, jl_1103515245, jN_add, jN_mul, jN_sub, jN_addm, jN_div, jN_irm, jN_nat, le_T, le_F, lt_T, lt_F, eq_F, ib_T, ib_F, add_j0, if_true, if_false, eq_self, Bool.false_eq_true, Option.bind_some, pb, jn, Nat.zero_add, Nat.add_zero]]; exact in1_F (lo := 0) (by omega) (by omega) (by decide)
      rw [e1, if_pos (show jN c ≤ jN k by simp (disch := omega) only [jl_0, jl_1, jl_2, jl_3, jl_4, jl_5, jl_6, jl_7, jl_8, jl_9, jl_10, jl_11, jl_12, jl_13, jl_14, jl_15, jl_16, jl_17, jl_18, jl_20, jl_23, jl_29, jl_30, jl_31, jl_32, jl_35, jl_40, jl_48, jl_50, jl_51, jl_57, jl_60, jl_61, jl_63, jl_64, jl_65, jl_89, jl_97, jl_99, jl_100, jl_101, jl_113, jl_122, jl_200, jl_240, jl_241, jl_255, jl_259, jl_260, jl_261, jl_262, jl_313, jl_500, jl_999, jl_10000, jl_10004, jl_10005, jl_10006, jl_10007, jl_10008, jl_10009, jl_10010, jl_10011, jl_10012, jl_10013, jl_10014, jl_10015, jl_10017, jl_10018, jl_10023, jl_12345, jl_1103515245, jN_add, jN_mul, jN_sub, jN_addm, jN_div, jN_irm, jN_nat, le_T, le_F, lt_T, lt_F, eq_F, ib_T, ib_F, add_j0, if_true, if_false, eq_self, Bool.false_eq_true, Option.bind_some, pb, jn, Nat.zero_add, Nat.add_zero]), if_pos (show jN 0 = 0 from rfl)]
      exact ⟨rfl, rfl⟩
theorem o_row (rows : Nat → Int32) {c : Nat} (hc : c ≤ 4) (v1 v2 : Int32) : ∃ r, X11_row (wOf rows) (jN c) v1 v2 = some r ∧ X12_row rows (jN c) v1 v2 = some r := by
  unfold X11_row X12_row
  rcases row_or hc v1 v2 with ⟨e1, e2⟩ | ⟨k, j, hk, hj, rfl, rfl, e1, e2⟩
  · rw [e1, e2, if_pos rfl, if_pos rfl]; exact ⟨_, rfl, rfl⟩
  · refine ⟨rows (3 * k + j), ?_, ?_⟩
    · rw [e1, if_neg (by decide), ib_T (show k < 4 by omega) (by omega), ib_T hj (by omega), jN_nat (by omega), jN_nat (by omega), wOf_at (by omega) hj, if_pos rfl, if_pos rfl]
    · rw [e2, if_neg (by decide), show (3 : Int32) * jN k + jN j = jN (3 * k + j) from by simp (disch := omega) only [jl_0, jl_1, jl_2, jl_3, jl_4, jl_5, jl_6, jl_7, jl_8, jl_9, jl_10, jl_11, jl_12, jl_13, jl_14, jl_15, jl_16, jl_17, jl_18, jl_20, jl_23, jl_29, jl_30, jl_31, jl_32, jl_35, jl_40, jl_48, jl_50, jl_51, jl_57, jl_60, jl_61, jl_63, jl_64, jl_65, jl_89, jl_97, jl_99, jl_100, jl_101, jl_113, jl_122, jl_200, jl_240, jl_241, jl_255, jl_259, jl_260, jl_261, jl_262, jl_313, jl_500, jl_999, jl_10000, jl_10004, jl_10005, jl_10006, jl_10007, jl_10008, jl_10009, jl_10010, jl_10011, jl_10012, jl_10013, jl_10014, jl_10015, jl_10017, jl_10018, jl_10023, jl_12345, jl_1103515245, jN_add, jN_mul, jN_sub, jN_addm, jN_div, jN_irm, jN_nat, le_T, le_F, lt_T, lt_F, eq_F, ib_T, ib_F, add_j0, if_true, if_false, eq_self, Bool.false_eq_true, Option.bind_some, pb, jn, Nat.zero_add, Nat.add_zero], ib_T (by omega) (by omega), jN_nat (by omega), if_pos rfl]
theorem o_alterRow (rows : Nat → Int32) {c : Nat} (hc : c ≤ 4) (v1 v2 v3 : Int32) : ∃ r rows', X11_alterRow (wOf rows) (jN c) v1 v2 v3 = some (r, wOf rows') ∧ X12_alterRow rows (jN c) v1 v2 v3 = some (r, rows') := by
  unfold X11_alterRow X12_alterRow
  rcases row_or hc v1 v2 with ⟨e1, e2⟩ | ⟨k, j, hk, hj, rfl, rfl, e1, e2⟩
  · rw [e1, e2, if_pos rfl, if_pos rfl]; exact ⟨_, _, rfl, rfl⟩
  · refine ⟨rows (3 * k + j), upd rows (3 * k + j) v3, ?_, ?_⟩
    · rw [e1, if_neg (by decide), ib_T (show k < 4 by omega) (by omega), ib_T hj (by omega), jN_nat (by omega), jN_nat (by omega), wOf_at (by omega) hj, wOf_up (by omega) hj]
      simp only [if_true]
    · rw [e2, if_neg (by decide), show (3 : Int32) * jN k + jN j = jN (3 * k + j) from by simp (disch := omega) only [jl_0, jl_1, jl_2, jl_3, jl_4, jl_5, jl_6, jl_7, jl_8, jl_9, jl_10, jl_11, jl_12, jl_13, jl_14, jl_15, jl_16, jl_17, jl_18, jl_20, jl_23, jl_29, jl_30, jl_31, jl_32, jl_35, jl_40, jl_48, jl_50, jl_51, jl_57, jl_60, jl_61, jl_63, jl_64, jl_65, jl_89, jl_97, jl_99, jl_100, jl_101, jl_113, jl_122, jl_200, jl_240, jl_241, jl_255, jl_259, jl_260, jl_261, jl_262, jl_313, jl_500, jl_999, jl_10000, jl_10004, jl_10005, jl_10006, jl_10007, jl_10008, jl_10009, jl_10010, jl_10011, jl_10012, jl_10013, jl_10014, jl_10015, jl_10017, jl_10018, jl_10023, jl_12345, jl_1103515245, jN_add, jN_mul, jN_sub, jN_addm, jN_div, jN_irm, jN_nat, le_T, le_F, lt_T, lt_F, eq_F, ib_T, ib_F, add_j0, if_true, if_false, eq_self, Bool.false_eq_true, Option.bind_some, pb, jn, Nat.zero_add, Nat.add_zero], ib_T (by omega) (by omega), jN_nat (by omega)]
      simp only [if_true]
theorem act_or (h : GS s) (v : Int32) : (X12_isAct s v = 0 ∧ X9_isAct_q0 (s 4) v = 0) ∨ ∃ a, a ≤ nS s ∧ v = jN a ∧ X12_isAct s v = 1 ∧ X9_isAct_q0 (s 4) v = 1 := by
  obtain ⟨hc, h4⟩ := h.n
  unfold X12_isAct X9_isAct_q0 X12_in1
  rcases jN_cases v with hv | ⟨a, ha, rfl⟩
  · left; rw [if_pos hv]; exact ⟨rfl, rfl⟩
  · rw [h4, if_neg (show ¬ jN a < 0 by simp (disch := omega) only [jl_0, jl_1, jl_2, jl_3, jl_4, jl_5, jl_6, jl_7, jl_8, jl_9, jl_10, jl_11, jl_12, jl_13, jl_14, jl_15, jl_16, jl_17, jl_18, jl_20, jl_23, jl_29, jl_30, jl_31, jl_32, jl_35, jl_40, jl_48, jl_50, jl_51, jl_57, jl_60, jl_61, jl_63, jl_64, jl_65, jl_89, jl_97, jl_99, jl_100, jl_101, jl_113, jl_122, jl_200, jl_240, jl_241, jl_255, jl_259, jl_260, jl_261, jl_262, jl_313, jl_500, jl_999, jl_10000, jl_10004, jl_10005, jl_10006, jl_10007, jl_10008, jl_10009, jl_10010, jl_10011, jl_10012, jl_10013, jl_10014, jl_10015, jl_10017, jl_10018, jl_10023, jl_12345, jl_1103515245, jN_add, jN_mul, jN_sub, jN_addm, jN_div, jN_irm, jN_nat, le_T, le_F, lt_T, lt_F, eq_F, ib_T, ib_F, add_j0, if_true, if_false, eq_self, Bool.false_eq_true, Option.bind_some, pb, jn, Nat.zero_add, Nat.add_zero]; exact not_false)]
    by_cases hq : a ≤ nS s
    · right
      refine ⟨a, hq, rfl, ?_, ?_⟩
      · rw [if_neg (show ¬ jN (nS s) < jN a by simp (disch := omega) only [jl_0, jl_1, jl_2, jl_3, jl_4, jl_5, jl_6, jl_7, jl_8, jl_9, jl_10, jl_11, jl_12, jl_13, jl_14, jl_15, jl_16, jl_17, jl_18, jl_20, jl_23, jl_29, jl_30, jl_31, jl_32, jl_35, jl_40, jl_48, jl_50, jl_51, jl_57, jl_60, jl_61, jl_63, jl_64, jl_65, jl_89, jl_97, jl_99, jl_100, jl_101, jl_113, jl_122, jl_200, jl_240, jl_241, jl_255, jl_259, jl_260, jl_261, jl_262, jl_313, jl_500, jl_999, jl_10000, jl_10004, jl_10005, jl_10006, jl_10007, jl_10008, jl_10009, jl_10010, jl_10011, jl_10012, jl_10013, jl_10014, jl_10015, jl_10017, jl_10018, jl_10023, jl_12345, jl_1103515245, jN_add, jN_mul, jN_sub, jN_addm, jN_div, jN_irm, jN_nat, le_T, le_F, lt_T, lt_F, eq_F, ib_T, ib_F, add_j0, if_true, if_false, eq_self, Bool.false_eq_true, Option.bind_some, pb, jn, Nat.zero_add, Nat.add_zero]; exact not_false)]
      · rw [if_neg (show ¬ jN (nS s) < jN a by simp (disch := omega) only [jl_0, jl_1, jl_2, jl_3, jl_4, jl_5, jl_6, jl_7, jl_8, jl_9, jl_10, jl_11, jl_12, jl_13, jl_14, jl_15, jl_16, jl_17, jl_18, jl_20, jl_23, jl_29, jl_30, jl_31, jl_32, jl_35, jl_40, jl_48, jl_50, jl_51, jl_57, jl_60, jl_61, jl_63, jl_64, jl_65, jl_89, jl_97, jl_99, jl_100, jl_101, jl_113, jl_122, jl_200, jl_240, jl_241, jl_255, jl_259, jl_260, jl_261, jl_262, jl_313, jl_500, jl_999, jl_10000, jl_10004, jl_10005, jl_10006, jl_10007, jl_10008, jl_10009, jl_10010, jl_10011, jl_10012, jl_10013, jl_10014, jl_10015, jl_10017, jl_10018, jl_10023, jl_12345, jl_1103515245, jN_add, jN_mul, jN_sub, jN_addm, jN_div, jN_irm, jN_nat, le_T, le_F, lt_T, lt_F, eq_F, ib_T, ib_F, add_j0, if_true, if_false, eq_self, Bool.false_eq_true, Option.bind_some, pb, jn, Nat.zero_add, Nat.add_zero]; exact not_false)]
    · left
      rw [if_pos (show jN (nS s) < jN a by simp (disch := omega) only [jl_0, jl_1, jl_2, jl_3, jl_4, jl_5, jl_6, jl_7, jl_8, jl_9, jl_10, jl_11, jl_12, jl_13, jl_14, jl_15, jl_16, jl_17, jl_18, jl_20, jl_23, jl_29, jl_30, jl_31, jl_32, jl_35, jl_40, jl_48, jl_50, jl_51, jl_57, jl_60, jl_61, jl_63, jl_64, jl_65, jl_89, jl_97, jl_99, jl_100, jl_101, jl_113, jl_122, jl_200, jl_240, jl_241, jl_255, jl_259, jl_260, jl_261, jl_262, jl_313, jl_500, jl_999, jl_10000, jl_10004, jl_10005, jl_10006, jl_10007, jl_10008, jl_10009, jl_10010, jl_10011, jl_10012, jl_10013, jl_10014, jl_10015, jl_10017, jl_10018, jl_10023, jl_12345, jl_1103515245, jN_add, jN_mul, jN_sub, jN_addm, jN_div, jN_irm, jN_nat, le_T, le_F, lt_T, lt_F, eq_F, ib_T, ib_F, add_j0, if_true, if_false, eq_self, Bool.false_eq_true, Option.bind_some, pb, jn, Nat.zero_add, Nat.add_zero])]; exact ⟨rfl, rfl⟩
theorem o_judge (hn : 70 ≤ n) (hC : RC n ρ gc gk gw gs gd kl wl sl cl W) (hr : ρ < nr) (hM : RM n s W) (h : GS s) (s2 : Nat → Int32) (sh fa : Nat → Int32) (rows : Nat → Int32) {c : Nat} (hc : c ≤ 4) (st : Nat → Nat → Int32) (laid pile : Nat → Int32) :
    ∃ r d2 p2 k2 r2 c2 ch2 e2 sc2 rc2 z2 ρ2' sh' fa' st' u2 laid' pile', X11_judge n (dOf s) (pOf s) (kOf s) (rOf s) (s 4) (s 0) (s 1) (s 2) (s 6) (s 3) ρ (dOf s2) (pOf s2) (kOf s2) (rOf s2) sh fa (wOf rows) (jN c) gc gk gw gs gd st kl wl sl cl nr = some (r, d2, p2, k2, r2, c2, ch2, e2, sc2, rc2, z2, ρ2', sh', fa', st') ∧ X12_judge n s laid pile rows (jN c) = some (r, s, laid', pile') ∧ ρ2' < nr ∧ SQ d2 p2 k2 r2 c2 ch2 e2 sc2 rc2 z2 u2 := by
  have key : ∀ d m m2 j, j + d = c → d < m → d + 1 < m2 → ∀ (u pile sh fa : Nat → Int32) (st : Nat → Nat → Int32), GS u → RM n u W → FG u s → u 3 = s 3 → ∃ r v2 u' sh' fa' st' pile', X5_readRows_oq0_L1 n (pOf s) (kOf s) (rOf s) (s 4) (s 1) (s 6) (s 3) ρ (wOf rows) (jN c) gc gk gw gs gd kl wl sl cl nr (fun o10 => some ((0 : Int32), o10.2.1, pOf s, kOf s, rOf s, s 4, o10.2.2.1, s 1, o10.2.2.2.1, s 6, s 3, ρ, o10.2.2.2.2.1, o10.2.2.2.2.2.1, o10.2.2.2.2.2.2)) m (jN j) (dOf u) (u 0) (u 2) sh fa st = some (r, dOf u', pOf s, kOf s, rOf s, s 4, u' 0, s 1, u' 2, s 6, s 3, ρ, sh', fa', st') ∧ X12_judge_L1 n rows (jN c) m2 (0 : Int32) (jN j) u pile = some (r, v2, u', pile') ∧ FG u' s ∧ u' 3 = s 3 := by
    intro d
    induction d with
    | zero =>
      intro m m2 j hj hm hm2 u pile sh fa st hg hMu hf h3
      obtain ⟨m, rfl⟩ : ∃ q, m = q + 1 := ⟨m - 1, by omega⟩
      obtain ⟨m2, rfl⟩ : ∃ q, m2 = q + 1 := ⟨m2 - 1, by omega⟩
      have hle : jN c ≤ jN j := by simp (disch := omega) only [jl_0, jl_1, jl_2, jl_3, jl_4, jl_5, jl_6, jl_7, jl_8, jl_9, jl_10, jl_11, jl_12, jl_13, jl_14, jl_15, jl_16, jl_17, jl_18, jl_20, jl_23, jl_29, jl_30, jl_31, jl_32, jl_35, jl_40, jl_48, jl_50, jl_51, jl_57, jl_60, jl_61, jl_63, jl_64, jl_65, jl_89, jl_97, jl_99, jl_100, jl_101, jl_113, jl_122, jl_200, jl_240, jl_241, jl_255, jl_259, jl_260, jl_261, jl_262, jl_313, jl_500, jl_999, jl_10000, jl_10004, jl_10005, jl_10006, jl_10007, jl_10008, jl_10009, jl_10010, jl_10011, jl_10012, jl_10013, jl_10014, jl_10015, jl_10017, jl_10018, jl_10023, jl_12345, jl_1103515245, jN_add, jN_mul, jN_sub, jN_addm, jN_div, jN_irm, jN_nat, le_T, le_F, lt_T, lt_F, eq_F, ib_T, ib_F, add_j0, if_true, if_false, eq_self, Bool.false_eq_true, Option.bind_some, pb, jn, Nat.zero_add, Nat.add_zero]
      exact ⟨0, jN j, u, sh, fa, st, pile, by rw [X5_readRows_oq0_L1, if_pos hle], by rw [X12_judge_L1, if_pos hle], hf, h3⟩
    | succ d ih =>
      intro m m2 j hj hm hm2 u pile sh fa st hg hMu hf h3
      obtain ⟨m, rfl⟩ : ∃ q, m = q + 1 := ⟨m - 1, by omega⟩
      obtain ⟨m2, rfl⟩ : ∃ q, m2 = q + 1 := ⟨m2 - 1, by omega⟩
      obtain ⟨m3, rfl⟩ : ∃ q, m2 = q + 1 := ⟨m2 - 1, by omega⟩
      have hle : ¬ jN c ≤ jN j := by simp (disch := omega) only [jl_0, jl_1, jl_2, jl_3, jl_4, jl_5, jl_6, jl_7, jl_8, jl_9, jl_10, jl_11, jl_12, jl_13, jl_14, jl_15, jl_16, jl_17, jl_18, jl_20, jl_23, jl_29, jl_30, jl_31, jl_32, jl_35, jl_40, jl_48, jl_50, jl_51, jl_57, jl_60, jl_61, jl_63, jl_64, jl_65, jl_89, jl_97, jl_99, jl_100, jl_101, jl_113, jl_122, jl_200, jl_240, jl_241, jl_255, jl_259, jl_260, jl_261, jl_262, jl_313, jl_500, jl_999, jl_10000, jl_10004, jl_10005, jl_10006, jl_10007, jl_10008, jl_10009, jl_10010, jl_10011, jl_10012, jl_10013, jl_10014, jl_10015, jl_10017, jl_10018, jl_10023, jl_12345, jl_1103515245, jN_add, jN_mul, jN_sub, jN_addm, jN_div, jN_irm, jN_nat, le_T, le_F, lt_T, lt_F, eq_F, ib_T, ib_F, add_j0, if_true, if_false, eq_self, Bool.false_eq_true, Option.bind_some, pb, jn, Nat.zero_add, Nat.add_zero]; exact not_false
      have hn6 := h.n.1
      have e4 : u 4 = s 4 := hf.low (by omega) (by omega) (by omega) (by omega) hn6
      have e1 : u 1 = s 1 := hf.low (by omega) (by omega) (by omega) (by omega) hn6
      have x0 : (3 : Int32) * jN j = jN (3 * j) := by simp (disch := omega) only [jl_0, jl_1, jl_2, jl_3, jl_4, jl_5, jl_6, jl_7, jl_8, jl_9, jl_10, jl_11, jl_12, jl_13, jl_14, jl_15, jl_16, jl_17, jl_18, jl_20, jl_23, jl_29, jl_30, jl_31, jl_32, jl_35, jl_40, jl_48, jl_50, jl_51, jl_57, jl_60, jl_61, jl_63, jl_64, jl_65, jl_89, jl_97, jl_99, jl_100, jl_101, jl_113, jl_122, jl_200, jl_240, jl_241, jl_255, jl_259, jl_260, jl_261, jl_262, jl_313, jl_500, jl_999, jl_10000, jl_10004, jl_10005, jl_10006, jl_10007, jl_10008, jl_10009, jl_10010, jl_10011, jl_10012, jl_10013, jl_10014, jl_10015, jl_10017, jl_10018, jl_10023, jl_12345, jl_1103515245, jN_add, jN_mul, jN_sub, jN_addm, jN_div, jN_irm, jN_nat, le_T, le_F, lt_T, lt_F, eq_F, ib_T, ib_F, add_j0, if_true, if_false, eq_self, Bool.false_eq_true, Option.bind_some, pb, jn, Nat.zero_add, Nat.add_zero]
      have x1 : jN (3 * j) + (1 : Int32) = jN (3 * j + 1) := by simp (disch := omega) only [jl_0, jl_1, jl_2, jl_3, jl_4, jl_5, jl_6, jl_7, jl_8, jl_9, jl_10, jl_11, jl_12, jl_13, jl_14, jl_15, jl_16, jl_17, jl_18, jl_20, jl_23, jl_29, jl_30, jl_31, jl_32, jl_35, jl_40, jl_48, jl_50, jl_51, jl_57, jl_60, jl_61, jl_63, jl_64, jl_65, jl_89, jl_97, jl_99, jl_100, jl_101, jl_113, jl_122, jl_200, jl_240, jl_241, jl_255, jl_259, jl_260, jl_261, jl_262, jl_313, jl_500, jl_999, jl_10000, jl_10004, jl_10005, jl_10006, jl_10007, jl_10008, jl_10009, jl_10010, jl_10011, jl_10012, jl_10013, jl_10014, jl_10015, jl_10017, jl_10018, jl_10023, jl_12345, jl_1103515245, jN_add, jN_mul, jN_sub, jN_addm, jN_div, jN_irm, jN_nat, le_T, le_F, lt_T, lt_F, eq_F, ib_T, ib_F, add_j0, if_true, if_false, eq_self, Bool.false_eq_true, Option.bind_some, pb, jn, Nat.zero_add, Nat.add_zero]
      have x2 : jN (3 * j) + (2 : Int32) = jN (3 * j + 2) := by simp (disch := omega) only [jl_0, jl_1, jl_2, jl_3, jl_4, jl_5, jl_6, jl_7, jl_8, jl_9, jl_10, jl_11, jl_12, jl_13, jl_14, jl_15, jl_16, jl_17, jl_18, jl_20, jl_23, jl_29, jl_30, jl_31, jl_32, jl_35, jl_40, jl_48, jl_50, jl_51, jl_57, jl_60, jl_61, jl_63, jl_64, jl_65, jl_89, jl_97, jl_99, jl_100, jl_101, jl_113, jl_122, jl_200, jl_240, jl_241, jl_255, jl_259, jl_260, jl_261, jl_262, jl_313, jl_500, jl_999, jl_10000, jl_10004, jl_10005, jl_10006, jl_10007, jl_10008, jl_10009, jl_10010, jl_10011, jl_10012, jl_10013, jl_10014, jl_10015, jl_10017, jl_10018, jl_10023, jl_12345, jl_1103515245, jN_add, jN_mul, jN_sub, jN_addm, jN_div, jN_irm, jN_nat, le_T, le_F, lt_T, lt_F, eq_F, ib_T, ib_F, add_j0, if_true, if_false, eq_self, Bool.false_eq_true, Option.bind_some, pb, jn, Nat.zero_add, Nat.add_zero]
      have wrong : ∀ (r : Int32) (u2 : Nat → Int32) (p2 : Nat → Int32), r = jN (j + 1) → X12_judge_L1 n rows (jN c) (m3 + 1) r (jN j + 1) u2 p2 = some (r, jN (j + 1), u2, p2) := by
        intro r u2 p2 hr2
        have hr1 : ¬ r = 0 := by rw [hr2]; exact fun z => by have := (jN_inj (b := 0) (by omega) (by omega)).mp z; omega
        rw [X12_judge_L1, show jN j + 1 = jN (j + 1) from by simp (disch := omega) only [jl_0, jl_1, jl_2, jl_3, jl_4, jl_5, jl_6, jl_7, jl_8, jl_9, jl_10, jl_11, jl_12, jl_13, jl_14, jl_15, jl_16, jl_17, jl_18, jl_20, jl_23, jl_29, jl_30, jl_31, jl_32, jl_35, jl_40, jl_48, jl_50, jl_51, jl_57, jl_60, jl_61, jl_63, jl_64, jl_65, jl_89, jl_97, jl_99, jl_100, jl_101, jl_113, jl_122, jl_200, jl_240, jl_241, jl_255, jl_259, jl_260, jl_261, jl_262, jl_313, jl_500, jl_999, jl_10000, jl_10004, jl_10005, jl_10006, jl_10007, jl_10008, jl_10009, jl_10010, jl_10011, jl_10012, jl_10013, jl_10014, jl_10015, jl_10017, jl_10018, jl_10023, jl_12345, jl_1103515245, jN_add, jN_mul, jN_sub, jN_addm, jN_div, jN_irm, jN_nat, le_T, le_F, lt_T, lt_F, eq_F, ib_T, ib_F, add_j0, if_true, if_false, eq_self, Bool.false_eq_true, Option.bind_some, pb, jn, Nat.zero_add, Nat.add_zero]]
        by_cases hq : jN c ≤ jN (j + 1)
        · rw [if_pos hq]
        · rw [if_neg hq, if_neg hr1]
      have hj1 : (1 : Int32) + jN j = jN (j + 1) := by simp (disch := omega) only [jl_0, jl_1, jl_2, jl_3, jl_4, jl_5, jl_6, jl_7, jl_8, jl_9, jl_10, jl_11, jl_12, jl_13, jl_14, jl_15, jl_16, jl_17, jl_18, jl_20, jl_23, jl_29, jl_30, jl_31, jl_32, jl_35, jl_40, jl_48, jl_50, jl_51, jl_57, jl_60, jl_61, jl_63, jl_64, jl_65, jl_89, jl_97, jl_99, jl_100, jl_101, jl_113, jl_122, jl_200, jl_240, jl_241, jl_255, jl_259, jl_260, jl_261, jl_262, jl_313, jl_500, jl_999, jl_10000, jl_10004, jl_10005, jl_10006, jl_10007, jl_10008, jl_10009, jl_10010, jl_10011, jl_10012, jl_10013, jl_10014, jl_10015, jl_10017, jl_10018, jl_10023, jl_12345, jl_1103515245, jN_add, jN_mul, jN_sub, jN_addm, jN_div, jN_irm, jN_nat, le_T, le_F, lt_T, lt_F, eq_F, ib_T, ib_F, add_j0, if_true, if_false, eq_self, Bool.false_eq_true, Option.bind_some, pb, jn, Nat.zero_add, Nat.add_zero, Nat.add_comm]
      have hj1' : jN j + (1 : Int32) = jN (j + 1) := by simp (disch := omega) only [jl_0, jl_1, jl_2, jl_3, jl_4, jl_5, jl_6, jl_7, jl_8, jl_9, jl_10, jl_11, jl_12, jl_13, jl_14, jl_15, jl_16, jl_17, jl_18, jl_20, jl_23, jl_29, jl_30, jl_31, jl_32, jl_35, jl_40, jl_48, jl_50, jl_51, jl_57, jl_60, jl_61, jl_63, jl_64, jl_65, jl_89, jl_97, jl_99, jl_100, jl_101, jl_113, jl_122, jl_200, jl_240, jl_241, jl_255, jl_259, jl_260, jl_261, jl_262, jl_313, jl_500, jl_999, jl_10000, jl_10004, jl_10005, jl_10006, jl_10007, jl_10008, jl_10009, jl_10010, jl_10011, jl_10012, jl_10013, jl_10014, jl_10015, jl_10017, jl_10018, jl_10023, jl_12345, jl_1103515245, jN_add, jN_mul, jN_sub, jN_addm, jN_div, jN_irm, jN_nat, le_T, le_F, lt_T, lt_F, eq_F, ib_T, ib_F, add_j0, if_true, if_false, eq_self, Bool.false_eq_true, Option.bind_some, pb, jn, Nat.zero_add, Nat.add_zero]
      rw [X5_readRows_oq0_L1, X12_judge_L1, if_neg hle, if_neg hle, if_pos rfl, x0, x1, x2, ib_T (show j < 4 by omega) (by omega), ib_T (show 3 * j < 12 by omega) (by omega), ib_T (show 3 * j + 1 < 12 by omega) (by omega), ib_T (show 3 * j + 2 < 12 by omega) (by omega), jN_nat (show j < 2147483648 by omega), jN_nat (show 3 * j < 2147483648 by omega), jN_nat (show 3 * j + 1 < 2147483648 by omega), jN_nat (show 3 * j + 2 < 2147483648 by omega), wOf_at (by omega) (by omega), wOf_at (by omega) (by omega), wOf_at (by omega) (by omega), Nat.add_zero, q2_isAct, q2_isOver, q2_goBy, q2_rightSet]
      simp only [if_true, pb, jn]
      rw [← e4, ← e1]
      rcases act_or hg (rows (3 * j)) with ⟨a1, a2⟩ | ⟨a, ha, a0, a1, a2⟩
      · refine ⟨jN (j + 1), jN (j + 1), u, sh, fa, st, pile, ?_, ?_, hf, h3⟩
        · rw [a2, if_pos rfl, hj1']
        · rw [a1, if_pos rfl]
          simp only [if_true, Option.bind_some]
          rw [hj1]; exact wrong _ u pile rfl
      · rw [a1, a2, if_neg (show ¬ (1 : Int32) = 0 by decide), if_neg (show ¬ (1 : Int32) = 0 by decide)]
        by_cases hq : goB u = true
        · obtain ⟨p1, g1⟩ := m_goesBy (W := W) hMu hg (by omega) pile ha
          obtain ⟨sh1, fa1, st1, g2⟩ := c_goBy (W := W) hC hr hg (by omega) sh fa st ha
          have i1 := goW_g (W := W) hg ha (of_decide_eq_true hq)
          have i2 := goW_G (W := W) hg ha
          have i3 := goW_3 (W := W) hg ha
          have hf2 : FG (goW W u a).2 s := i2.trans hf hn6
          have i4 : (goW W u a).2 4 = u 4 := i2.low (by omega) (by omega) (by omega) (by omega) hg.n.1
          rw [← hf.pOfE hn6, ← hf.kOfE hn6]
          rw [a0, c_oT hq, m_oT hq, if_pos rfl, if_pos rfl, g2, g1]
          simp only [Option.bind_some, if_true]
          try simp only [if_false, show ((1 : Int32) = 0) = False from eq_false (by decide), Option.bind_some]
          by_cases hw : (goW W u a).1 = rows (3 * j + 1)
          · rw [if_pos hw, if_pos hw, ← i4, c_rightSet i1 (by omega), m_those i1 (by omega)]
            simp only [Option.bind_some]
            by_cases hz : rsN (goW W u a).2 = rows (3 * j + 2)
            · obtain ⟨r, v2, u', sh', fa', st', pile', k1, k2, k3, k4⟩ := ih m (m3 + 1) (j + 1) (by omega) (by omega) (by omega) (goW W u a).2 p1 sh1 fa1 st1 i1 (hMu.go i2 hg.n.1) hf2 (i3.trans h3)
              refine ⟨r, v2, u', sh', fa', st', pile', ?_, ?_, k3, k4⟩
              · rw [if_pos hz, hj1', i4, hf.pOfE hn6, hf.kOfE hn6, e4, e1]; exact k1
              · rw [if_pos hz]
                simp only [Option.bind_some]
                rw [if_neg (show ¬ (1 : Int32) = 0 by decide), hj1']; exact k2
            · refine ⟨jN (j + 1), jN (j + 1), (goW W u a).2, sh1, fa1, st1, p1, ?_, ?_, hf2, i3.trans h3⟩
              · rw [if_neg hz, hj1', hf.pOfE hn6, hf.kOfE hn6, i4, e4, e1]
              · rw [if_neg hz]
                simp only [Option.bind_some, if_true]
                rw [hj1]; exact wrong _ _ p1 rfl
          · refine ⟨jN (j + 1), jN (j + 1), (goW W u a).2, sh1, fa1, st1, p1, ?_, ?_, hf2, i3.trans h3⟩
            · rw [if_neg hw, hj1', hf.pOfE hn6, hf.kOfE hn6, e4, e1]
            · rw [if_neg hw]
              simp only [Option.bind_some, if_true]
              rw [hj1]; exact wrong _ _ p1 rfl
        · refine ⟨jN (j + 1), jN (j + 1), u, sh, fa, st, pile, ?_, ?_, hf, h3⟩
          · rw [c_oF hq, if_neg (show ¬ (1 : Int32) = 0 by decide), hj1', e4, e1]
          · rw [m_oF hq, if_neg (show ¬ (1 : Int32) = 0 by decide)]
            simp only [if_true, Option.bind_some]
            rw [hj1]; exact wrong _ u pile rfl
  obtain ⟨r, v2, u', sh', fa', st', p', k1, k2, k3, k4⟩ := key c n n 0 (by omega) (by omega) (by omega) s pile sh fa st h hM (FG.refl s) rfl
  have hsq := sq_go k3 h.n.1
  rw [k4] at hsq
  refine ⟨r, _, _, _, _, _, _, _, _, _, _, ρ, sh', fa', st', u', (fun i => if i < 65 then s i else laid i), p', ?_, ?_, hr, hsq⟩
  · unfold X11_judge X5_readRows_oq0
    rw [c_copy (by omega) s s2 hr]
    simp only [Option.bind_some, jn]
    rw [show X5_readRows_oq0_L1 n (pOf s) (kOf s) (rOf s) (s 4) (s 1) (s 6) (s 3) ρ (wOf rows) (jN c) gc gk gw gs gd kl wl sl cl nr _ n (0 : Int32) (dOf s) (s 0) (s 2) sh fa st = _ from k1]
    rfl
  · unfold X12_judge
    rw [m_down (by omega)]
    simp only [Option.bind_some]
    rw [show X12_judge_L1 n rows (jN c) n (0 : Int32) (0 : Int32) s pile = _ from k2]
    simp only [Option.bind_some]
    rw [m_laid (by omega) (dn65 s laid) (k3.hi h.n.1)]
    rfl
end ROWS
