section LOOK
variable {n ρ nr : Nat} {gc : Nat → Int32} {gk gw gs gd : Nat → Nat → Int32} {kl wl sl cl : Nat → Nat} {W : Int32 → (Nat → Int32) → Int32} {s : Nat → Int32}
/-- how many chimes a plan of nn has -/
def plN (s : Nat → Int32) (nn : Nat) : Nat := if goB s = true then min nn ((s 1).toNatClampNeg - (s 0).toNatClampNeg) else 0
theorem plN_i (h : GS s) {nn : Nat} (hnn : nn ≤ 4) : ∃ x E, x ≤ 16 ∧ E ≤ 16 ∧ s 0 = jN x ∧ s 1 = jN E ∧ plN s nn ≤ nn ∧ (∀ d, d < plN s nn → x + d < E) ∧ (plN s nn = nn ∨ E ≤ x + plN s nn) ∧ X12_daysOf s (jN nn) = jN (plN s nn) := by
  obtain ⟨x, hx, h0⟩ := h.chime
  obtain ⟨E, hE, h1⟩ := h.ends
  refine ⟨x, E, hx, hE, h0, h1, ?_⟩
  unfold plN X12_daysOf
  by_cases hq : goB s = true
  · have hlt : x < E := by
      have := of_decide_eq_true hq
      rw [h0, h1, jN_lt (by omega) (by omega)] at this; exact this
    rw [if_pos hq, m_oT hq, h0, h1, jN_nat (by omega), jN_nat (by omega), if_pos rfl, jN_sub (by omega)]
    refine ⟨by omega, fun d hd => by omega, by omega, ?_⟩
    simp only [pb]
    by_cases hm : E - x ≤ nn
    · rw [if_pos (by simp (disch := omega) only [jl_0, jl_1, jl_2, jl_3, jl_4, jl_5, jl_6, jl_7, jl_8, jl_9, jl_10, jl_11, jl_12, jl_13, jl_14, jl_15, jl_16, jl_17, jl_18, jl_20, jl_23, jl_29, jl_30, jl_31, jl_32, jl_35, jl_40, jl_48, jl_50, jl_51, jl_57, jl_60, jl_61, jl_63, jl_64, jl_65, jl_89, jl_97, jl_99, jl_100, jl_101, jl_113, jl_122, jl_200, jl_240, jl_241, jl_255, jl_259, jl_260, jl_261, jl_262, jl_313, jl_500, jl_999, jl_10000, jl_10004, jl_10005, jl_10006, jl_10007, jl_10008, jl_10009, jl_10010, jl_10011, jl_10012, jl_10013, jl_10014, jl_10015, jl_10017, jl_10018, jl_10023, jl_12345, jl_1103515245, jN_add, jN_mul, jN_sub, jN_addm, jN_div, jN_irm, jN_nat, le_T, le_F, lt_T, lt_F, eq_F, ib_T, ib_F, add_j0, if_true, if_false, eq_self, Bool.false_eq_true, Option.bind_some, pb, jn, Nat.zero_add, Nat.add_zero])]; congr 1; omega
    · rw [if_neg (show ¬ jN (E - x) ≤ jN nn by simp (disch := omega) only [jl_0, jl_1, jl_2, jl_3, jl_4, jl_5, jl_6, jl_7, jl_8, jl_9, jl_10, jl_11, jl_12, jl_13, jl_14, jl_15, jl_16, jl_17, jl_18, jl_20, jl_23, jl_29, jl_30, jl_31, jl_32, jl_35, jl_40, jl_48, jl_50, jl_51, jl_57, jl_60, jl_61, jl_63, jl_64, jl_65, jl_89, jl_97, jl_99, jl_100, jl_101, jl_113, jl_122, jl_200, jl_240, jl_241, jl_255, jl_259, jl_260, jl_261, jl_262, jl_313, jl_500, jl_999, jl_10000, jl_10004, jl_10005, jl_10006, jl_10007, jl_10008, jl_10009, jl_10010, jl_10011, jl_10012, jl_10013, jl_10014, jl_10015, jl_10017, jl_10018, jl_10023, jl_12345, jl_1103515245, jN_add, jN_mul, jN_sub, jN_addm, jN_div, jN_irm, jN_nat, le_T, le_F, lt_T, lt_F, eq_F, ib_T, ib_F, add_j0, if_true, if_false, eq_self, Bool.false_eq_true, Option.bind_some, pb, jn, Nat.zero_add, Nat.add_zero]; exact not_false)]; congr 1; omega
  · have hge : E ≤ x := by
      rcases Nat.lt_or_ge x E with z | z
      · exfalso; apply hq; unfold goB; rw [h0, h1]; exact decide_eq_true ((jN_lt (by omega) (by omega)).mpr z)
      · exact z
    rw [if_neg hq, m_oF hq, if_neg (show ¬ (1 : Int32) = 0 by decide)]
    refine ⟨by omega, fun d hd => by omega, by omega, ?_⟩
    simp only [pb]
    rw [if_pos (by simp (disch := omega) only [jl_0, jl_1, jl_2, jl_3, jl_4, jl_5, jl_6, jl_7, jl_8, jl_9, jl_10, jl_11, jl_12, jl_13, jl_14, jl_15, jl_16, jl_17, jl_18, jl_20, jl_23, jl_29, jl_30, jl_31, jl_32, jl_35, jl_40, jl_48, jl_50, jl_51, jl_57, jl_60, jl_61, jl_63, jl_64, jl_65, jl_89, jl_97, jl_99, jl_100, jl_101, jl_113, jl_122, jl_200, jl_240, jl_241, jl_255, jl_259, jl_260, jl_261, jl_262, jl_313, jl_500, jl_999, jl_10000, jl_10004, jl_10005, jl_10006, jl_10007, jl_10008, jl_10009, jl_10010, jl_10011, jl_10012, jl_10013, jl_10014, jl_10015, jl_10017, jl_10018, jl_10023, jl_12345, jl_1103515245, jN_add, jN_mul, jN_sub, jN_addm, jN_div, jN_irm, jN_nat, le_T, le_F, lt_T, lt_F, eq_F, ib_T, ib_F, add_j0, if_true, if_false, eq_self, Bool.false_eq_true, Option.bind_some, pb, jn, Nat.zero_add, Nat.add_zero])]; rfl
theorem o_look (hn : 70 ≤ n) (hC : RC n ρ gc gk gw gs gd kl wl sl cl W) (hr : ρ < nr) (hM : RM n s W) (h : GS s) (s2 : Nat → Int32) (sh fa first acts : Nat → Int32) (marks st : Nat → Nat → Int32) (pile saved plan bp : Nat → Int32) {nn : Nat} (hnn : nn ≤ 4) (wanted : Int32) :
    ∃ (d2 p2 : Nat → Nat → Int32) (k2 : Nat → Int32) (r2 : Nat → Nat → Int32) (c2 ch2 e2 sc2 rc2 z2 : Int32) (sh' fa' first' : Nat → Int32) (most' many' few' ever' : Int32) (acts' : Nat → Int32) (marks' st' : Nat → Nat → Int32) (u2 pile' saved' plan' bp' : Nat → Int32) (mf' : Int32),
      X5_look_oq0 n (dOf s) (pOf s) (kOf s) (rOf s) (s 4) (s 0) (s 1) (s 2) (s 6) (s 3) ρ (dOf s2) (pOf s2) (kOf s2) (rOf s2) sh fa first acts marks gc gk gw gs gd st kl wl sl cl nr (jN nn) wanted = some (d2, p2, k2, r2, c2, ch2, e2, sc2, rc2, z2, ρ, sh', fa', first', jN (plN s nn), most', many', few', ever', acts', marks', jN nn, wanted, st') ∧
      X12_triesAll n s pile saved plan bp (jN nn) wanted = some (s, pile', saved', plan', bp', most', many', mf', ever') ∧
      SQ d2 p2 k2 r2 c2 ch2 e2 sc2 rc2 z2 u2 ∧ ((few' = -3 ∧ mf' = 5) ∨ ∃ f, f ≤ 4 ∧ few' = jN f ∧ mf' = jN f) ∧ (∀ i, i < plN s nn → first' i = bp' i ∧ NB (nS s) (bp' i)) := by
  obtain ⟨x, E, hx, hE, h0, h1, hle, H1, H2, hday⟩ := plN_i h hnn
  have h7 : 7 ^ plN s nn ≤ 2401 := by
    have : 7 ^ plN s nn ≤ 7 ^ 4 := Nat.pow_le_pow_right (by omega) (by omega)
    exact this
  obtain ⟨t', sh', fa', fi', ste', mo', ma', fe', ev', ac', mk', st', pi', sa', pl', bp', mm', mn', mf', me', e1, e2, g1, g2, g3, g4, g5, g6, g7, g8⟩ := sim_plans (W := W) hn hC hr (c0 := nS s) hle hnn hx hE H1 H2 wanted (plN s nn) 0 6 (by omega) (by omega) s pile saved plan bp (-1) 0 5 0 (s 2) sh fa first acts 0 0 0 (-3) 0 marks st 0 0 0 h rfl hM h0 h1 (by omega) (by omega) (fun i hi => absurd hi (by omega)) ⟨rfl, Or.inl ⟨rfl, rfl⟩, Or.inl ⟨rfl, rfl, rfl⟩⟩ (by omega)
  obtain ⟨a1, a2, a3⟩ := g7
  have hsq := sq_go g1 h.n.1
  rw [g2] at hsq
  rcases a3 with ⟨z, -, -⟩ | ⟨c, -, -, b1, b2, b3, b4, b5⟩
  · exact absurd z g8
  subst a1 b3 b4
  rw [← b2] at b1
  subst b1
  refine ⟨dOf t', pOf s, kOf s, rOf s, s 4, t' 0, s 1, t' 2, s 6, s 3, sh', fa', fi', mo', ma', fe', ev', ac', mk', st', t', pi', sa', pl', bp', mf', ?_, ?_, hsq, a2, b5⟩
  · unfold X5_look_oq0
    rw [c_copy (by omega) s s2 hr]
    simp only [Option.bind_some]
    rw [show X5_explore n 6 (dOf s) (pOf s) (kOf s) (s 4) (s 0) (s 1) (s 2) ρ sh fa first (0 : Int32) (0 : Int32) (0 : Int32) (-3 : Int32) (0 : Int32) acts marks (jN nn) wanted gc gk gw gs gd st kl wl sl cl nr (0 : Int32) (0 : Int32) (0 : Int32) = _ from e1]
    rfl
  · unfold X12_triesAll
    rw [hday, show X12_goesPlans n 6 s pile saved plan bp (-1 : Int32) (0 : Int32) (5 : Int32) (0 : Int32) (0 : Int32) (jN (plN s nn)) (0 : Int32) (0 : Int32) wanted = _ from e2]
    rfl
end LOOK
