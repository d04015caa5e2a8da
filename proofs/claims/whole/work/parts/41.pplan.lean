section PLAN
variable {n : Nat} {s : Nat → Int32}
theorem pm_back1 (n : Nat) (c : Int32) (pm : Nat → Nat → Int32) (r : Nat) : X9_back_q2_pm_L1 n c pm r = X9_back_q2_mk_L1 n c (pm r) := by delta X9_back_q2_pm_L1 X9_back_q2_mk_L1; rfl
theorem pm_back (n : Nat) (d : Nat → Nat → Int32) (c : Int32) (pm : Nat → Nat → Int32) (r : Nat) : X9_back_q2_pm n d c pm r = X9_back_q2_mk n d c (pm r) := by unfold X9_back_q2_pm X9_back_q2_mk; rw [pm_back1]
theorem c_markp (hn : 7 ≤ n) (h : GS s) (m0 : Nat → Nat → Int32) (r : Nat) : ∃ m, X9_mark_q2_pm n (dOf s) (s 4) (s 0) m0 r = some m ∧ MK (m r) s (nS s) ∧ ∀ q, q ≠ r → m q = m0 q := by
  obtain ⟨hc, h4⟩ := h.n
  have L : ∀ d q j m, j + d = nS s → d < q → MK (m r) s j → ∃ m' v, X9_mark_q2_pm_L1 n (dOf s) (s 4) r q (jN j) m = some (v, m') ∧ MK (m' r) s (nS s) ∧ ∀ q, q ≠ r → m' q = m q := by
    intro d
    induction d with
    | zero =>
      intro q j m hj hq hm; obtain ⟨q, rfl⟩ : ∃ z, q = z + 1 := ⟨q - 1, by omega⟩
      have hjc : j = nS s := by omega
      subst hjc
      exact ⟨m, jN (nS s), by rw [X9_mark_q2_pm_L1, h4]; simp (disch := omega) only [jl_0, jl_1, jl_2, jl_3, jl_4, jl_5, jl_6, jl_7, jl_8, jl_9, jl_10, jl_11, jl_12, jl_13, jl_14, jl_15, jl_16, jl_17, jl_18, jl_20, jl_23, jl_29, jl_30, jl_31, jl_32, jl_35, jl_40, jl_48, jl_50, jl_51, jl_57, jl_60, jl_61, jl_63, jl_64, jl_65, jl_89, jl_97, jl_99, jl_100, jl_101, jl_113, jl_122, jl_200, jl_240, jl_241, jl_255, jl_259, jl_260, jl_261, jl_262, jl_313, jl_500, jl_999, jl_10000, jl_10004, jl_10005, jl_10006, jl_10007, jl_10008, jl_10009, jl_10010, jl_10011, jl_10012, jl_10013, jl_10014, jl_10015, jl_10017, jl_10018, jl_10023, jl_12345, jl_1103515245, jN_add, jN_mul, jN_sub, jN_addm, jN_div, jN_irm, jN_nat, le_T, le_F, lt_T, lt_F, eq_F, ib_T, ib_F, add_j0, if_true, if_false, eq_self, Bool.false_eq_true, Option.bind_some, pb, jn, Nat.zero_add, Nat.add_zero, Nat.le_refl], hm, fun _ _ => rfl⟩
    | succ d ih =>
      intro q j m hj hq hm; obtain ⟨q, rfl⟩ : ∃ z, q = z + 1 := ⟨q - 1, by omega⟩
      obtain ⟨m', v, e, hm', ho⟩ := ih q (j + 1) (va_up (va_up m r (upd (m r) (1 + j) (s (iD j 1)))) r (upd ((va_up m r (upd (m r) (1 + j) (s (iD j 1)))) r) (7 + j) (s (iD j 4)))) (by omega) (by omega) (by
        rw [vup_s, vup_s]
        refine ⟨?_, fun k hk => ⟨?_, ?_⟩⟩
        · rw [upd_n (by omega), upd_n (by omega)]; exact hm.1
        · rw [upd_n (by omega)]
          by_cases hkj : k = j
          · subst hkj; rw [upd_s]
          · rw [upd_n (by omega)]; exact (hm.2 k (by omega)).1
        · by_cases hkj : k = j
          · subst hkj; rw [upd_s]
          · rw [upd_n (by omega), upd_n (by omega)]; exact (hm.2 k (by omega)).2)
      refine ⟨m', v, ?_, hm', fun q hq => ?_⟩
      · rw [← e, X9_mark_q2_pm_L1, h4]; simp (disch := omega) only [jl_0, jl_1, jl_2, jl_3, jl_4, jl_5, jl_6, jl_7, jl_8, jl_9, jl_10, jl_11, jl_12, jl_13, jl_14, jl_15, jl_16, jl_17, jl_18, jl_20, jl_23, jl_29, jl_30, jl_31, jl_32, jl_35, jl_40, jl_48, jl_50, jl_51, jl_57, jl_60, jl_61, jl_63, jl_64, jl_65, jl_89, jl_97, jl_99, jl_100, jl_101, jl_113, jl_122, jl_200, jl_240, jl_241, jl_255, jl_259, jl_260, jl_261, jl_262, jl_313, jl_500, jl_999, jl_10000, jl_10004, jl_10005, jl_10006, jl_10007, jl_10008, jl_10009, jl_10010, jl_10011, jl_10012, jl_10013, jl_10014, jl_10015, jl_10017, jl_10018, jl_10023, jl_12345, jl_1103515245, jN_add, jN_mul, jN_sub, jN_addm, jN_div, jN_irm, jN_nat, le_T, le_F, lt_T, lt_F, eq_F, ib_T, ib_F, add_j0, if_true, if_false, eq_self, Bool.false_eq_true, Option.bind_some, pb, jn, Nat.zero_add, Nat.add_zero, dOf_at]
      · rw [ho q hq, vup_n hq, vup_n hq]
  obtain ⟨m', v, e, hm', ho⟩ := L (nS s) n 0 (va_up m0 r (upd (m0 r) 0 (s 0))) (by omega) (by omega) (by rw [vup_s]; exact ⟨upd_s _ _ _, fun k hk => absurd hk (by omega)⟩)
  refine ⟨m', ?_, hm', fun q hq => ?_⟩
  · unfold X9_mark_q2_pm
    rw [show (0 : Int32) = jN 0 from rfl, e]; rfl
  · rw [ho q hq, vup_n hq]
theorem m_saves (hn : 70 ≤ n) (s l : Nat → Int32) {d : Nat} (hd : d < 5) : X12_saves n s l (jN d) = some (fun i => if 65 * d ≤ i ∧ i < 65 * d + 65 then s (i - 65 * d) else l i) := by
  have L : X12_saves_L1 n s (jN d) n (jN 0) l = some (jN 65, fun i => if 65 * d ≤ i ∧ i < 65 * d + 65 then s (i - 65 * d) else l i) := by
    have := lp_0 (fun k j => X12_saves_L1 n s (jN d) k (jN j) (fun i => if 65 * d ≤ i ∧ i < 65 * d + j then s (i - 65 * d) else l i)) 65 (n := n) (R := some (jN 65, fun i => if 65 * d ≤ i ∧ i < 65 * d + 65 then s (i - 65 * d) else l i)) (by omega) (fun k j hj => ?_) (fun k => ?_)
    · rw [← this]; congr 1; funext i; rw [if_neg (by omega)]
    · show X12_saves_L1 n s (jN d) (k + 1) (jN j) _ = _
      rw [X12_saves_L1]; simp (disch := omega) only [jl_0, jl_1, jl_2, jl_3, jl_4, jl_5, jl_6, jl_7, jl_8, jl_9, jl_10, jl_11, jl_12, jl_13, jl_14, jl_15, jl_16, jl_17, jl_18, jl_20, jl_23, jl_29, jl_30, jl_31, jl_32, jl_35, jl_40, jl_48, jl_50, jl_51, jl_57, jl_60, jl_61, jl_63, jl_64, jl_65, jl_89, jl_97, jl_99, jl_100, jl_101, jl_113, jl_122, jl_200, jl_240, jl_241, jl_255, jl_259, jl_260, jl_261, jl_262, jl_313, jl_500, jl_999, jl_10000, jl_10004, jl_10005, jl_10006, jl_10007, jl_10008, jl_10009, jl_10010, jl_10011, jl_10012, jl_10013, jl_10014, jl_10015, jl_10017, jl_10018, jl_10023, jl_12345, jl_1103515245, jN_add, jN_mul, jN_sub, jN_addm, jN_div, jN_irm, jN_nat, le_T, le_F, lt_T, lt_F, eq_F, ib_T, ib_F, add_j0, if_true, if_false, eq_self, Bool.false_eq_true, Option.bind_some, pb, jn, Nat.zero_add, Nat.add_zero]
      congr 1; funext i
      by_cases h : i = 65 * d + j
      · subst h; rw [upd_s, if_pos (by omega)]; congr 1; omega
      · rw [upd_n h]
        by_cases h2 : 65 * d ≤ i ∧ i < 65 * d + j
        · rw [if_pos h2, if_pos (by omega)]
        · rw [if_neg h2, if_neg (by omega)]
    · show X12_saves_L1 n s (jN d) (k + 1) (jN 65) _ = _
      rw [X12_saves_L1]; simp (disch := omega) only [jl_0, jl_1, jl_2, jl_3, jl_4, jl_5, jl_6, jl_7, jl_8, jl_9, jl_10, jl_11, jl_12, jl_13, jl_14, jl_15, jl_16, jl_17, jl_18, jl_20, jl_23, jl_29, jl_30, jl_31, jl_32, jl_35, jl_40, jl_48, jl_50, jl_51, jl_57, jl_60, jl_61, jl_63, jl_64, jl_65, jl_89, jl_97, jl_99, jl_100, jl_101, jl_113, jl_122, jl_200, jl_240, jl_241, jl_255, jl_259, jl_260, jl_261, jl_262, jl_313, jl_500, jl_999, jl_10000, jl_10004, jl_10005, jl_10006, jl_10007, jl_10008, jl_10009, jl_10010, jl_10011, jl_10012, jl_10013, jl_10014, jl_10015, jl_10017, jl_10018, jl_10023, jl_12345, jl_1103515245, jN_add, jN_mul, jN_sub, jN_addm, jN_div, jN_irm, jN_nat, le_T, le_F, lt_T, lt_F, eq_F, ib_T, ib_F, add_j0, if_true, if_false, eq_self, Bool.false_eq_true, Option.bind_some, pb, jn, Nat.zero_add, Nat.add_zero, Nat.le_refl]
  unfold X12_saves
  rw [show (0 : Int32) = jN 0 from rfl, L]; rfl
theorem m_restores (hn : 70 ≤ n) {u s l : Nat → Int32} {d : Nat} (hd : d < 5) (hl : ∀ i, i < 65 → l (65 * d + i) = s i) (hu : ∀ i, 65 ≤ i → u i = s i) : X12_restores n u l (jN d) = some s := by
  have L : X12_restores_L1 n l (jN d) n (jN 0) u = some (jN 65, s) := by
    have := lp_0 (fun k j => X12_restores_L1 n l (jN d) k (jN j) (fun i => if i < j then s i else u i)) 65 (n := n) (R := some (jN 65, s)) (by omega) (fun k j hj => ?_) (fun k => ?_)
    · rw [← this]; rfl
    · show X12_restores_L1 n l (jN d) (k + 1) (jN j) _ = _
      rw [X12_restores_L1]; simp (disch := omega) only [jl_0, jl_1, jl_2, jl_3, jl_4, jl_5, jl_6, jl_7, jl_8, jl_9, jl_10, jl_11, jl_12, jl_13, jl_14, jl_15, jl_16, jl_17, jl_18, jl_20, jl_23, jl_29, jl_30, jl_31, jl_32, jl_35, jl_40, jl_48, jl_50, jl_51, jl_57, jl_60, jl_61, jl_63, jl_64, jl_65, jl_89, jl_97, jl_99, jl_100, jl_101, jl_113, jl_122, jl_200, jl_240, jl_241, jl_255, jl_259, jl_260, jl_261, jl_262, jl_313, jl_500, jl_999, jl_10000, jl_10004, jl_10005, jl_10006, jl_10007, jl_10008, jl_10009, jl_10010, jl_10011, jl_10012, jl_10013, jl_10014, jl_10015, jl_10017, jl_10018, jl_10023, jl_12345, jl_1103515245, jN_add, jN_mul, jN_sub, jN_addm, jN_div, jN_irm, jN_nat, le_T, le_F, lt_T, lt_F, eq_F, ib_T, ib_F, add_j0, if_true, if_false, eq_self, Bool.false_eq_true, Option.bind_some, pb, jn, Nat.zero_add, Nat.add_zero]
      congr 1; funext i
      by_cases h : i = j
      · subst h; rw [upd_s, if_pos (by omega)]; exact hl i (by omega)
      · rw [upd_n h]
        by_cases h2 : i < j
        · rw [if_pos h2, if_pos (by omega)]
        · rw [if_neg h2, if_neg (by omega)]
    · show X12_restores_L1 n l (jN d) (k + 1) (jN 65) _ = _
      rw [X12_restores_L1]; simp (disch := omega) only [jl_0, jl_1, jl_2, jl_3, jl_4, jl_5, jl_6, jl_7, jl_8, jl_9, jl_10, jl_11, jl_12, jl_13, jl_14, jl_15, jl_16, jl_17, jl_18, jl_20, jl_23, jl_29, jl_30, jl_31, jl_32, jl_35, jl_40, jl_48, jl_50, jl_51, jl_57, jl_60, jl_61, jl_63, jl_64, jl_65, jl_89, jl_97, jl_99, jl_100, jl_101, jl_113, jl_122, jl_200, jl_240, jl_241, jl_255, jl_259, jl_260, jl_261, jl_262, jl_313, jl_500, jl_999, jl_10000, jl_10004, jl_10005, jl_10006, jl_10007, jl_10008, jl_10009, jl_10010, jl_10011, jl_10012, jl_10013, jl_10014, jl_10015, jl_10017, jl_10018, jl_10023, jl_12345, jl_1103515245, jN_add, jN_mul, jN_sub, jN_addm, jN_div, jN_irm, jN_nat, le_T, le_F, lt_T, lt_F, eq_F, ib_T, ib_F, add_j0, if_true, if_false, eq_self, Bool.false_eq_true, Option.bind_some, pb, jn, Nat.zero_add, Nat.add_zero, Nat.le_refl]
      congr 2; funext i
      by_cases h2 : i < 65
      · rw [if_pos h2]
      · rw [if_neg h2]; exact hu i (by omega)
  unfold X12_restores
  rw [show (0 : Int32) = jN 0 from rfl, L]; rfl
/-- what the two sides have found of plans of N, C of them at most -/
def PR (N c0 C : Nat) (first : Nat → Int32) (steps most many few ever : Int32) (bp : Nat → Int32) (mm mn mf me : Int32) : Prop :=
  ever = me ∧ ((few = -3 ∧ mf = 5) ∨ ∃ f, f ≤ 4 ∧ few = jN f ∧ mf = jN f) ∧ ((many = 0 ∧ mn = 0 ∧ mm = -1) ∨ ∃ c, 1 ≤ c ∧ c ≤ C ∧ many = jN c ∧ mn = jN c ∧ most = mm ∧ steps = jN N ∧ ∀ i, i < N → first i = bp i ∧ NB c0 (bp i))
theorem sim_leaf (hn : 70 ≤ n) (h : GS s) {N c0 C d w t : Nat} (hN : N ≤ 4) (hd : d = N) (hw : w ≤ 1000) (ht : t ≤ 4) (hC : C ≤ 3000) {first acts bp plan : Nat → Int32} {steps most many few ever mm mn mf me : Int32} (wanted : Int32) (hP : PR N c0 C first steps most many few ever bp mm mn mf me) (hA : ∀ i, i < d → acts i = plan i ∧ NB c0 (plan i)) :
    ∃ first' steps' most' many' few' ever' bp' mm' mn' mf' me', X5_weigh n (dOf s) (s 4) first steps most many few ever acts wanted (jN d) (jN w) (jN t) = some (first', steps', most', many', few', ever') ∧ X12_endsPlan n s plan bp mm mn mf me (jN N) (jN w) (jN t) wanted = some (bp', mm', mn', mf', me') ∧ PR N c0 (C + 1) first' steps' most' many' few' ever' bp' mm' mn' mf' me' ∧ many' ≠ 0 := by
  subst hd
  obtain ⟨p1, p2, p3⟩ := hP
  have hcp : X12_endsPlan_L1 n plan (jN d) n (jN 0) bp = some (jN d, fun i => if i < d then plan i else bp i) := by
    have := lp_0 (fun k j => X12_endsPlan_L1 n plan (jN d) k (jN j) (fun i => if i < j then plan i else bp i)) d (n := n) (R := some (jN d, fun i => if i < d then plan i else bp i)) (by omega) (fun k j hj => ?_) (fun k => ?_)
    · rw [← this]; rfl
    · show X12_endsPlan_L1 n plan (jN d) (k + 1) (jN j) _ = _
      rw [X12_endsPlan_L1]; simp (disch := omega) only [jl_0, jl_1, jl_2, jl_3, jl_4, jl_5, jl_6, jl_7, jl_8, jl_9, jl_10, jl_11, jl_12, jl_13, jl_14, jl_15, jl_16, jl_17, jl_18, jl_20, jl_23, jl_29, jl_30, jl_31, jl_32, jl_35, jl_40, jl_48, jl_50, jl_51, jl_57, jl_60, jl_61, jl_63, jl_64, jl_65, jl_89, jl_97, jl_99, jl_100, jl_101, jl_113, jl_122, jl_200, jl_240, jl_241, jl_255, jl_259, jl_260, jl_261, jl_262, jl_313, jl_500, jl_999, jl_10000, jl_10004, jl_10005, jl_10006, jl_10007, jl_10008, jl_10009, jl_10010, jl_10011, jl_10012, jl_10013, jl_10014, jl_10015, jl_10017, jl_10018, jl_10023, jl_12345, jl_1103515245, jN_add, jN_mul, jN_sub, jN_addm, jN_div, jN_irm, jN_nat, le_T, le_F, lt_T, lt_F, eq_F, ib_T, ib_F, add_j0, if_true, if_false, eq_self, Bool.false_eq_true, Option.bind_some, pb, jn, Nat.zero_add, Nat.add_zero]
      congr 1; funext i
      by_cases h : i = j
      · subst h; rw [upd_s, if_pos (by omega)]
      · rw [upd_n h]
        by_cases h2 : i < j
        · rw [if_pos h2, if_pos (by omega)]
        · rw [if_neg h2, if_neg (by omega)]
    · show X12_endsPlan_L1 n plan (jN d) (k + 1) (jN d) _ = _
      rw [X12_endsPlan_L1]; simp (disch := omega) only [jl_0, jl_1, jl_2, jl_3, jl_4, jl_5, jl_6, jl_7, jl_8, jl_9, jl_10, jl_11, jl_12, jl_13, jl_14, jl_15, jl_16, jl_17, jl_18, jl_20, jl_23, jl_29, jl_30, jl_31, jl_32, jl_35, jl_40, jl_48, jl_50, jl_51, jl_57, jl_60, jl_61, jl_63, jl_64, jl_65, jl_89, jl_97, jl_99, jl_100, jl_101, jl_113, jl_122, jl_200, jl_240, jl_241, jl_255, jl_259, jl_260, jl_261, jl_262, jl_313, jl_500, jl_999, jl_10000, jl_10004, jl_10005, jl_10006, jl_10007, jl_10008, jl_10009, jl_10010, jl_10011, jl_10012, jl_10013, jl_10014, jl_10015, jl_10017, jl_10018, jl_10023, jl_12345, jl_1103515245, jN_add, jN_mul, jN_sub, jN_addm, jN_div, jN_irm, jN_nat, le_T, le_F, lt_T, lt_F, eq_F, ib_T, ib_F, add_j0, if_true, if_false, eq_self, Bool.false_eq_true, Option.bind_some, pb, jn, Nat.zero_add, Nat.add_zero, Nat.le_refl]
  -- the worth
  have hX : ∃ first' steps' most' many0 bp' mm' mn0, (if many = 0 then (if (ib (jN d) 5) = true then some ((va_cpy (acts) first 0 0 (jN d).toNatClampNeg), jN d, jN w, (0 : Int32)) else none) else (if jN w ≤ most then some (first, steps, most, many) else (if (ib (jN d) 5) = true then some ((va_cpy (acts) first 0 0 (jN d).toNatClampNeg), jN d, jN w, (0 : Int32)) else none))) = some (first', steps', most', many0) ∧ (if jN w ≤ mm then some (bp, mm, mn) else ((X12_endsPlan_L1 n plan (jN d) n (0 : Int32) bp).bind fun o3 => some (o3.2, jN w, (0 : Int32)))) = some (bp', mm', mn0) ∧ most' = mm' ∧ steps' = jN d ∧ (∀ i, i < d → first' i = bp' i ∧ NB c0 (bp' i)) ∧ ∃ c, c ≤ C ∧ many0 = jN c ∧ mn0 = jN c ∧ (jN w = mm' ∨ 1 ≤ c) := by
    rw [ib_T (show d < 5 by omega) (by omega), jN_nat (show d < 2147483648 by omega), if_pos rfl]
    have cpE : ∀ i, i < d → va_cpy acts first 0 0 d i = plan i := fun i hi => by
      unfold va_cpy; rw [if_pos (by omega)]; rw [← (hA i hi).1]; congr 1; omega
    have new : ∃ first' steps' most' many0 bp' mm' mn0, some ((va_cpy (acts) first 0 0 d), jN d, jN w, (0 : Int32)) = some (first', steps', most', many0) ∧ (((X12_endsPlan_L1 n plan (jN d) n (0 : Int32) bp).bind fun o3 => some (o3.2, jN w, (0 : Int32)))) = some (bp', mm', mn0) ∧ most' = mm' ∧ steps' = jN d ∧ (∀ i, i < d → first' i = bp' i ∧ NB c0 (bp' i)) ∧ ∃ c, c ≤ C ∧ many0 = jN c ∧ mn0 = jN c ∧ (jN w = mm' ∨ 1 ≤ c) := by
      refine ⟨_, _, _, _, (fun i => if i < d then plan i else bp i), jN w, 0, rfl, ?_, rfl, rfl, fun i hi => ?_, 0, by omega, rfl, rfl, Or.inl rfl⟩
      · rw [show (0 : Int32) = jN 0 from rfl, hcp]; rfl
      · rw [cpE i hi]
        have e9 : (fun i => if i < d then plan i else bp i) i = plan i := if_pos hi
        rw [e9]; exact ⟨rfl, (hA i hi).2⟩
    rcases p3 with ⟨a1, a2, a3⟩ | ⟨c, c1, c2, a1, a2, a3, a4, a5⟩
    · rw [if_pos a1, a3, if_neg (show ¬ jN w ≤ -1 from fun q => by
        have h1 := Int32.le_iff_toInt_le.mp q
        have h2 : (jN w).toInt = w := Int32.toInt_ofNat_of_lt (by omega)
        rw [h2] at h1
        have h3 : (-1 : Int32).toInt = -1 := rfl
        rw [h3] at h1; omega)]
      exact new
    · rw [if_neg (show ¬ many = 0 from fun q => by rw [a1] at q; have := (jN_inj (b := 0) (by omega) (by omega)).mp q; omega)]
      by_cases hq : jN w ≤ mm
      · rw [a3, if_pos hq, if_pos hq]
        exact ⟨first, steps, mm, many, bp, mm, mn, rfl, rfl, rfl, a4, a5, c, c2, a1, a2, Or.inr c1⟩
      · rw [a3, if_neg hq, if_neg hq]; exact new
  obtain ⟨first', steps', most', many0, bp', mm', mn0, e1, e2, b1, b2, b3, c, b4, b5, b6, b7⟩ := hX
  subst b1 b5 b6 p1
  -- how few
  have hF : ∃ few' mf', (if (wanted &&& (rsN s ^^^ (-1 : Int32))) = 0 then (if few = -3 then jN t else (if few ≤ jN t then few else jN t)) else few) = few' ∧ (if (wanted &&& (rsN s ^^^ (-1 : Int32))) = 0 then (if mf ≤ jN t then mf else jN t) else mf) = mf' ∧ ((few' = -3 ∧ mf' = 5) ∨ ∃ f, f ≤ 4 ∧ few' = jN f ∧ mf' = jN f) := by
    refine ⟨_, _, rfl, rfl, ?_⟩
    by_cases hz : (wanted &&& (rsN s ^^^ (-1 : Int32))) = 0
    · rw [if_pos hz, if_pos hz]
      rcases p2 with ⟨a1, a2⟩ | ⟨f, a0, a1, a2⟩
      · rw [if_pos a1, a2, if_neg (show ¬ (5 : Int32) ≤ jN t by simp (disch := omega) only [jl_0, jl_1, jl_2, jl_3, jl_4, jl_5, jl_6, jl_7, jl_8, jl_9, jl_10, jl_11, jl_12, jl_13, jl_14, jl_15, jl_16, jl_17, jl_18, jl_20, jl_23, jl_29, jl_30, jl_31, jl_32, jl_35, jl_40, jl_48, jl_50, jl_51, jl_57, jl_60, jl_61, jl_63, jl_64, jl_65, jl_89, jl_97, jl_99, jl_100, jl_101, jl_113, jl_122, jl_200, jl_240, jl_241, jl_255, jl_259, jl_260, jl_261, jl_262, jl_313, jl_500, jl_999, jl_10000, jl_10004, jl_10005, jl_10006, jl_10007, jl_10008, jl_10009, jl_10010, jl_10011, jl_10012, jl_10013, jl_10014, jl_10015, jl_10017, jl_10018, jl_10023, jl_12345, jl_1103515245, jN_add, jN_mul, jN_sub, jN_addm, jN_div, jN_irm, jN_nat, le_T, le_F, lt_T, lt_F, eq_F, ib_T, ib_F, add_j0, if_true, if_false, eq_self, Bool.false_eq_true, Option.bind_some, pb, jn, Nat.zero_add, Nat.add_zero]; exact not_false)]
        exact Or.inr ⟨t, ht, rfl, rfl⟩
      · have e1 : (jN f < 0) = False := lt_F (b := 0) (by omega) (by omega)
        rw [a1, a2, if_neg (show ¬ jN f = -3 from fun q => by rw [q] at e1; exact absurd e1 (by decide))]
        by_cases hq : jN f ≤ jN t
        · rw [if_pos hq]; exact Or.inr ⟨f, a0, rfl, rfl⟩
        · rw [if_neg hq]; exact Or.inr ⟨t, ht, rfl, rfl⟩
    · rw [if_neg hz, if_neg hz]; exact p2
  obtain ⟨few', mf', g1, g2, g3⟩ := hF
  have hmany : ∃ c', 1 ≤ c' ∧ c' ≤ C + 1 ∧ (if jN w = most' then jN c + 1 else jN c) = jN c' ∧ jN c + (if jN w = most' then (1 : Int32) else 0) = jN c' := by
    by_cases hq : jN w = most'
    · rw [if_pos hq, if_pos hq]; exact ⟨c + 1, by omega, by omega, by simp (disch := omega) only [jl_0, jl_1, jl_2, jl_3, jl_4, jl_5, jl_6, jl_7, jl_8, jl_9, jl_10, jl_11, jl_12, jl_13, jl_14, jl_15, jl_16, jl_17, jl_18, jl_20, jl_23, jl_29, jl_30, jl_31, jl_32, jl_35, jl_40, jl_48, jl_50, jl_51, jl_57, jl_60, jl_61, jl_63, jl_64, jl_65, jl_89, jl_97, jl_99, jl_100, jl_101, jl_113, jl_122, jl_200, jl_240, jl_241, jl_255, jl_259, jl_260, jl_261, jl_262, jl_313, jl_500, jl_999, jl_10000, jl_10004, jl_10005, jl_10006, jl_10007, jl_10008, jl_10009, jl_10010, jl_10011, jl_10012, jl_10013, jl_10014, jl_10015, jl_10017, jl_10018, jl_10023, jl_12345, jl_1103515245, jN_add, jN_mul, jN_sub, jN_addm, jN_div, jN_irm, jN_nat, le_T, le_F, lt_T, lt_F, eq_F, ib_T, ib_F, add_j0, if_true, if_false, eq_self, Bool.false_eq_true, Option.bind_some, pb, jn, Nat.zero_add, Nat.add_zero], by simp (disch := omega) only [jl_0, jl_1, jl_2, jl_3, jl_4, jl_5, jl_6, jl_7, jl_8, jl_9, jl_10, jl_11, jl_12, jl_13, jl_14, jl_15, jl_16, jl_17, jl_18, jl_20, jl_23, jl_29, jl_30, jl_31, jl_32, jl_35, jl_40, jl_48, jl_50, jl_51, jl_57, jl_60, jl_61, jl_63, jl_64, jl_65, jl_89, jl_97, jl_99, jl_100, jl_101, jl_113, jl_122, jl_200, jl_240, jl_241, jl_255, jl_259, jl_260, jl_261, jl_262, jl_313, jl_500, jl_999, jl_10000, jl_10004, jl_10005, jl_10006, jl_10007, jl_10008, jl_10009, jl_10010, jl_10011, jl_10012, jl_10013, jl_10014, jl_10015, jl_10017, jl_10018, jl_10023, jl_12345, jl_1103515245, jN_add, jN_mul, jN_sub, jN_addm, jN_div, jN_irm, jN_nat, le_T, le_F, lt_T, lt_F, eq_F, ib_T, ib_F, add_j0, if_true, if_false, eq_self, Bool.false_eq_true, Option.bind_some, pb, jn, Nat.zero_add, Nat.add_zero]⟩
    · rw [if_neg hq, if_neg hq]
      have : 1 ≤ c := by rcases b7 with q | q; exact absurd q hq; exact q
      exact ⟨c, this, by omega, rfl, Int32.add_zero _⟩
  obtain ⟨c', k1, k2, k3, k4⟩ := hmany
  refine ⟨first', steps', most', jN c', few', ever ||| rsN s, bp', most', jN c', mf', ever ||| rsN s, ?_, ?_, ⟨rfl, g3, Or.inr ⟨c', k1, k2, rfl, rfl, rfl, b2, b3⟩⟩, fun q => by have := (jN_inj (b := 0) (by omega) (by omega)).mp q; omega⟩
  · unfold X5_weigh
    rw [e1]
    simp only [Option.bind_some, pb]
    rw [k3, q2_rightSet, c_rightSet h (by omega), ← g1]
    simp only [Option.bind_some]
    by_cases hz : (wanted &&& (rsN s ^^^ (-1 : Int32))) = 0
    · rw [if_pos hz, if_pos hz]
      by_cases hf : few = -3
      · rw [if_pos hf, if_pos hf]
      · rw [if_neg hf, if_neg hf]
        by_cases hq : few ≤ jN t
        · rw [if_pos hq, if_pos hq]
        · rw [if_neg hq, if_neg hq]
    · rw [if_neg hz, if_neg hz]
  · unfold X12_endsPlan
    rw [e2]
    simp only [Option.bind_some, pb]
    rw [k4, m_those h (by omega), ← g2]
    simp only [Option.bind_some]
end PLAN
