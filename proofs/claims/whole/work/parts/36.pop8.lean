section OPS8
variable {n : Nat} {s : Nat → Int32}
/-! sets of six: numbers below 64 -/
theorem bt_1 : ∀ v, v < 64 → ∀ j, j < 6 → ((jN v >>> (jN j &&& 31)) &&& 1) = jN (if v.testBit j = true then 1 else 0) := by decide +kernel
theorem bt_or : ∀ v, v < 64 → ∀ w, w < 64 → jN v ||| jN w = jN (v ||| w) := by decide +kernel
theorem bt_sh : ∀ j, j < 6 → (1 : Int32) <<< (jN j &&& 31) = jN (2 ^ j) := by decide +kernel
theorem bt_md : ∀ v, v < 64 → ∀ k, k < 6 → decide ((jN v &&& (jN (2 ^ k) - 1)) = 0) = decide (irm (jN v) (jN (2 ^ k)) = 0) := by decide +kernel
theorem bt_nz : ∀ k, k < 6 → decide (jN (2 ^ k) = 0) = false := by decide +kernel
theorem or_64 {v w : Nat} (hv : v < 64) (hw : w < 64) : v ||| w < 64 := Nat.or_lt_two_pow (n := 6) hv hw
theorem p2_64 {j : Nat} (h : j < 6) : 2 ^ j < 64 := by
  (have : j = 0 ∨ j = 1 ∨ j = 2 ∨ j = 3 ∨ j = 4 ∨ j = 5 := by omega)
  rcases this with rfl | rfl | rfl | rfl | rfl | rfl <;> decide
/-- those close to a dial a -/
def clS (s : Nat → Int32) (a : Nat) : Nat → Nat
  | 0 => 0
  | b + 1 => if decide (s (iD b 4) = 0) = true ∧ agB s a b = true then clS s a b ||| 2 ^ b else clS s a b
theorem clS_b (s : Nat → Int32) (a : Nat) : ∀ b, b ≤ 6 → clS s a b < 64 ∧ ∀ i, (clS s a b).testBit i = true → s (iD i 4) = 0 := by
  intro b
  induction b with
  | zero => intro _; exact ⟨by show 0 < 64; omega, fun i h => by simp [clS] at h⟩
  | succ b ih =>
    intro hb
    obtain ⟨h1, h2⟩ := ih (by omega)
    unfold clS
    split
    · rename_i q
      refine ⟨or_64 h1 (p2_64 (by omega)), fun i hi => ?_⟩
      rw [Nat.testBit_or, Bool.or_eq_true] at hi
      rcases hi with hi | hi
      · exact h2 i hi
      · rw [Nat.testBit_two_pow] at hi
        have : b = i := of_decide_eq_true hi
        subst this
        exact of_decide_eq_true q.1
    · exact ⟨h1, h2⟩
def clN (s : Nat → Int32) (a : Nat) : Nat := clS s a (nS s)
theorem c_close (h : GS s) (hn : 20 ≤ n) {a : Nat} (ha : a < 6) : X9_closeTo_q0 n (dOf s) (s 4) (jN a) = some (jN (clN s a)) := by
  obtain ⟨hc, h4⟩ := h.n
  have L : X9_closeTo_q0_L1 n (dOf s) (s 4) (jN a) n (jN 0) (jN 0) = some (jN (clN s a), jN (nS s)) := by
    refine lp_0 (fun q j => X9_closeTo_q0_L1 n (dOf s) (s 4) (jN a) q (jN (clS s a j)) (jN j)) (nS s) (by omega) (fun q j hj => ?_) (fun q => ?_)
    · obtain ⟨x, hx, e1⟩ := h.right (k := j) (by omega)
      obtain ⟨hb, -⟩ := clS_b s a j (by omega)
      show X9_closeTo_q0_L1 n (dOf s) (s 4) (jN a) (q + 1) (jN (clS s a j)) (jN j) = X9_closeTo_q0_L1 n (dOf s) (s 4) (jN a) q (jN (if decide (s (iD j 4) = 0) = true ∧ agB s a j = true then clS s a j ||| 2 ^ j else clS s a j)) (jN (j + 1))
      rw [X9_closeTo_q0_L1, if_neg (by rw [h4]; simp (disch := omega) only [jl_0, jl_1, jl_2, jl_3, jl_4, jl_5, jl_6, jl_7, jl_8, jl_9, jl_10, jl_11, jl_12, jl_13, jl_14, jl_15, jl_16, jl_17, jl_18, jl_20, jl_23, jl_29, jl_30, jl_31, jl_32, jl_35, jl_40, jl_48, jl_50, jl_51, jl_57, jl_60, jl_61, jl_63, jl_64, jl_65, jl_89, jl_97, jl_99, jl_100, jl_101, jl_113, jl_122, jl_200, jl_240, jl_241, jl_255, jl_259, jl_260, jl_261, jl_262, jl_313, jl_500, jl_999, jl_10000, jl_10004, jl_10005, jl_10006, jl_10007, jl_10008, jl_10009, jl_10010, jl_10011, jl_10012, jl_10013, jl_10014, jl_10015, jl_10017, jl_10018, jl_10023, jl_12345, jl_1103515245, jN_add, jN_mul, jN_sub, jN_addm, jN_div, jN_irm, jN_nat, le_T, le_F, lt_T, lt_F, eq_F, ib_T, ib_F, add_j0, if_true, if_false, eq_self, Bool.false_eq_true, Option.bind_some, pb, jn, Nat.zero_add, Nat.add_zero]; exact not_false), c_isRight h (by omega)]
      simp only [Option.bind_some]
      rw [e1, show jN j + 1 = jN (j + 1) from by simp (disch := omega) only [jl_0, jl_1, jl_2, jl_3, jl_4, jl_5, jl_6, jl_7, jl_8, jl_9, jl_10, jl_11, jl_12, jl_13, jl_14, jl_15, jl_16, jl_17, jl_18, jl_20, jl_23, jl_29, jl_30, jl_31, jl_32, jl_35, jl_40, jl_48, jl_50, jl_51, jl_57, jl_60, jl_61, jl_63, jl_64, jl_65, jl_89, jl_97, jl_99, jl_100, jl_101, jl_113, jl_122, jl_200, jl_240, jl_241, jl_255, jl_259, jl_260, jl_261, jl_262, jl_313, jl_500, jl_999, jl_10000, jl_10004, jl_10005, jl_10006, jl_10007, jl_10008, jl_10009, jl_10010, jl_10011, jl_10012, jl_10013, jl_10014, jl_10015, jl_10017, jl_10018, jl_10023, jl_12345, jl_1103515245, jN_add, jN_mul, jN_sub, jN_addm, jN_div, jN_irm, jN_nat, le_T, le_F, lt_T, lt_F, eq_F, ib_T, ib_F, add_j0, if_true, if_false, eq_self, Bool.false_eq_true, Option.bind_some, pb, jn, Nat.zero_add, Nat.add_zero], bt_sh j (by omega), bt_or _ hb _ (p2_64 (by omega))]
      (have : x = 0 ∨ x = 1 := by omega)
      rcases this with rfl | rfl
      · rw [c_agree h ha (by omega)]
        by_cases hq : agB s a j = true
        · rw [if_pos (show jN 0 = 0 from rfl), if_pos (show decide (jN 0 = 0) = true ∧ agB s a j = true from ⟨rfl, hq⟩), hq]; rfl
        · rw [if_pos (show jN 0 = 0 from rfl), if_neg (show ¬ (decide (jN 0 = 0) = true ∧ agB s a j = true) from fun z => hq z.2), if_neg hq]; rfl
      · rw [if_neg (show ¬ jN 1 = 0 by decide), if_neg (show ¬ (decide (jN 1 = 0) = true ∧ agB s a j = true) from fun z => absurd z.1 (by decide))]; rfl
    · show X9_closeTo_q0_L1 n (dOf s) (s 4) (jN a) (q + 1) _ (jN (nS s)) = _
      rw [X9_closeTo_q0_L1, h4]; simp (disch := omega) only [jl_0, jl_1, jl_2, jl_3, jl_4, jl_5, jl_6, jl_7, jl_8, jl_9, jl_10, jl_11, jl_12, jl_13, jl_14, jl_15, jl_16, jl_17, jl_18, jl_20, jl_23, jl_29, jl_30, jl_31, jl_32, jl_35, jl_40, jl_48, jl_50, jl_51, jl_57, jl_60, jl_61, jl_63, jl_64, jl_65, jl_89, jl_97, jl_99, jl_100, jl_101, jl_113, jl_122, jl_200, jl_240, jl_241, jl_255, jl_259, jl_260, jl_261, jl_262, jl_313, jl_500, jl_999, jl_10000, jl_10004, jl_10005, jl_10006, jl_10007, jl_10008, jl_10009, jl_10010, jl_10011, jl_10012, jl_10013, jl_10014, jl_10015, jl_10017, jl_10018, jl_10023, jl_12345, jl_1103515245, jN_add, jN_mul, jN_sub, jN_addm, jN_div, jN_irm, jN_nat, le_T, le_F, lt_T, lt_F, eq_F, ib_T, ib_F, add_j0, if_true, if_false, eq_self, Bool.false_eq_true, Option.bind_some, pb, jn, Nat.zero_add, Nat.add_zero, Nat.le_refl]; rfl
  unfold X9_closeTo_q0
  rw [show (0 : Int32) = jN 0 from rfl, L]; rfl
/-- a knot grows by those close to a, if a is in it (and isn't right) -/
def knX (s : Nat → Int32) (v a : Nat) : Nat := if v.testBit a = true ∧ decide (s (iD a 4) = 0) = true then v ||| clN s a else v
def knR (s : Nat → Int32) : Nat → Nat → Nat
  | v, 0 => v
  | v, a + 1 => knX s (knR s v a) a
def knT (s : Nat → Int32) (v : Nat) : Nat → Nat
  | 0 => v
  | t + 1 => knR s (knT s v t) (nS s)
theorem knR_b (h : GS s) {v : Nat} (hv : v < 64) : ∀ a, a ≤ 6 → knR s v a < 64 ∧ ((∀ i, v.testBit i = true → s (iD i 4) = 0) → ∀ i, (knR s v a).testBit i = true → s (iD i 4) = 0) := by
  intro a
  induction a with
  | zero => intro _; exact ⟨hv, fun q => q⟩
  | succ a ih =>
    intro ha
    obtain ⟨h1, h2⟩ := ih (by omega)
    obtain ⟨c1, c2⟩ := clS_b s a (nS s) h.n.1
    show knX s (knR s v a) a < 64 ∧ ((∀ i, v.testBit i = true → s (iD i 4) = 0) → ∀ i, (knX s (knR s v a) a).testBit i = true → s (iD i 4) = 0)
    unfold knX
    split
    · refine ⟨or_64 h1 c1, fun q i hi => ?_⟩
      rw [Nat.testBit_or, Bool.or_eq_true] at hi
      rcases hi with hi | hi
      · exact h2 q i hi
      · exact c2 i hi
    · exact ⟨h1, h2⟩
theorem knT_b (h : GS s) {v : Nat} (hv : v < 64) : ∀ t, knT s v t < 64 ∧ ((∀ i, v.testBit i = true → s (iD i 4) = 0) → ∀ i, (knT s v t).testBit i = true → s (iD i 4) = 0) := by
  intro t
  induction t with
  | zero => exact ⟨hv, fun q => q⟩
  | succ t ih =>
    obtain ⟨h1, h2⟩ := ih
    obtain ⟨g1, g2⟩ := knR_b h h1 (nS s) h.n.1
    exact ⟨g1, fun q => g2 (h2 q)⟩
theorem m_knot (h : GS s) (hn : 20 ≤ n) {v : Nat} (hv : v < 64) : X12_knotOf_L1 n s n (jN v) (jN 0) = some (jN (knT s v (nS s)), jN (nS s)) := by
  obtain ⟨hc, h4⟩ := h.n
  have L3 : ∀ a u, a < 6 → u < 64 → X12_knotOf_L3 n s (jN a) n (jN u) (jN 0) = some (jN (knX s u a), jN (nS s)) := by
    intro a u ha hu
    by_cases hb : u.testBit a = true ∧ decide (s (iD a 4) = 0) = true
    · have e0 : s (iD a 4) = 0 := of_decide_eq_true hb.2
      have hk : knX s u a = u ||| clN s a := if_pos hb
      rw [hk]
      have := lp_0 (fun q j => X12_knotOf_L3 n s (jN a) q (jN (u ||| clS s a j)) (jN j)) (nS s) (n := n) (R := some (jN (u ||| clN s a), jN (nS s))) (by omega) (fun q j hj => ?_) (fun q => ?_)
      · rw [← this]; show _ = X12_knotOf_L3 n s (jN a) n (jN (u ||| 0)) (jN 0); rw [Nat.or_zero]
      · obtain ⟨x, hx, e1⟩ := h.right (k := j) (by omega)
        obtain ⟨hcb, -⟩ := clS_b s a j (by omega)
        have hub := or_64 hu hcb
        show X12_knotOf_L3 n s (jN a) (q + 1) (jN (u ||| clS s a j)) (jN j) = X12_knotOf_L3 n s (jN a) q (jN (u ||| (if decide (s (iD j 4) = 0) = true ∧ agB s a j = true then clS s a j ||| 2 ^ j else clS s a j))) (jN (j + 1))
        rw [X12_knotOf_L3, if_neg (by rw [h4]; simp (disch := omega) only [jl_0, jl_1, jl_2, jl_3, jl_4, jl_5, jl_6, jl_7, jl_8, jl_9, jl_10, jl_11, jl_12, jl_13, jl_14, jl_15, jl_16, jl_17, jl_18, jl_20, jl_23, jl_29, jl_30, jl_31, jl_32, jl_35, jl_40, jl_48, jl_50, jl_51, jl_57, jl_60, jl_61, jl_63, jl_64, jl_65, jl_89, jl_97, jl_99, jl_100, jl_101, jl_113, jl_122, jl_200, jl_240, jl_241, jl_255, jl_259, jl_260, jl_261, jl_262, jl_313, jl_500, jl_999, jl_10000, jl_10004, jl_10005, jl_10006, jl_10007, jl_10008, jl_10009, jl_10010, jl_10011, jl_10012, jl_10013, jl_10014, jl_10015, jl_10017, jl_10018, jl_10023, jl_12345, jl_1103515245, jN_add, jN_mul, jN_sub, jN_addm, jN_div, jN_irm, jN_nat, le_T, le_F, lt_T, lt_F, eq_F, ib_T, ib_F, add_j0, if_true, if_false, eq_self, Bool.false_eq_true, Option.bind_some, pb, jn, Nat.zero_add, Nat.add_zero]; exact not_false), bt_1 _ hub a ha, Nat.testBit_or, hb.1]
        unfold X12_areClose
        rw [show X12_get s (jN a) (4 : Int32) = some (s (iD a 4)) from m_get (j := 4) ha (by omega), show X12_get s (jN j) (4 : Int32) = some (s (iD j 4)) from m_get (j := 4) (by omega) (by omega), m_agree ha (by omega), e0, e1]
        simp only [Option.bind_some, Bool.true_or, if_true]
        rw [show jN j + 1 = jN (j + 1) from by simp (disch := omega) only [jl_0, jl_1, jl_2, jl_3, jl_4, jl_5, jl_6, jl_7, jl_8, jl_9, jl_10, jl_11, jl_12, jl_13, jl_14, jl_15, jl_16, jl_17, jl_18, jl_20, jl_23, jl_29, jl_30, jl_31, jl_32, jl_35, jl_40, jl_48, jl_50, jl_51, jl_57, jl_60, jl_61, jl_63, jl_64, jl_65, jl_89, jl_97, jl_99, jl_100, jl_101, jl_113, jl_122, jl_200, jl_240, jl_241, jl_255, jl_259, jl_260, jl_261, jl_262, jl_313, jl_500, jl_999, jl_10000, jl_10004, jl_10005, jl_10006, jl_10007, jl_10008, jl_10009, jl_10010, jl_10011, jl_10012, jl_10013, jl_10014, jl_10015, jl_10017, jl_10018, jl_10023, jl_12345, jl_1103515245, jN_add, jN_mul, jN_sub, jN_addm, jN_div, jN_irm, jN_nat, le_T, le_F, lt_T, lt_F, eq_F, ib_T, ib_F, add_j0, if_true, if_false, eq_self, Bool.false_eq_true, Option.bind_some, pb, jn, Nat.zero_add, Nat.add_zero], bt_sh j (by omega), if_pos (show jN 1 = 1 from rfl)]
        (have : x = 0 ∨ x = 1 := by omega)
        rcases this with rfl | rfl
        · by_cases hq : agB s a j = true
          · rw [if_pos (show jN 0 = 0 from rfl), if_pos (show decide (jN 0 = 0) = true ∧ agB s a j = true from ⟨rfl, hq⟩)]
            simp only [hq, if_true, Option.bind_some, if_false, show ((1 : Int32) = 0) = False from eq_false (by decide)]
            rw [bt_or _ hub _ (p2_64 (by omega)), Nat.or_assoc]
          · rw [if_pos (show jN 0 = 0 from rfl), if_neg (show ¬ (decide (jN 0 = 0) = true ∧ agB s a j = true) from fun z => hq z.2), if_neg hq]
            simp only [Option.bind_some, if_true]
            rw [Int32.or_zero]
        · rw [if_neg (show ¬ jN 1 = 0 by decide), if_neg (show ¬ (decide (jN 1 = 0) = true ∧ agB s a j = true) from fun z => absurd z.1 (by decide))]
          simp only [Option.bind_some, if_true]
          rw [Int32.or_zero]
      · show X12_knotOf_L3 n s (jN a) (q + 1) _ (jN (nS s)) = _
        rw [X12_knotOf_L3, h4]; simp (disch := omega) only [jl_0, jl_1, jl_2, jl_3, jl_4, jl_5, jl_6, jl_7, jl_8, jl_9, jl_10, jl_11, jl_12, jl_13, jl_14, jl_15, jl_16, jl_17, jl_18, jl_20, jl_23, jl_29, jl_30, jl_31, jl_32, jl_35, jl_40, jl_48, jl_50, jl_51, jl_57, jl_60, jl_61, jl_63, jl_64, jl_65, jl_89, jl_97, jl_99, jl_100, jl_101, jl_113, jl_122, jl_200, jl_240, jl_241, jl_255, jl_259, jl_260, jl_261, jl_262, jl_313, jl_500, jl_999, jl_10000, jl_10004, jl_10005, jl_10006, jl_10007, jl_10008, jl_10009, jl_10010, jl_10011, jl_10012, jl_10013, jl_10014, jl_10015, jl_10017, jl_10018, jl_10023, jl_12345, jl_1103515245, jN_add, jN_mul, jN_sub, jN_addm, jN_div, jN_irm, jN_nat, le_T, le_F, lt_T, lt_F, eq_F, ib_T, ib_F, add_j0, if_true, if_false, eq_self, Bool.false_eq_true, Option.bind_some, pb, jn, Nat.zero_add, Nat.add_zero, Nat.le_refl]; rfl
    · have hk : knX s u a = u := if_neg hb
      rw [hk]
      refine lp_0 (fun q j => X12_knotOf_L3 n s (jN a) q (jN u) (jN j)) (nS s) (by omega) (fun q j hj => ?_) (fun q => ?_)
      · obtain ⟨y, hy, e0⟩ := h.right ha
        show X12_knotOf_L3 n s (jN a) (q + 1) (jN u) (jN j) = X12_knotOf_L3 n s (jN a) q (jN u) (jN (j + 1))
        rw [X12_knotOf_L3, if_neg (by rw [h4]; simp (disch := omega) only [jl_0, jl_1, jl_2, jl_3, jl_4, jl_5, jl_6, jl_7, jl_8, jl_9, jl_10, jl_11, jl_12, jl_13, jl_14, jl_15, jl_16, jl_17, jl_18, jl_20, jl_23, jl_29, jl_30, jl_31, jl_32, jl_35, jl_40, jl_48, jl_50, jl_51, jl_57, jl_60, jl_61, jl_63, jl_64, jl_65, jl_89, jl_97, jl_99, jl_100, jl_101, jl_113, jl_122, jl_200, jl_240, jl_241, jl_255, jl_259, jl_260, jl_261, jl_262, jl_313, jl_500, jl_999, jl_10000, jl_10004, jl_10005, jl_10006, jl_10007, jl_10008, jl_10009, jl_10010, jl_10011, jl_10012, jl_10013, jl_10014, jl_10015, jl_10017, jl_10018, jl_10023, jl_12345, jl_1103515245, jN_add, jN_mul, jN_sub, jN_addm, jN_div, jN_irm, jN_nat, le_T, le_F, lt_T, lt_F, eq_F, ib_T, ib_F, add_j0, if_true, if_false, eq_self, Bool.false_eq_true, Option.bind_some, pb, jn, Nat.zero_add, Nat.add_zero]; exact not_false), bt_1 _ hu a ha, show jN j + 1 = jN (j + 1) from by simp (disch := omega) only [jl_0, jl_1, jl_2, jl_3, jl_4, jl_5, jl_6, jl_7, jl_8, jl_9, jl_10, jl_11, jl_12, jl_13, jl_14, jl_15, jl_16, jl_17, jl_18, jl_20, jl_23, jl_29, jl_30, jl_31, jl_32, jl_35, jl_40, jl_48, jl_50, jl_51, jl_57, jl_60, jl_61, jl_63, jl_64, jl_65, jl_89, jl_97, jl_99, jl_100, jl_101, jl_113, jl_122, jl_200, jl_240, jl_241, jl_255, jl_259, jl_260, jl_261, jl_262, jl_313, jl_500, jl_999, jl_10000, jl_10004, jl_10005, jl_10006, jl_10007, jl_10008, jl_10009, jl_10010, jl_10011, jl_10012, jl_10013, jl_10014, jl_10015, jl_10017, jl_10018, jl_10023, jl_12345, jl_1103515245, jN_add, jN_mul, jN_sub, jN_addm, jN_div, jN_irm, jN_nat, le_T, le_F, lt_T, lt_F, eq_F, ib_T, ib_F, add_j0, if_true, if_false, eq_self, Bool.false_eq_true, Option.bind_some, pb, jn, Nat.zero_add, Nat.add_zero]]
        by_cases hq : u.testBit a = true
        · have hy1 : y = 1 := by
            rcases Nat.lt_or_ge y 1 with q | q
            · exfalso; apply hb; refine ⟨hq, ?_⟩; rw [e0, show y = 0 by omega]; rfl
            · omega
          subst hy1
          unfold X12_areClose
          rw [show X12_get s (jN a) (4 : Int32) = some (s (iD a 4)) from m_get (j := 4) ha (by omega), e0, if_pos hq, if_pos (show jN 1 = 1 from rfl)]
          simp only [Option.bind_some]
          rw [if_neg (show ¬ jN 1 = 0 by decide)]
          simp only [Option.bind_some, if_true]
          rw [Int32.or_zero]
        · rw [if_neg hq, if_neg (show ¬ jN 0 = 1 by decide)]
          simp only [Option.bind_some]
          rw [Int32.or_zero]
      · show X12_knotOf_L3 n s (jN a) (q + 1) _ (jN (nS s)) = _
        rw [X12_knotOf_L3, h4]; simp (disch := omega) only [jl_0, jl_1, jl_2, jl_3, jl_4, jl_5, jl_6, jl_7, jl_8, jl_9, jl_10, jl_11, jl_12, jl_13, jl_14, jl_15, jl_16, jl_17, jl_18, jl_20, jl_23, jl_29, jl_30, jl_31, jl_32, jl_35, jl_40, jl_48, jl_50, jl_51, jl_57, jl_60, jl_61, jl_63, jl_64, jl_65, jl_89, jl_97, jl_99, jl_100, jl_101, jl_113, jl_122, jl_200, jl_240, jl_241, jl_255, jl_259, jl_260, jl_261, jl_262, jl_313, jl_500, jl_999, jl_10000, jl_10004, jl_10005, jl_10006, jl_10007, jl_10008, jl_10009, jl_10010, jl_10011, jl_10012, jl_10013, jl_10014, jl_10015, jl_10017, jl_10018, jl_10023, jl_12345, jl_1103515245, jN_add, jN_mul, jN_sub, jN_addm, jN_div, jN_irm, jN_nat, le_T, le_F, lt_T, lt_F, eq_F, ib_T, ib_F, add_j0, if_true, if_false, eq_self, Bool.false_eq_true, Option.bind_some, pb, jn, Nat.zero_add, Nat.add_zero, Nat.le_refl]
  have L2 : ∀ u, u < 64 → X12_knotOf_L2 n s n (jN u) (jN 0) = some (jN (knR s u (nS s)), jN (nS s)) := by
    intro u hu
    refine lp_0 (fun q j => X12_knotOf_L2 n s q (jN (knR s u j)) (jN j)) (nS s) (by omega) (fun q j hj => ?_) (fun q => ?_)
    · obtain ⟨hb, -⟩ := knR_b h hu j (by omega)
      show X12_knotOf_L2 n s (q + 1) (jN (knR s u j)) (jN j) = X12_knotOf_L2 n s q (jN (knX s (knR s u j) j)) (jN (j + 1))
      rw [X12_knotOf_L2, if_neg (by rw [h4]; simp (disch := omega) only [jl_0, jl_1, jl_2, jl_3, jl_4, jl_5, jl_6, jl_7, jl_8, jl_9, jl_10, jl_11, jl_12, jl_13, jl_14, jl_15, jl_16, jl_17, jl_18, jl_20, jl_23, jl_29, jl_30, jl_31, jl_32, jl_35, jl_40, jl_48, jl_50, jl_51, jl_57, jl_60, jl_61, jl_63, jl_64, jl_65, jl_89, jl_97, jl_99, jl_100, jl_101, jl_113, jl_122, jl_200, jl_240, jl_241, jl_255, jl_259, jl_260, jl_261, jl_262, jl_313, jl_500, jl_999, jl_10000, jl_10004, jl_10005, jl_10006, jl_10007, jl_10008, jl_10009, jl_10010, jl_10011, jl_10012, jl_10013, jl_10014, jl_10015, jl_10017, jl_10018, jl_10023, jl_12345, jl_1103515245, jN_add, jN_mul, jN_sub, jN_addm, jN_div, jN_irm, jN_nat, le_T, le_F, lt_T, lt_F, eq_F, ib_T, ib_F, add_j0, if_true, if_false, eq_self, Bool.false_eq_true, Option.bind_some, pb, jn, Nat.zero_add, Nat.add_zero]; exact not_false), show X12_knotOf_L3 n s (jN j) n (jN (knR s u j)) (0 : Int32) = _ from L3 j _ (by omega) hb, show jN j + 1 = jN (j + 1) from by simp (disch := omega) only [jl_0, jl_1, jl_2, jl_3, jl_4, jl_5, jl_6, jl_7, jl_8, jl_9, jl_10, jl_11, jl_12, jl_13, jl_14, jl_15, jl_16, jl_17, jl_18, jl_20, jl_23, jl_29, jl_30, jl_31, jl_32, jl_35, jl_40, jl_48, jl_50, jl_51, jl_57, jl_60, jl_61, jl_63, jl_64, jl_65, jl_89, jl_97, jl_99, jl_100, jl_101, jl_113, jl_122, jl_200, jl_240, jl_241, jl_255, jl_259, jl_260, jl_261, jl_262, jl_313, jl_500, jl_999, jl_10000, jl_10004, jl_10005, jl_10006, jl_10007, jl_10008, jl_10009, jl_10010, jl_10011, jl_10012, jl_10013, jl_10014, jl_10015, jl_10017, jl_10018, jl_10023, jl_12345, jl_1103515245, jN_add, jN_mul, jN_sub, jN_addm, jN_div, jN_irm, jN_nat, le_T, le_F, lt_T, lt_F, eq_F, ib_T, ib_F, add_j0, if_true, if_false, eq_self, Bool.false_eq_true, Option.bind_some, pb, jn, Nat.zero_add, Nat.add_zero]]; rfl
    · show X12_knotOf_L2 n s (q + 1) _ (jN (nS s)) = _
      rw [X12_knotOf_L2, h4]; simp (disch := omega) only [jl_0, jl_1, jl_2, jl_3, jl_4, jl_5, jl_6, jl_7, jl_8, jl_9, jl_10, jl_11, jl_12, jl_13, jl_14, jl_15, jl_16, jl_17, jl_18, jl_20, jl_23, jl_29, jl_30, jl_31, jl_32, jl_35, jl_40, jl_48, jl_50, jl_51, jl_57, jl_60, jl_61, jl_63, jl_64, jl_65, jl_89, jl_97, jl_99, jl_100, jl_101, jl_113, jl_122, jl_200, jl_240, jl_241, jl_255, jl_259, jl_260, jl_261, jl_262, jl_313, jl_500, jl_999, jl_10000, jl_10004, jl_10005, jl_10006, jl_10007, jl_10008, jl_10009, jl_10010, jl_10011, jl_10012, jl_10013, jl_10014, jl_10015, jl_10017, jl_10018, jl_10023, jl_12345, jl_1103515245, jN_add, jN_mul, jN_sub, jN_addm, jN_div, jN_irm, jN_nat, le_T, le_F, lt_T, lt_F, eq_F, ib_T, ib_F, add_j0, if_true, if_false, eq_self, Bool.false_eq_true, Option.bind_some, pb, jn, Nat.zero_add, Nat.add_zero, Nat.le_refl]
  refine lp_0 (fun q j => X12_knotOf_L1 n s q (jN (knT s v j)) (jN j)) (nS s) (by omega) (fun q j hj => ?_) (fun q => ?_)
  · obtain ⟨hb, -⟩ := knT_b h hv j
    show X12_knotOf_L1 n s (q + 1) (jN (knT s v j)) (jN j) = X12_knotOf_L1 n s q (jN (knR s (knT s v j) (nS s))) (jN (j + 1))
    rw [X12_knotOf_L1, if_neg (by rw [h4]; simp (disch := omega) only [jl_0, jl_1, jl_2, jl_3, jl_4, jl_5, jl_6, jl_7, jl_8, jl_9, jl_10, jl_11, jl_12, jl_13, jl_14, jl_15, jl_16, jl_17, jl_18, jl_20, jl_23, jl_29, jl_30, jl_31, jl_32, jl_35, jl_40, jl_48, jl_50, jl_51, jl_57, jl_60, jl_61, jl_63, jl_64, jl_65, jl_89, jl_97, jl_99, jl_100, jl_101, jl_113, jl_122, jl_200, jl_240, jl_241, jl_255, jl_259, jl_260, jl_261, jl_262, jl_313, jl_500, jl_999, jl_10000, jl_10004, jl_10005, jl_10006, jl_10007, jl_10008, jl_10009, jl_10010, jl_10011, jl_10012, jl_10013, jl_10014, jl_10015, jl_10017, jl_10018, jl_10023, jl_12345, jl_1103515245, jN_add, jN_mul, jN_sub, jN_addm, jN_div, jN_irm, jN_nat, le_T, le_F, lt_T, lt_F, eq_F, ib_T, ib_F, add_j0, if_true, if_false, eq_self, Bool.false_eq_true, Option.bind_some, pb, jn, Nat.zero_add, Nat.add_zero]; exact not_false), show X12_knotOf_L2 n s n (jN (knT s v j)) (0 : Int32) = _ from L2 _ hb, show jN j + 1 = jN (j + 1) from by simp (disch := omega) only [jl_0, jl_1, jl_2, jl_3, jl_4, jl_5, jl_6, jl_7, jl_8, jl_9, jl_10, jl_11, jl_12, jl_13, jl_14, jl_15, jl_16, jl_17, jl_18, jl_20, jl_23, jl_29, jl_30, jl_31, jl_32, jl_35, jl_40, jl_48, jl_50, jl_51, jl_57, jl_60, jl_61, jl_63, jl_64, jl_65, jl_89, jl_97, jl_99, jl_100, jl_101, jl_113, jl_122, jl_200, jl_240, jl_241, jl_255, jl_259, jl_260, jl_261, jl_262, jl_313, jl_500, jl_999, jl_10000, jl_10004, jl_10005, jl_10006, jl_10007, jl_10008, jl_10009, jl_10010, jl_10011, jl_10012, jl_10013, jl_10014, jl_10015, jl_10017, jl_10018, jl_10023, jl_12345, jl_1103515245, jN_add, jN_mul, jN_sub, jN_addm, jN_div, jN_irm, jN_nat, le_T, le_F, lt_T, lt_F, eq_F, ib_T, ib_F, add_j0, if_true, if_false, eq_self, Bool.false_eq_true, Option.bind_some, pb, jn, Nat.zero_add, Nat.add_zero]]; rfl
  · show X12_knotOf_L1 n s (q + 1) _ (jN (nS s)) = _
    rw [X12_knotOf_L1, h4]; simp (disch := omega) only [jl_0, jl_1, jl_2, jl_3, jl_4, jl_5, jl_6, jl_7, jl_8, jl_9, jl_10, jl_11, jl_12, jl_13, jl_14, jl_15, jl_16, jl_17, jl_18, jl_20, jl_23, jl_29, jl_30, jl_31, jl_32, jl_35, jl_40, jl_48, jl_50, jl_51, jl_57, jl_60, jl_61, jl_63, jl_64, jl_65, jl_89, jl_97, jl_99, jl_100, jl_101, jl_113, jl_122, jl_200, jl_240, jl_241, jl_255, jl_259, jl_260, jl_261, jl_262, jl_313, jl_500, jl_999, jl_10000, jl_10004, jl_10005, jl_10006, jl_10007, jl_10008, jl_10009, jl_10010, jl_10011, jl_10012, jl_10013, jl_10014, jl_10015, jl_10017, jl_10018, jl_10023, jl_12345, jl_1103515245, jN_add, jN_mul, jN_sub, jN_addm, jN_div, jN_irm, jN_nat, le_T, le_F, lt_T, lt_F, eq_F, ib_T, ib_F, add_j0, if_true, if_false, eq_self, Bool.false_eq_true, Option.bind_some, pb, jn, Nat.zero_add, Nat.add_zero, Nat.le_refl]
theorem c_knot (h : GS s) (hn : 20 ≤ n) {v : Nat} (hv : v < 64) (hr : ∀ i, v.testBit i = true → s (iD i 4) = 0) : X9_knotOf_q0_L1 n (dOf s) (s 4) n (jN v) (jN 0) = some (jN (knT s v (nS s)), jN (nS s)) := by
  obtain ⟨hc, h4⟩ := h.n
  have L2 : ∀ u, u < 64 → (∀ i, u.testBit i = true → s (iD i 4) = 0) → X9_knotOf_q0_L2 n (dOf s) (s 4) n (jN u) (jN 0) = some (jN (knR s u (nS s)), jN (nS s)) := by
    intro u hu hur
    refine lp_0 (fun q j => X9_knotOf_q0_L2 n (dOf s) (s 4) q (jN (knR s u j)) (jN j)) (nS s) (by omega) (fun q j hj => ?_) (fun q => ?_)
    · obtain ⟨hb, hb2⟩ := knR_b h hu j (by omega)
      obtain ⟨hcl, -⟩ := clS_b s j (nS s) hc
      show X9_knotOf_q0_L2 n (dOf s) (s 4) (q + 1) (jN (knR s u j)) (jN j) = X9_knotOf_q0_L2 n (dOf s) (s 4) q (jN (knX s (knR s u j) j)) (jN (j + 1))
      rw [X9_knotOf_q0_L2, if_neg (by rw [h4]; simp (disch := omega) only [jl_0, jl_1, jl_2, jl_3, jl_4, jl_5, jl_6, jl_7, jl_8, jl_9, jl_10, jl_11, jl_12, jl_13, jl_14, jl_15, jl_16, jl_17, jl_18, jl_20, jl_23, jl_29, jl_30, jl_31, jl_32, jl_35, jl_40, jl_48, jl_50, jl_51, jl_57, jl_60, jl_61, jl_63, jl_64, jl_65, jl_89, jl_97, jl_99, jl_100, jl_101, jl_113, jl_122, jl_200, jl_240, jl_241, jl_255, jl_259, jl_260, jl_261, jl_262, jl_313, jl_500, jl_999, jl_10000, jl_10004, jl_10005, jl_10006, jl_10007, jl_10008, jl_10009, jl_10010, jl_10011, jl_10012, jl_10013, jl_10014, jl_10015, jl_10017, jl_10018, jl_10023, jl_12345, jl_1103515245, jN_add, jN_mul, jN_sub, jN_addm, jN_div, jN_irm, jN_nat, le_T, le_F, lt_T, lt_F, eq_F, ib_T, ib_F, add_j0, if_true, if_false, eq_self, Bool.false_eq_true, Option.bind_some, pb, jn, Nat.zero_add, Nat.add_zero]; exact not_false), bt_1 _ hb j (by omega), show jN j + 1 = jN (j + 1) from by simp (disch := omega) only [jl_0, jl_1, jl_2, jl_3, jl_4, jl_5, jl_6, jl_7, jl_8, jl_9, jl_10, jl_11, jl_12, jl_13, jl_14, jl_15, jl_16, jl_17, jl_18, jl_20, jl_23, jl_29, jl_30, jl_31, jl_32, jl_35, jl_40, jl_48, jl_50, jl_51, jl_57, jl_60, jl_61, jl_63, jl_64, jl_65, jl_89, jl_97, jl_99, jl_100, jl_101, jl_113, jl_122, jl_200, jl_240, jl_241, jl_255, jl_259, jl_260, jl_261, jl_262, jl_313, jl_500, jl_999, jl_10000, jl_10004, jl_10005, jl_10006, jl_10007, jl_10008, jl_10009, jl_10010, jl_10011, jl_10012, jl_10013, jl_10014, jl_10015, jl_10017, jl_10018, jl_10023, jl_12345, jl_1103515245, jN_add, jN_mul, jN_sub, jN_addm, jN_div, jN_irm, jN_nat, le_T, le_F, lt_T, lt_F, eq_F, ib_T, ib_F, add_j0, if_true, if_false, eq_self, Bool.false_eq_true, Option.bind_some, pb, jn, Nat.zero_add, Nat.add_zero], c_close h hn (by omega)]
      unfold knX
      by_cases hq : (knR s u j).testBit j = true
      · rw [if_pos hq, if_neg (show ¬ jN 1 = 0 by decide), if_pos ⟨hq, decide_eq_true (hb2 hur j hq)⟩]
        simp only [Option.bind_some]
        rw [bt_or _ hb _ (show clN s j < 64 from hcl)]
      · rw [if_neg hq, if_pos (show jN 0 = 0 from rfl), if_neg (fun z => hq z.1)]; rfl
    · show X9_knotOf_q0_L2 n (dOf s) (s 4) (q + 1) _ (jN (nS s)) = _
      rw [X9_knotOf_q0_L2, h4]; simp (disch := omega) only [jl_0, jl_1, jl_2, jl_3, jl_4, jl_5, jl_6, jl_7, jl_8, jl_9, jl_10, jl_11, jl_12, jl_13, jl_14, jl_15, jl_16, jl_17, jl_18, jl_20, jl_23, jl_29, jl_30, jl_31, jl_32, jl_35, jl_40, jl_48, jl_50, jl_51, jl_57, jl_60, jl_61, jl_63, jl_64, jl_65, jl_89, jl_97, jl_99, jl_100, jl_101, jl_113, jl_122, jl_200, jl_240, jl_241, jl_255, jl_259, jl_260, jl_261, jl_262, jl_313, jl_500, jl_999, jl_10000, jl_10004, jl_10005, jl_10006, jl_10007, jl_10008, jl_10009, jl_10010, jl_10011, jl_10012, jl_10013, jl_10014, jl_10015, jl_10017, jl_10018, jl_10023, jl_12345, jl_1103515245, jN_add, jN_mul, jN_sub, jN_addm, jN_div, jN_irm, jN_nat, le_T, le_F, lt_T, lt_F, eq_F, ib_T, ib_F, add_j0, if_true, if_false, eq_self, Bool.false_eq_true, Option.bind_some, pb, jn, Nat.zero_add, Nat.add_zero, Nat.le_refl]
  refine lp_0 (fun q j => X9_knotOf_q0_L1 n (dOf s) (s 4) q (jN (knT s v j)) (jN j)) (nS s) (by omega) (fun q j hj => ?_) (fun q => ?_)
  · obtain ⟨hb, hb2⟩ := knT_b h hv j
    show X9_knotOf_q0_L1 n (dOf s) (s 4) (q + 1) (jN (knT s v j)) (jN j) = X9_knotOf_q0_L1 n (dOf s) (s 4) q (jN (knR s (knT s v j) (nS s))) (jN (j + 1))
    rw [X9_knotOf_q0_L1, if_neg (by rw [h4]; simp (disch := omega) only [jl_0, jl_1, jl_2, jl_3, jl_4, jl_5, jl_6, jl_7, jl_8, jl_9, jl_10, jl_11, jl_12, jl_13, jl_14, jl_15, jl_16, jl_17, jl_18, jl_20, jl_23, jl_29, jl_30, jl_31, jl_32, jl_35, jl_40, jl_48, jl_50, jl_51, jl_57, jl_60, jl_61, jl_63, jl_64, jl_65, jl_89, jl_97, jl_99, jl_100, jl_101, jl_113, jl_122, jl_200, jl_240, jl_241, jl_255, jl_259, jl_260, jl_261, jl_262, jl_313, jl_500, jl_999, jl_10000, jl_10004, jl_10005, jl_10006, jl_10007, jl_10008, jl_10009, jl_10010, jl_10011, jl_10012, jl_10013, jl_10014, jl_10015, jl_10017, jl_10018, jl_10023, jl_12345, jl_1103515245, jN_add, jN_mul, jN_sub, jN_addm, jN_div, jN_irm, jN_nat, le_T, le_F, lt_T, lt_F, eq_F, ib_T, ib_F, add_j0, if_true, if_false, eq_self, Bool.false_eq_true, Option.bind_some, pb, jn, Nat.zero_add, Nat.add_zero]; exact not_false), show X9_knotOf_q0_L2 n (dOf s) (s 4) n (jN (knT s v j)) (0 : Int32) = _ from L2 _ hb (hb2 hr), show jN j + 1 = jN (j + 1) from by simp (disch := omega) only [jl_0, jl_1, jl_2, jl_3, jl_4, jl_5, jl_6, jl_7, jl_8, jl_9, jl_10, jl_11, jl_12, jl_13, jl_14, jl_15, jl_16, jl_17, jl_18, jl_20, jl_23, jl_29, jl_30, jl_31, jl_32, jl_35, jl_40, jl_48, jl_50, jl_51, jl_57, jl_60, jl_61, jl_63, jl_64, jl_65, jl_89, jl_97, jl_99, jl_100, jl_101, jl_113, jl_122, jl_200, jl_240, jl_241, jl_255, jl_259, jl_260, jl_261, jl_262, jl_313, jl_500, jl_999, jl_10000, jl_10004, jl_10005, jl_10006, jl_10007, jl_10008, jl_10009, jl_10010, jl_10011, jl_10012, jl_10013, jl_10014, jl_10015, jl_10017, jl_10018, jl_10023, jl_12345, jl_1103515245, jN_add, jN_mul, jN_sub, jN_addm, jN_div, jN_irm, jN_nat, le_T, le_F, lt_T, lt_F, eq_F, ib_T, ib_F, add_j0, if_true, if_false, eq_self, Bool.false_eq_true, Option.bind_some, pb, jn, Nat.zero_add, Nat.add_zero]]; rfl
  · show X9_knotOf_q0_L1 n (dOf s) (s 4) (q + 1) _ (jN (nS s)) = _
    rw [X9_knotOf_q0_L1, h4]; simp (disch := omega) only [jl_0, jl_1, jl_2, jl_3, jl_4, jl_5, jl_6, jl_7, jl_8, jl_9, jl_10, jl_11, jl_12, jl_13, jl_14, jl_15, jl_16, jl_17, jl_18, jl_20, jl_23, jl_29, jl_30, jl_31, jl_32, jl_35, jl_40, jl_48, jl_50, jl_51, jl_57, jl_60, jl_61, jl_63, jl_64, jl_65, jl_89, jl_97, jl_99, jl_100, jl_101, jl_113, jl_122, jl_200, jl_240, jl_241, jl_255, jl_259, jl_260, jl_261, jl_262, jl_313, jl_500, jl_999, jl_10000, jl_10004, jl_10005, jl_10006, jl_10007, jl_10008, jl_10009, jl_10010, jl_10011, jl_10012, jl_10013, jl_10014, jl_10015, jl_10017, jl_10018, jl_10023, jl_12345, jl_1103515245, jN_add, jN_mul, jN_sub, jN_addm, jN_div, jN_irm, jN_nat, le_T, le_F, lt_T, lt_F, eq_F, ib_T, ib_F, add_j0, if_true, if_false, eq_self, Bool.false_eq_true, Option.bind_some, pb, jn, Nat.zero_add, Nat.add_zero, Nat.le_refl]
def knN (s : Nat → Int32) (k : Nat) : Nat := if decide (s (iD k 4) = 0) = true then knT s (2 ^ k) (nS s) else 0
theorem knN_b (h : GS s) {k : Nat} (hk : k < 6) : knN s k < 64 := by
  unfold knN; split
  · exact (knT_b h (p2_64 hk) _).1
  · omega
theorem m_knotOf (h : GS s) (hn : 20 ≤ n) {k : Nat} (hk : k < 6) : X12_knotOf n s (jN k) = some (jN (knN s k)) := by
  obtain ⟨x, hx, e⟩ := h.right hk
  unfold X12_knotOf knN
  rw [bt_sh k hk, show X12_knotOf_L1 n s n (jN (2 ^ k)) (0 : Int32) = _ from m_knot h hn (p2_64 hk), show X12_get s (jN k) (4 : Int32) = some (s (iD k 4)) from m_get (j := 4) hk (by omega), e]
  simp only [Option.bind_some]
  (have : x = 0 ∨ x = 1 := by omega)
  rcases this with rfl | rfl
  · rw [if_neg (show ¬ jN 0 = 1 by decide), if_pos (show decide (jN 0 = 0) = true from rfl)]
  · rw [if_pos (show jN 1 = 1 from rfl), if_neg (show ¬ decide (jN 1 = 0) = true by decide)]; rfl
theorem c_knotOf (h : GS s) (hn : 20 ≤ n) {k : Nat} (hk : k < 6) : X9_knotOf_q0 n (dOf s) (s 4) (jN k) = some (jN (knN s k)) := by
  obtain ⟨x, hx, e⟩ := h.right hk
  unfold X9_knotOf_q0 knN
  rw [c_isRight h hk]
  simp only [Option.bind_some]
  (have : x = 0 ∨ x = 1 := by omega)
  rcases this with rfl | rfl
  · have hr : ∀ i, (2 ^ k).testBit i = true → s (iD i 4) = 0 := fun i hi => by
      rw [Nat.testBit_two_pow] at hi
      have : k = i := of_decide_eq_true hi
      subst this; exact e
    rw [bt_sh k hk, show X9_knotOf_q0_L1 n (dOf s) (s 4) n (jN (2 ^ k)) (0 : Int32) = _ from c_knot h hn (p2_64 hk) hr, e, if_pos (show jN 0 = 0 from rfl), if_pos (show decide (jN 0 = 0) = true from rfl)]; rfl
  · rw [e, if_neg (show ¬ jN 1 = 0 by decide), if_neg (show ¬ decide (jN 1 = 0) = true by decide)]; rfl
def kcX (s : Nat → Int32) (x : Int32) (k : Nat) : Int32 := if decide (jN (knN s k) = 0) = true then x else if decide ((jN (knN s k) &&& (jN (2 ^ k) - 1)) = 0) = true then x + 1 else x
def kcS (s : Nat → Int32) : Nat → Int32
  | 0 => 0
  | k + 1 => kcX s (kcS s k) k
theorem o_knots (h : GS s) (hn : 20 ≤ n) (v1 : Int32) : ∃ r, X11_knots n (dOf s) (s 4) v1 = some r ∧ X12_knots n s v1 = some r := by
  obtain ⟨hc, h4⟩ := h.n
  have LC : X11_countKnots n (dOf s) (s 4) = some (kcS s (nS s)) := by
    have L : X11_countKnots_L1 n (dOf s) (s 4) n (jN 0) (jN 0) = some (kcS s (nS s), jN (nS s)) := by
      refine lp_0 (fun q j => X11_countKnots_L1 n (dOf s) (s 4) q (kcS s j) (jN j)) (nS s) (by omega) (fun q j hj => ?_) (fun q => ?_)
      · show X11_countKnots_L1 n (dOf s) (s 4) (q + 1) (kcS s j) (jN j) = X11_countKnots_L1 n (dOf s) (s 4) q (kcX s (kcS s j) j) (jN (j + 1))
        rw [X11_countKnots_L1, if_neg (by rw [h4]; simp (disch := omega) only [jl_0, jl_1, jl_2, jl_3, jl_4, jl_5, jl_6, jl_7, jl_8, jl_9, jl_10, jl_11, jl_12, jl_13, jl_14, jl_15, jl_16, jl_17, jl_18, jl_20, jl_23, jl_29, jl_30, jl_31, jl_32, jl_35, jl_40, jl_48, jl_50, jl_51, jl_57, jl_60, jl_61, jl_63, jl_64, jl_65, jl_89, jl_97, jl_99, jl_100, jl_101, jl_113, jl_122, jl_200, jl_240, jl_241, jl_255, jl_259, jl_260, jl_261, jl_262, jl_313, jl_500, jl_999, jl_10000, jl_10004, jl_10005, jl_10006, jl_10007, jl_10008, jl_10009, jl_10010, jl_10011, jl_10012, jl_10013, jl_10014, jl_10015, jl_10017, jl_10018, jl_10023, jl_12345, jl_1103515245, jN_add, jN_mul, jN_sub, jN_addm, jN_div, jN_irm, jN_nat, le_T, le_F, lt_T, lt_F, eq_F, ib_T, ib_F, add_j0, if_true, if_false, eq_self, Bool.false_eq_true, Option.bind_some, pb, jn, Nat.zero_add, Nat.add_zero]; exact not_false), c_knotOf h hn (by omega)]
        simp only [Option.bind_some, pb]
        rw [show jN j + 1 = jN (j + 1) from by simp (disch := omega) only [jl_0, jl_1, jl_2, jl_3, jl_4, jl_5, jl_6, jl_7, jl_8, jl_9, jl_10, jl_11, jl_12, jl_13, jl_14, jl_15, jl_16, jl_17, jl_18, jl_20, jl_23, jl_29, jl_30, jl_31, jl_32, jl_35, jl_40, jl_48, jl_50, jl_51, jl_57, jl_60, jl_61, jl_63, jl_64, jl_65, jl_89, jl_97, jl_99, jl_100, jl_101, jl_113, jl_122, jl_200, jl_240, jl_241, jl_255, jl_259, jl_260, jl_261, jl_262, jl_313, jl_500, jl_999, jl_10000, jl_10004, jl_10005, jl_10006, jl_10007, jl_10008, jl_10009, jl_10010, jl_10011, jl_10012, jl_10013, jl_10014, jl_10015, jl_10017, jl_10018, jl_10023, jl_12345, jl_1103515245, jN_add, jN_mul, jN_sub, jN_addm, jN_div, jN_irm, jN_nat, le_T, le_F, lt_T, lt_F, eq_F, ib_T, ib_F, add_j0, if_true, if_false, eq_self, Bool.false_eq_true, Option.bind_some, pb, jn, Nat.zero_add, Nat.add_zero], bt_sh j (by omega)]
        unfold kcX
        congr 1
        by_cases q1 : jN (knN s j) = 0
        · rw [if_pos q1, if_pos (decide_eq_true q1)]
        · rw [if_neg q1, if_neg (fun z => q1 (of_decide_eq_true z))]
          by_cases q2 : (jN (knN s j) &&& (jN (2 ^ j) - 1)) = 0
          · rw [if_pos q2, if_pos (decide_eq_true q2)]
          · rw [if_neg q2, if_neg (fun z => q2 (of_decide_eq_true z))]
      · show X11_countKnots_L1 n (dOf s) (s 4) (q + 1) _ (jN (nS s)) = _
        rw [X11_countKnots_L1, h4]; simp (disch := omega) only [jl_0, jl_1, jl_2, jl_3, jl_4, jl_5, jl_6, jl_7, jl_8, jl_9, jl_10, jl_11, jl_12, jl_13, jl_14, jl_15, jl_16, jl_17, jl_18, jl_20, jl_23, jl_29, jl_30, jl_31, jl_32, jl_35, jl_40, jl_48, jl_50, jl_51, jl_57, jl_60, jl_61, jl_63, jl_64, jl_65, jl_89, jl_97, jl_99, jl_100, jl_101, jl_113, jl_122, jl_200, jl_240, jl_241, jl_255, jl_259, jl_260, jl_261, jl_262, jl_313, jl_500, jl_999, jl_10000, jl_10004, jl_10005, jl_10006, jl_10007, jl_10008, jl_10009, jl_10010, jl_10011, jl_10012, jl_10013, jl_10014, jl_10015, jl_10017, jl_10018, jl_10023, jl_12345, jl_1103515245, jN_add, jN_mul, jN_sub, jN_addm, jN_div, jN_irm, jN_nat, le_T, le_F, lt_T, lt_F, eq_F, ib_T, ib_F, add_j0, if_true, if_false, eq_self, Bool.false_eq_true, Option.bind_some, pb, jn, Nat.zero_add, Nat.add_zero, Nat.le_refl]
    unfold X11_countKnots
    rw [show (0 : Int32) = jN 0 from rfl, L]; rfl
  have LM : X12_knots_L1 n s n (0 : Int32) (0 : Int32) = some (kcS s (nS s), jN (nS s)) := by
    refine lp_0 (fun q j => X12_knots_L1 n s q (kcS s j) (jN j)) (nS s) (by omega) (fun q j hj => ?_) (fun q => ?_)
    · show X12_knots_L1 n s (q + 1) (kcS s j) (jN j) = X12_knots_L1 n s q (kcX s (kcS s j) j) (jN (j + 1))
      rw [X12_knots_L1, if_neg (by rw [h4]; simp (disch := omega) only [jl_0, jl_1, jl_2, jl_3, jl_4, jl_5, jl_6, jl_7, jl_8, jl_9, jl_10, jl_11, jl_12, jl_13, jl_14, jl_15, jl_16, jl_17, jl_18, jl_20, jl_23, jl_29, jl_30, jl_31, jl_32, jl_35, jl_40, jl_48, jl_50, jl_51, jl_57, jl_60, jl_61, jl_63, jl_64, jl_65, jl_89, jl_97, jl_99, jl_100, jl_101, jl_113, jl_122, jl_200, jl_240, jl_241, jl_255, jl_259, jl_260, jl_261, jl_262, jl_313, jl_500, jl_999, jl_10000, jl_10004, jl_10005, jl_10006, jl_10007, jl_10008, jl_10009, jl_10010, jl_10011, jl_10012, jl_10013, jl_10014, jl_10015, jl_10017, jl_10018, jl_10023, jl_12345, jl_1103515245, jN_add, jN_mul, jN_sub, jN_addm, jN_div, jN_irm, jN_nat, le_T, le_F, lt_T, lt_F, eq_F, ib_T, ib_F, add_j0, if_true, if_false, eq_self, Bool.false_eq_true, Option.bind_some, pb, jn, Nat.zero_add, Nat.add_zero]; exact not_false), m_knotOf h hn (by omega)]
      simp only [Option.bind_some]
      rw [show jN j + 1 = jN (j + 1) from by simp (disch := omega) only [jl_0, jl_1, jl_2, jl_3, jl_4, jl_5, jl_6, jl_7, jl_8, jl_9, jl_10, jl_11, jl_12, jl_13, jl_14, jl_15, jl_16, jl_17, jl_18, jl_20, jl_23, jl_29, jl_30, jl_31, jl_32, jl_35, jl_40, jl_48, jl_50, jl_51, jl_57, jl_60, jl_61, jl_63, jl_64, jl_65, jl_89, jl_97, jl_99, jl_100, jl_101, jl_113, jl_122, jl_200, jl_240, jl_241, jl_255, jl_259, jl_260, jl_261, jl_262, jl_313, jl_500, jl_999, jl_10000, jl_10004, jl_10005, jl_10006, jl_10007, jl_10008, jl_10009, jl_10010, jl_10011, jl_10012, jl_10013, jl_10014, jl_10015, jl_10017, jl_10018, jl_10023, jl_12345, jl_1103515245, jN_add, jN_mul, jN_sub, jN_addm, jN_div, jN_irm, jN_nat, le_T, le_F, lt_T, lt_F, eq_F, ib_T, ib_F, add_j0, if_true, if_false, eq_self, Bool.false_eq_true, Option.bind_some, pb, jn, Nat.zero_add, Nat.add_zero], bt_sh j (by omega), bt_nz j (by omega)]
      unfold kcX
      rw [bt_md _ (knN_b h (by omega)) j (by omega)]
      by_cases q1 : jN (knN s j) = 0
      · rw [if_pos q1, if_pos (decide_eq_true q1)]
        simp only [Option.bind_some]
        rw [Int32.add_zero]
      · rw [if_neg q1, if_neg (fun z => q1 (of_decide_eq_true z)), if_pos (show (!false) = true from rfl)]
        by_cases q2 : irm (jN (knN s j)) (jN (2 ^ j)) = 0
        · rw [if_pos q2, if_pos (decide_eq_true q2)]; rfl
        · rw [if_neg q2, if_neg (fun z => q2 (of_decide_eq_true z))]
          simp only [Option.bind_some]
          rw [Int32.add_zero]
    · show X12_knots_L1 n s (q + 1) _ (jN (nS s)) = _
      rw [X12_knots_L1, h4]; simp (disch := omega) only [jl_0, jl_1, jl_2, jl_3, jl_4, jl_5, jl_6, jl_7, jl_8, jl_9, jl_10, jl_11, jl_12, jl_13, jl_14, jl_15, jl_16, jl_17, jl_18, jl_20, jl_23, jl_29, jl_30, jl_31, jl_32, jl_35, jl_40, jl_48, jl_50, jl_51, jl_57, jl_60, jl_61, jl_63, jl_64, jl_65, jl_89, jl_97, jl_99, jl_100, jl_101, jl_113, jl_122, jl_200, jl_240, jl_241, jl_255, jl_259, jl_260, jl_261, jl_262, jl_313, jl_500, jl_999, jl_10000, jl_10004, jl_10005, jl_10006, jl_10007, jl_10008, jl_10009, jl_10010, jl_10011, jl_10012, jl_10013, jl_10014, jl_10015, jl_10017, jl_10018, jl_10023, jl_12345, jl_1103515245, jN_add, jN_mul, jN_sub, jN_addm, jN_div, jN_irm, jN_nat, le_T, le_F, lt_T, lt_F, eq_F, ib_T, ib_F, add_j0, if_true, if_false, eq_self, Bool.false_eq_true, Option.bind_some, pb, jn, Nat.zero_add, Nat.add_zero, Nat.le_refl]
  unfold X11_knots X12_knots
  simp only [jn]
  by_cases hm : v1 = -1
  · refine ⟨kcS s (nS s), ?_, ?_⟩
    · rw [if_pos hm, LC]; rfl
    · rw [if_pos hm, hm, if_pos (by decide), LM]; rfl
  · rw [if_neg hm, if_neg hm]
    rcases has_or h v1 with ⟨e1, e2⟩ | ⟨k, hk, rfl, e1, e2⟩
    · exact ⟨-1, by rw [e2, if_pos (show jN 0 = 0 from rfl)], by rw [e1, if_pos (show jN 0 = 0 from rfl)]⟩
    · refine ⟨jN (knN s k), ?_, ?_⟩
      · rw [e2, if_neg (show ¬ jN 1 = 0 by decide), c_knotOf h hn (by omega)]; rfl
      · rw [e1, if_neg (show ¬ jN 1 = 0 by decide), if_neg (show ¬ jN k < 0 by simp (disch := omega) only [jl_0, jl_1, jl_2, jl_3, jl_4, jl_5, jl_6, jl_7, jl_8, jl_9, jl_10, jl_11, jl_12, jl_13, jl_14, jl_15, jl_16, jl_17, jl_18, jl_20, jl_23, jl_29, jl_30, jl_31, jl_32, jl_35, jl_40, jl_48, jl_50, jl_51, jl_57, jl_60, jl_61, jl_63, jl_64, jl_65, jl_89, jl_97, jl_99, jl_100, jl_101, jl_113, jl_122, jl_200, jl_240, jl_241, jl_255, jl_259, jl_260, jl_261, jl_262, jl_313, jl_500, jl_999, jl_10000, jl_10004, jl_10005, jl_10006, jl_10007, jl_10008, jl_10009, jl_10010, jl_10011, jl_10012, jl_10013, jl_10014, jl_10015, jl_10017, jl_10018, jl_10023, jl_12345, jl_1103515245, jN_add, jN_mul, jN_sub, jN_addm, jN_div, jN_irm, jN_nat, le_T, le_F, lt_T, lt_F, eq_F, ib_T, ib_F, add_j0, if_true, if_false, eq_self, Bool.false_eq_true, Option.bind_some, pb, jn, Nat.zero_add, Nat.add_zero]; exact not_false), m_knotOf h hn (by omega)]; rfl
end OPS8
