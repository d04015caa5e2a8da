section LONE2
variable {n : Nat} {s : Nat → Int32}
/-- the reports behind chime c that stranger i misses -/
def mbS (s : Nat → Int32) (i c : Nat) : Nat → Nat
  | 0 => 0
  | r + 1 => if decide (s (iR r 0) = jN c) = true ∧ soB s i r = false then mbS s i c r ||| 2 ^ r else mbS s i c r
def myS (s : Nat → Int32) (i : Nat) : Nat → Nat
  | 0 => 0
  | c + 1 => myS s i c ||| mbS s i c (rcN s)
def miB (s : Nat → Int32) (i : Nat) : Nat := myS s i 16
theorem mbS_b (s : Nat → Int32) (i c : Nat) : ∀ r, r ≤ 6 → mbS s i c r < 64 ∧ ∀ q, (mbS s i c r).testBit q = (decide (q < r) && (decide (s (iR q 0) = jN c) && !soB s i q)) := by
  intro r
  induction r with
  | zero => intro _; exact ⟨by show 0 < 64; omega, fun q => by simp [mbS]⟩
  | succ r ih =>
    intro hr
    obtain ⟨h1, h2⟩ := ih (by omega)
    unfold mbS
    split
    · rename_i z
      refine ⟨or_64 h1 (p2_64 (by omega)), fun q => ?_⟩
      rw [Nat.testBit_or, h2, Nat.testBit_two_pow]
      by_cases hq : q = r
      · subst hq; rw [z.1, z.2]; simp
      · have e1 : decide (q < r) = decide (q < r + 1) := by by_cases hh : q < r <;> simp [hh] <;> omega
        rw [e1, decide_eq_false (fun z : r = q => hq z.symm), Bool.or_false]
    · rename_i z
      refine ⟨h1, fun q => ?_⟩
      rw [h2]
      by_cases hq : q = r
      · subst hq
        have : (decide (s (iR q 0) = jN c) && !soB s i q) = false := by
          cases h3 : decide (s (iR q 0) = jN c)
          · rfl
          · cases h4 : soB s i q
            · exact absurd ⟨h3, h4⟩ z
            · rfl
        rw [this, Bool.and_false, Bool.and_false]
      · have e1 : decide (q < r) = decide (q < r + 1) := by by_cases hh : q < r <;> simp [hh] <;> omega
        rw [e1]
theorem myS_b (h : GS s) (i : Nat) : ∀ c, c ≤ 16 → myS s i c < 64 ∧ ∀ q, (myS s i c).testBit q = (decide (q < rcN s) && (decide ((s (iR q 0)).toNatClampNeg < c) && !soB s i q)) := by
  intro c
  induction c with
  | zero => intro _; exact ⟨by show 0 < 64; omega, fun q => by simp [myS]⟩
  | succ c ih =>
    intro hc16
    obtain ⟨h1, h2⟩ := ih (by omega)
    obtain ⟨g1, g2⟩ := mbS_b s i c (rcN s) h.rc.1
    refine ⟨or_64 h1 g1, fun q => ?_⟩
    show (myS s i c ||| mbS s i c (rcN s)).testBit q = _
    rw [Nat.testBit_or, h2, g2]
    by_cases hq : q < rcN s
    · have hr6 := h.rc.1
      obtain ⟨a, ha, e⟩ := h.r0 (r := q) (by omega)
      rw [e, jN_nat (by omega), decide_eq_true hq]
      have e2 : decide (jN a = jN c) = decide (a = c) := by
        by_cases hac : a = c
        · subst hac; simp
        · rw [decide_eq_false hac]; exact decide_eq_false (fun z => hac ((jN_inj (by omega) (by omega)).mp z))
      rw [e2]
      cases soB s i q
      · have : decide (a < c + 1) = (decide (a < c) || decide (a = c)) := by
          by_cases q1 : a < c
          · simp [q1]; omega
          · by_cases q2 : a = c
            · simp [q2]
            · simp [q1, q2]; omega
        rw [this]; cases decide (a < c) <;> cases decide (a = c) <;> rfl
      · simp
    · rw [decide_eq_false hq]; rfl
theorem miB_b (h : GS s) (i : Nat) : miB s i < 64 ∧ ∀ q, (miB s i).testBit q = (decide (q < rcN s) && !soB s i q) := by
  obtain ⟨h1, h2⟩ := myS_b h i 16 (Nat.le_refl _)
  refine ⟨h1, fun q => ?_⟩
  show (myS s i 16).testBit q = _
  rw [h2]
  by_cases hq : q < rcN s
  · have hr6 := h.rc.1
    obtain ⟨a, ha, e⟩ := h.r0 (r := q) (by omega)
    rw [e, jN_nat (by omega), decide_eq_true (show a < 16 by omega), Bool.true_and]
  · rw [decide_eq_false hq]; rfl
theorem c_missB (h : GS s) (hn : 70 ≤ n) {i c : Nat} (hi : i < 500) (hc : c < 16) : X9_missedBehind_q0 n (rOf s) (s 6) (jN c) (lgS s i c) (sdS s i c) = some (jN (mbS s i c (rcN s))) := by
  obtain ⟨hr6, h6⟩ := h.rc
  obtain ⟨x, hx, ex⟩ := lgS_b h hi c (by omega)
  obtain ⟨y, hy, ey⟩ := sdS_b h hi c (by omega)
  have L : X9_missedBehind_q0_L1 n (rOf s) (s 6) (jN c) (lgS s i c) (sdS s i c) n (jN 0) (jN 0) = some (jN (mbS s i c (rcN s)), jN (rcN s)) := by
    refine lp_0 (fun q r => X9_missedBehind_q0_L1 n (rOf s) (s 6) (jN c) (lgS s i c) (sdS s i c) q (jN (mbS s i c r)) (jN r)) (rcN s) (by omega) (fun q r hr => ?_) (fun q => ?_)
    · obtain ⟨a, ha, e0⟩ := h.r0 (r := r) (by omega)
      obtain ⟨b, hb, e1⟩ := h.r1 (r := r) (by omega)
      obtain ⟨mb, -⟩ := mbS_b s i c r (by omega)
      show X9_missedBehind_q0_L1 n (rOf s) (s 6) (jN c) (lgS s i c) (sdS s i c) (q + 1) (jN (mbS s i c r)) (jN r) = X9_missedBehind_q0_L1 n (rOf s) (s 6) (jN c) (lgS s i c) (sdS s i c) q (jN (if decide (s (iR r 0) = jN c) = true ∧ soB s i r = false then mbS s i c r ||| 2 ^ r else mbS s i c r)) (jN (r + 1))
      rw [X9_missedBehind_q0_L1, if_neg (by rw [h6]; simp (disch := omega) only [jl_0, jl_1, jl_2, jl_3, jl_4, jl_5, jl_6, jl_7, jl_8, jl_9, jl_10, jl_11, jl_12, jl_13, jl_14, jl_15, jl_16, jl_17, jl_18, jl_20, jl_23, jl_29, jl_30, jl_31, jl_32, jl_35, jl_40, jl_48, jl_50, jl_51, jl_57, jl_60, jl_61, jl_63, jl_64, jl_65, jl_89, jl_97, jl_99, jl_100, jl_101, jl_113, jl_122, jl_200, jl_240, jl_241, jl_255, jl_259, jl_260, jl_261, jl_262, jl_313, jl_500, jl_999, jl_10000, jl_10004, jl_10005, jl_10006, jl_10007, jl_10008, jl_10009, jl_10010, jl_10011, jl_10012, jl_10013, jl_10014, jl_10015, jl_10017, jl_10018, jl_10023, jl_12345, jl_1103515245, jN_add, jN_mul, jN_sub, jN_addm, jN_div, jN_irm, jN_nat, le_T, le_F, lt_T, lt_F, eq_F, ib_T, ib_F, add_j0, if_true, if_false, eq_self, Bool.false_eq_true, Option.bind_some, pb, jn, Nat.zero_add, Nat.add_zero]; exact not_false), ib_T (show r < 6 by omega) (by omega), jN_nat (by omega), rOf_at (by omega) (by omega), rOf_at (by omega) (by omega), rOf_at (by omega) (by omega), rOf_at (by omega) (by omega), bt_sh r (by omega), bt_or _ mb _ (p2_64 (by omega)), show jN r + 1 = jN (r + 1) from by simp (disch := omega) only [jl_0, jl_1, jl_2, jl_3, jl_4, jl_5, jl_6, jl_7, jl_8, jl_9, jl_10, jl_11, jl_12, jl_13, jl_14, jl_15, jl_16, jl_17, jl_18, jl_20, jl_23, jl_29, jl_30, jl_31, jl_32, jl_35, jl_40, jl_48, jl_50, jl_51, jl_57, jl_60, jl_61, jl_63, jl_64, jl_65, jl_89, jl_97, jl_99, jl_100, jl_101, jl_113, jl_122, jl_200, jl_240, jl_241, jl_255, jl_259, jl_260, jl_261, jl_262, jl_313, jl_500, jl_999, jl_10000, jl_10004, jl_10005, jl_10006, jl_10007, jl_10008, jl_10009, jl_10010, jl_10011, jl_10012, jl_10013, jl_10014, jl_10015, jl_10017, jl_10018, jl_10023, jl_12345, jl_1103515245, jN_add, jN_mul, jN_sub, jN_addm, jN_div, jN_irm, jN_nat, le_T, le_F, lt_T, lt_F, eq_F, ib_T, ib_F, add_j0, if_true, if_false, eq_self, Bool.false_eq_true, Option.bind_some, pb, jn, Nat.zero_add, Nat.add_zero]]
      simp only [if_true, pb, jn]
      by_cases hq : s (iR r 0) = jN c
      · have hv : shV s i r = (if s (iR r 1) = 0 then lgS s i c else sdS s i c) := by
          unfold shV
          rw [hq, jN_nat (by omega)]
          by_cases hz : s (iR r 1) = 0
          · rw [if_pos hz, if_pos (decide_eq_true hz)]
          · rw [if_neg hz, if_neg (fun z => hz (of_decide_eq_true z))]
        rw [if_pos hq, ← hv]
        have hso : soB s i r = !decide (X12_in1 (shV s i r) (s (iR r 2)) (s (iR r 3)) = 0) := rfl
        unfold X12_in1 at hso
        by_cases h1 : shV s i r < s (iR r 2)
        · rw [if_pos h1]
          rw [if_pos h1] at hso
          rw [if_pos ⟨decide_eq_true hq, by rw [hso]; rfl⟩]; rfl
        · rw [if_neg h1]
          rw [if_neg h1] at hso
          by_cases h2 : s (iR r 3) < shV s i r
          · rw [if_pos h2] at hso
            rw [if_neg (Int32.not_le.mpr h2), if_pos ⟨decide_eq_true hq, by rw [hso]; rfl⟩]; rfl
          · rw [if_neg h2] at hso
            rw [if_pos (Int32.not_lt.mp h2), if_neg (fun z => by rw [hso] at z; exact absurd z.2 (by decide))]; rfl
      · rw [if_neg hq, if_neg (fun z => hq (of_decide_eq_true z.1))]; rfl
    · show X9_missedBehind_q0_L1 n (rOf s) (s 6) (jN c) _ _ (q + 1) _ (jN (rcN s)) = _
      rw [X9_missedBehind_q0_L1, if_pos (by rw [h6]; simp (disch := omega) only [jl_0, jl_1, jl_2, jl_3, jl_4, jl_5, jl_6, jl_7, jl_8, jl_9, jl_10, jl_11, jl_12, jl_13, jl_14, jl_15, jl_16, jl_17, jl_18, jl_20, jl_23, jl_29, jl_30, jl_31, jl_32, jl_35, jl_40, jl_48, jl_50, jl_51, jl_57, jl_60, jl_61, jl_63, jl_64, jl_65, jl_89, jl_97, jl_99, jl_100, jl_101, jl_113, jl_122, jl_200, jl_240, jl_241, jl_255, jl_259, jl_260, jl_261, jl_262, jl_313, jl_500, jl_999, jl_10000, jl_10004, jl_10005, jl_10006, jl_10007, jl_10008, jl_10009, jl_10010, jl_10011, jl_10012, jl_10013, jl_10014, jl_10015, jl_10017, jl_10018, jl_10023, jl_12345, jl_1103515245, jN_add, jN_mul, jN_sub, jN_addm, jN_div, jN_irm, jN_nat, le_T, le_F, lt_T, lt_F, eq_F, ib_T, ib_F, add_j0, if_true, if_false, eq_self, Bool.false_eq_true, Option.bind_some, pb, jn, Nat.zero_add, Nat.add_zero, Nat.le_refl])]
  unfold X9_missedBehind_q0
  rw [show (0 : Int32) = jN 0 from rfl, L]; rfl
theorem c_missed (h : GS s) (hn : 70 ≤ n) {i : Nat} (hi : i < 500) : X11_missedBy n (kOf s) (rOf s) (s 6) (jN i) = some (jN (miB s i)) := by
  have hk5 : loK i ≤ 5 := by unfold loK; omega
  have hs9 : loS i ≤ 9 := by unfold loS; omega
  have p1 : X11_partOfStranger (jN i) (1 : Int32) = jN (loK i) := by
    unfold X11_partOfStranger loK; rw [if_pos rfl, Nat.add_comm]; simp (disch := omega) only [jl_0, jl_1, jl_2, jl_3, jl_4, jl_5, jl_6, jl_7, jl_8, jl_9, jl_10, jl_11, jl_12, jl_13, jl_14, jl_15, jl_16, jl_17, jl_18, jl_20, jl_23, jl_29, jl_30, jl_31, jl_32, jl_35, jl_40, jl_48, jl_50, jl_51, jl_57, jl_60, jl_61, jl_63, jl_64, jl_65, jl_89, jl_97, jl_99, jl_100, jl_101, jl_113, jl_122, jl_200, jl_240, jl_241, jl_255, jl_259, jl_260, jl_261, jl_262, jl_313, jl_500, jl_999, jl_10000, jl_10004, jl_10005, jl_10006, jl_10007, jl_10008, jl_10009, jl_10010, jl_10011, jl_10012, jl_10013, jl_10014, jl_10015, jl_10017, jl_10018, jl_10023, jl_12345, jl_1103515245, jN_add, jN_mul, jN_sub, jN_addm, jN_div, jN_irm, jN_nat, le_T, le_F, lt_T, lt_F, eq_F, ib_T, ib_F, add_j0, if_true, if_false, eq_self, Bool.false_eq_true, Option.bind_some, pb, jn, Nat.zero_add, Nat.add_zero]
  have p2 : X11_partOfStranger (jN i) (2 : Int32) = jN (loS i) := by
    unfold X11_partOfStranger loS; rw [if_neg (by decide), if_pos rfl]; simp (disch := omega) only [jl_0, jl_1, jl_2, jl_3, jl_4, jl_5, jl_6, jl_7, jl_8, jl_9, jl_10, jl_11, jl_12, jl_13, jl_14, jl_15, jl_16, jl_17, jl_18, jl_20, jl_23, jl_29, jl_30, jl_31, jl_32, jl_35, jl_40, jl_48, jl_50, jl_51, jl_57, jl_60, jl_61, jl_63, jl_64, jl_65, jl_89, jl_97, jl_99, jl_100, jl_101, jl_113, jl_122, jl_200, jl_240, jl_241, jl_255, jl_259, jl_260, jl_261, jl_262, jl_313, jl_500, jl_999, jl_10000, jl_10004, jl_10005, jl_10006, jl_10007, jl_10008, jl_10009, jl_10010, jl_10011, jl_10012, jl_10013, jl_10014, jl_10015, jl_10017, jl_10018, jl_10023, jl_12345, jl_1103515245, jN_add, jN_mul, jN_sub, jN_addm, jN_div, jN_irm, jN_nat, le_T, le_F, lt_T, lt_F, eq_F, ib_T, ib_F, add_j0, if_true, if_false, eq_self, Bool.false_eq_true, Option.bind_some, pb, jn, Nat.zero_add, Nat.add_zero]
  have p3 : X11_partOfStranger (jN i) (3 : Int32) = jN (loL i) := by
    unfold X11_partOfStranger loL; rw [if_neg (by decide), if_neg (by decide), Nat.mul_comm]; simp (disch := omega) only [jl_0, jl_1, jl_2, jl_3, jl_4, jl_5, jl_6, jl_7, jl_8, jl_9, jl_10, jl_11, jl_12, jl_13, jl_14, jl_15, jl_16, jl_17, jl_18, jl_20, jl_23, jl_29, jl_30, jl_31, jl_32, jl_35, jl_40, jl_48, jl_50, jl_51, jl_57, jl_60, jl_61, jl_63, jl_64, jl_65, jl_89, jl_97, jl_99, jl_100, jl_101, jl_113, jl_122, jl_200, jl_240, jl_241, jl_255, jl_259, jl_260, jl_261, jl_262, jl_313, jl_500, jl_999, jl_10000, jl_10004, jl_10005, jl_10006, jl_10007, jl_10008, jl_10009, jl_10010, jl_10011, jl_10012, jl_10013, jl_10014, jl_10015, jl_10017, jl_10018, jl_10023, jl_12345, jl_1103515245, jN_add, jN_mul, jN_sub, jN_addm, jN_div, jN_irm, jN_nat, le_T, le_F, lt_T, lt_F, eq_F, ib_T, ib_F, add_j0, if_true, if_false, eq_self, Bool.false_eq_true, Option.bind_some, pb, jn, Nat.zero_add, Nat.add_zero]
  have L : X9_missedBy_q0_L1 n (kOf s) (rOf s) (s 6) (jN (loK i)) (jN (loS i)) n (jN 0) (jN (loL i)) (jN 0) (jN 0) = some (jN (miB s i), lgS s i 16, sdS s i 16, jN 16) := by
    refine lp_0 (fun q c => X9_missedBy_q0_L1 n (kOf s) (rOf s) (s 6) (jN (loK i)) (jN (loS i)) q (jN (myS s i c)) (lgS s i c) (sdS s i c) (jN c)) 16 (by omega) (fun q c hc => ?_) (fun q => ?_)
    · obtain ⟨x, hx, ex⟩ := lgS_b h hi c (by omega)
      obtain ⟨y, hy, ey⟩ := sdS_b h hi c (by omega)
      obtain ⟨k3, hk3, e3⟩ := irm_4 (h.sky (i := c) hc)
      obtain ⟨k4, hk4, e4⟩ := div_4 (h.sky (i := c) hc)
      obtain ⟨b3, hb3, e5⟩ := slipsBy_b (a := loK i) (b := loS i) (c := k3) hk5 (by omega) hk3
      obtain ⟨b4, hb4, e6⟩ := shadesBy_b (a := loK i) (b := k4) (c := c) hk5 hk4 (by omega)
      obtain ⟨mb, -⟩ := mbS_b s i c (rcN s) h.rc.1
      obtain ⟨my, -⟩ := myS_b h i c (by omega)
      show X9_missedBy_q0_L1 n (kOf s) (rOf s) (s 6) (jN (loK i)) (jN (loS i)) (q + 1) (jN (myS s i c)) (lgS s i c) (sdS s i c) (jN c) = X9_missedBy_q0_L1 n (kOf s) (rOf s) (s 6) (jN (loK i)) (jN (loS i)) q (jN (myS s i c ||| mbS s i c (rcN s))) (X12_held (lgS s i c + X12_slipsBy (jN (loK i)) (jN (loS i)) (irm (s (7 + c)) (jN 4))) (jN 99)) (X12_held (sdS s i c + X12_shadesBy (jN (loK i)) (s (7 + c) / jN 4) (jN c)) (jN 99)) (jN (c + 1))
      rw [X9_missedBy_q0_L1, if_neg (show ¬ (16 : Int32) ≤ jN c by simp (disch := omega) only [jl_0, jl_1, jl_2, jl_3, jl_4, jl_5, jl_6, jl_7, jl_8, jl_9, jl_10, jl_11, jl_12, jl_13, jl_14, jl_15, jl_16, jl_17, jl_18, jl_20, jl_23, jl_29, jl_30, jl_31, jl_32, jl_35, jl_40, jl_48, jl_50, jl_51, jl_57, jl_60, jl_61, jl_63, jl_64, jl_65, jl_89, jl_97, jl_99, jl_100, jl_101, jl_113, jl_122, jl_200, jl_240, jl_241, jl_255, jl_259, jl_260, jl_261, jl_262, jl_313, jl_500, jl_999, jl_10000, jl_10004, jl_10005, jl_10006, jl_10007, jl_10008, jl_10009, jl_10010, jl_10011, jl_10012, jl_10013, jl_10014, jl_10015, jl_10017, jl_10018, jl_10023, jl_12345, jl_1103515245, jN_add, jN_mul, jN_sub, jN_addm, jN_div, jN_irm, jN_nat, le_T, le_F, lt_T, lt_F, eq_F, ib_T, ib_F, add_j0, if_true, if_false, eq_self, Bool.false_eq_true, Option.bind_some, pb, jn, Nat.zero_add, Nat.add_zero]; exact not_false), c_missB h hn hi hc]
      simp only [Option.bind_some, pb]
      rw [ib_T (show loK i < 6 by omega) (by omega), ib_T hc (by omega), jN_nat (show loK i < 2147483648 by omega), jN_nat (show c < 2147483648 by omega), kOf_at hc, vd_sl hk5, vd_sh hk5, bt_or _ my _ mb, show jN c + 1 = jN (c + 1) from by simp (disch := omega) only [jl_0, jl_1, jl_2, jl_3, jl_4, jl_5, jl_6, jl_7, jl_8, jl_9, jl_10, jl_11, jl_12, jl_13, jl_14, jl_15, jl_16, jl_17, jl_18, jl_20, jl_23, jl_29, jl_30, jl_31, jl_32, jl_35, jl_40, jl_48, jl_50, jl_51, jl_57, jl_60, jl_61, jl_63, jl_64, jl_65, jl_89, jl_97, jl_99, jl_100, jl_101, jl_113, jl_122, jl_200, jl_240, jl_241, jl_255, jl_259, jl_260, jl_261, jl_262, jl_313, jl_500, jl_999, jl_10000, jl_10004, jl_10005, jl_10006, jl_10007, jl_10008, jl_10009, jl_10010, jl_10011, jl_10012, jl_10013, jl_10014, jl_10015, jl_10017, jl_10018, jl_10023, jl_12345, jl_1103515245, jN_add, jN_mul, jN_sub, jN_addm, jN_div, jN_irm, jN_nat, le_T, le_F, lt_T, lt_F, eq_F, ib_T, ib_F, add_j0, if_true, if_false, eq_self, Bool.false_eq_true, Option.bind_some, pb, jn, Nat.zero_add, Nat.add_zero], show (4 : Int32) = jN 4 from rfl, show (99 : Int32) = jN 99 from rfl, e3, e4, ex, ey, e5, e6, jN_add, jN_add, (held_b (by omega)).1, (held_b (by omega)).1, (held_b (by omega)).2, (held_b (by omega)).2]
      rfl
    · show X9_missedBy_q0_L1 n (kOf s) (rOf s) (s 6) _ _ (q + 1) _ _ _ (jN 16) = _
      rw [X9_missedBy_q0_L1, if_pos (show (16 : Int32) ≤ jN 16 by simp (disch := omega) only [jl_0, jl_1, jl_2, jl_3, jl_4, jl_5, jl_6, jl_7, jl_8, jl_9, jl_10, jl_11, jl_12, jl_13, jl_14, jl_15, jl_16, jl_17, jl_18, jl_20, jl_23, jl_29, jl_30, jl_31, jl_32, jl_35, jl_40, jl_48, jl_50, jl_51, jl_57, jl_60, jl_61, jl_63, jl_64, jl_65, jl_89, jl_97, jl_99, jl_100, jl_101, jl_113, jl_122, jl_200, jl_240, jl_241, jl_255, jl_259, jl_260, jl_261, jl_262, jl_313, jl_500, jl_999, jl_10000, jl_10004, jl_10005, jl_10006, jl_10007, jl_10008, jl_10009, jl_10010, jl_10011, jl_10012, jl_10013, jl_10014, jl_10015, jl_10017, jl_10018, jl_10023, jl_12345, jl_1103515245, jN_add, jN_mul, jN_sub, jN_addm, jN_div, jN_irm, jN_nat, le_T, le_F, lt_T, lt_F, eq_F, ib_T, ib_F, add_j0, if_true, if_false, eq_self, Bool.false_eq_true, Option.bind_some, pb, jn, Nat.zero_add, Nat.add_zero, Nat.le_refl])]; rfl
  unfold X11_missedBy X9_missedBy_q0
  rw [p1, p2, p3, show (0 : Int32) = jN 0 from rfl, L]; rfl
/-- which strangers fit -/
theorem ft_eq (h : GS s) (i : Nat) (but : Int32) : ∀ r, r ≤ 6 → (ftS s i but r = true ↔ ∀ q, q < r → jN q = but ∨ soB s i q = true) := by
  intro r
  induction r with
  | zero => intro _; exact ⟨fun _ q hq => absurd hq (by omega), fun _ => rfl⟩
  | succ r ih =>
    intro hr
    show (ftS s i but r && (decide (jN r = but) || soB s i r)) = true ↔ _
    rw [Bool.and_eq_true, Bool.or_eq_true, decide_eq_true_iff, ih (by omega)]
    constructor
    · rintro ⟨a, b⟩ q hq
      by_cases hqr : q = r
      · subst hqr; exact b
      · exact a q (by omega)
    · intro a
      exact ⟨fun q hq => a q (by omega), a r (by omega)⟩
theorem ft_all (h : GS s) (i : Nat) : ftB s (-1) i = decide (miB s i = 0) := by
  obtain ⟨-, hb⟩ := miB_b h i
  have hr6 := h.rc.1
  have e : ftB s (-1) i = true ↔ miB s i = 0 := by
    unfold ftB
    rw [ft_eq h i (-1) (rcN s) hr6]
    constructor
    · intro a
      refine Nat.eq_of_testBit_eq (fun q => ?_)
      rw [hb, Nat.zero_testBit]
      by_cases hq : q < rcN s
      · rcases a q hq with z | z
        · exfalso
          have h1 : (jN q < 0) = False := lt_F (b := 0) (by omega) (by omega)
          rw [z] at h1; exact absurd h1 (by decide)
        · rw [z]; simp
      · rw [decide_eq_false hq]; rfl
    · intro a q hq
      have := hb q
      rw [a, Nat.zero_testBit, decide_eq_true hq, Bool.true_and] at this
      right
      cases h2 : soB s i q
      · rw [h2] at this; exact absurd this (by decide)
      · rfl
  by_cases hz : miB s i = 0
  · rw [e.mpr hz, decide_eq_true hz]
  · rw [decide_eq_false hz]
    cases h2 : ftB s (-1) i
    · rfl
    · exact absurd (e.mp h2) hz
theorem ft_one (h : GS s) (i r : Nat) (hr : r < rcN s) : ftB s (jN r) i = (decide (miB s i = 0) || decide (miB s i = 2 ^ r)) := by
  obtain ⟨-, hb⟩ := miB_b h i
  have hr6 := h.rc.1
  have e : ftB s (jN r) i = true ↔ (miB s i = 0 ∨ miB s i = 2 ^ r) := by
    unfold ftB
    rw [ft_eq h i (jN r) (rcN s) hr6]
    constructor
    · intro a
      have hoff : ∀ q, q ≠ r → (miB s i).testBit q = false := by
        intro q hq
        rw [hb]
        by_cases hq2 : q < rcN s
        · rcases a q hq2 with z | z
          · exact absurd ((jN_inj (by omega) (by omega)).mp z) hq
          · rw [z]; simp
        · rw [decide_eq_false hq2]; rfl
      cases hbit : (miB s i).testBit r
      · left
        refine Nat.eq_of_testBit_eq (fun q => ?_)
        rw [Nat.zero_testBit]
        by_cases hq : q = r
        · subst hq; exact hbit
        · exact hoff q hq
      · right
        refine Nat.eq_of_testBit_eq (fun q => ?_)
        rw [Nat.testBit_two_pow]
        by_cases hq : q = r
        · subst hq; rw [hbit]; simp
        · rw [hoff q hq, decide_eq_false (fun z : r = q => hq z.symm)]
    · intro a q hq
      by_cases hqr : q = r
      · subst hqr; exact Or.inl rfl
      · right
        have := hb q
        have h0 : (miB s i).testBit q = false := by
          rcases a with z | z
          · rw [z, Nat.zero_testBit]
          · rw [z, Nat.testBit_two_pow]; exact decide_eq_false (fun z : r = q => hqr z.symm)
        rw [h0, decide_eq_true hq, Bool.true_and] at this
        cases h2 : soB s i q
        · rw [h2] at this; exact absurd this (by decide)
        · rfl
  by_cases hz : miB s i = 0
  · rw [e.mpr (Or.inl hz), decide_eq_true hz]; rfl
  · by_cases hz2 : miB s i = 2 ^ r
    · rw [e.mpr (Or.inr hz2), decide_eq_true hz2, Bool.or_true]
    · rw [decide_eq_false hz, decide_eq_false hz2]
      cases h2 : ftB s (jN r) i
      · rfl
      · rcases e.mp h2 with q | q
        · exact absurd q hz
        · exact absurd q hz2
/-- the class's first one that fits: -3 if none -/
def cfS (s : Nat → Int32) : Nat → Int32
  | 0 => -3
  | i + 1 => if ftB s (-1) i = true then (if decide (fcS s (-1) i = 0) = true then jN i else cfS s i) else cfS s i
theorem cf_i (s : Nat → Int32) : ∀ i, i ≤ 500 → (fcS s (-1) i = 0 ∧ ffS s (-1) i = -1) ∨ (fcS s (-1) i ≠ 0 ∧ ∃ f, f < 500 ∧ ffS s (-1) i = jN f ∧ cfS s i = jN f) := by
  intro i
  induction i with
  | zero => intro _; exact Or.inl ⟨rfl, rfl⟩
  | succ i ih =>
    intro hi
    unfold fcS ffS cfS
    by_cases hf : ftB s (-1) i = true
    · rw [if_pos hf, if_pos hf, if_pos hf]
      right
      refine ⟨by omega, ?_⟩
      rcases ih (by omega) with ⟨a, b⟩ | ⟨a, f, hf5, b, c⟩
      · rw [b, if_neg (by decide), decide_eq_true a]; exact ⟨i, by omega, rfl, rfl⟩
      · rw [b, c, decide_eq_false a, if_pos (by simp (disch := omega) only [jl_0, jl_1, jl_2, jl_3, jl_4, jl_5, jl_6, jl_7, jl_8, jl_9, jl_10, jl_11, jl_12, jl_13, jl_14, jl_15, jl_16, jl_17, jl_18, jl_20, jl_23, jl_29, jl_30, jl_31, jl_32, jl_35, jl_40, jl_48, jl_50, jl_51, jl_57, jl_60, jl_61, jl_63, jl_64, jl_65, jl_89, jl_97, jl_99, jl_100, jl_101, jl_113, jl_122, jl_200, jl_240, jl_241, jl_255, jl_259, jl_260, jl_261, jl_262, jl_313, jl_500, jl_999, jl_10000, jl_10004, jl_10005, jl_10006, jl_10007, jl_10008, jl_10009, jl_10010, jl_10011, jl_10012, jl_10013, jl_10014, jl_10015, jl_10017, jl_10018, jl_10023, jl_12345, jl_1103515245, jN_add, jN_mul, jN_sub, jN_addm, jN_div, jN_irm, jN_nat, le_T, le_F, lt_T, lt_F, eq_F, ib_T, ib_F, add_j0, if_true, if_false, eq_self, Bool.false_eq_true, Option.bind_some, pb, jn, Nat.zero_add, Nat.add_zero])]
        exact ⟨f, hf5, rfl, rfl⟩
    · rw [if_neg hf, if_neg hf, if_neg hf]; exact ih (by omega)
theorem o_lone (h : GS s) (hn : 600 ≤ n) (l d : Nat → Int32) (ff v1 : Int32) : ∃ r l' d' ff', X11_lone n (kOf s) (rOf s) (s 6) v1 = some r ∧ X12_lone n s l d ff v1 = some (r, l', d', ff') := by
  unfold X11_lone X12_lone
  rw [isIn_eq]
  rcases in1_or v1 0 3 (by decide) (by decide) with e1 | ⟨w, hw1, hw2, rfl⟩
  · exact ⟨-1, l, d, ff, by simp (disch := omega) only [jl_0, jl_1, jl_2, jl_3, jl_4, jl_5, jl_6, jl_7, jl_8, jl_9, jl_10, jl_11, jl_12, jl_13, jl_14, jl_15, jl_16, jl_17, jl_18, jl_20, jl_23, jl_29, jl_30, jl_31, jl_32, jl_35, jl_40, jl_48, jl_50, jl_51, jl_57, jl_60, jl_61, jl_63, jl_64, jl_65, jl_89, jl_97, jl_99, jl_100, jl_101, jl_113, jl_122, jl_200, jl_240, jl_241, jl_255, jl_259, jl_260, jl_261, jl_262, jl_313, jl_500, jl_999, jl_10000, jl_10004, jl_10005, jl_10006, jl_10007, jl_10008, jl_10009, jl_10010, jl_10011, jl_10012, jl_10013, jl_10014, jl_10015, jl_10017, jl_10018, jl_10023, jl_12345, jl_1103515245, jN_add, jN_mul, jN_sub, jN_addm, jN_div, jN_irm, jN_nat, le_T, le_F, lt_T, lt_F, eq_F, ib_T, ib_F, add_j0, if_true, if_false, eq_self, Bool.false_eq_true, Option.bind_some, pb, jn, Nat.zero_add, Nat.add_zero, e1], by simp (disch := omega) only [jl_0, jl_1, jl_2, jl_3, jl_4, jl_5, jl_6, jl_7, jl_8, jl_9, jl_10, jl_11, jl_12, jl_13, jl_14, jl_15, jl_16, jl_17, jl_18, jl_20, jl_23, jl_29, jl_30, jl_31, jl_32, jl_35, jl_40, jl_48, jl_50, jl_51, jl_57, jl_60, jl_61, jl_63, jl_64, jl_65, jl_89, jl_97, jl_99, jl_100, jl_101, jl_113, jl_122, jl_200, jl_240, jl_241, jl_255, jl_259, jl_260, jl_261, jl_262, jl_313, jl_500, jl_999, jl_10000, jl_10004, jl_10005, jl_10006, jl_10007, jl_10008, jl_10009, jl_10010, jl_10011, jl_10012, jl_10013, jl_10014, jl_10015, jl_10017, jl_10018, jl_10023, jl_12345, jl_1103515245, jN_add, jN_mul, jN_sub, jN_addm, jN_div, jN_irm, jN_nat, le_T, le_F, lt_T, lt_F, eq_F, ib_T, ib_F, add_j0, if_true, if_false, eq_self, Bool.false_eq_true, Option.bind_some, pb, jn, Nat.zero_add, Nat.add_zero, e1]⟩
  have ew : X12_in1 (jN w) (0 : Int32) (3 : Int32) = jN 1 := in1_T hw1 hw2 (by decide)
  rw [ew, if_neg (show ¬ jN 1 = 0 by decide), if_neg (show ¬ jN 1 = 0 by decide)]
  obtain ⟨l', d', em⟩ := m_fitting h hn l d (-1)
  have L : X11_lone_L1 n (kOf s) (rOf s) (s 6) n (0 : Int32) (-3 : Int32) (jN 0) = some (jN (fcS s (-1) 500), cfS s 500, jN 500) := by
    refine lp_0 (fun q i => X11_lone_L1 n (kOf s) (rOf s) (s 6) q (jN (fcS s (-1) i)) (cfS s i) (jN i)) 500 (by omega) (fun q i hi => ?_) (fun q => ?_)
    · have hb := fcS_b s (-1) i
      show X11_lone_L1 n (kOf s) (rOf s) (s 6) (q + 1) (jN (fcS s (-1) i)) (cfS s i) (jN i) = X11_lone_L1 n (kOf s) (rOf s) (s 6) q (jN (if ftB s (-1) i = true then fcS s (-1) i + 1 else fcS s (-1) i)) (if ftB s (-1) i = true then (if decide (fcS s (-1) i = 0) = true then jN i else cfS s i) else cfS s i) (jN (i + 1))
      rw [X11_lone_L1, if_neg (show ¬ (500 : Int32) ≤ jN i by simp (disch := omega) only [jl_0, jl_1, jl_2, jl_3, jl_4, jl_5, jl_6, jl_7, jl_8, jl_9, jl_10, jl_11, jl_12, jl_13, jl_14, jl_15, jl_16, jl_17, jl_18, jl_20, jl_23, jl_29, jl_30, jl_31, jl_32, jl_35, jl_40, jl_48, jl_50, jl_51, jl_57, jl_60, jl_61, jl_63, jl_64, jl_65, jl_89, jl_97, jl_99, jl_100, jl_101, jl_113, jl_122, jl_200, jl_240, jl_241, jl_255, jl_259, jl_260, jl_261, jl_262, jl_313, jl_500, jl_999, jl_10000, jl_10004, jl_10005, jl_10006, jl_10007, jl_10008, jl_10009, jl_10010, jl_10011, jl_10012, jl_10013, jl_10014, jl_10015, jl_10017, jl_10018, jl_10023, jl_12345, jl_1103515245, jN_add, jN_mul, jN_sub, jN_addm, jN_div, jN_irm, jN_nat, le_T, le_F, lt_T, lt_F, eq_F, ib_T, ib_F, add_j0, if_true, if_false, eq_self, Bool.false_eq_true, Option.bind_some, pb, jn, Nat.zero_add, Nat.add_zero]; exact not_false), c_missed h (by omega) hi, ft_all h i, show jN i + 1 = jN (i + 1) from by simp (disch := omega) only [jl_0, jl_1, jl_2, jl_3, jl_4, jl_5, jl_6, jl_7, jl_8, jl_9, jl_10, jl_11, jl_12, jl_13, jl_14, jl_15, jl_16, jl_17, jl_18, jl_20, jl_23, jl_29, jl_30, jl_31, jl_32, jl_35, jl_40, jl_48, jl_50, jl_51, jl_57, jl_60, jl_61, jl_63, jl_64, jl_65, jl_89, jl_97, jl_99, jl_100, jl_101, jl_113, jl_122, jl_200, jl_240, jl_241, jl_255, jl_259, jl_260, jl_261, jl_262, jl_313, jl_500, jl_999, jl_10000, jl_10004, jl_10005, jl_10006, jl_10007, jl_10008, jl_10009, jl_10010, jl_10011, jl_10012, jl_10013, jl_10014, jl_10015, jl_10017, jl_10018, jl_10023, jl_12345, jl_1103515245, jN_add, jN_mul, jN_sub, jN_addm, jN_div, jN_irm, jN_nat, le_T, le_F, lt_T, lt_F, eq_F, ib_T, ib_F, add_j0, if_true, if_false, eq_self, Bool.false_eq_true, Option.bind_some, pb, jn, Nat.zero_add, Nat.add_zero]]
      simp only [Option.bind_some, pb]
      have hm := (miB_b h i).1
      by_cases hz : miB s i = 0
      · rw [hz, if_pos (show jN 0 = 0 from rfl), decide_eq_true rfl, if_pos rfl, if_pos rfl, show jN (fcS s (-1) i) + 1 = jN (fcS s (-1) i + 1) from by simp (disch := omega) only [jl_0, jl_1, jl_2, jl_3, jl_4, jl_5, jl_6, jl_7, jl_8, jl_9, jl_10, jl_11, jl_12, jl_13, jl_14, jl_15, jl_16, jl_17, jl_18, jl_20, jl_23, jl_29, jl_30, jl_31, jl_32, jl_35, jl_40, jl_48, jl_50, jl_51, jl_57, jl_60, jl_61, jl_63, jl_64, jl_65, jl_89, jl_97, jl_99, jl_100, jl_101, jl_113, jl_122, jl_200, jl_240, jl_241, jl_255, jl_259, jl_260, jl_261, jl_262, jl_313, jl_500, jl_999, jl_10000, jl_10004, jl_10005, jl_10006, jl_10007, jl_10008, jl_10009, jl_10010, jl_10011, jl_10012, jl_10013, jl_10014, jl_10015, jl_10017, jl_10018, jl_10023, jl_12345, jl_1103515245, jN_add, jN_mul, jN_sub, jN_addm, jN_div, jN_irm, jN_nat, le_T, le_F, lt_T, lt_F, eq_F, ib_T, ib_F, add_j0, if_true, if_false, eq_self, Bool.false_eq_true, Option.bind_some, pb, jn, Nat.zero_add, Nat.add_zero]]
        by_cases hz2 : fcS s (-1) i = 0
        · rw [hz2, if_pos (show jN 0 = 0 from rfl), decide_eq_true rfl]; rfl
        · rw [if_neg (show ¬ jN (fcS s (-1) i) = 0 from fun z => hz2 ((jN_inj (b := 0) (by omega) (by omega)).mp z)), decide_eq_false hz2]; rfl
      · rw [if_neg (show ¬ jN (miB s i) = 0 from fun z => hz ((jN_inj (b := 0) (by omega) (by omega)).mp z)), decide_eq_false hz]; rfl
    · show X11_lone_L1 n (kOf s) (rOf s) (s 6) (q + 1) _ _ (jN 500) = _
      rw [X11_lone_L1, if_pos (show (500 : Int32) ≤ jN 500 by simp (disch := omega) only [jl_0, jl_1, jl_2, jl_3, jl_4, jl_5, jl_6, jl_7, jl_8, jl_9, jl_10, jl_11, jl_12, jl_13, jl_14, jl_15, jl_16, jl_17, jl_18, jl_20, jl_23, jl_29, jl_30, jl_31, jl_32, jl_35, jl_40, jl_48, jl_50, jl_51, jl_57, jl_60, jl_61, jl_63, jl_64, jl_65, jl_89, jl_97, jl_99, jl_100, jl_101, jl_113, jl_122, jl_200, jl_240, jl_241, jl_255, jl_259, jl_260, jl_261, jl_262, jl_313, jl_500, jl_999, jl_10000, jl_10004, jl_10005, jl_10006, jl_10007, jl_10008, jl_10009, jl_10010, jl_10011, jl_10012, jl_10013, jl_10014, jl_10015, jl_10017, jl_10018, jl_10023, jl_12345, jl_1103515245, jN_add, jN_mul, jN_sub, jN_addm, jN_div, jN_irm, jN_nat, le_T, le_F, lt_T, lt_F, eq_F, ib_T, ib_F, add_j0, if_true, if_false, eq_self, Bool.false_eq_true, Option.bind_some, pb, jn, Nat.zero_add, Nat.add_zero, Nat.le_refl])]
  rw [show X11_lone_L1 n (kOf s) (rOf s) (s 6) n (0 : Int32) (-3 : Int32) (0 : Int32) = _ from L, em]
  simp only [Option.bind_some, jn]
  have hb := fcS_b s (-1) 500
  rcases cf_i s 500 (Nat.le_refl _) with ⟨a, b⟩ | ⟨a, f, hf5, b, c⟩
  · rw [a]
    by_cases hw : w = 0
    · subst hw
      exact ⟨jN 0, l', d', ffS s (-1) 500, by rw [if_pos (show jN 0 = 0 from rfl)], by rw [if_pos (show jN 0 ≤ 0 by decide), if_pos (show jN 0 = 0 from rfl)]⟩
    · exact ⟨-3, l', d', ffS s (-1) 500, by rw [if_neg (show ¬ jN w = 0 from fun z => hw ((jN_inj (b := 0) (by omega) (by omega)).mp z)), if_pos (show jN 0 = 0 from rfl)], by rw [if_neg (show ¬ jN w ≤ 0 by simp (disch := omega) only [jl_0, jl_1, jl_2, jl_3, jl_4, jl_5, jl_6, jl_7, jl_8, jl_9, jl_10, jl_11, jl_12, jl_13, jl_14, jl_15, jl_16, jl_17, jl_18, jl_20, jl_23, jl_29, jl_30, jl_31, jl_32, jl_35, jl_40, jl_48, jl_50, jl_51, jl_57, jl_60, jl_61, jl_63, jl_64, jl_65, jl_89, jl_97, jl_99, jl_100, jl_101, jl_113, jl_122, jl_200, jl_240, jl_241, jl_255, jl_259, jl_260, jl_261, jl_262, jl_313, jl_500, jl_999, jl_10000, jl_10004, jl_10005, jl_10006, jl_10007, jl_10008, jl_10009, jl_10010, jl_10011, jl_10012, jl_10013, jl_10014, jl_10015, jl_10017, jl_10018, jl_10023, jl_12345, jl_1103515245, jN_add, jN_mul, jN_sub, jN_addm, jN_div, jN_irm, jN_nat, le_T, le_F, lt_T, lt_F, eq_F, ib_T, ib_F, add_j0, if_true, if_false, eq_self, Bool.false_eq_true, Option.bind_some, pb, jn, Nat.zero_add, Nat.add_zero]; exact not_false), if_pos (show jN 0 = 0 from rfl)]⟩
  · have hne : ¬ jN (fcS s (-1) 500) = 0 := fun z => a ((jN_inj (b := 0) (by omega) (by omega)).mp z)
    rw [b, c, if_neg hne, if_neg hne]
    obtain ⟨p1, p2, p3⟩ := lo_1 hf5
    (have : w = 0 ∨ w = 1 ∨ w = 2 ∨ w = 3 := by omega)
    rcases this with rfl | rfl | rfl | rfl
    · exact ⟨_, l', d', _, rfl, by rw [if_pos (show jN 0 ≤ 0 by decide), if_pos (show jN 0 = 0 from rfl)]⟩
    · refine ⟨jN (loK f), l', d', jN f, ?_, ?_⟩
      · rw [if_neg (show ¬ jN 1 = 0 by decide)]; unfold X11_partOfStranger loK; rw [if_pos (show jN 1 = 1 from rfl), Nat.add_comm]; simp (disch := omega) only [jl_0, jl_1, jl_2, jl_3, jl_4, jl_5, jl_6, jl_7, jl_8, jl_9, jl_10, jl_11, jl_12, jl_13, jl_14, jl_15, jl_16, jl_17, jl_18, jl_20, jl_23, jl_29, jl_30, jl_31, jl_32, jl_35, jl_40, jl_48, jl_50, jl_51, jl_57, jl_60, jl_61, jl_63, jl_64, jl_65, jl_89, jl_97, jl_99, jl_100, jl_101, jl_113, jl_122, jl_200, jl_240, jl_241, jl_255, jl_259, jl_260, jl_261, jl_262, jl_313, jl_500, jl_999, jl_10000, jl_10004, jl_10005, jl_10006, jl_10007, jl_10008, jl_10009, jl_10010, jl_10011, jl_10012, jl_10013, jl_10014, jl_10015, jl_10017, jl_10018, jl_10023, jl_12345, jl_1103515245, jN_add, jN_mul, jN_sub, jN_addm, jN_div, jN_irm, jN_nat, le_T, le_F, lt_T, lt_F, eq_F, ib_T, ib_F, add_j0, if_true, if_false, eq_self, Bool.false_eq_true, Option.bind_some, pb, jn, Nat.zero_add, Nat.add_zero]
      · rw [if_neg (show ¬ jN 1 ≤ 0 by decide), if_neg (show ¬ jN 1 = 0 by decide), if_pos (show jN 1 = 1 from rfl), p1]
    · refine ⟨jN (loS f), l', d', jN f, ?_, ?_⟩
      · rw [if_neg (show ¬ jN 2 = 0 by decide)]; unfold X11_partOfStranger loS; rw [if_neg (show ¬ jN 2 = 1 by decide), if_pos (show jN 2 = 2 from rfl)]; simp (disch := omega) only [jl_0, jl_1, jl_2, jl_3, jl_4, jl_5, jl_6, jl_7, jl_8, jl_9, jl_10, jl_11, jl_12, jl_13, jl_14, jl_15, jl_16, jl_17, jl_18, jl_20, jl_23, jl_29, jl_30, jl_31, jl_32, jl_35, jl_40, jl_48, jl_50, jl_51, jl_57, jl_60, jl_61, jl_63, jl_64, jl_65, jl_89, jl_97, jl_99, jl_100, jl_101, jl_113, jl_122, jl_200, jl_240, jl_241, jl_255, jl_259, jl_260, jl_261, jl_262, jl_313, jl_500, jl_999, jl_10000, jl_10004, jl_10005, jl_10006, jl_10007, jl_10008, jl_10009, jl_10010, jl_10011, jl_10012, jl_10013, jl_10014, jl_10015, jl_10017, jl_10018, jl_10023, jl_12345, jl_1103515245, jN_add, jN_mul, jN_sub, jN_addm, jN_div, jN_irm, jN_nat, le_T, le_F, lt_T, lt_F, eq_F, ib_T, ib_F, add_j0, if_true, if_false, eq_self, Bool.false_eq_true, Option.bind_some, pb, jn, Nat.zero_add, Nat.add_zero]
      · rw [if_neg (show ¬ jN 2 ≤ 0 by decide), if_neg (show ¬ jN 2 = 0 by decide), if_neg (show ¬ jN 2 = 1 by decide), if_pos (show jN 2 = 2 from rfl), p2]
    · refine ⟨jN (loL f), l', d', jN f, ?_, ?_⟩
      · rw [if_neg (show ¬ jN 3 = 0 by decide)]; unfold X11_partOfStranger loL; rw [if_neg (show ¬ jN 3 = 1 by decide), if_neg (show ¬ jN 3 = 2 by decide), Nat.mul_comm]; simp (disch := omega) only [jl_0, jl_1, jl_2, jl_3, jl_4, jl_5, jl_6, jl_7, jl_8, jl_9, jl_10, jl_11, jl_12, jl_13, jl_14, jl_15, jl_16, jl_17, jl_18, jl_20, jl_23, jl_29, jl_30, jl_31, jl_32, jl_35, jl_40, jl_48, jl_50, jl_51, jl_57, jl_60, jl_61, jl_63, jl_64, jl_65, jl_89, jl_97, jl_99, jl_100, jl_101, jl_113, jl_122, jl_200, jl_240, jl_241, jl_255, jl_259, jl_260, jl_261, jl_262, jl_313, jl_500, jl_999, jl_10000, jl_10004, jl_10005, jl_10006, jl_10007, jl_10008, jl_10009, jl_10010, jl_10011, jl_10012, jl_10013, jl_10014, jl_10015, jl_10017, jl_10018, jl_10023, jl_12345, jl_1103515245, jN_add, jN_mul, jN_sub, jN_addm, jN_div, jN_irm, jN_nat, le_T, le_F, lt_T, lt_F, eq_F, ib_T, ib_F, add_j0, if_true, if_false, eq_self, Bool.false_eq_true, Option.bind_some, pb, jn, Nat.zero_add, Nat.add_zero]
      · rw [if_neg (show ¬ jN 3 ≤ 0 by decide), if_neg (show ¬ jN 3 = 0 by decide), if_neg (show ¬ jN 3 = 1 by decide), if_neg (show ¬ jN 3 = 2 by decide), p3]
end LONE2
