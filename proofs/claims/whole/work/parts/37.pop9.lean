section OPS9
variable {n ρ nr : Nat} {s : Nat → Int32}
/-! seats -/
theorem st_op : ∀ v, v < 64 → ∀ w, w < 64 → decide ((jN v &&& (jN w ^^^ -1)) = 0) = ((List.range 6).all fun f => !v.testBit f || w.testBit f) := by decide +kernel
theorem st_sz (v f : Nat) : (jN v >>> (jN f &&& 31)) &&& 1 = (jN v >>> (jN f &&& 31)) &&& 1 := rfl
/-- spots of no more shade than most -/
def opS (s : Nat → Int32) (most : Int32) : Nat → Nat
  | 0 => 0
  | f + 1 => if decide (most < shA s f) = true then opS s most f else opS s most f ||| 2 ^ f
theorem opS_b (s : Nat → Int32) (most : Int32) : ∀ f, f ≤ 6 → opS s most f < 64 ∧ ∀ i, (opS s most f).testBit i = (decide (i < f) && !decide (most < shA s i)) := by
  intro f
  induction f with
  | zero => intro _; exact ⟨by show 0 < 64; omega, fun i => by simp [opS]⟩
  | succ f ih =>
    intro hf
    obtain ⟨h1, h2⟩ := ih (by omega)
    unfold opS
    split
    · rename_i q
      refine ⟨h1, fun i => ?_⟩
      rw [h2]
      by_cases hi : i = f
      · subst hi; rw [q]; simp
      · have : decide (i < f) = decide (i < f + 1) := by by_cases hh : i < f <;> simp [hh] <;> omega
        rw [this]
    · rename_i q
      refine ⟨or_64 h1 (p2_64 (by omega)), fun i => ?_⟩
      rw [Nat.testBit_or, h2, Nat.testBit_two_pow]
      by_cases hi : i = f
      · subst hi; simp [q]
      · have e1 : decide (i < f) = decide (i < f + 1) := by by_cases hh : i < f <;> simp [hh] <;> omega
        have e2 : decide (f = i) = false := decide_eq_false (fun z => hi z.symm)
        rw [e1, e2, Bool.or_false]
/-- v's spots ahead of f are of no more shade -/
def okS (s : Nat → Int32) (most : Int32) (v : Nat) : Nat → Bool
  | 0 => true
  | f + 1 => okS s most v f && !(v.testBit f && decide (most < shA s f))
theorem okS_all {most : Int32} {v : Nat} : okS s most v 6 = ((List.range 6).all fun f => !v.testBit f || (opS s most 6).testBit f) := by
  have h := (opS_b s most 6 (Nat.le_refl _)).2
  rw [show List.range 6 = [0, 1, 2, 3, 4, 5] from rfl]
  simp only [List.all_cons, List.all_nil, h, okS]
  simp only [show decide (0 < 6) = true from rfl, show decide (1 < 6) = true from rfl, show decide (2 < 6) = true from rfl, show decide (3 < 6) = true from rfl, show decide (4 < 6) = true from rfl, show decide (5 < 6) = true from rfl, Bool.true_and, Bool.not_and, Bool.and_true]
  simp only [Bool.and_assoc]
def apB (v : Nat) : Bool := decide ((jN v &&& (jN v <<< ((1 : Int32) &&& 31))) = 0)
def bcS (s : Nat → Int32) (v : Nat) : Nat → Int32
  | 0 => 0
  | f + 1 => if v.testBit f = true then bcS s v f + s (29 + f) else bcS s v f
def seX (s : Nat → Int32) (most : Int32) (p : Int32 × Int32) (v : Nat) : Int32 × Int32 := if (apB v && okS s most v 6) = true then (if decide (bcS s v 6 ≤ p.2) = true then p else (jN v, bcS s v 6)) else p
def seS (s : Nat → Int32) (most : Int32) : Nat → Int32 × Int32
  | 0 => (0, 0)
  | v + 1 => seX s most (seS s most v) v
theorem se_0 (most : Int32) : seS s most 1 = (0, 0) := by
  show seX s most (0, 0) 0 = (0, 0)
  unfold seX
  have : bcS s 0 6 = 0 := by unfold bcS bcS bcS bcS bcS bcS bcS; simp
  rw [this]; split
  · rfl
  · rfl
theorem m_seat2 (h : GS s) (hn : 70 ≤ n) {v : Nat} (hv : v < 64) (most : Int32) : X12_seats_L2 n s most (jN v) n (if apB v = true then 1 else 0) (jN 0) (jN 0) = some (if (apB v && okS s most v 6) = true then 1 else 0, bcS s v 6, jN 6) := by
  have := lp_0 (fun q j => X12_seats_L2 n s most (jN v) q (if (apB v && okS s most v j) = true then 1 else 0) (bcS s v j) (jN j)) 6 (n := n) (R := some (if (apB v && okS s most v 6) = true then 1 else 0, bcS s v 6, jN 6)) (by omega) (fun q j hj => ?_) (fun q => ?_)
  · rw [← this]
    show X12_seats_L2 n s most (jN v) n (if apB v = true then 1 else 0) (jN 0) (jN 0) = X12_seats_L2 n s most (jN v) n (if (apB v && true) = true then 1 else 0) 0 (jN 0)
    rw [Bool.and_true]; rfl
  · show X12_seats_L2 n s most (jN v) (q + 1) (if (apB v && okS s most v j) = true then 1 else 0) (bcS s v j) (jN j) = X12_seats_L2 n s most (jN v) q (if (apB v && (okS s most v j && !(v.testBit j && decide (most < shA s j)))) = true then 1 else 0) (if v.testBit j = true then bcS s v j + s (29 + j) else bcS s v j) (jN (j + 1))
    rw [X12_seats_L2, bt_1 v hv j hj, m_shadeAt h hj (by omega)]
    have e9 : ∀ x, ((if (ib ((29 : Int32) + jN j) 313) = true then some (s (((29 : Int32) + jN j).toNatClampNeg)) else none) = some x) = (s (29 + j) = x) := by
      intro x; simp (disch := omega) only [jl_0, jl_1, jl_2, jl_3, jl_4, jl_5, jl_6, jl_7, jl_8, jl_9, jl_10, jl_11, jl_12, jl_13, jl_14, jl_15, jl_16, jl_17, jl_18, jl_20, jl_23, jl_29, jl_30, jl_31, jl_32, jl_35, jl_40, jl_48, jl_50, jl_51, jl_57, jl_60, jl_61, jl_63, jl_64, jl_65, jl_89, jl_97, jl_99, jl_100, jl_101, jl_113, jl_122, jl_200, jl_240, jl_241, jl_255, jl_259, jl_260, jl_261, jl_262, jl_313, jl_500, jl_999, jl_10000, jl_10004, jl_10005, jl_10006, jl_10007, jl_10008, jl_10009, jl_10010, jl_10011, jl_10012, jl_10013, jl_10014, jl_10015, jl_10017, jl_10018, jl_10023, jl_12345, jl_1103515245, jN_add, jN_mul, jN_sub, jN_addm, jN_div, jN_irm, jN_nat, le_T, le_F, lt_T, lt_F, eq_F, ib_T, ib_F, add_j0, if_true, if_false, eq_self, Bool.false_eq_true, Option.bind_some, pb, jn, Nat.zero_add, Nat.add_zero, Option.some.injEq]
    have e10 : (if (ib ((29 : Int32) + jN j) 313) = true then some (s (((29 : Int32) + jN j).toNatClampNeg)) else none) = some (s (29 + j)) := (e9 _).mpr rfl
    rw [e10, if_neg (show ¬ (6 : Int32) ≤ jN j by simp (disch := omega) only [jl_0, jl_1, jl_2, jl_3, jl_4, jl_5, jl_6, jl_7, jl_8, jl_9, jl_10, jl_11, jl_12, jl_13, jl_14, jl_15, jl_16, jl_17, jl_18, jl_20, jl_23, jl_29, jl_30, jl_31, jl_32, jl_35, jl_40, jl_48, jl_50, jl_51, jl_57, jl_60, jl_61, jl_63, jl_64, jl_65, jl_89, jl_97, jl_99, jl_100, jl_101, jl_113, jl_122, jl_200, jl_240, jl_241, jl_255, jl_259, jl_260, jl_261, jl_262, jl_313, jl_500, jl_999, jl_10000, jl_10004, jl_10005, jl_10006, jl_10007, jl_10008, jl_10009, jl_10010, jl_10011, jl_10012, jl_10013, jl_10014, jl_10015, jl_10017, jl_10018, jl_10023, jl_12345, jl_1103515245, jN_add, jN_mul, jN_sub, jN_addm, jN_div, jN_irm, jN_nat, le_T, le_F, lt_T, lt_F, eq_F, ib_T, ib_F, add_j0, if_true, if_false, eq_self, Bool.false_eq_true, Option.bind_some, pb, jn, Nat.zero_add, Nat.add_zero]; exact not_false), show jN j + 1 = jN (j + 1) from by simp (disch := omega) only [jl_0, jl_1, jl_2, jl_3, jl_4, jl_5, jl_6, jl_7, jl_8, jl_9, jl_10, jl_11, jl_12, jl_13, jl_14, jl_15, jl_16, jl_17, jl_18, jl_20, jl_23, jl_29, jl_30, jl_31, jl_32, jl_35, jl_40, jl_48, jl_50, jl_51, jl_57, jl_60, jl_61, jl_63, jl_64, jl_65, jl_89, jl_97, jl_99, jl_100, jl_101, jl_113, jl_122, jl_200, jl_240, jl_241, jl_255, jl_259, jl_260, jl_261, jl_262, jl_313, jl_500, jl_999, jl_10000, jl_10004, jl_10005, jl_10006, jl_10007, jl_10008, jl_10009, jl_10010, jl_10011, jl_10012, jl_10013, jl_10014, jl_10015, jl_10017, jl_10018, jl_10023, jl_12345, jl_1103515245, jN_add, jN_mul, jN_sub, jN_addm, jN_div, jN_irm, jN_nat, le_T, le_F, lt_T, lt_F, eq_F, ib_T, ib_F, add_j0, if_true, if_false, eq_self, Bool.false_eq_true, Option.bind_some, pb, jn, Nat.zero_add, Nat.add_zero]]
    cases hA : apB v <;> cases hO : okS s most v j <;> cases hT : v.testBit j <;> simp [pb, jn, Int32.add_zero, show (jN 1 = 1) = True from eq_true rfl, show (jN 0 = 1) = False from eq_false (by decide)] <;> (try (by_cases hq : most < shA s j <;> first | (simp [hq, Int32.not_le.mpr hq]; done) | (simp [hq, Int32.not_lt.mp hq]; done)))
  · show X12_seats_L2 n s most (jN v) (q + 1) _ _ (jN 6) = _
    rw [X12_seats_L2, if_pos (show (6 : Int32) ≤ jN 6 by simp (disch := omega) only [jl_0, jl_1, jl_2, jl_3, jl_4, jl_5, jl_6, jl_7, jl_8, jl_9, jl_10, jl_11, jl_12, jl_13, jl_14, jl_15, jl_16, jl_17, jl_18, jl_20, jl_23, jl_29, jl_30, jl_31, jl_32, jl_35, jl_40, jl_48, jl_50, jl_51, jl_57, jl_60, jl_61, jl_63, jl_64, jl_65, jl_89, jl_97, jl_99, jl_100, jl_101, jl_113, jl_122, jl_200, jl_240, jl_241, jl_255, jl_259, jl_260, jl_261, jl_262, jl_313, jl_500, jl_999, jl_10000, jl_10004, jl_10005, jl_10006, jl_10007, jl_10008, jl_10009, jl_10010, jl_10011, jl_10012, jl_10013, jl_10014, jl_10015, jl_10017, jl_10018, jl_10023, jl_12345, jl_1103515245, jN_add, jN_mul, jN_sub, jN_addm, jN_div, jN_irm, jN_nat, le_T, le_F, lt_T, lt_F, eq_F, ib_T, ib_F, add_j0, if_true, if_false, eq_self, Bool.false_eq_true, Option.bind_some, pb, jn, Nat.zero_add, Nat.add_zero, Nat.le_refl])]
theorem c_bench (h : GS s) (hn : 70 ≤ n) {v : Nat} (hv : v < 64) : X11_benchesOf n (pOf s) (jN v) = some (bcS s v 6) := by
  have L : X11_benchesOf_L1 n (pOf s) (jN v) n (jN 0) (jN 0) = some (bcS s v 6, jN 6) := by
    refine lp_0 (fun q j => X11_benchesOf_L1 n (pOf s) (jN v) q (bcS s v j) (jN j)) 6 (by omega) (fun q j hj => ?_) (fun q => ?_)
    · show X11_benchesOf_L1 n (pOf s) (jN v) (q + 1) (bcS s v j) (jN j) = X11_benchesOf_L1 n (pOf s) (jN v) q (if v.testBit j = true then bcS s v j + s (29 + j) else bcS s v j) (jN (j + 1))
      rw [X11_benchesOf_L1, bt_1 v hv j hj, if_neg (show ¬ (6 : Int32) ≤ jN j by simp (disch := omega) only [jl_0, jl_1, jl_2, jl_3, jl_4, jl_5, jl_6, jl_7, jl_8, jl_9, jl_10, jl_11, jl_12, jl_13, jl_14, jl_15, jl_16, jl_17, jl_18, jl_20, jl_23, jl_29, jl_30, jl_31, jl_32, jl_35, jl_40, jl_48, jl_50, jl_51, jl_57, jl_60, jl_61, jl_63, jl_64, jl_65, jl_89, jl_97, jl_99, jl_100, jl_101, jl_113, jl_122, jl_200, jl_240, jl_241, jl_255, jl_259, jl_260, jl_261, jl_262, jl_313, jl_500, jl_999, jl_10000, jl_10004, jl_10005, jl_10006, jl_10007, jl_10008, jl_10009, jl_10010, jl_10011, jl_10012, jl_10013, jl_10014, jl_10015, jl_10017, jl_10018, jl_10023, jl_12345, jl_1103515245, jN_add, jN_mul, jN_sub, jN_addm, jN_div, jN_irm, jN_nat, le_T, le_F, lt_T, lt_F, eq_F, ib_T, ib_F, add_j0, if_true, if_false, eq_self, Bool.false_eq_true, Option.bind_some, pb, jn, Nat.zero_add, Nat.add_zero]; exact not_false), ib_T hj (by omega), jN_nat (by omega), pOf_at hj (by omega), show jN j + 1 = jN (j + 1) from by simp (disch := omega) only [jl_0, jl_1, jl_2, jl_3, jl_4, jl_5, jl_6, jl_7, jl_8, jl_9, jl_10, jl_11, jl_12, jl_13, jl_14, jl_15, jl_16, jl_17, jl_18, jl_20, jl_23, jl_29, jl_30, jl_31, jl_32, jl_35, jl_40, jl_48, jl_50, jl_51, jl_57, jl_60, jl_61, jl_63, jl_64, jl_65, jl_89, jl_97, jl_99, jl_100, jl_101, jl_113, jl_122, jl_200, jl_240, jl_241, jl_255, jl_259, jl_260, jl_261, jl_262, jl_313, jl_500, jl_999, jl_10000, jl_10004, jl_10005, jl_10006, jl_10007, jl_10008, jl_10009, jl_10010, jl_10011, jl_10012, jl_10013, jl_10014, jl_10015, jl_10017, jl_10018, jl_10023, jl_12345, jl_1103515245, jN_add, jN_mul, jN_sub, jN_addm, jN_div, jN_irm, jN_nat, le_T, le_F, lt_T, lt_F, eq_F, ib_T, ib_F, add_j0, if_true, if_false, eq_self, Bool.false_eq_true, Option.bind_some, pb, jn, Nat.zero_add, Nat.add_zero]]
      by_cases hT : v.testBit j = true
      · rw [if_pos hT, if_neg (show ¬ jN 1 = 0 by decide), if_pos rfl, if_pos hT]; rfl
      · rw [if_neg hT, if_pos (show jN 0 = 0 from rfl), if_neg hT]; rfl
    · show X11_benchesOf_L1 n (pOf s) (jN v) (q + 1) _ (jN 6) = _
      rw [X11_benchesOf_L1, if_pos (show (6 : Int32) ≤ jN 6 by simp (disch := omega) only [jl_0, jl_1, jl_2, jl_3, jl_4, jl_5, jl_6, jl_7, jl_8, jl_9, jl_10, jl_11, jl_12, jl_13, jl_14, jl_15, jl_16, jl_17, jl_18, jl_20, jl_23, jl_29, jl_30, jl_31, jl_32, jl_35, jl_40, jl_48, jl_50, jl_51, jl_57, jl_60, jl_61, jl_63, jl_64, jl_65, jl_89, jl_97, jl_99, jl_100, jl_101, jl_113, jl_122, jl_200, jl_240, jl_241, jl_255, jl_259, jl_260, jl_261, jl_262, jl_313, jl_500, jl_999, jl_10000, jl_10004, jl_10005, jl_10006, jl_10007, jl_10008, jl_10009, jl_10010, jl_10011, jl_10012, jl_10013, jl_10014, jl_10015, jl_10017, jl_10018, jl_10023, jl_12345, jl_1103515245, jN_add, jN_mul, jN_sub, jN_addm, jN_div, jN_irm, jN_nat, le_T, le_F, lt_T, lt_F, eq_F, ib_T, ib_F, add_j0, if_true, if_false, eq_self, Bool.false_eq_true, Option.bind_some, pb, jn, Nat.zero_add, Nat.add_zero, Nat.le_refl])]
  unfold X11_benchesOf
  rw [show (0 : Int32) = jN 0 from rfl, L]; rfl
theorem o_seats (h : GS s) (hn : 70 ≤ n) (sh : Nat → Int32) (v1 v2 : Int32) : ∃ r sh', X11_seats n (dOf s) (pOf s) (kOf s) (s 4) (s 0) sh v1 v2 = some (r, sh') ∧ X12_seats n s v1 v2 = some r := by
  unfold X11_seats X12_seats
  rw [isIn_eq]
  rcases in1_or v1 0 99 (by decide) (by decide) with e1 | ⟨a, ha1, ha2, rfl⟩
  · exact ⟨-1, sh, by simp (disch := omega) only [jl_0, jl_1, jl_2, jl_3, jl_4, jl_5, jl_6, jl_7, jl_8, jl_9, jl_10, jl_11, jl_12, jl_13, jl_14, jl_15, jl_16, jl_17, jl_18, jl_20, jl_23, jl_29, jl_30, jl_31, jl_32, jl_35, jl_40, jl_48, jl_50, jl_51, jl_57, jl_60, jl_61, jl_63, jl_64, jl_65, jl_89, jl_97, jl_99, jl_100, jl_101, jl_113, jl_122, jl_200, jl_240, jl_241, jl_255, jl_259, jl_260, jl_261, jl_262, jl_313, jl_500, jl_999, jl_10000, jl_10004, jl_10005, jl_10006, jl_10007, jl_10008, jl_10009, jl_10010, jl_10011, jl_10012, jl_10013, jl_10014, jl_10015, jl_10017, jl_10018, jl_10023, jl_12345, jl_1103515245, jN_add, jN_mul, jN_sub, jN_addm, jN_div, jN_irm, jN_nat, le_T, le_F, lt_T, lt_F, eq_F, ib_T, ib_F, add_j0, if_true, if_false, eq_self, Bool.false_eq_true, Option.bind_some, pb, jn, Nat.zero_add, Nat.add_zero, e1], by simp (disch := omega) only [jl_0, jl_1, jl_2, jl_3, jl_4, jl_5, jl_6, jl_7, jl_8, jl_9, jl_10, jl_11, jl_12, jl_13, jl_14, jl_15, jl_16, jl_17, jl_18, jl_20, jl_23, jl_29, jl_30, jl_31, jl_32, jl_35, jl_40, jl_48, jl_50, jl_51, jl_57, jl_60, jl_61, jl_63, jl_64, jl_65, jl_89, jl_97, jl_99, jl_100, jl_101, jl_113, jl_122, jl_200, jl_240, jl_241, jl_255, jl_259, jl_260, jl_261, jl_262, jl_313, jl_500, jl_999, jl_10000, jl_10004, jl_10005, jl_10006, jl_10007, jl_10008, jl_10009, jl_10010, jl_10011, jl_10012, jl_10013, jl_10014, jl_10015, jl_10017, jl_10018, jl_10023, jl_12345, jl_1103515245, jN_add, jN_mul, jN_sub, jN_addm, jN_div, jN_irm, jN_nat, le_T, le_F, lt_T, lt_F, eq_F, ib_T, ib_F, add_j0, if_true, if_false, eq_self, Bool.false_eq_true, Option.bind_some, pb, jn, Nat.zero_add, Nat.add_zero, e1]⟩
  have ea : X12_in1 (jN a) (0 : Int32) (99 : Int32) = jN 1 := in1_T ha1 ha2 (by decide)
  rw [ea, if_neg (show ¬ jN 1 = 0 by decide), if_neg (show ¬ jN 1 = 0 by decide)]
  rcases in1_or v2 0 1 (by decide) (by decide) with e1 | ⟨j, hj1, hj2, rfl⟩
  · exact ⟨-1, sh, by simp (disch := omega) only [jl_0, jl_1, jl_2, jl_3, jl_4, jl_5, jl_6, jl_7, jl_8, jl_9, jl_10, jl_11, jl_12, jl_13, jl_14, jl_15, jl_16, jl_17, jl_18, jl_20, jl_23, jl_29, jl_30, jl_31, jl_32, jl_35, jl_40, jl_48, jl_50, jl_51, jl_57, jl_60, jl_61, jl_63, jl_64, jl_65, jl_89, jl_97, jl_99, jl_100, jl_101, jl_113, jl_122, jl_200, jl_240, jl_241, jl_255, jl_259, jl_260, jl_261, jl_262, jl_313, jl_500, jl_999, jl_10000, jl_10004, jl_10005, jl_10006, jl_10007, jl_10008, jl_10009, jl_10010, jl_10011, jl_10012, jl_10013, jl_10014, jl_10015, jl_10017, jl_10018, jl_10023, jl_12345, jl_1103515245, jN_add, jN_mul, jN_sub, jN_addm, jN_div, jN_irm, jN_nat, le_T, le_F, lt_T, lt_F, eq_F, ib_T, ib_F, add_j0, if_true, if_false, eq_self, Bool.false_eq_true, Option.bind_some, pb, jn, Nat.zero_add, Nat.add_zero, e1], by simp (disch := omega) only [jl_0, jl_1, jl_2, jl_3, jl_4, jl_5, jl_6, jl_7, jl_8, jl_9, jl_10, jl_11, jl_12, jl_13, jl_14, jl_15, jl_16, jl_17, jl_18, jl_20, jl_23, jl_29, jl_30, jl_31, jl_32, jl_35, jl_40, jl_48, jl_50, jl_51, jl_57, jl_60, jl_61, jl_63, jl_64, jl_65, jl_89, jl_97, jl_99, jl_100, jl_101, jl_113, jl_122, jl_200, jl_240, jl_241, jl_255, jl_259, jl_260, jl_261, jl_262, jl_313, jl_500, jl_999, jl_10000, jl_10004, jl_10005, jl_10006, jl_10007, jl_10008, jl_10009, jl_10010, jl_10011, jl_10012, jl_10013, jl_10014, jl_10015, jl_10017, jl_10018, jl_10023, jl_12345, jl_1103515245, jN_add, jN_mul, jN_sub, jN_addm, jN_div, jN_irm, jN_nat, le_T, le_F, lt_T, lt_F, eq_F, ib_T, ib_F, add_j0, if_true, if_false, eq_self, Bool.false_eq_true, Option.bind_some, pb, jn, Nat.zero_add, Nat.add_zero, e1]⟩
  have ej : X12_in1 (jN j) (0 : Int32) (1 : Int32) = jN 1 := in1_T hj1 hj2 (by decide)
  rw [ej, if_neg (show ¬ jN 1 = 0 by decide), if_neg (show ¬ jN 1 = 0 by decide)]
  obtain ⟨ho, -⟩ := opS_b s (jN a) 6 (Nat.le_refl _)
  have C1 : X11_spotsInShade n (dOf s) (pOf s) (kOf s) (s 4) (s 0) sh (jN a) = some (jN (opS s (jN a) 6), fun i => if i < 6 then shA s i else sh i) := by
    unfold X11_spotsInShade
    rw [c_measure h (by omega)]
    simp only [Option.bind_some]
    have L : X11_spotsInShade_L1 n (fun i => if i < 6 then shA s i else sh i) (jN a) n (jN 0) (jN 0) = some (jN (opS s (jN a) 6), jN 6) := by
      refine lp_0 (fun q j => X11_spotsInShade_L1 n (fun i => if i < 6 then shA s i else sh i) (jN a) q (jN (opS s (jN a) j)) (jN j)) 6 (by omega) (fun q j hj => ?_) (fun q => ?_)
      · obtain ⟨hb, -⟩ := opS_b s (jN a) j (by omega)
        show X11_spotsInShade_L1 n (fun i => if i < 6 then shA s i else sh i) (jN a) (q + 1) (jN (opS s (jN a) j)) (jN j) = X11_spotsInShade_L1 n (fun i => if i < 6 then shA s i else sh i) (jN a) q (jN (if decide (jN a < shA s j) = true then opS s (jN a) j else opS s (jN a) j ||| 2 ^ j)) (jN (j + 1))
        rw [X11_spotsInShade_L1, if_neg (show ¬ (6 : Int32) ≤ jN j by simp (disch := omega) only [jl_0, jl_1, jl_2, jl_3, jl_4, jl_5, jl_6, jl_7, jl_8, jl_9, jl_10, jl_11, jl_12, jl_13, jl_14, jl_15, jl_16, jl_17, jl_18, jl_20, jl_23, jl_29, jl_30, jl_31, jl_32, jl_35, jl_40, jl_48, jl_50, jl_51, jl_57, jl_60, jl_61, jl_63, jl_64, jl_65, jl_89, jl_97, jl_99, jl_100, jl_101, jl_113, jl_122, jl_200, jl_240, jl_241, jl_255, jl_259, jl_260, jl_261, jl_262, jl_313, jl_500, jl_999, jl_10000, jl_10004, jl_10005, jl_10006, jl_10007, jl_10008, jl_10009, jl_10010, jl_10011, jl_10012, jl_10013, jl_10014, jl_10015, jl_10017, jl_10018, jl_10023, jl_12345, jl_1103515245, jN_add, jN_mul, jN_sub, jN_addm, jN_div, jN_irm, jN_nat, le_T, le_F, lt_T, lt_F, eq_F, ib_T, ib_F, add_j0, if_true, if_false, eq_self, Bool.false_eq_true, Option.bind_some, pb, jn, Nat.zero_add, Nat.add_zero]; exact not_false), ib_T hj (by omega), jN_nat (by omega), bt_sh j hj, bt_or _ hb _ (p2_64 hj), show jN j + 1 = jN (j + 1) from by simp (disch := omega) only [jl_0, jl_1, jl_2, jl_3, jl_4, jl_5, jl_6, jl_7, jl_8, jl_9, jl_10, jl_11, jl_12, jl_13, jl_14, jl_15, jl_16, jl_17, jl_18, jl_20, jl_23, jl_29, jl_30, jl_31, jl_32, jl_35, jl_40, jl_48, jl_50, jl_51, jl_57, jl_60, jl_61, jl_63, jl_64, jl_65, jl_89, jl_97, jl_99, jl_100, jl_101, jl_113, jl_122, jl_200, jl_240, jl_241, jl_255, jl_259, jl_260, jl_261, jl_262, jl_313, jl_500, jl_999, jl_10000, jl_10004, jl_10005, jl_10006, jl_10007, jl_10008, jl_10009, jl_10010, jl_10011, jl_10012, jl_10013, jl_10014, jl_10015, jl_10017, jl_10018, jl_10023, jl_12345, jl_1103515245, jN_add, jN_mul, jN_sub, jN_addm, jN_div, jN_irm, jN_nat, le_T, le_F, lt_T, lt_F, eq_F, ib_T, ib_F, add_j0, if_true, if_false, eq_self, Bool.false_eq_true, Option.bind_some, pb, jn, Nat.zero_add, Nat.add_zero], if_pos rfl, if_pos hj]
        simp only [pb]
        by_cases hq : jN a < shA s j
        · rw [if_pos hq, if_pos (decide_eq_true hq)]
        · rw [if_neg hq, if_neg (fun z => hq (of_decide_eq_true z))]
      · show X11_spotsInShade_L1 n _ (jN a) (q + 1) _ (jN 6) = _
        rw [X11_spotsInShade_L1, if_pos (show (6 : Int32) ≤ jN 6 by simp (disch := omega) only [jl_0, jl_1, jl_2, jl_3, jl_4, jl_5, jl_6, jl_7, jl_8, jl_9, jl_10, jl_11, jl_12, jl_13, jl_14, jl_15, jl_16, jl_17, jl_18, jl_20, jl_23, jl_29, jl_30, jl_31, jl_32, jl_35, jl_40, jl_48, jl_50, jl_51, jl_57, jl_60, jl_61, jl_63, jl_64, jl_65, jl_89, jl_97, jl_99, jl_100, jl_101, jl_113, jl_122, jl_200, jl_240, jl_241, jl_255, jl_259, jl_260, jl_261, jl_262, jl_313, jl_500, jl_999, jl_10000, jl_10004, jl_10005, jl_10006, jl_10007, jl_10008, jl_10009, jl_10010, jl_10011, jl_10012, jl_10013, jl_10014, jl_10015, jl_10017, jl_10018, jl_10023, jl_12345, jl_1103515245, jN_add, jN_mul, jN_sub, jN_addm, jN_div, jN_irm, jN_nat, le_T, le_F, lt_T, lt_F, eq_F, ib_T, ib_F, add_j0, if_true, if_false, eq_self, Bool.false_eq_true, Option.bind_some, pb, jn, Nat.zero_add, Nat.add_zero, Nat.le_refl])]
    rw [show (0 : Int32) = jN 0 from rfl, L]; rfl
  have C2 : X11_seats_L1 n (pOf s) (jN (opS s (jN a) 6)) n (jN 0) (jN 0) (jN 0) = some ((seS s (jN a) 64).1, (seS s (jN a) 64).2, jN 64) := by
    refine lp_0 (fun q v => X11_seats_L1 n (pOf s) (jN (opS s (jN a) 6)) q (seS s (jN a) v).1 (seS s (jN a) v).2 (jN v)) 64 (by omega) (fun q v hv => ?_) (fun q => ?_)
    · show X11_seats_L1 n (pOf s) (jN (opS s (jN a) 6)) (q + 1) (seS s (jN a) v).1 (seS s (jN a) v).2 (jN v) = X11_seats_L1 n (pOf s) (jN (opS s (jN a) 6)) q (seX s (jN a) (seS s (jN a) v) v).1 (seX s (jN a) (seS s (jN a) v) v).2 (jN (v + 1))
      rw [X11_seats_L1, if_neg (show ¬ (64 : Int32) ≤ jN v by rw [show (64 : Int32) = jN 64 from rfl]; simp (disch := omega) only [jl_0, jl_1, jl_2, jl_3, jl_4, jl_5, jl_6, jl_7, jl_8, jl_9, jl_10, jl_11, jl_12, jl_13, jl_14, jl_15, jl_16, jl_17, jl_18, jl_20, jl_23, jl_29, jl_30, jl_31, jl_32, jl_35, jl_40, jl_48, jl_50, jl_51, jl_57, jl_60, jl_61, jl_63, jl_64, jl_65, jl_89, jl_97, jl_99, jl_100, jl_101, jl_113, jl_122, jl_200, jl_240, jl_241, jl_255, jl_259, jl_260, jl_261, jl_262, jl_313, jl_500, jl_999, jl_10000, jl_10004, jl_10005, jl_10006, jl_10007, jl_10008, jl_10009, jl_10010, jl_10011, jl_10012, jl_10013, jl_10014, jl_10015, jl_10017, jl_10018, jl_10023, jl_12345, jl_1103515245, jN_add, jN_mul, jN_sub, jN_addm, jN_div, jN_irm, jN_nat, le_T, le_F, lt_T, lt_F, eq_F, ib_T, ib_F, add_j0, if_true, if_false, eq_self, Bool.false_eq_true, Option.bind_some, pb, jn, Nat.zero_add, Nat.add_zero]; exact not_false), c_bench h hn hv, show jN v + 1 = jN (v + 1) from by simp (disch := omega) only [jl_0, jl_1, jl_2, jl_3, jl_4, jl_5, jl_6, jl_7, jl_8, jl_9, jl_10, jl_11, jl_12, jl_13, jl_14, jl_15, jl_16, jl_17, jl_18, jl_20, jl_23, jl_29, jl_30, jl_31, jl_32, jl_35, jl_40, jl_48, jl_50, jl_51, jl_57, jl_60, jl_61, jl_63, jl_64, jl_65, jl_89, jl_97, jl_99, jl_100, jl_101, jl_113, jl_122, jl_200, jl_240, jl_241, jl_255, jl_259, jl_260, jl_261, jl_262, jl_313, jl_500, jl_999, jl_10000, jl_10004, jl_10005, jl_10006, jl_10007, jl_10008, jl_10009, jl_10010, jl_10011, jl_10012, jl_10013, jl_10014, jl_10015, jl_10017, jl_10018, jl_10023, jl_12345, jl_1103515245, jN_add, jN_mul, jN_sub, jN_addm, jN_div, jN_irm, jN_nat, le_T, le_F, lt_T, lt_F, eq_F, ib_T, ib_F, add_j0, if_true, if_false, eq_self, Bool.false_eq_true, Option.bind_some, pb, jn, Nat.zero_add, Nat.add_zero]]
      have hfit : (if (jN v &&& (jN (opS s (jN a) 6) ^^^ (-1 : Int32))) = 0 then (if (jN v &&& (jN v <<< ((1 : Int32) &&& 31))) = 0 then (1 : Int32) else (0 : Int32)) else (0 : Int32)) = if (apB v && okS s (jN a) v 6) = true then 1 else 0 := by
        rw [okS_all, ← st_op v hv _ ho]
        unfold apB
        by_cases q1 : (jN v &&& (jN (opS s (jN a) 6) ^^^ (-1 : Int32))) = 0
        · by_cases q2 : (jN v &&& (jN v <<< ((1 : Int32) &&& 31))) = 0
          · simp [q1, q2]
          · simp [q1, q2]
        · rw [if_neg q1, decide_eq_false q1, Bool.and_false]; rfl
      rw [hfit]
      unfold seX
      simp only [pb]
      generalize seS s (jN a) v = p
      cases hq : (apB v && okS s (jN a) v 6)
      · rfl
      · by_cases q2 : bcS s v 6 ≤ p.2
        · simp [q2]
        · simp [q2]
    · show X11_seats_L1 n (pOf s) _ (q + 1) _ _ (jN 64) = _
      rw [X11_seats_L1, if_pos (show (64 : Int32) ≤ jN 64 by decide)]
  have M1 : X12_seats_L1 n s (jN a) n (jN 0) (jN 0) (jN 1) = some ((seS s (jN a) 64).1, (seS s (jN a) 64).2, jN 64) := by
    have := lp_j (fun q v => X12_seats_L1 n s (jN a) q (seS s (jN a) v).1 (seS s (jN a) v).2 (jN v)) 64 1 (n := n) (R := some ((seS s (jN a) 64).1, (seS s (jN a) 64).2, jN 64)) (by omega) (by omega) (fun q v hv1 hv => ?_) (fun q => ?_)
    · rw [← this, se_0]; rfl
    · show X12_seats_L1 n s (jN a) (q + 1) (seS s (jN a) v).1 (seS s (jN a) v).2 (jN v) = X12_seats_L1 n s (jN a) q (seX s (jN a) (seS s (jN a) v) v).1 (seX s (jN a) (seS s (jN a) v) v).2 (jN (v + 1))
      rw [X12_seats_L1, if_neg (show ¬ (64 : Int32) ≤ jN v by rw [show (64 : Int32) = jN 64 from rfl]; simp (disch := omega) only [jl_0, jl_1, jl_2, jl_3, jl_4, jl_5, jl_6, jl_7, jl_8, jl_9, jl_10, jl_11, jl_12, jl_13, jl_14, jl_15, jl_16, jl_17, jl_18, jl_20, jl_23, jl_29, jl_30, jl_31, jl_32, jl_35, jl_40, jl_48, jl_50, jl_51, jl_57, jl_60, jl_61, jl_63, jl_64, jl_65, jl_89, jl_97, jl_99, jl_100, jl_101, jl_113, jl_122, jl_200, jl_240, jl_241, jl_255, jl_259, jl_260, jl_261, jl_262, jl_313, jl_500, jl_999, jl_10000, jl_10004, jl_10005, jl_10006, jl_10007, jl_10008, jl_10009, jl_10010, jl_10011, jl_10012, jl_10013, jl_10014, jl_10015, jl_10017, jl_10018, jl_10023, jl_12345, jl_1103515245, jN_add, jN_mul, jN_sub, jN_addm, jN_div, jN_irm, jN_nat, le_T, le_F, lt_T, lt_F, eq_F, ib_T, ib_F, add_j0, if_true, if_false, eq_self, Bool.false_eq_true, Option.bind_some, pb, jn, Nat.zero_add, Nat.add_zero]; exact not_false), show jN v + 1 = jN (v + 1) from by simp (disch := omega) only [jl_0, jl_1, jl_2, jl_3, jl_4, jl_5, jl_6, jl_7, jl_8, jl_9, jl_10, jl_11, jl_12, jl_13, jl_14, jl_15, jl_16, jl_17, jl_18, jl_20, jl_23, jl_29, jl_30, jl_31, jl_32, jl_35, jl_40, jl_48, jl_50, jl_51, jl_57, jl_60, jl_61, jl_63, jl_64, jl_65, jl_89, jl_97, jl_99, jl_100, jl_101, jl_113, jl_122, jl_200, jl_240, jl_241, jl_255, jl_259, jl_260, jl_261, jl_262, jl_313, jl_500, jl_999, jl_10000, jl_10004, jl_10005, jl_10006, jl_10007, jl_10008, jl_10009, jl_10010, jl_10011, jl_10012, jl_10013, jl_10014, jl_10015, jl_10017, jl_10018, jl_10023, jl_12345, jl_1103515245, jN_add, jN_mul, jN_sub, jN_addm, jN_div, jN_irm, jN_nat, le_T, le_F, lt_T, lt_F, eq_F, ib_T, ib_F, add_j0, if_true, if_false, eq_self, Bool.false_eq_true, Option.bind_some, pb, jn, Nat.zero_add, Nat.add_zero]]
      have hap : (if (jN v &&& (jN v <<< ((1 : Int32) &&& 31))) = 0 then (1 : Int32) else (0 : Int32)) = if apB v = true then 1 else 0 := by
        unfold apB
        by_cases q2 : (jN v &&& (jN v <<< ((1 : Int32) &&& 31))) = 0
        · simp [q2]
        · simp [q2]
      rw [hap]
      simp only [pb]
      rw [show X12_seats_L2 n s (jN a) (jN v) n (if apB v = true then 1 else 0) (0 : Int32) (0 : Int32) = _ from m_seat2 h hn hv (jN a)]
      simp only [Option.bind_some]
      unfold seX
      generalize seS s (jN a) v = p
      cases hq : (apB v && okS s (jN a) v 6)
      · rfl
      · by_cases q2 : bcS s v 6 ≤ p.2
        · simp [q2]
        · simp [q2]
    · show X12_seats_L1 n s (jN a) (q + 1) _ _ (jN 64) = _
      rw [X12_seats_L1, if_pos (show (64 : Int32) ≤ jN 64 by decide)]
  rw [C1]
  simp only [Option.bind_some]
  rw [show X11_seats_L1 n (pOf s) (jN (opS s (jN a) 6)) n (0 : Int32) (0 : Int32) (0 : Int32) = _ from C2, show X12_seats_L1 n s (jN a) n (0 : Int32) (0 : Int32) (1 : Int32) = _ from M1]
  simp only [Option.bind_some]
  by_cases q : jN j = 0
  · rw [if_pos q, if_pos q]; exact ⟨_, _, rfl, rfl⟩
  · rw [if_neg q, if_neg q]; exact ⟨_, _, rfl, rfl⟩
/-! keep, again -/
theorem o_keep (hn : 400 ≤ n) (hr : ρ < nr) (s1 kept : Nat → Int32) : ∃ kept', X11_keep n (dOf s) (pOf s) (kOf s) (rOf s) (s 4) (s 0) (s 1) (s 2) (s 6) (s 3) ρ (dOf s1) (pOf s1) (kOf s1) (rOf s1) nr = some (1, dOf kept', pOf kept', kOf kept', rOf kept', kept' 4, kept' 0, kept' 1, kept' 2, kept' 6, kept' 3, ρ, 1) ∧ X12_keep n s kept = some (1, kept', 1) ∧ ∀ i, i < 313 → kept' i = s i := by
  refine ⟨fun i => if i < 313 then s i else kept i, ?_, ?_, fun i hi => if_pos hi⟩
  · unfold X11_keep
    rw [q1_copy, c_copy (by omega) s s1 hr]
    simp only [Option.bind_some]
    rw [dOf_cg (s := s) (u := fun i => if i < 313 then s i else kept i) (fun i h1 h2 => (if_pos (by omega)).symm), pOf_cg (s := s) (u := fun i => if i < 313 then s i else kept i) (fun i h1 h2 => (if_pos (by omega)).symm), kOf_cg (s := s) (u := fun i => if i < 313 then s i else kept i) (fun i h1 h2 => (if_pos (by omega)).symm), rOf_cg (s := s) (u := fun i => if i < 313 then s i else kept i) (fun i h1 h2 => (if_pos (by omega)).symm)]
    rfl
  · have L : X12_keep_L1 n s n (jN 0) kept = some (jN 313, fun i => if i < 313 then s i else kept i) := by
      have := lp_0 (fun k j => X12_keep_L1 n s k (jN j) (fun i => if i < j then s i else kept i)) 313 (n := n) (R := some (jN 313, fun i => if i < 313 then s i else kept i)) (by omega) (fun k j hj => ?_) (fun k => ?_)
      · rw [← this]; congr 1
      · show X12_keep_L1 n s (k + 1) (jN j) _ = _
        rw [X12_keep_L1]; simp (disch := omega) only [jl_0, jl_1, jl_2, jl_3, jl_4, jl_5, jl_6, jl_7, jl_8, jl_9, jl_10, jl_11, jl_12, jl_13, jl_14, jl_15, jl_16, jl_17, jl_18, jl_20, jl_23, jl_29, jl_30, jl_31, jl_32, jl_35, jl_40, jl_48, jl_50, jl_51, jl_57, jl_60, jl_61, jl_63, jl_64, jl_65, jl_89, jl_97, jl_99, jl_100, jl_101, jl_113, jl_122, jl_200, jl_240, jl_241, jl_255, jl_259, jl_260, jl_261, jl_262, jl_313, jl_500, jl_999, jl_10000, jl_10004, jl_10005, jl_10006, jl_10007, jl_10008, jl_10009, jl_10010, jl_10011, jl_10012, jl_10013, jl_10014, jl_10015, jl_10017, jl_10018, jl_10023, jl_12345, jl_1103515245, jN_add, jN_mul, jN_sub, jN_addm, jN_div, jN_irm, jN_nat, le_T, le_F, lt_T, lt_F, eq_F, ib_T, ib_F, add_j0, if_true, if_false, eq_self, Bool.false_eq_true, Option.bind_some, pb, jn, Nat.zero_add, Nat.add_zero]
        congr 1; funext i
        by_cases h : i = j
        · subst h; rw [upd_s, if_pos (by omega)]
        · rw [upd_n h]
          by_cases h2 : i < j
          · rw [if_pos h2, if_pos (by omega)]
          · rw [if_neg h2, if_neg (by omega)]
      · show X12_keep_L1 n s (k + 1) (jN 313) _ = _
        rw [X12_keep_L1]; simp (disch := omega) only [jl_0, jl_1, jl_2, jl_3, jl_4, jl_5, jl_6, jl_7, jl_8, jl_9, jl_10, jl_11, jl_12, jl_13, jl_14, jl_15, jl_16, jl_17, jl_18, jl_20, jl_23, jl_29, jl_30, jl_31, jl_32, jl_35, jl_40, jl_48, jl_50, jl_51, jl_57, jl_60, jl_61, jl_63, jl_64, jl_65, jl_89, jl_97, jl_99, jl_100, jl_101, jl_113, jl_122, jl_200, jl_240, jl_241, jl_255, jl_259, jl_260, jl_261, jl_262, jl_313, jl_500, jl_999, jl_10000, jl_10004, jl_10005, jl_10006, jl_10007, jl_10008, jl_10009, jl_10010, jl_10011, jl_10012, jl_10013, jl_10014, jl_10015, jl_10017, jl_10018, jl_10023, jl_12345, jl_1103515245, jN_add, jN_mul, jN_sub, jN_addm, jN_div, jN_irm, jN_nat, le_T, le_F, lt_T, lt_F, eq_F, ib_T, ib_F, add_j0, if_true, if_false, eq_self, Bool.false_eq_true, Option.bind_some, pb, jn, Nat.zero_add, Nat.add_zero]
    unfold X12_keep
    rw [show (0 : Int32) = jN 0 from rfl, L]; rfl
theorem o_again1 (hn : 400 ≤ n) (kept : Nat → Int32) : ∃ u, X12_again n s kept 1 = some (kept 4, u) ∧ ∀ i, i < 313 → u i = kept i := by
  refine ⟨fun i => if i < 313 then kept i else s i, ?_, fun i hi => if_pos hi⟩
  have L : X12_again_L1 n kept n (jN 0) s = some (jN 313, fun i => if i < 313 then kept i else s i) := by
    have := lp_0 (fun k j => X12_again_L1 n kept k (jN j) (fun i => if i < j then kept i else s i)) 313 (n := n) (R := some (jN 313, fun i => if i < 313 then kept i else s i)) (by omega) (fun k j hj => ?_) (fun k => ?_)
    · rw [← this]; congr 1
    · show X12_again_L1 n kept (k + 1) (jN j) _ = _
      rw [X12_again_L1]; simp (disch := omega) only [jl_0, jl_1, jl_2, jl_3, jl_4, jl_5, jl_6, jl_7, jl_8, jl_9, jl_10, jl_11, jl_12, jl_13, jl_14, jl_15, jl_16, jl_17, jl_18, jl_20, jl_23, jl_29, jl_30, jl_31, jl_32, jl_35, jl_40, jl_48, jl_50, jl_51, jl_57, jl_60, jl_61, jl_63, jl_64, jl_65, jl_89, jl_97, jl_99, jl_100, jl_101, jl_113, jl_122, jl_200, jl_240, jl_241, jl_255, jl_259, jl_260, jl_261, jl_262, jl_313, jl_500, jl_999, jl_10000, jl_10004, jl_10005, jl_10006, jl_10007, jl_10008, jl_10009, jl_10010, jl_10011, jl_10012, jl_10013, jl_10014, jl_10015, jl_10017, jl_10018, jl_10023, jl_12345, jl_1103515245, jN_add, jN_mul, jN_sub, jN_addm, jN_div, jN_irm, jN_nat, le_T, le_F, lt_T, lt_F, eq_F, ib_T, ib_F, add_j0, if_true, if_false, eq_self, Bool.false_eq_true, Option.bind_some, pb, jn, Nat.zero_add, Nat.add_zero]
      congr 1; funext i
      by_cases h : i = j
      · subst h; rw [upd_s, if_pos (by omega)]
      · rw [upd_n h]
        by_cases h2 : i < j
        · rw [if_pos h2, if_pos (by omega)]
        · rw [if_neg h2, if_neg (by omega)]
    · show X12_again_L1 n kept (k + 1) (jN 313) _ = _
      rw [X12_again_L1]; simp (disch := omega) only [jl_0, jl_1, jl_2, jl_3, jl_4, jl_5, jl_6, jl_7, jl_8, jl_9, jl_10, jl_11, jl_12, jl_13, jl_14, jl_15, jl_16, jl_17, jl_18, jl_20, jl_23, jl_29, jl_30, jl_31, jl_32, jl_35, jl_40, jl_48, jl_50, jl_51, jl_57, jl_60, jl_61, jl_63, jl_64, jl_65, jl_89, jl_97, jl_99, jl_100, jl_101, jl_113, jl_122, jl_200, jl_240, jl_241, jl_255, jl_259, jl_260, jl_261, jl_262, jl_313, jl_500, jl_999, jl_10000, jl_10004, jl_10005, jl_10006, jl_10007, jl_10008, jl_10009, jl_10010, jl_10011, jl_10012, jl_10013, jl_10014, jl_10015, jl_10017, jl_10018, jl_10023, jl_12345, jl_1103515245, jN_add, jN_mul, jN_sub, jN_addm, jN_div, jN_irm, jN_nat, le_T, le_F, lt_T, lt_F, eq_F, ib_T, ib_F, add_j0, if_true, if_false, eq_self, Bool.false_eq_true, Option.bind_some, pb, jn, Nat.zero_add, Nat.add_zero]
  unfold X12_again
  rw [if_neg (by decide), show (0 : Int32) = jN 0 from rfl, L]; rfl
theorem c_again1 (hn : 400 ≤ n) (hr : ρ < nr) (kept : Nat → Int32) {ρ0 : Nat} : X11_again n (dOf s) (pOf s) (kOf s) (rOf s) (s 4) (s 0) (s 1) (s 2) (s 6) (s 3) ρ0 (dOf kept) (pOf kept) (kOf kept) (rOf kept) (kept 4) (kept 0) (kept 1) (kept 2) (kept 6) (kept 3) ρ 1 nr = some (kept 4, dOf kept, pOf kept, kOf kept, rOf kept, kept 4, kept 0, kept 1, kept 2, kept 6, kept 3, ρ) := by
  unfold X11_again
  rw [if_neg (by decide), q01_copy]; dsimp only; rw [c_copy (by omega) kept s hr]; rfl
end OPS9
