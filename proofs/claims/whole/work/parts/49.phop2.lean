section HOP2
variable {n ρ nr : Nat} {gc : Nat → Int32} {gk gw gs gd : Nat → Nat → Int32} {kl wl sl cl : Nat → Nat} {W : Int32 → (Nat → Int32) → Int32} {s : Nat → Int32}
theorem HH.up {he th hz ho h1 : Nat → Int32} {k : Nat} {a b c d e : Int32} (h : HH he th hz ho h1) (hx : (a = jN 0 ∧ d = jN 0 ∧ b = e ∧ ∃ k, k < 6 ∧ b = jN k) ∨ (a = jN 1 ∧ ∃ x, x ≤ 4 ∧ d = jN (10 + x) ∧ b = jN x ∧ c = e) ∨ (a = jN 2 ∧ d = -1)) : HH (upd he k a) (upd th k b) (upd hz k c) (upd ho k d) (upd h1 k e) := by
  intro i hi
  by_cases hik : i = k
  · subst hik; rw [upd_s, upd_s, upd_s, upd_s, upd_s]; exact hx
  · rw [upd_n hik, upd_n hik, upd_n hik, upd_n hik, upd_n hik]; exact h i hi
theorem o_shelf (h : GS s) {so si he th hz ho h1 : Nat → Int32} (hS : HS so si) (hH : HH he th hz ho h1) (v1 v2 v3 : Int32) : ∃ r he' th' hz' ho' h1', X11_shelf (s 4) so si he th hz v1 v2 v3 = some (r, he', th', hz') ∧ X12_shelf s so si ho h1 v1 v2 v3 = some (r, ho', h1') ∧ HH he' th' hz' ho' h1' := by
  unfold X11_shelf X12_shelf
  rw [isSh_eq, isIn_eq]
  rcases sh_or v1 with e | ⟨k, hk, rfl, e⟩
  · rw [e, if_pos (show jN 0 = 0 from rfl), if_pos (show jN 0 = 0 from rfl)]; exact ⟨_, _, _, _, _, _, rfl, rfl, hH⟩
  rw [e, if_neg (show ¬ jN 1 = 0 by decide), if_neg (show ¬ jN 1 = 0 by decide)]
  rcases in1_or v2 0 2 (by decide) (by decide) with e1 | ⟨w, hw1, hw2, rfl⟩
  · rw [show X12_in1 v2 (0 : Int32) (2 : Int32) = jN 0 from e1, if_pos (show jN 0 = 0 from rfl), if_pos (show jN 0 = 0 from rfl)]; exact ⟨_, _, _, _, _, _, rfl, rfl, hH⟩
  rw [show X12_in1 (jN w) (0 : Int32) (2 : Int32) = jN 1 from in1_T hw1 hw2 (by decide), if_neg (show ¬ jN 1 = 0 by decide), if_neg (show ¬ jN 1 = 0 by decide)]
  simp only [jn]
  unfold X2_fillShelf
  rw [ib_T hk (by omega), jN_nat (show k < 2147483648 by omega)]
  (have : w = 0 ∨ w = 1 ∨ w = 2 := by omega)
  rcases this with rfl | rfl | rfl
  · have hsz : ∀ f : Nat → Int32, upd f k (f k) = f := fun f => upd_self rfl
    rcases has_or h v3 with ⟨g1, g2⟩ | ⟨d, hd, rfl, g1, g2⟩
    · rw [g1, g2]
      simp only [show (jN 0 = 0) = True from eq_true rfl, if_true]
      exact ⟨_, _, _, _, _, _, rfl, rfl, hH⟩
    · rw [g1, g2]
      simp only [show (jN 0 = 0) = True from eq_true rfl, show (jN 1 = 0) = False from eq_false (by decide), show (jN 0 = 1) = False from eq_false (by decide), if_true, if_false, Option.bind_some, pb]
      have := h.n.1
      have hh := hH.up (k := k) (a := jN 0) (b := jN d) (c := hz k) (d := 0) (e := jN d) (Or.inl ⟨rfl, rfl, rfl, d, by omega, rfl⟩)
      rw [hsz] at hh
      exact ⟨_, _, _, _, _, _, rfl, rfl, hh⟩
  · simp only [show (jN 1 = 0) = False from eq_false (by decide), show (jN 1 = 1) = True from eq_true rfl, if_true, if_false]
    rcases sh_or v3 with g | ⟨d, hd, rfl, g⟩
    · rw [g]
      simp only [show (jN 0 = 0) = True from eq_true rfl, if_true]
      exact ⟨_, _, _, _, _, _, rfl, rfl, hH⟩
    · rw [g, ib_T hd (by omega), jN_nat (show d < 2147483648 by omega)]
      simp only [show (jN 1 = 0) = False from eq_false (by decide), if_true, if_false]
      rcases (hS d hd).1 with z | ⟨a, ha, z⟩
      · rw [z]
        simp only [show ((-1 : Int32) < 0) = True from eq_true (by decide), if_true, Option.bind_some, pb, show ((1 : Int32) = 0) = False from eq_false (by decide), if_false]
        exact ⟨_, _, _, _, _, _, rfl, rfl, hH.up (Or.inr (Or.inr ⟨rfl, rfl⟩))⟩
      · have h0 : (jN a < 0) = False := lt_F (b := 0) (by omega) (by omega)
        have hm : (jN a = -1) = False := eq_false (fun q => by rw [q] at h0; exact absurd h0 (by decide))
        rw [z]
        simp only [h0, hm, if_true, if_false, Option.bind_some, pb]
        exact ⟨_, _, _, _, _, _, rfl, rfl, hH.up (Or.inr (Or.inl ⟨rfl, a, ha, jN_add 10 a, rfl, rfl⟩))⟩
  · simp only [show (jN 2 = 0) = False from eq_false (by decide), show (jN 2 = 1) = False from eq_false (by decide), if_true, if_false, Option.bind_some, pb]
    have hsz : ∀ f : Nat → Int32, upd f k (f k) = f := fun f => upd_self rfl
    have hh := hH.up (k := k) (a := jN 2) (b := v3) (c := hz k) (d := -1) (e := 0) (Or.inr (Or.inr ⟨rfl, rfl⟩))
    rw [hsz] at hh
    exact ⟨_, _, _, _, _, _, rfl, rfl, hh⟩
/-- what a shelf holds -/
theorem held_or (h : GS s) {he th hz ho h1 : Nat → Int32} (hH : HH he th hz ho h1) {k : Nat} (hk : k < 4) :
    (∃ d, d < nS s ∧ he k = jN 0 ∧ th k = jN d ∧ h1 k = jN d ∧ X11_holdsDial (s 4) he th (jN k) = some 1 ∧ X12_heldOn s ho h1 (jN k) = some 0) ∨
    (he k = jN 1 ∧ ∃ a, a ≤ 4 ∧ th k = jN a ∧ hz k = h1 k ∧ X11_holdsDial (s 4) he th (jN k) = some 0 ∧ X12_heldOn s ho h1 (jN k) = some (jN (10 + a))) ∨
    ((he k = 1) = False ∧ X11_holdsDial (s 4) he th (jN k) = some 0 ∧ X12_heldOn s ho h1 (jN k) = some (-1)) := by
  unfold X11_holdsDial X12_heldOn
  rw [ib_T hk (by omega), jN_nat (show k < 2147483648 by omega)]
  simp only [if_true, jn]
  rcases hH k hk with ⟨a1, a2, a3, d, hd, a4⟩ | ⟨a1, a, ha, a2, a3, a4⟩ | ⟨a1, a2⟩
  · rw [a1, a2, ← a3, a4]
    simp only [show (jN 0 = 0) = True from eq_true rfl, if_true]
    rcases has_or h (jN d) with ⟨g1, g2⟩ | ⟨d2, hd2, e, g1, g2⟩
    · right; right
      rw [g1, g2]
      exact ⟨eq_false (by decide), rfl, rfl⟩
    · left
      have : d = d2 := (jN_inj (by omega) (by have := h.n.1; omega)).mp e
      subst this
      rw [g1, g2]
      refine ⟨d, hd2, ?_, ?_, ?_, ?_, ?_⟩ <;> first | trivial | rfl
  · right; left
    rw [a1, a2, a3]
    have e1 : (jN (10 + a) = 0) = False := eq_F (b := 0) (by omega) (by omega) (by omega)
    simp only [show (jN 1 = 0) = False from eq_false (by decide), e1, if_false]
    refine ⟨?_, a, ha, ?_, a4, ?_, ?_⟩ <;> first | trivial | rfl
  · right; right
    rw [a1, a2]
    exact ⟨eq_false (by decide), rfl, rfl⟩
theorem o_taken (h : GS s) (hn : 70 ≤ n) {he th hz ho h1 : Nat → Int32} (hH : HH he th hz ho h1) (v1 v2 : Int32) : ∃ r, X11_taken (dOf s) (s 4) he th hz v1 v2 = some r ∧ X12_taken n s ho h1 v1 v2 = some r := by
  unfold X11_taken X12_taken
  rw [isSh_eq, isIn_eq]
  rcases sh_or v1 with e | ⟨k, hk, rfl, e⟩
  · rw [e, if_pos (show jN 0 = 0 from rfl), if_pos (show jN 0 = 0 from rfl)]; exact ⟨_, rfl, rfl⟩
  rw [e, if_neg (show ¬ jN 1 = 0 by decide), if_neg (show ¬ jN 1 = 0 by decide), ib_T hk (by omega), jN_nat (show k < 2147483648 by omega)]
  simp only [if_true, jn]
  have hv2 : (X12_in1 v2 0 5 = 0 ∧ X12_in1 v2 10 14 = 0) ∨ ∃ w, v2 = jN w ∧ ((w ≤ 5 ∧ X12_in1 v2 0 5 = jN 1) ∨ (10 ≤ w ∧ w ≤ 14 ∧ X12_in1 v2 0 5 = jN 0 ∧ X12_in1 v2 10 14 = jN 1)) := by
    rcases in1_or v2 0 5 (by decide) (by decide) with z | ⟨w, hw1, hw2, rfl⟩
    · rcases in1_or v2 10 14 (by decide) (by decide) with z2 | ⟨w, hw1, hw2, rfl⟩
      · exact Or.inl ⟨z, z2⟩
      · exact Or.inr ⟨w, rfl, Or.inr ⟨hw1, hw2, z, in1_T hw1 hw2 (by decide)⟩⟩
    · exact Or.inr ⟨w, rfl, Or.inl ⟨hw2, in1_T hw1 hw2 (by decide)⟩⟩
  rcases hv2 with ⟨z1, z2⟩ | ⟨w, rfl, hw⟩
  · rw [z1, z2]; exact ⟨_, rfl, rfl⟩
  have strip : ∀ (A : Option Int32), (if X12_in1 (jN w) 0 5 = 0 then if X12_in1 (jN w) 10 14 = 0 then some (-1) else A else A) = A := by
    intro A
    rcases hw with ⟨-, z⟩ | ⟨-, -, z, z2⟩
    · rw [z, if_neg (show ¬ jN 1 = 0 by decide)]
    · rw [z, z2, if_pos (show jN 0 = 0 from rfl), if_neg (show ¬ jN 1 = 0 by decide)]
  rw [strip, strip]
  rcases held_or h hH hk with ⟨d, hd, a1, a2, a3, a4, a5⟩ | ⟨a1, a, ha, a2, a3, a4, a5⟩ | ⟨a1, a4, a5⟩
  · have hd6 : d < 6 := by have := h.n.1; omega
    obtain ⟨kd, hkd, ek⟩ := h.kind hd6
    rw [a4, a5, a1, a2, a3]
    simp only [show (jN 0 = 1) = False from eq_false (by decide), if_false, Option.bind_some, show ((1 : Int32) = 0) = False from eq_false (by decide), if_true]
    rw [ib_T hd6 (by omega), jN_nat (show d < 2147483648 by omega), dOf_at hd6 (by omega), show X12_get s (jN d) (0 : Int32) = some (s (iD d 0)) from m_get (j := 0) hd6 (by omega), ek]
    simp only [Option.bind_some, if_true]
    rcases hw with ⟨hw5, -⟩ | ⟨hw1, hw2, -, -⟩
    · obtain ⟨m, rfl⟩ : ∃ m, n = m + 4 := ⟨n - 4, by omega⟩
      have e1 := iu_36 (m + 4) m kd w (by omega) (by omega)
      obtain ⟨r, e2⟩ := iu_v kd w (by omega) (by omega)
      rw [← e1, e2, if_neg (show ¬ (5 : Int32) < jN w by simp (disch := omega) only [jl_0, jl_1, jl_2, jl_3, jl_4, jl_5, jl_6, jl_7, jl_8, jl_9, jl_10, jl_11, jl_12, jl_13, jl_14, jl_15, jl_16, jl_17, jl_18, jl_20, jl_23, jl_29, jl_30, jl_31, jl_32, jl_35, jl_40, jl_48, jl_50, jl_51, jl_57, jl_60, jl_61, jl_63, jl_64, jl_65, jl_89, jl_97, jl_99, jl_100, jl_101, jl_113, jl_122, jl_200, jl_240, jl_241, jl_255, jl_259, jl_260, jl_261, jl_262, jl_313, jl_500, jl_999, jl_10000, jl_10004, jl_10005, jl_10006, jl_10007, jl_10008, jl_10009, jl_10010, jl_10011, jl_10012, jl_10013, jl_10014, jl_10015, jl_10017, jl_10018, jl_10023, jl_12345, jl_1103515245, jN_add, jN_mul, jN_sub, jN_addm, jN_div, jN_irm, jN_nat, le_T, le_F, lt_T, lt_F, eq_F, ib_T, ib_F, add_j0, if_true, if_false, eq_self, Bool.false_eq_true, Option.bind_some, pb, jn, Nat.zero_add, Nat.add_zero]; exact not_false), if_neg (show ¬ (10 : Int32) ≤ jN w by simp (disch := omega) only [jl_0, jl_1, jl_2, jl_3, jl_4, jl_5, jl_6, jl_7, jl_8, jl_9, jl_10, jl_11, jl_12, jl_13, jl_14, jl_15, jl_16, jl_17, jl_18, jl_20, jl_23, jl_29, jl_30, jl_31, jl_32, jl_35, jl_40, jl_48, jl_50, jl_51, jl_57, jl_60, jl_61, jl_63, jl_64, jl_65, jl_89, jl_97, jl_99, jl_100, jl_101, jl_113, jl_122, jl_200, jl_240, jl_241, jl_255, jl_259, jl_260, jl_261, jl_262, jl_313, jl_500, jl_999, jl_10000, jl_10004, jl_10005, jl_10006, jl_10007, jl_10008, jl_10009, jl_10010, jl_10011, jl_10012, jl_10013, jl_10014, jl_10015, jl_10017, jl_10018, jl_10023, jl_12345, jl_1103515245, jN_add, jN_mul, jN_sub, jN_addm, jN_div, jN_irm, jN_nat, le_T, le_F, lt_T, lt_F, eq_F, ib_T, ib_F, add_j0, if_true, if_false, eq_self, Bool.false_eq_true, Option.bind_some, pb, jn, Nat.zero_add, Nat.add_zero]; exact not_false)]
      simp only [Option.bind_some]
      by_cases hr : r = 0
      · rw [if_pos hr, if_pos hr]; exact ⟨_, rfl, rfl⟩
      · rw [if_neg hr, if_neg hr]; exact ⟨_, rfl, rfl⟩
    · rw [if_pos (show (5 : Int32) < jN w by simp (disch := omega) only [jl_0, jl_1, jl_2, jl_3, jl_4, jl_5, jl_6, jl_7, jl_8, jl_9, jl_10, jl_11, jl_12, jl_13, jl_14, jl_15, jl_16, jl_17, jl_18, jl_20, jl_23, jl_29, jl_30, jl_31, jl_32, jl_35, jl_40, jl_48, jl_50, jl_51, jl_57, jl_60, jl_61, jl_63, jl_64, jl_65, jl_89, jl_97, jl_99, jl_100, jl_101, jl_113, jl_122, jl_200, jl_240, jl_241, jl_255, jl_259, jl_260, jl_261, jl_262, jl_313, jl_500, jl_999, jl_10000, jl_10004, jl_10005, jl_10006, jl_10007, jl_10008, jl_10009, jl_10010, jl_10011, jl_10012, jl_10013, jl_10014, jl_10015, jl_10017, jl_10018, jl_10023, jl_12345, jl_1103515245, jN_add, jN_mul, jN_sub, jN_addm, jN_div, jN_irm, jN_nat, le_T, le_F, lt_T, lt_F, eq_F, ib_T, ib_F, add_j0, if_true, if_false, eq_self, Bool.false_eq_true, Option.bind_some, pb, jn, Nat.zero_add, Nat.add_zero]), if_pos (show (10 : Int32) ≤ jN w by simp (disch := omega) only [jl_0, jl_1, jl_2, jl_3, jl_4, jl_5, jl_6, jl_7, jl_8, jl_9, jl_10, jl_11, jl_12, jl_13, jl_14, jl_15, jl_16, jl_17, jl_18, jl_20, jl_23, jl_29, jl_30, jl_31, jl_32, jl_35, jl_40, jl_48, jl_50, jl_51, jl_57, jl_60, jl_61, jl_63, jl_64, jl_65, jl_89, jl_97, jl_99, jl_100, jl_101, jl_113, jl_122, jl_200, jl_240, jl_241, jl_255, jl_259, jl_260, jl_261, jl_262, jl_313, jl_500, jl_999, jl_10000, jl_10004, jl_10005, jl_10006, jl_10007, jl_10008, jl_10009, jl_10010, jl_10011, jl_10012, jl_10013, jl_10014, jl_10015, jl_10017, jl_10018, jl_10023, jl_12345, jl_1103515245, jN_add, jN_mul, jN_sub, jN_addm, jN_div, jN_irm, jN_nat, le_T, le_F, lt_T, lt_F, eq_F, ib_T, ib_F, add_j0, if_true, if_false, eq_self, Bool.false_eq_true, Option.bind_some, pb, jn, Nat.zero_add, Nat.add_zero])]; exact ⟨_, rfl, rfl⟩
  · rw [a1, a2, a3, a5, if_pos (show jN 1 = 1 from rfl)]
    simp only [Option.bind_some]
    have e0 : ¬ jN (10 + a) = 0 := fun q => by have := (jN_inj (b := 0) (by omega) (by omega)).mp q; omega
    rw [if_pos (show (0 : Int32) ≤ jN (10 + a) by simp (disch := omega) only [jl_0, jl_1, jl_2, jl_3, jl_4, jl_5, jl_6, jl_7, jl_8, jl_9, jl_10, jl_11, jl_12, jl_13, jl_14, jl_15, jl_16, jl_17, jl_18, jl_20, jl_23, jl_29, jl_30, jl_31, jl_32, jl_35, jl_40, jl_48, jl_50, jl_51, jl_57, jl_60, jl_61, jl_63, jl_64, jl_65, jl_89, jl_97, jl_99, jl_100, jl_101, jl_113, jl_122, jl_200, jl_240, jl_241, jl_255, jl_259, jl_260, jl_261, jl_262, jl_313, jl_500, jl_999, jl_10000, jl_10004, jl_10005, jl_10006, jl_10007, jl_10008, jl_10009, jl_10010, jl_10011, jl_10012, jl_10013, jl_10014, jl_10015, jl_10017, jl_10018, jl_10023, jl_12345, jl_1103515245, jN_add, jN_mul, jN_sub, jN_addm, jN_div, jN_irm, jN_nat, le_T, le_F, lt_T, lt_F, eq_F, ib_T, ib_F, add_j0, if_true, if_false, eq_self, Bool.false_eq_true, Option.bind_some, pb, jn, Nat.zero_add, Nat.add_zero]), if_neg e0]
    have e1 : (jN w - 10 = jN a) = (jN (10 + a) = jN w) := by
      apply propext
      constructor
      · intro q
        have : jN w = jN a + 10 := by rw [← q, Int32.sub_add_cancel]
        rw [this, show jN a + (10 : Int32) = jN (a + 10) from by simp (disch := omega) only [jl_0, jl_1, jl_2, jl_3, jl_4, jl_5, jl_6, jl_7, jl_8, jl_9, jl_10, jl_11, jl_12, jl_13, jl_14, jl_15, jl_16, jl_17, jl_18, jl_20, jl_23, jl_29, jl_30, jl_31, jl_32, jl_35, jl_40, jl_48, jl_50, jl_51, jl_57, jl_60, jl_61, jl_63, jl_64, jl_65, jl_89, jl_97, jl_99, jl_100, jl_101, jl_113, jl_122, jl_200, jl_240, jl_241, jl_255, jl_259, jl_260, jl_261, jl_262, jl_313, jl_500, jl_999, jl_10000, jl_10004, jl_10005, jl_10006, jl_10007, jl_10008, jl_10009, jl_10010, jl_10011, jl_10012, jl_10013, jl_10014, jl_10015, jl_10017, jl_10018, jl_10023, jl_12345, jl_1103515245, jN_add, jN_mul, jN_sub, jN_addm, jN_div, jN_irm, jN_nat, le_T, le_F, lt_T, lt_F, eq_F, ib_T, ib_F, add_j0, if_true, if_false, eq_self, Bool.false_eq_true, Option.bind_some, pb, jn, Nat.zero_add, Nat.add_zero], Nat.add_comm]
      · intro q
        rw [← q, show jN (10 + a) - (10 : Int32) = jN (10 + a - 10) from by simp (disch := omega) only [jl_0, jl_1, jl_2, jl_3, jl_4, jl_5, jl_6, jl_7, jl_8, jl_9, jl_10, jl_11, jl_12, jl_13, jl_14, jl_15, jl_16, jl_17, jl_18, jl_20, jl_23, jl_29, jl_30, jl_31, jl_32, jl_35, jl_40, jl_48, jl_50, jl_51, jl_57, jl_60, jl_61, jl_63, jl_64, jl_65, jl_89, jl_97, jl_99, jl_100, jl_101, jl_113, jl_122, jl_200, jl_240, jl_241, jl_255, jl_259, jl_260, jl_261, jl_262, jl_313, jl_500, jl_999, jl_10000, jl_10004, jl_10005, jl_10006, jl_10007, jl_10008, jl_10009, jl_10010, jl_10011, jl_10012, jl_10013, jl_10014, jl_10015, jl_10017, jl_10018, jl_10023, jl_12345, jl_1103515245, jN_add, jN_mul, jN_sub, jN_addm, jN_div, jN_irm, jN_nat, le_T, le_F, lt_T, lt_F, eq_F, ib_T, ib_F, add_j0, if_true, if_false, eq_self, Bool.false_eq_true, Option.bind_some, pb, jn, Nat.zero_add, Nat.add_zero]]; congr 1; omega
    by_cases hr : jN (10 + a) = jN w
    · rw [if_pos hr, if_pos (show jN w - 10 = jN a by rw [e1]; exact hr)]; exact ⟨_, rfl, rfl⟩
    · rw [if_neg hr, if_neg (show ¬ jN w - 10 = jN a by rw [e1]; exact hr)]; exact ⟨_, rfl, rfl⟩
  · rw [if_neg (show ¬ he k = 1 from fun q => by rw [a1] at q; exact q), a4, a5]; exact ⟨_, rfl, rfl⟩
theorem o_act (h : GS s) (hn : 70 ≤ n) {he th hz ho h1 : Nat → Int32} (hH : HH he th hz ho h1) (b : Nat → Int32) (nu sp ow ip v1 v2 v3 : Int32) : ∃ r b' t nu' sp' pa' ow' ip', t ≤ 30 ∧ X11_act (dOf s) (s 4) he th b nu sp v1 v2 v3 = some (r, b', jN t, nu', sp', pa') ∧ X12_act n s ho h1 b ow ip v1 v2 v3 = some (r, b', jN t, ow', ip') := by
  unfold X11_act X12_act X2_clearTrace
  rw [isSh_eq, isIn_eq]
  rcases sh_or v1 with e | ⟨k, hk, rfl, e⟩
  · rw [e, if_pos (show jN 0 = 0 from rfl), if_pos (show jN 0 = 0 from rfl)]; exact ⟨_, _, 0, _, _, _, _, _, by omega, rfl, rfl⟩
  rw [e, if_neg (show ¬ jN 1 = 0 by decide), if_neg (show ¬ jN 1 = 0 by decide)]
  rcases in1_or v2 0 3 (by decide) (by decide) with e1 | ⟨w, hw1, hw2, rfl⟩
  · rw [show X12_in1 v2 (0 : Int32) (3 : Int32) = jN 0 from e1, if_pos (show jN 0 = 0 from rfl), if_pos (show jN 0 = 0 from rfl)]; exact ⟨_, _, 0, _, _, _, _, _, by omega, rfl, rfl⟩
  rw [show X12_in1 (jN w) (0 : Int32) (3 : Int32) = jN 1 from in1_T hw1 hw2 (by decide), if_neg (show ¬ jN 1 = 0 by decide), if_neg (show ¬ jN 1 = 0 by decide), ib_T hk (by omega), jN_nat (show k < 2147483648 by omega)]
  rcases held_or h hH hk with ⟨d, hd, a1, a2, a3, a4, a5⟩ | ⟨a1, a, ha, a2, a3, a4, a5⟩ | ⟨a1, a4, a5⟩
  · have hd6 : d < 6 := by have := h.n.1; omega
    obtain ⟨kd, hkd, ek⟩ := h.kind hd6
    rw [a4, a5, a2, a3]
    simp only [Option.bind_some, if_true, show ((1 : Int32) = 0) = False from eq_false (by decide), if_false]
    rw [ib_T hd6 (by omega), jN_nat (show d < 2147483648 by omega), c_kindOf h hd6, show X12_get s (jN d) (0 : Int32) = some (s (iD d 0)) from m_get (j := 0) hd6 (by omega), ek, jN_nat (show kd < 2147483648 by omega), dOf_at hd6 (by omega)]
    simp only [Option.bind_some, if_true]
    rw [decide_eq_true (show kd < 6 by omega)]
    simp only [if_true]
    have fin : ∀ X Y : Option (Int32 × (Nat → Int32) × Int32 × Int32), AR X Y → ∃ r b' t nu' sp' pa' ow' ip', t ≤ 30 ∧ (X.bind fun j16 => if j16.2.2.2 = 0 then some (j16.1, j16.2.1, j16.2.2.1, jN d, s (iD d 3), j16.2.2.2) else some (-15, j16.2.1, j16.2.2.1, jN d, s (iD d 3), j16.2.2.2)) = some (r, b', jN t, nu', sp', pa') ∧ (Y.bind fun j14 => if j14.2.2.2 = 0 then some (j14.1, j14.2.1, j14.2.2.1, jN d, j14.2.2.2) else some (-15, j14.2.1, j14.2.2.1, jN d, j14.2.2.2)) = some (r, b', jN t, ow', ip') := by
      rintro X Y ⟨v, v', b', t, p, ht, rfl, rfl, hp⟩
      rcases hp with ⟨rfl, rfl⟩ | rfl
      · exact ⟨v, b', t, _, _, _, _, _, ht, rfl, rfl⟩
      · exact ⟨-15, b', t, _, _, _, _, _, ht, rfl, rfl⟩
    (have : w = 0 ∨ w = 1 ∨ w = 2 ∨ w = 3 := by omega)
    rcases this with rfl | rfl | rfl | rfl
    · exact fin _ _ (h_points hkd hd6 ek b v3)
    · exact fin _ _ (h_slants hkd hd6 ek b v3)
    · exact fin _ _ (h_shares hkd hd6 ek b v3)
    · exact fin _ _ (h_tells hkd hd6 ek b v3)
  · rw [a4, a5]
    simp only [Option.bind_some, if_true]
    have e0 : ¬ jN (10 + a) = 0 := fun q => by have := (jN_inj (b := 0) (by omega) (by omega)).mp q; omega
    rw [if_neg e0]
    exact ⟨_, _, 0, _, _, _, _, _, by omega, rfl, rfl⟩
  · rw [a4, a5]
    exact ⟨_, _, 0, _, _, _, _, _, by omega, rfl, rfl⟩
end HOP2
