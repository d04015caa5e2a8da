section HOPS
variable {n : Nat} {s : Nat → Int32}
theorem isSh_eq : @X11_isSheet = @X12_isSheet := rfl
theorem sh_or (v : Int32) : X12_isSheet v = jN 0 ∨ ∃ k, k < 4 ∧ v = jN k ∧ X12_isSheet v = jN 1 := by
  rcases in1_or v 0 3 (by decide) (by decide) with e | ⟨k, -, hk, rfl⟩
  · exact Or.inl e
  · exact Or.inr ⟨k, by omega, rfl, in1_T (Nat.zero_le _) hk (by decide)⟩
theorem srt_or (v : Int32) : X12_in1 v (-1) (4 : Int32) = 0 ∨ v = -1 ∨ ∃ a, a ≤ 4 ∧ v = jN a := by
  rcases jN_cases v with hv | ⟨a, ha, rfl⟩
  · by_cases h1 : v < -1
    · left; unfold X12_in1; rw [if_pos h1]
    · right; left
      have h2 := Int32.not_lt.mp h1
      have h3 := Int32.le_iff_toInt_le.mp h2
      have h4 := Int32.lt_iff_toInt_lt.mp hv
      have e1 : (-1 : Int32).toInt = -1 := rfl
      have e2 : (0 : Int32).toInt = 0 := rfl
      rw [e1] at h3; rw [e2] at h4
      exact Int32.toInt_inj.mp (by rw [e1]; omega)
  · by_cases h4 : a ≤ 4
    · exact Or.inr (Or.inr ⟨a, h4, rfl⟩)
    · left; unfold X12_in1
      have h0 : ¬ jN a < -1 := fun q => by
        have h3 := Int32.lt_iff_toInt_lt.mp q
        have e1 : (-1 : Int32).toInt = -1 := rfl
        have e2 : (jN a).toInt = a := Int32.toInt_ofNat_of_lt ha
        rw [e1, e2] at h3; omega
      rw [if_neg h0, if_pos (show (4 : Int32) < jN a by simp (disch := omega) only [jl_0, jl_1, jl_2, jl_3, jl_4, jl_5, jl_6, jl_7, jl_8, jl_9, jl_10, jl_11, jl_12, jl_13, jl_14, jl_15, jl_16, jl_17, jl_18, jl_20, jl_23, jl_29, jl_30, jl_31, jl_32, jl_35, jl_40, jl_48, jl_50, jl_51, jl_57, jl_60, jl_61, jl_63, jl_64, jl_65, jl_89, jl_97, jl_99, jl_100, jl_101, jl_113, jl_122, jl_200, jl_240, jl_241, jl_255, jl_259, jl_260, jl_261, jl_262, jl_313, jl_500, jl_999, jl_10000, jl_10004, jl_10005, jl_10006, jl_10007, jl_10008, jl_10009, jl_10010, jl_10011, jl_10012, jl_10013, jl_10014, jl_10015, jl_10017, jl_10018, jl_10023, jl_12345, jl_1103515245, jN_add, jN_mul, jN_sub, jN_addm, jN_div, jN_irm, jN_nat, le_T, le_F, lt_T, lt_F, eq_F, ib_T, ib_F, add_j0, if_true, if_false, eq_self, Bool.false_eq_true, Option.bind_some, pb, jn, Nat.zero_add, Nat.add_zero])]
theorem rng_or {c : Nat} (hc : c < 1000000) (v : Int32) : X12_in1 v (0 : Int32) (jN c - 1) = 0 ∨ ∃ i, i < c ∧ v = jN i ∧ X12_in1 v (0 : Int32) (jN c - 1) = 1 := by
  rcases jN_cases v with hv | ⟨k, hk, rfl⟩
  · exact Or.inl (in1_or_neg hv)
  · by_cases hkc : k < c
    · right; refine ⟨k, hkc, rfl, ?_⟩
      rw [show jN c - 1 = jN (c - 1) from by simp (disch := omega) only [jl_0, jl_1, jl_2, jl_3, jl_4, jl_5, jl_6, jl_7, jl_8, jl_9, jl_10, jl_11, jl_12, jl_13, jl_14, jl_15, jl_16, jl_17, jl_18, jl_20, jl_23, jl_29, jl_30, jl_31, jl_32, jl_35, jl_40, jl_48, jl_50, jl_51, jl_57, jl_60, jl_61, jl_63, jl_64, jl_65, jl_89, jl_97, jl_99, jl_100, jl_101, jl_113, jl_122, jl_200, jl_240, jl_241, jl_255, jl_259, jl_260, jl_261, jl_262, jl_313, jl_500, jl_999, jl_10000, jl_10004, jl_10005, jl_10006, jl_10007, jl_10008, jl_10009, jl_10010, jl_10011, jl_10012, jl_10013, jl_10014, jl_10015, jl_10017, jl_10018, jl_10023, jl_12345, jl_1103515245, jN_add, jN_mul, jN_sub, jN_addm, jN_div, jN_irm, jN_nat, le_T, le_F, lt_T, lt_F, eq_F, ib_T, ib_F, add_j0, if_true, if_false, eq_self, Bool.false_eq_true, Option.bind_some, pb, jn, Nat.zero_add, Nat.add_zero]]; exact in1_T (lo := 0) (by omega) (by omega) (by omega)
    · left
      by_cases h0 : c = 0
      · subst h0
        have e : (jN 0 - 1 : Int32) < 0 := by decide
        unfold X12_in1
        rw [if_neg (show ¬ jN k < 0 by simp (disch := omega) only [jl_0, jl_1, jl_2, jl_3, jl_4, jl_5, jl_6, jl_7, jl_8, jl_9, jl_10, jl_11, jl_12, jl_13, jl_14, jl_15, jl_16, jl_17, jl_18, jl_20, jl_23, jl_29, jl_30, jl_31, jl_32, jl_35, jl_40, jl_48, jl_50, jl_51, jl_57, jl_60, jl_61, jl_63, jl_64, jl_65, jl_89, jl_97, jl_99, jl_100, jl_101, jl_113, jl_122, jl_200, jl_240, jl_241, jl_255, jl_259, jl_260, jl_261, jl_262, jl_313, jl_500, jl_999, jl_10000, jl_10004, jl_10005, jl_10006, jl_10007, jl_10008, jl_10009, jl_10010, jl_10011, jl_10012, jl_10013, jl_10014, jl_10015, jl_10017, jl_10018, jl_10023, jl_12345, jl_1103515245, jN_add, jN_mul, jN_sub, jN_addm, jN_div, jN_irm, jN_nat, le_T, le_F, lt_T, lt_F, eq_F, ib_T, ib_F, add_j0, if_true, if_false, eq_self, Bool.false_eq_true, Option.bind_some, pb, jn, Nat.zero_add, Nat.add_zero]; exact not_false), if_pos (by rw [neg_lt e k hk]; trivial)]
      · rw [show jN c - 1 = jN (c - 1) from by simp (disch := omega) only [jl_0, jl_1, jl_2, jl_3, jl_4, jl_5, jl_6, jl_7, jl_8, jl_9, jl_10, jl_11, jl_12, jl_13, jl_14, jl_15, jl_16, jl_17, jl_18, jl_20, jl_23, jl_29, jl_30, jl_31, jl_32, jl_35, jl_40, jl_48, jl_50, jl_51, jl_57, jl_60, jl_61, jl_63, jl_64, jl_65, jl_89, jl_97, jl_99, jl_100, jl_101, jl_113, jl_122, jl_200, jl_240, jl_241, jl_255, jl_259, jl_260, jl_261, jl_262, jl_313, jl_500, jl_999, jl_10000, jl_10004, jl_10005, jl_10006, jl_10007, jl_10008, jl_10009, jl_10010, jl_10011, jl_10012, jl_10013, jl_10014, jl_10015, jl_10017, jl_10018, jl_10023, jl_12345, jl_1103515245, jN_add, jN_mul, jN_sub, jN_addm, jN_div, jN_irm, jN_nat, le_T, le_F, lt_T, lt_F, eq_F, ib_T, ib_F, add_j0, if_true, if_false, eq_self, Bool.false_eq_true, Option.bind_some, pb, jn, Nat.zero_add, Nat.add_zero]]; exact in1_F (lo := 0) (by omega) (by omega) (by decide)
def iOf (q : Nat → Int32) : Nat → Nat → Int32 := fun k i => if k < 4 ∧ i < 40 then q (40 * k + i) else 0
theorem iOf_at {q : Nat → Int32} {k j : Nat} (hk : k < 4) (hj : j < 40) : iOf q k j = q (40 * k + j) := if_pos ⟨hk, hj⟩
theorem iOf_up {q : Nat → Int32} {k j : Nat} {v : Int32} (hk : k < 4) (hj : j < 40) : va_up (iOf q) k (upd (iOf q k) j v) = iOf (upd q (40 * k + j) v) := by
  funext a b
  by_cases ha : a = k
  · subst ha; rw [vup_s]
    by_cases hb : b = j
    · subst hb; rw [upd_s, iOf_at hk hj, upd_s]
    · rw [upd_n hb]; unfold iOf; split
      · rw [upd_n (by omega)]
      · rfl
  · rw [vup_n ha]; unfold iOf; split
    · rw [upd_n (by omega)]
    · rfl
/-- sheets: their sorts, their sizes -/
def HS (so si : Nat → Int32) : Prop := ∀ i, i < 4 → (so i = -1 ∨ ∃ a, a ≤ 4 ∧ so i = jN a) ∧ NB 40 (si i)
/-- shelves, of both sides -/
def HH (he th hz ho h1 : Nat → Int32) : Prop := ∀ i, i < 4 → (he i = jN 0 ∧ ho i = jN 0 ∧ th i = h1 i ∧ ∃ k, k < 6 ∧ th i = jN k) ∨ (he i = jN 1 ∧ ∃ a, a ≤ 4 ∧ ho i = jN (10 + a) ∧ th i = jN a ∧ hz i = h1 i) ∨ (he i = jN 2 ∧ ho i = -1)
theorem HS.up {so si : Nat → Int32} {k : Nat} {x y : Int32} (h : HS so si) (hx : x = -1 ∨ ∃ a, a ≤ 4 ∧ x = jN a) (hy : NB 40 y) : HS (upd so k x) (upd si k y) := by
  intro i hi
  by_cases hik : i = k
  · subst hik; rw [upd_s, upd_s]; exact ⟨hx, hy⟩
  · rw [upd_n hik, upd_n hik]; exact h i hi
def nuS (q : Nat → Int32) (k : Nat) : Nat → (Nat → Int32)
  | 0 => q
  | j + 1 => upd (nuS q k j) (40 * k + j) 0
theorem m_nul (hn : 70 ≤ n) (q : Nat → Int32) {k : Nat} (hk : k < 4) : X12_sheet_L1 n (jN k) n (jN 0) q = some (jN 40, nuS q k 40) := by
  refine lp_0 (fun m j => X12_sheet_L1 n (jN k) m (jN j) (nuS q k j)) 40 (by omega) (fun m j hj => ?_) (fun m => ?_)
  · show X12_sheet_L1 n (jN k) (m + 1) (jN j) (nuS q k j) = X12_sheet_L1 n (jN k) m (jN (j + 1)) (upd (nuS q k j) (40 * k + j) 0)
    rw [X12_sheet_L1]; simp (disch := omega) only [jl_0, jl_1, jl_2, jl_3, jl_4, jl_5, jl_6, jl_7, jl_8, jl_9, jl_10, jl_11, jl_12, jl_13, jl_14, jl_15, jl_16, jl_17, jl_18, jl_20, jl_23, jl_29, jl_30, jl_31, jl_32, jl_35, jl_40, jl_48, jl_50, jl_51, jl_57, jl_60, jl_61, jl_63, jl_64, jl_65, jl_89, jl_97, jl_99, jl_100, jl_101, jl_113, jl_122, jl_200, jl_240, jl_241, jl_255, jl_259, jl_260, jl_261, jl_262, jl_313, jl_500, jl_999, jl_10000, jl_10004, jl_10005, jl_10006, jl_10007, jl_10008, jl_10009, jl_10010, jl_10011, jl_10012, jl_10013, jl_10014, jl_10015, jl_10017, jl_10018, jl_10023, jl_12345, jl_1103515245, jN_add, jN_mul, jN_sub, jN_addm, jN_div, jN_irm, jN_nat, le_T, le_F, lt_T, lt_F, eq_F, ib_T, ib_F, add_j0, if_true, if_false, eq_self, Bool.false_eq_true, Option.bind_some, pb, jn, Nat.zero_add, Nat.add_zero]
  · show X12_sheet_L1 n (jN k) (m + 1) (jN 40) _ = _
    rw [X12_sheet_L1]; simp (disch := omega) only [jl_0, jl_1, jl_2, jl_3, jl_4, jl_5, jl_6, jl_7, jl_8, jl_9, jl_10, jl_11, jl_12, jl_13, jl_14, jl_15, jl_16, jl_17, jl_18, jl_20, jl_23, jl_29, jl_30, jl_31, jl_32, jl_35, jl_40, jl_48, jl_50, jl_51, jl_57, jl_60, jl_61, jl_63, jl_64, jl_65, jl_89, jl_97, jl_99, jl_100, jl_101, jl_113, jl_122, jl_200, jl_240, jl_241, jl_255, jl_259, jl_260, jl_261, jl_262, jl_313, jl_500, jl_999, jl_10000, jl_10004, jl_10005, jl_10006, jl_10007, jl_10008, jl_10009, jl_10010, jl_10011, jl_10012, jl_10013, jl_10014, jl_10015, jl_10017, jl_10018, jl_10023, jl_12345, jl_1103515245, jN_add, jN_mul, jN_sub, jN_addm, jN_div, jN_irm, jN_nat, le_T, le_F, lt_T, lt_F, eq_F, ib_T, ib_F, add_j0, if_true, if_false, eq_self, Bool.false_eq_true, Option.bind_some, pb, jn, Nat.zero_add, Nat.add_zero, Nat.le_refl]
theorem c_nul (hn : 70 ≤ n) (q : Nat → Int32) {k : Nat} (hk : k < 4) : J7_fill_53178_it n (iOf q) k (0 : Int32) = some (iOf (nuS q k 40)) := by
  have L : J7_fill_53178_it_L1 n k (jN 0) (jN 40) n (jN 0) (iOf q) = some (jN 40, iOf (nuS q k 40)) := by
    refine lp_0 (fun m j => J7_fill_53178_it_L1 n k (jN 0) (jN 40) m (jN j) (iOf (nuS q k j))) 40 (by omega) (fun m j hj => ?_) (fun m => ?_)
    · show J7_fill_53178_it_L1 n k (jN 0) (jN 40) (m + 1) (jN j) (iOf (nuS q k j)) = J7_fill_53178_it_L1 n k (jN 0) (jN 40) m (jN (j + 1)) (iOf (upd (nuS q k j) (40 * k + j) (jN 0)))
      rw [J7_fill_53178_it_L1]; simp (disch := omega) only [jl_0, jl_1, jl_2, jl_3, jl_4, jl_5, jl_6, jl_7, jl_8, jl_9, jl_10, jl_11, jl_12, jl_13, jl_14, jl_15, jl_16, jl_17, jl_18, jl_20, jl_23, jl_29, jl_30, jl_31, jl_32, jl_35, jl_40, jl_48, jl_50, jl_51, jl_57, jl_60, jl_61, jl_63, jl_64, jl_65, jl_89, jl_97, jl_99, jl_100, jl_101, jl_113, jl_122, jl_200, jl_240, jl_241, jl_255, jl_259, jl_260, jl_261, jl_262, jl_313, jl_500, jl_999, jl_10000, jl_10004, jl_10005, jl_10006, jl_10007, jl_10008, jl_10009, jl_10010, jl_10011, jl_10012, jl_10013, jl_10014, jl_10015, jl_10017, jl_10018, jl_10023, jl_12345, jl_1103515245, jN_add, jN_mul, jN_sub, jN_addm, jN_div, jN_irm, jN_nat, le_T, le_F, lt_T, lt_F, eq_F, ib_T, ib_F, add_j0, if_true, if_false, eq_self, Bool.false_eq_true, Option.bind_some, pb, jn, Nat.zero_add, Nat.add_zero, iOf_up]
    · show J7_fill_53178_it_L1 n k (jN 0) (jN 40) (m + 1) (jN 40) _ = _
      rw [J7_fill_53178_it_L1]; simp (disch := omega) only [jl_0, jl_1, jl_2, jl_3, jl_4, jl_5, jl_6, jl_7, jl_8, jl_9, jl_10, jl_11, jl_12, jl_13, jl_14, jl_15, jl_16, jl_17, jl_18, jl_20, jl_23, jl_29, jl_30, jl_31, jl_32, jl_35, jl_40, jl_48, jl_50, jl_51, jl_57, jl_60, jl_61, jl_63, jl_64, jl_65, jl_89, jl_97, jl_99, jl_100, jl_101, jl_113, jl_122, jl_200, jl_240, jl_241, jl_255, jl_259, jl_260, jl_261, jl_262, jl_313, jl_500, jl_999, jl_10000, jl_10004, jl_10005, jl_10006, jl_10007, jl_10008, jl_10009, jl_10010, jl_10011, jl_10012, jl_10013, jl_10014, jl_10015, jl_10017, jl_10018, jl_10023, jl_12345, jl_1103515245, jN_add, jN_mul, jN_sub, jN_addm, jN_div, jN_irm, jN_nat, le_T, le_F, lt_T, lt_F, eq_F, ib_T, ib_F, add_j0, if_true, if_false, eq_self, Bool.false_eq_true, Option.bind_some, pb, jn, Nat.zero_add, Nat.add_zero, Nat.le_refl]
  unfold J7_fill_53178_it
  rw [show (0 : Int32) = jN 0 from rfl, show (40 : Int32) = jN 40 from rfl, L]; rfl
theorem o_sheet (hn : 70 ≤ n) {so si q : Nat → Int32} (h : HS so si) (v1 v2 v3 : Int32) : ∃ r so' si' q', X11_sheet n so si (iOf q) v1 v2 v3 = some (r, so', si', iOf q') ∧ X12_sheet n so si q v1 v2 v3 = some (r, so', si', q') ∧ HS so' si' := by
  unfold X11_sheet X12_sheet
  rw [isSh_eq, isIn_eq]
  rcases sh_or v1 with e | ⟨k, hk, rfl, e⟩
  · rw [e, if_pos (show jN 0 = 0 from rfl), if_pos (show jN 0 = 0 from rfl)]; exact ⟨_, _, _, _, rfl, rfl, h⟩
  rw [e, if_neg (show ¬ jN 1 = 0 by decide), if_neg (show ¬ jN 1 = 0 by decide)]
  have mk : ∀ x y, X2_makeSheet n so si (iOf q) (jN k) x y = some (1, upd so k x, upd si k y, iOf (nuS q k 40)) := by
    intro x y
    unfold X2_makeSheet
    rw [ib_T hk (by omega), jN_nat (by omega), c_nul hn q hk]; rfl
  simp only [jn, pb]
  rw [ib_T hk (by omega), jN_nat (show k < 2147483648 by omega), show X12_sheet_L1 n (jN k) n (0 : Int32) q = _ from m_nul hn q hk]
  simp only [if_true, Option.bind_some]
  rcases srt_or v2 with z | rfl | ⟨a, ha, rfl⟩
  · rw [z, if_pos rfl, if_pos rfl]; exact ⟨_, _, _, _, rfl, rfl, h⟩
  · rw [show X12_in1 (-1 : Int32) (-1) (4 : Int32) = 1 from by decide, if_neg (show ¬ (1 : Int32) = 0 by decide), if_neg (show ¬ (1 : Int32) = 0 by decide), if_pos rfl, mk, if_pos (show (-1 : Int32) < 0 by decide), if_pos (show (-1 : Int32) < 0 by decide), if_neg (show ¬ (0 : Int32) ≤ -1 by decide)]
    exact ⟨_, _, _, _, rfl, rfl, h.up (Or.inl rfl) ⟨0, by omega, rfl⟩⟩
  · have e1 : X12_in1 (jN a) (-1) (4 : Int32) = 1 := by
      (have : a = 0 ∨ a = 1 ∨ a = 2 ∨ a = 3 ∨ a = 4 := by omega)
      rcases this with rfl | rfl | rfl | rfl | rfl <;> decide
    have h0 : ¬ jN a < 0 := by simp (disch := omega) only [jl_0, jl_1, jl_2, jl_3, jl_4, jl_5, jl_6, jl_7, jl_8, jl_9, jl_10, jl_11, jl_12, jl_13, jl_14, jl_15, jl_16, jl_17, jl_18, jl_20, jl_23, jl_29, jl_30, jl_31, jl_32, jl_35, jl_40, jl_48, jl_50, jl_51, jl_57, jl_60, jl_61, jl_63, jl_64, jl_65, jl_89, jl_97, jl_99, jl_100, jl_101, jl_113, jl_122, jl_200, jl_240, jl_241, jl_255, jl_259, jl_260, jl_261, jl_262, jl_313, jl_500, jl_999, jl_10000, jl_10004, jl_10005, jl_10006, jl_10007, jl_10008, jl_10009, jl_10010, jl_10011, jl_10012, jl_10013, jl_10014, jl_10015, jl_10017, jl_10018, jl_10023, jl_12345, jl_1103515245, jN_add, jN_mul, jN_sub, jN_addm, jN_div, jN_irm, jN_nat, le_T, le_F, lt_T, lt_F, eq_F, ib_T, ib_F, add_j0, if_true, if_false, eq_self, Bool.false_eq_true, Option.bind_some, pb, jn, Nat.zero_add, Nat.add_zero]; exact not_false
    have hm : ¬ jN a = -1 := fun z => by rw [z] at h0; exact h0 (by decide)
    rw [e1, if_neg (show ¬ (1 : Int32) = 0 by decide), if_neg (show ¬ (1 : Int32) = 0 by decide), if_neg hm, if_neg h0, if_neg h0, if_pos (show (0 : Int32) ≤ jN a by simp (disch := omega) only [jl_0, jl_1, jl_2, jl_3, jl_4, jl_5, jl_6, jl_7, jl_8, jl_9, jl_10, jl_11, jl_12, jl_13, jl_14, jl_15, jl_16, jl_17, jl_18, jl_20, jl_23, jl_29, jl_30, jl_31, jl_32, jl_35, jl_40, jl_48, jl_50, jl_51, jl_57, jl_60, jl_61, jl_63, jl_64, jl_65, jl_89, jl_97, jl_99, jl_100, jl_101, jl_113, jl_122, jl_200, jl_240, jl_241, jl_255, jl_259, jl_260, jl_261, jl_262, jl_313, jl_500, jl_999, jl_10000, jl_10004, jl_10005, jl_10006, jl_10007, jl_10008, jl_10009, jl_10010, jl_10011, jl_10012, jl_10013, jl_10014, jl_10015, jl_10017, jl_10018, jl_10023, jl_12345, jl_1103515245, jN_add, jN_mul, jN_sub, jN_addm, jN_div, jN_irm, jN_nat, le_T, le_F, lt_T, lt_F, eq_F, ib_T, ib_F, add_j0, if_true, if_false, eq_self, Bool.false_eq_true, Option.bind_some, pb, jn, Nat.zero_add, Nat.add_zero])]
    by_cases q1 : v3 ≤ 40
    · rw [if_pos q1, if_pos q1]
      by_cases q2 : 0 ≤ v3
      · rw [if_pos q2, if_pos q2, mk]
        have hb : NB 40 v3 := by
          obtain ⟨x, hx, rfl⟩ := jN_of q2
          refine ⟨x, ?_, rfl⟩
          exact (jN_le hx (by omega)).mp q1
        exact ⟨_, _, _, _, rfl, rfl, h.up (Or.inr ⟨a, ha, rfl⟩) hb⟩
      · rw [if_neg q2, if_neg q2]; exact ⟨_, _, _, _, rfl, rfl, h⟩
    · rw [if_neg q1, if_neg q1]; exact ⟨_, _, _, _, rfl, rfl, h⟩
theorem has_item {si : Nat → Int32} {k L : Nat} (hk : k < 4) (hL : L ≤ 40) (e : si k = jN L) (v : Int32) : (X2_hasItem si (jN k) v = some 0 ∧ X12_in1 v (0 : Int32) (jN L - 1) = 0) ∨ ∃ i, i < L ∧ v = jN i ∧ X2_hasItem si (jN k) v = some 1 ∧ X12_in1 v (0 : Int32) (jN L - 1) = 1 := by
  unfold X2_hasItem
  rw [ib_T hk (by omega), jN_nat (by omega), e]
  simp only [if_true]
  rcases rng_or (c := L) (by omega) v with z | ⟨i, hi, rfl, z⟩
  · left
    refine ⟨?_, z⟩
    rcases jN_cases v with hv | ⟨j, hj, rfl⟩
    · rw [if_pos hv]
    · rw [if_neg (show ¬ jN j < 0 by simp (disch := omega) only [jl_0, jl_1, jl_2, jl_3, jl_4, jl_5, jl_6, jl_7, jl_8, jl_9, jl_10, jl_11, jl_12, jl_13, jl_14, jl_15, jl_16, jl_17, jl_18, jl_20, jl_23, jl_29, jl_30, jl_31, jl_32, jl_35, jl_40, jl_48, jl_50, jl_51, jl_57, jl_60, jl_61, jl_63, jl_64, jl_65, jl_89, jl_97, jl_99, jl_100, jl_101, jl_113, jl_122, jl_200, jl_240, jl_241, jl_255, jl_259, jl_260, jl_261, jl_262, jl_313, jl_500, jl_999, jl_10000, jl_10004, jl_10005, jl_10006, jl_10007, jl_10008, jl_10009, jl_10010, jl_10011, jl_10012, jl_10013, jl_10014, jl_10015, jl_10017, jl_10018, jl_10023, jl_12345, jl_1103515245, jN_add, jN_mul, jN_sub, jN_addm, jN_div, jN_irm, jN_nat, le_T, le_F, lt_T, lt_F, eq_F, ib_T, ib_F, add_j0, if_true, if_false, eq_self, Bool.false_eq_true, Option.bind_some, pb, jn, Nat.zero_add, Nat.add_zero]; exact not_false)]
      by_cases hq : L ≤ j
      · rw [if_pos (show jN L ≤ jN j by simp (disch := omega) only [jl_0, jl_1, jl_2, jl_3, jl_4, jl_5, jl_6, jl_7, jl_8, jl_9, jl_10, jl_11, jl_12, jl_13, jl_14, jl_15, jl_16, jl_17, jl_18, jl_20, jl_23, jl_29, jl_30, jl_31, jl_32, jl_35, jl_40, jl_48, jl_50, jl_51, jl_57, jl_60, jl_61, jl_63, jl_64, jl_65, jl_89, jl_97, jl_99, jl_100, jl_101, jl_113, jl_122, jl_200, jl_240, jl_241, jl_255, jl_259, jl_260, jl_261, jl_262, jl_313, jl_500, jl_999, jl_10000, jl_10004, jl_10005, jl_10006, jl_10007, jl_10008, jl_10009, jl_10010, jl_10011, jl_10012, jl_10013, jl_10014, jl_10015, jl_10017, jl_10018, jl_10023, jl_12345, jl_1103515245, jN_add, jN_mul, jN_sub, jN_addm, jN_div, jN_irm, jN_nat, le_T, le_F, lt_T, lt_F, eq_F, ib_T, ib_F, add_j0, if_true, if_false, eq_self, Bool.false_eq_true, Option.bind_some, pb, jn, Nat.zero_add, Nat.add_zero])]
      · exfalso
        rw [show jN L - 1 = jN (L - 1) from by simp (disch := omega) only [jl_0, jl_1, jl_2, jl_3, jl_4, jl_5, jl_6, jl_7, jl_8, jl_9, jl_10, jl_11, jl_12, jl_13, jl_14, jl_15, jl_16, jl_17, jl_18, jl_20, jl_23, jl_29, jl_30, jl_31, jl_32, jl_35, jl_40, jl_48, jl_50, jl_51, jl_57, jl_60, jl_61, jl_63, jl_64, jl_65, jl_89, jl_97, jl_99, jl_100, jl_101, jl_113, jl_122, jl_200, jl_240, jl_241, jl_255, jl_259, jl_260, jl_261, jl_262, jl_313, jl_500, jl_999, jl_10000, jl_10004, jl_10005, jl_10006, jl_10007, jl_10008, jl_10009, jl_10010, jl_10011, jl_10012, jl_10013, jl_10014, jl_10015, jl_10017, jl_10018, jl_10023, jl_12345, jl_1103515245, jN_add, jN_mul, jN_sub, jN_addm, jN_div, jN_irm, jN_nat, le_T, le_F, lt_T, lt_F, eq_F, ib_T, ib_F, add_j0, if_true, if_false, eq_self, Bool.false_eq_true, Option.bind_some, pb, jn, Nat.zero_add, Nat.add_zero], show X12_in1 (jN j) (0 : Int32) (jN (L - 1)) = jN 1 from in1_T (lo := 0) (by omega) (by omega) (by omega)] at z
        exact absurd z (by decide)
  · right
    refine ⟨i, hi, rfl, ?_, z⟩
    rw [if_neg (show ¬ jN i < 0 by simp (disch := omega) only [jl_0, jl_1, jl_2, jl_3, jl_4, jl_5, jl_6, jl_7, jl_8, jl_9, jl_10, jl_11, jl_12, jl_13, jl_14, jl_15, jl_16, jl_17, jl_18, jl_20, jl_23, jl_29, jl_30, jl_31, jl_32, jl_35, jl_40, jl_48, jl_50, jl_51, jl_57, jl_60, jl_61, jl_63, jl_64, jl_65, jl_89, jl_97, jl_99, jl_100, jl_101, jl_113, jl_122, jl_200, jl_240, jl_241, jl_255, jl_259, jl_260, jl_261, jl_262, jl_313, jl_500, jl_999, jl_10000, jl_10004, jl_10005, jl_10006, jl_10007, jl_10008, jl_10009, jl_10010, jl_10011, jl_10012, jl_10013, jl_10014, jl_10015, jl_10017, jl_10018, jl_10023, jl_12345, jl_1103515245, jN_add, jN_mul, jN_sub, jN_addm, jN_div, jN_irm, jN_nat, le_T, le_F, lt_T, lt_F, eq_F, ib_T, ib_F, add_j0, if_true, if_false, eq_self, Bool.false_eq_true, Option.bind_some, pb, jn, Nat.zero_add, Nat.add_zero]; exact not_false), if_neg (show ¬ jN L ≤ jN i by simp (disch := omega) only [jl_0, jl_1, jl_2, jl_3, jl_4, jl_5, jl_6, jl_7, jl_8, jl_9, jl_10, jl_11, jl_12, jl_13, jl_14, jl_15, jl_16, jl_17, jl_18, jl_20, jl_23, jl_29, jl_30, jl_31, jl_32, jl_35, jl_40, jl_48, jl_50, jl_51, jl_57, jl_60, jl_61, jl_63, jl_64, jl_65, jl_89, jl_97, jl_99, jl_100, jl_101, jl_113, jl_122, jl_200, jl_240, jl_241, jl_255, jl_259, jl_260, jl_261, jl_262, jl_313, jl_500, jl_999, jl_10000, jl_10004, jl_10005, jl_10006, jl_10007, jl_10008, jl_10009, jl_10010, jl_10011, jl_10012, jl_10013, jl_10014, jl_10015, jl_10017, jl_10018, jl_10023, jl_12345, jl_1103515245, jN_add, jN_mul, jN_sub, jN_addm, jN_div, jN_irm, jN_nat, le_T, le_F, lt_T, lt_F, eq_F, ib_T, ib_F, add_j0, if_true, if_false, eq_self, Bool.false_eq_true, Option.bind_some, pb, jn, Nat.zero_add, Nat.add_zero]; exact not_false)]
theorem nar_eq (v w : Int32) : X11_narrowed v w = X12_narrowed v w := by
  unfold X11_narrowed X12_narrowed
  by_cases h0 : w = 0
  · rw [if_pos h0, if_pos h0]
  · rw [if_neg h0, if_neg h0]
    by_cases h1 : w = 1
    · rw [if_pos h1, if_pos h1]
    · rw [if_neg h1, if_neg h1]
      by_cases h2 : w = 2
      · rw [if_pos h2, h2, if_neg (by decide)]
      · rw [if_neg h2]
        by_cases h3 : w = 3
        · rw [if_pos h3, h3, if_neg (by decide)]
        · rw [if_neg h3]
/-- a sort that is missing, or not -/
theorem so_or {so si : Nat → Int32} (h : HS so si) {k : Nat} (hk : k < 4) : (so k = -1 ∧ ¬ 0 ≤ so k) ∨ (¬ so k = -1 ∧ 0 ≤ so k ∧ ∃ a, a ≤ 4 ∧ so k = jN a) := by
  rcases (h k hk).1 with e | ⟨a, ha, e⟩
  · exact Or.inl ⟨e, by rw [e]; decide⟩
  · right
    have h0 : (0 : Int32) ≤ jN a := by simp (disch := omega) only [jl_0, jl_1, jl_2, jl_3, jl_4, jl_5, jl_6, jl_7, jl_8, jl_9, jl_10, jl_11, jl_12, jl_13, jl_14, jl_15, jl_16, jl_17, jl_18, jl_20, jl_23, jl_29, jl_30, jl_31, jl_32, jl_35, jl_40, jl_48, jl_50, jl_51, jl_57, jl_60, jl_61, jl_63, jl_64, jl_65, jl_89, jl_97, jl_99, jl_100, jl_101, jl_113, jl_122, jl_200, jl_240, jl_241, jl_255, jl_259, jl_260, jl_261, jl_262, jl_313, jl_500, jl_999, jl_10000, jl_10004, jl_10005, jl_10006, jl_10007, jl_10008, jl_10009, jl_10010, jl_10011, jl_10012, jl_10013, jl_10014, jl_10015, jl_10017, jl_10018, jl_10023, jl_12345, jl_1103515245, jN_add, jN_mul, jN_sub, jN_addm, jN_div, jN_irm, jN_nat, le_T, le_F, lt_T, lt_F, eq_F, ib_T, ib_F, add_j0, if_true, if_false, eq_self, Bool.false_eq_true, Option.bind_some, pb, jn, Nat.zero_add, Nat.add_zero]
    rw [e]
    exact ⟨fun z => by rw [z] at h0; exact absurd h0 (by decide), h0, a, ha, rfl⟩
theorem o_write {so si q : Nat → Int32} (h : HS so si) (v1 v2 v3 : Int32) : ∃ r q', X11_write so si (iOf q) v1 v2 v3 = some (r, iOf q') ∧ X12_write so si q v1 v2 v3 = some (r, q') := by
  unfold X11_write X12_write
  rw [isSh_eq]
  rcases sh_or v1 with e | ⟨k, hk, rfl, e⟩
  · rw [e, if_pos (show jN 0 = 0 from rfl), if_pos (show jN 0 = 0 from rfl)]; exact ⟨_, _, rfl, rfl⟩
  obtain ⟨L, hL, eL⟩ := (h k hk).2
  rw [e, if_neg (show ¬ jN 1 = 0 by decide), if_neg (show ¬ jN 1 = 0 by decide), ib_T hk (by omega), jN_nat (show k < 2147483648 by omega), eL]
  simp only [if_true]
  rcases so_or h hk with ⟨z1, z2⟩ | ⟨z1, z2, a, ha, za⟩
  · rw [if_pos z1, if_neg z2]; exact ⟨_, _, rfl, rfl⟩
  · rw [if_neg z1, if_pos z2]
    rcases has_item hk hL eL v2 with ⟨y1, y2⟩ | ⟨i, hi, rfl, y1, y2⟩
    · rw [y1, y2]; exact ⟨_, _, rfl, rfl⟩
    · refine ⟨1, upd q (40 * k + i) (X12_narrowed v3 (so k)), ?_, ?_⟩
      · rw [y1]; simp only [Option.bind_some]
        rw [if_neg (show ¬ (1 : Int32) = 0 by decide), ib_T (show i < 40 by omega) (by omega), jN_nat (show i < 2147483648 by omega), nar_eq, iOf_up hk (by omega)]; rfl
      · rw [y2, if_neg (show ¬ (1 : Int32) = 0 by decide), show (40 : Int32) * jN k + jN i = jN (40 * k + i) from by simp (disch := omega) only [jl_0, jl_1, jl_2, jl_3, jl_4, jl_5, jl_6, jl_7, jl_8, jl_9, jl_10, jl_11, jl_12, jl_13, jl_14, jl_15, jl_16, jl_17, jl_18, jl_20, jl_23, jl_29, jl_30, jl_31, jl_32, jl_35, jl_40, jl_48, jl_50, jl_51, jl_57, jl_60, jl_61, jl_63, jl_64, jl_65, jl_89, jl_97, jl_99, jl_100, jl_101, jl_113, jl_122, jl_200, jl_240, jl_241, jl_255, jl_259, jl_260, jl_261, jl_262, jl_313, jl_500, jl_999, jl_10000, jl_10004, jl_10005, jl_10006, jl_10007, jl_10008, jl_10009, jl_10010, jl_10011, jl_10012, jl_10013, jl_10014, jl_10015, jl_10017, jl_10018, jl_10023, jl_12345, jl_1103515245, jN_add, jN_mul, jN_sub, jN_addm, jN_div, jN_irm, jN_nat, le_T, le_F, lt_T, lt_F, eq_F, ib_T, ib_F, add_j0, if_true, if_false, eq_self, Bool.false_eq_true, Option.bind_some, pb, jn, Nat.zero_add, Nat.add_zero], ib_T (by omega) (by omega), jN_nat (by omega)]; rfl
theorem lack_eq {so si : Nat → Int32} (h : HS so si) {k : Nat} (hk : k < 4) (w : Int32) : X2_refusalAs so (jN k) w = X12_lacks so (jN k) w ∧ ∃ r, X12_lacks so (jN k) w = some r := by
  unfold X2_refusalAs X12_lacks
  rw [ib_T hk (by omega), jN_nat (show k < 2147483648 by omega)]
  simp only [if_true]
  rcases so_or h hk with ⟨z1, z2⟩ | ⟨z1, z2, -⟩
  · rw [if_pos z1, if_neg z2]; exact ⟨rfl, _, rfl⟩
  · rw [if_neg z1, if_pos z2]
    refine ⟨rfl, ?_⟩
    split <;> exact ⟨_, rfl⟩
theorem o_item {so si q : Nat → Int32} (h : HS so si) (v1 v2 v3 : Int32) : ∃ r, X11_item so si (iOf q) v1 v2 v3 = some r ∧ X12_item so si q v1 v2 v3 = some r := by
  unfold X11_item X12_item
  rw [isSh_eq, isIn_eq]
  rcases sh_or v1 with e | ⟨k, hk, rfl, e⟩
  · rw [e, if_pos (show jN 0 = 0 from rfl), if_pos (show jN 0 = 0 from rfl)]; exact ⟨_, rfl, rfl⟩
  obtain ⟨L, hL, eL⟩ := (h k hk).2
  obtain ⟨f1, r, f2⟩ := lack_eq h hk v2
  rw [e, if_neg (show ¬ jN 1 = 0 by decide), if_neg (show ¬ jN 1 = 0 by decide), ib_T hk (by omega), jN_nat (show k < 2147483648 by omega), eL, f1, f2]
  simp only [if_true, Option.bind_some]
  by_cases hz : X12_in1 v2 0 4 = 0
  · rw [if_pos hz, if_pos hz]; exact ⟨_, rfl, rfl⟩
  · rw [if_neg hz, if_neg hz]
    by_cases hr : r = 0
    · rw [if_pos hr, if_pos hr]
      rcases has_item hk hL eL v3 with ⟨y1, y2⟩ | ⟨i, hi, rfl, y1, y2⟩
      · rw [y1, y2]; exact ⟨_, rfl, rfl⟩
      · refine ⟨q (40 * k + i), ?_, ?_⟩
        · rw [y1]; simp only [Option.bind_some]
          rw [if_neg (show ¬ (1 : Int32) = 0 by decide), ib_T (show i < 40 by omega) (by omega), jN_nat (show i < 2147483648 by omega), iOf_at hk (by omega)]; rfl
        · rw [y2, if_neg (show ¬ (1 : Int32) = 0 by decide), show (40 : Int32) * jN k + jN i = jN (40 * k + i) from by simp (disch := omega) only [jl_0, jl_1, jl_2, jl_3, jl_4, jl_5, jl_6, jl_7, jl_8, jl_9, jl_10, jl_11, jl_12, jl_13, jl_14, jl_15, jl_16, jl_17, jl_18, jl_20, jl_23, jl_29, jl_30, jl_31, jl_32, jl_35, jl_40, jl_48, jl_50, jl_51, jl_57, jl_60, jl_61, jl_63, jl_64, jl_65, jl_89, jl_97, jl_99, jl_100, jl_101, jl_113, jl_122, jl_200, jl_240, jl_241, jl_255, jl_259, jl_260, jl_261, jl_262, jl_313, jl_500, jl_999, jl_10000, jl_10004, jl_10005, jl_10006, jl_10007, jl_10008, jl_10009, jl_10010, jl_10011, jl_10012, jl_10013, jl_10014, jl_10015, jl_10017, jl_10018, jl_10023, jl_12345, jl_1103515245, jN_add, jN_mul, jN_sub, jN_addm, jN_div, jN_irm, jN_nat, le_T, le_F, lt_T, lt_F, eq_F, ib_T, ib_F, add_j0, if_true, if_false, eq_self, Bool.false_eq_true, Option.bind_some, pb, jn, Nat.zero_add, Nat.add_zero], ib_T (by omega) (by omega), jN_nat (by omega)]; rfl
    · rw [if_neg hr, if_neg hr]; exact ⟨_, rfl, rfl⟩
theorem o_trace {b : Nat → Int32} {t : Nat} (ht : t ≤ 30) (v1 : Int32) : ∃ r, X11_trace b (jN t) v1 = some r ∧ X12_trace b (jN t) v1 = some r := by
  unfold X11_trace X12_trace
  rw [isIn_eq]
  rcases rng_or (c := t) (by omega) v1 with z | ⟨i, hi, rfl, z⟩
  · rw [z, if_pos rfl]; exact ⟨_, rfl, rfl⟩
  · rw [z, if_neg (show ¬ (1 : Int32) = 0 by decide), ib_T (show i < 30 by omega) (by omega)]; exact ⟨_, rfl, rfl⟩
theorem ones_64 (n m : Nat) : ∀ v, v < 64 → X12_ones_L1 n (m + 10) (0 : Int32) (jN v) = some (J6_bitCount_0f7a4 (jN v), 0)
  | 0, _ => rfl
  | 1, _ => rfl
  | 2, _ => rfl
  | 3, _ => rfl
  | 4, _ => rfl
  | 5, _ => rfl
  | 6, _ => rfl
  | 7, _ => rfl
  | 8, _ => rfl
  | 9, _ => rfl
  | 10, _ => rfl
  | 11, _ => rfl
  | 12, _ => rfl
  | 13, _ => rfl
  | 14, _ => rfl
  | 15, _ => rfl
  | 16, _ => rfl
  | 17, _ => rfl
  | 18, _ => rfl
  | 19, _ => rfl
  | 20, _ => rfl
  | 21, _ => rfl
  | 22, _ => rfl
  | 23, _ => rfl
  | 24, _ => rfl
  | 25, _ => rfl
  | 26, _ => rfl
  | 27, _ => rfl
  | 28, _ => rfl
  | 29, _ => rfl
  | 30, _ => rfl
  | 31, _ => rfl
  | 32, _ => rfl
  | 33, _ => rfl
  | 34, _ => rfl
  | 35, _ => rfl
  | 36, _ => rfl
  | 37, _ => rfl
  | 38, _ => rfl
  | 39, _ => rfl
  | 40, _ => rfl
  | 41, _ => rfl
  | 42, _ => rfl
  | 43, _ => rfl
  | 44, _ => rfl
  | 45, _ => rfl
  | 46, _ => rfl
  | 47, _ => rfl
  | 48, _ => rfl
  | 49, _ => rfl
  | 50, _ => rfl
  | 51, _ => rfl
  | 52, _ => rfl
  | 53, _ => rfl
  | 54, _ => rfl
  | 55, _ => rfl
  | 56, _ => rfl
  | 57, _ => rfl
  | 58, _ => rfl
  | 59, _ => rfl
  | 60, _ => rfl
  | 61, _ => rfl
  | 62, _ => rfl
  | 63, _ => rfl
  | q + 64, h => absurd h (by omega)
theorem rsS_b (h : GS s) : ∀ k, k ≤ 6 → ∃ v, v < 64 ∧ rsS s k = jN v := by
  intro k
  induction k with
  | zero => intro _; exact ⟨0, by omega, rfl⟩
  | succ k ih =>
    intro hk
    obtain ⟨v, hv, e⟩ := ih (by omega)
    unfold rsS
    split
    · exact ⟨v, hv, e⟩
    · rw [e, bt_sh k (by omega), bt_or v hv _ (p2_64 (by omega))]; exact ⟨_, or_64 hv (p2_64 (by omega)), rfl⟩
theorem o_many (h : GS s) (hn : 70 ≤ n) {ρ nr : Nat} (hr : ρ < nr) {gc : Nat → Int32} (hg : gc ρ = s 5) (rc tl tr v1 : Int32) : ∃ r, X11_many n (dOf s) (s 4) (s 6) ρ rc tl tr gc nr v1 = some r ∧ X12_many n s tl rc tr v1 = some r := by
  have e : X11_many n (dOf s) (s 4) (s 6) ρ rc tl tr gc nr v1 = X12_many n s tl rc tr v1 := by
    unfold X11_many X12_many
    rw [c_rightSet h (by omega), m_those h (by omega), decide_eq_true hr, hg]
    simp only [Option.bind_some, if_true]
    obtain ⟨v, hv, e⟩ := rsS_b h (nS s) h.n.1
    have e2 : X12_ones n (rsN s) = some (J6_bitCount_0f7a4 (rsN s)) := by
      unfold X12_ones rsN
      rw [e]
      obtain ⟨m, rfl⟩ : ∃ m, n = m + 10 := ⟨n - 10, by omega⟩
      rw [ones_64 (m + 10) m v hv]; rfl
    rw [e2]; rfl
  rw [e]
  unfold X12_many
  obtain ⟨v, hv, e3⟩ := rsS_b h (nS s) h.n.1
  have e2 : X12_ones n (rsN s) = some (J6_bitCount_0f7a4 (rsN s)) := by
    unfold X12_ones rsN
    rw [e3]
    obtain ⟨m, rfl⟩ : ∃ m, n = m + 10 := ⟨n - 10, by omega⟩
    rw [ones_64 (m + 10) m v hv]; rfl
  rw [m_those h (by omega)]
  simp only [Option.bind_some]
  rw [e2]
  simp only [Option.bind_some]
  (repeat' split) <;> exact ⟨_, rfl, rfl⟩
theorem iu_36 (n m : Nat) : ∀ a b, a < 6 → b < 6 → X11_isUnder (jN a) (jN b) = X12_isUnder (m + 4) (jN a) (jN b)
  | 0, 0, _, _ => rfl
  | 0, 1, _, _ => rfl
  | 0, 2, _, _ => rfl
  | 0, 3, _, _ => rfl
  | 0, 4, _, _ => rfl
  | 0, 5, _, _ => rfl
  | 1, 0, _, _ => rfl
  | 1, 1, _, _ => rfl
  | 1, 2, _, _ => rfl
  | 1, 3, _, _ => rfl
  | 1, 4, _, _ => rfl
  | 1, 5, _, _ => rfl
  | 2, 0, _, _ => rfl
  | 2, 1, _, _ => rfl
  | 2, 2, _, _ => rfl
  | 2, 3, _, _ => rfl
  | 2, 4, _, _ => rfl
  | 2, 5, _, _ => rfl
  | 3, 0, _, _ => rfl
  | 3, 1, _, _ => rfl
  | 3, 2, _, _ => rfl
  | 3, 3, _, _ => rfl
  | 3, 4, _, _ => rfl
  | 3, 5, _, _ => rfl
  | 4, 0, _, _ => rfl
  | 4, 1, _, _ => rfl
  | 4, 2, _, _ => rfl
  | 4, 3, _, _ => rfl
  | 4, 4, _, _ => rfl
  | 4, 5, _, _ => rfl
  | 5, 0, _, _ => rfl
  | 5, 1, _, _ => rfl
  | 5, 2, _, _ => rfl
  | 5, 3, _, _ => rfl
  | 5, 4, _, _ => rfl
  | 5, 5, _, _ => rfl
  | q + 6, _, h, _ => absurd h (by omega)
  | _, q + 6, _, h => absurd h (by omega)
theorem iu_v : ∀ a b, a < 6 → b < 6 → ∃ r, X11_isUnder (jN a) (jN b) = some r
  | 0, 0, _, _ => ⟨_, rfl⟩
  | 0, 1, _, _ => ⟨_, rfl⟩
  | 0, 2, _, _ => ⟨_, rfl⟩
  | 0, 3, _, _ => ⟨_, rfl⟩
  | 0, 4, _, _ => ⟨_, rfl⟩
  | 0, 5, _, _ => ⟨_, rfl⟩
  | 1, 0, _, _ => ⟨_, rfl⟩
  | 1, 1, _, _ => ⟨_, rfl⟩
  | 1, 2, _, _ => ⟨_, rfl⟩
  | 1, 3, _, _ => ⟨_, rfl⟩
  | 1, 4, _, _ => ⟨_, rfl⟩
  | 1, 5, _, _ => ⟨_, rfl⟩
  | 2, 0, _, _ => ⟨_, rfl⟩
  | 2, 1, _, _ => ⟨_, rfl⟩
  | 2, 2, _, _ => ⟨_, rfl⟩
  | 2, 3, _, _ => ⟨_, rfl⟩
  | 2, 4, _, _ => ⟨_, rfl⟩
  | 2, 5, _, _ => ⟨_, rfl⟩
  | 3, 0, _, _ => ⟨_, rfl⟩
  | 3, 1, _, _ => ⟨_, rfl⟩
  | 3, 2, _, _ => ⟨_, rfl⟩
  | 3, 3, _, _ => ⟨_, rfl⟩
  | 3, 4, _, _ => ⟨_, rfl⟩
  | 3, 5, _, _ => ⟨_, rfl⟩
  | 4, 0, _, _ => ⟨_, rfl⟩
  | 4, 1, _, _ => ⟨_, rfl⟩
  | 4, 2, _, _ => ⟨_, rfl⟩
  | 4, 3, _, _ => ⟨_, rfl⟩
  | 4, 4, _, _ => ⟨_, rfl⟩
  | 4, 5, _, _ => ⟨_, rfl⟩
  | 5, 0, _, _ => ⟨_, rfl⟩
  | 5, 1, _, _ => ⟨_, rfl⟩
  | 5, 2, _, _ => ⟨_, rfl⟩
  | 5, 3, _, _ => ⟨_, rfl⟩
  | 5, 4, _, _ => ⟨_, rfl⟩
  | 5, 5, _, _ => ⟨_, rfl⟩
  | q + 6, _, h, _ => absurd h (by omega)
  | _, q + 6, _, h => absurd h (by omega)
end HOPS
