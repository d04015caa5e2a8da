section LIAR
variable {n : Nat} {s : Nat → Int32}
theorem bc_64 : ∀ v, v < 64 → decide (J6_bitCount_0f7a4 (jN v) = 1) = ((List.range 6).any fun r => v == 2 ^ r) := by decide +kernel
def bc1 (v : Nat) : Bool := (List.range 6).any fun r => v == 2 ^ r
theorem bc1_iff (v : Nat) : bc1 v = true ↔ ∃ r, r < 6 ∧ v = 2 ^ r := by
  unfold bc1
  rw [List.any_eq_true]
  constructor
  · rintro ⟨r, hr, e⟩; exact ⟨r, List.mem_range.mp hr, by simpa using e⟩
  · rintro ⟨r, hr, e⟩; exact ⟨r, List.mem_range.mpr hr, by simpa using e⟩
def alS (s : Nat → Int32) : Nat → Nat
  | 0 => 0
  | i + 1 => if bc1 (miB s i) = true then alS s i ||| miB s i else alS s i
theorem alS_b (h : GS s) : ∀ i, alS s i < 64 ∧ ∀ r, (alS s i).testBit r = true ↔ ∃ j, j < i ∧ miB s j = 2 ^ r := by
  intro i
  induction i with
  | zero => exact ⟨by show 0 < 64; omega, fun r => ⟨fun q => by simp [alS] at q, fun ⟨j, hj, _⟩ => absurd hj (by omega)⟩⟩
  | succ i ih =>
    obtain ⟨h1, h2⟩ := ih
    have hm := (miB_b h i).1
    unfold alS
    by_cases hb : bc1 (miB s i) = true
    · rw [if_pos hb]
      refine ⟨or_64 h1 hm, fun r => ?_⟩
      rw [Nat.testBit_or, Bool.or_eq_true, h2]
      obtain ⟨r0, hr0, e0⟩ := (bc1_iff _).mp hb
      constructor
      · rintro (⟨j, hj, e⟩ | q)
        · exact ⟨j, by omega, e⟩
        · refine ⟨i, by omega, ?_⟩
          rw [e0, Nat.testBit_two_pow] at q
          have : r0 = r := of_decide_eq_true q
          rw [e0, this]
      · rintro ⟨j, hj, e⟩
        by_cases hji : j = i
        · subst hji; right; rw [e, Nat.testBit_two_pow]; simp
        · left; exact ⟨j, by omega, e⟩
    · rw [if_neg hb]
      refine ⟨h1, fun r => ?_⟩
      rw [h2]
      constructor
      · rintro ⟨j, hj, e⟩; exact ⟨j, by omega, e⟩
      · rintro ⟨j, hj, e⟩
        by_cases hji : j = i
        · subst hji
          exfalso; apply hb; rw [bc1_iff]
          have hr6 : r < 6 := by
            rcases Nat.lt_or_ge r 6 with q | q
            · exact q
            · exfalso
              have : 2 ^ 6 ≤ 2 ^ r := Nat.pow_le_pow_right (by omega) q
              rw [e] at hm; omega
          exact ⟨r, hr6, e⟩
        · exact ⟨j, by omega, e⟩
/-- no stranger ahead of i fits all -/
theorem fc_pos (s : Nat → Int32) (but : Int32) : ∀ i, fcS s but i ≠ 0 ↔ ∃ j, j < i ∧ ftB s but j = true := by
  intro i
  induction i with
  | zero => exact ⟨fun q => absurd rfl q, fun ⟨j, hj, _⟩ => absurd hj (by omega)⟩
  | succ i ih =>
    unfold fcS
    by_cases hf : ftB s but i = true
    · rw [if_pos hf]; exact ⟨fun _ => ⟨i, by omega, hf⟩, fun _ => by omega⟩
    · rw [if_neg hf, ih]
      constructor
      · rintro ⟨j, hj, e⟩; exact ⟨j, by omega, e⟩
      · rintro ⟨j, hj, e⟩
        by_cases hji : j = i
        · subst hji; exact absurd e hf
        · exact ⟨j, by omega, e⟩
/-- the least report but for which some would fit, of d from r on -/
def liF (s : Nat → Int32) : Nat → Nat → Int32
  | 0, _ => -3
  | d + 1, r => if (alS s 500).testBit r = true then jN r else liF s d (r + 1)
theorem o_liar (h : GS s) (hn : 600 ≤ n) (l d : Nat → Int32) : ∃ r l' d' ff', X11_liar n (kOf s) (rOf s) (s 6) = some r ∧ X12_liar n s l d = some (r, l', d', ff') := by
  obtain ⟨hr6, h6⟩ := h.rc
  obtain ⟨l', d', em⟩ := m_fitting h hn l d (-1)
  unfold X11_liar X12_liar
  rw [em]
  simp only [Option.bind_some, jn]
  have hb := fcS_b s (-1) 500
  by_cases hz : fcS s (-1) 500 = 0
  · have hno : ∀ j, j < 500 → miB s j ≠ 0 := by
      intro j hj q
      have : fcS s (-1) 500 ≠ 0 := (fc_pos s (-1) 500).mpr ⟨j, hj, by rw [ft_all h j]; exact decide_eq_true q⟩
      exact this hz
    have C1 : ∀ (K : (Int32 × Int32) → Option Int32), X11_liar_L1 n (kOf s) (rOf s) (s 6) K n (0 : Int32) (jN 0) = K (jN (alS s 500), jN 500) := by
      intro K
      refine lp_0 (fun q i => X11_liar_L1 n (kOf s) (rOf s) (s 6) K q (jN (alS s i)) (jN i)) 500 (by omega) (fun q i hi => ?_) (fun q => ?_)
      · have hm := (miB_b h i).1
        obtain ⟨ha, -⟩ := alS_b h i
        show X11_liar_L1 n (kOf s) (rOf s) (s 6) K (q + 1) (jN (alS s i)) (jN i) = X11_liar_L1 n (kOf s) (rOf s) (s 6) K q (jN (if bc1 (miB s i) = true then alS s i ||| miB s i else alS s i)) (jN (i + 1))
        rw [X11_liar_L1, if_neg (show ¬ (500 : Int32) ≤ jN i by simp (disch := omega) only [jl_0, jl_1, jl_2, jl_3, jl_4, jl_5, jl_6, jl_7, jl_8, jl_9, jl_10, jl_11, jl_12, jl_13, jl_14, jl_15, jl_16, jl_17, jl_18, jl_20, jl_23, jl_29, jl_30, jl_31, jl_32, jl_35, jl_40, jl_48, jl_50, jl_51, jl_57, jl_60, jl_61, jl_63, jl_64, jl_65, jl_89, jl_97, jl_99, jl_100, jl_101, jl_113, jl_122, jl_200, jl_240, jl_241, jl_255, jl_259, jl_260, jl_261, jl_262, jl_313, jl_500, jl_999, jl_10000, jl_10004, jl_10005, jl_10006, jl_10007, jl_10008, jl_10009, jl_10010, jl_10011, jl_10012, jl_10013, jl_10014, jl_10015, jl_10017, jl_10018, jl_10023, jl_12345, jl_1103515245, jN_add, jN_mul, jN_sub, jN_addm, jN_div, jN_irm, jN_nat, le_T, le_F, lt_T, lt_F, eq_F, ib_T, ib_F, add_j0, if_true, if_false, eq_self, Bool.false_eq_true, Option.bind_some, pb, jn, Nat.zero_add, Nat.add_zero]; exact not_false), c_missed h (by omega) hi, show jN i + 1 = jN (i + 1) from by simp (disch := omega) only [jl_0, jl_1, jl_2, jl_3, jl_4, jl_5, jl_6, jl_7, jl_8, jl_9, jl_10, jl_11, jl_12, jl_13, jl_14, jl_15, jl_16, jl_17, jl_18, jl_20, jl_23, jl_29, jl_30, jl_31, jl_32, jl_35, jl_40, jl_48, jl_50, jl_51, jl_57, jl_60, jl_61, jl_63, jl_64, jl_65, jl_89, jl_97, jl_99, jl_100, jl_101, jl_113, jl_122, jl_200, jl_240, jl_241, jl_255, jl_259, jl_260, jl_261, jl_262, jl_313, jl_500, jl_999, jl_10000, jl_10004, jl_10005, jl_10006, jl_10007, jl_10008, jl_10009, jl_10010, jl_10011, jl_10012, jl_10013, jl_10014, jl_10015, jl_10017, jl_10018, jl_10023, jl_12345, jl_1103515245, jN_add, jN_mul, jN_sub, jN_addm, jN_div, jN_irm, jN_nat, le_T, le_F, lt_T, lt_F, eq_F, ib_T, ib_F, add_j0, if_true, if_false, eq_self, Bool.false_eq_true, Option.bind_some, pb, jn, Nat.zero_add, Nat.add_zero]]
        simp only [Option.bind_some, pb]
        rw [if_neg (show ¬ jN (miB s i) = 0 from fun z => hno i hi ((jN_inj (b := 0) (by omega) (by omega)).mp z)), bt_or _ ha _ hm]
        have e := bc_64 (miB s i) hm
        by_cases hq : bc1 (miB s i) = true
        · rw [if_pos hq, if_pos (of_decide_eq_true (e.trans hq))]
        · have hq2 : bc1 (miB s i) = false := by simpa using hq
          rw [if_neg hq, if_neg (of_decide_eq_false (e.trans hq2))]
      · show X11_liar_L1 n (kOf s) (rOf s) (s 6) K (q + 1) _ (jN 500) = _
        rw [X11_liar_L1, if_pos (show (500 : Int32) ≤ jN 500 by simp (disch := omega) only [jl_0, jl_1, jl_2, jl_3, jl_4, jl_5, jl_6, jl_7, jl_8, jl_9, jl_10, jl_11, jl_12, jl_13, jl_14, jl_15, jl_16, jl_17, jl_18, jl_20, jl_23, jl_29, jl_30, jl_31, jl_32, jl_35, jl_40, jl_48, jl_50, jl_51, jl_57, jl_60, jl_61, jl_63, jl_64, jl_65, jl_89, jl_97, jl_99, jl_100, jl_101, jl_113, jl_122, jl_200, jl_240, jl_241, jl_255, jl_259, jl_260, jl_261, jl_262, jl_313, jl_500, jl_999, jl_10000, jl_10004, jl_10005, jl_10006, jl_10007, jl_10008, jl_10009, jl_10010, jl_10011, jl_10012, jl_10013, jl_10014, jl_10015, jl_10017, jl_10018, jl_10023, jl_12345, jl_1103515245, jN_add, jN_mul, jN_sub, jN_addm, jN_div, jN_irm, jN_nat, le_T, le_F, lt_T, lt_F, eq_F, ib_T, ib_F, add_j0, if_true, if_false, eq_self, Bool.false_eq_true, Option.bind_some, pb, jn, Nat.zero_add, Nat.add_zero, Nat.le_refl])]
    obtain ⟨ha64, hab⟩ := alS_b h 500
    have C2 : ∀ e q r, r + e = rcN s → e < q → X11_liar_L2 n (s 6) (jN (alS s 500)) (fun o5 => some (-3)) q (jN r) = some (liF s e r) := by
      intro e
      induction e with
      | zero =>
        intro q r hr hq; obtain ⟨q, rfl⟩ : ∃ z, q = z + 1 := ⟨q - 1, by omega⟩
        rw [X11_liar_L2, if_pos (by rw [h6, show r = rcN s by omega]; simp (disch := omega) only [jl_0, jl_1, jl_2, jl_3, jl_4, jl_5, jl_6, jl_7, jl_8, jl_9, jl_10, jl_11, jl_12, jl_13, jl_14, jl_15, jl_16, jl_17, jl_18, jl_20, jl_23, jl_29, jl_30, jl_31, jl_32, jl_35, jl_40, jl_48, jl_50, jl_51, jl_57, jl_60, jl_61, jl_63, jl_64, jl_65, jl_89, jl_97, jl_99, jl_100, jl_101, jl_113, jl_122, jl_200, jl_240, jl_241, jl_255, jl_259, jl_260, jl_261, jl_262, jl_313, jl_500, jl_999, jl_10000, jl_10004, jl_10005, jl_10006, jl_10007, jl_10008, jl_10009, jl_10010, jl_10011, jl_10012, jl_10013, jl_10014, jl_10015, jl_10017, jl_10018, jl_10023, jl_12345, jl_1103515245, jN_add, jN_mul, jN_sub, jN_addm, jN_div, jN_irm, jN_nat, le_T, le_F, lt_T, lt_F, eq_F, ib_T, ib_F, add_j0, if_true, if_false, eq_self, Bool.false_eq_true, Option.bind_some, pb, jn, Nat.zero_add, Nat.add_zero, Nat.le_refl])]; rfl
      | succ e ih =>
        intro q r hr hq; obtain ⟨q, rfl⟩ : ∃ z, q = z + 1 := ⟨q - 1, by omega⟩
        rw [X11_liar_L2, if_neg (by rw [h6]; simp (disch := omega) only [jl_0, jl_1, jl_2, jl_3, jl_4, jl_5, jl_6, jl_7, jl_8, jl_9, jl_10, jl_11, jl_12, jl_13, jl_14, jl_15, jl_16, jl_17, jl_18, jl_20, jl_23, jl_29, jl_30, jl_31, jl_32, jl_35, jl_40, jl_48, jl_50, jl_51, jl_57, jl_60, jl_61, jl_63, jl_64, jl_65, jl_89, jl_97, jl_99, jl_100, jl_101, jl_113, jl_122, jl_200, jl_240, jl_241, jl_255, jl_259, jl_260, jl_261, jl_262, jl_313, jl_500, jl_999, jl_10000, jl_10004, jl_10005, jl_10006, jl_10007, jl_10008, jl_10009, jl_10010, jl_10011, jl_10012, jl_10013, jl_10014, jl_10015, jl_10017, jl_10018, jl_10023, jl_12345, jl_1103515245, jN_add, jN_mul, jN_sub, jN_addm, jN_div, jN_irm, jN_nat, le_T, le_F, lt_T, lt_F, eq_F, ib_T, ib_F, add_j0, if_true, if_false, eq_self, Bool.false_eq_true, Option.bind_some, pb, jn, Nat.zero_add, Nat.add_zero]; exact not_false), bt_1 _ ha64 r (by omega)]
        unfold liF
        by_cases hq2 : (alS s 500).testBit r = true
        · rw [if_pos hq2, if_pos hq2, if_neg (show ¬ jN 1 = 0 by decide)]
        · rw [if_neg hq2, if_neg hq2, if_pos (show jN 0 = 0 from rfl), show jN r + 1 = jN (r + 1) from by simp (disch := omega) only [jl_0, jl_1, jl_2, jl_3, jl_4, jl_5, jl_6, jl_7, jl_8, jl_9, jl_10, jl_11, jl_12, jl_13, jl_14, jl_15, jl_16, jl_17, jl_18, jl_20, jl_23, jl_29, jl_30, jl_31, jl_32, jl_35, jl_40, jl_48, jl_50, jl_51, jl_57, jl_60, jl_61, jl_63, jl_64, jl_65, jl_89, jl_97, jl_99, jl_100, jl_101, jl_113, jl_122, jl_200, jl_240, jl_241, jl_255, jl_259, jl_260, jl_261, jl_262, jl_313, jl_500, jl_999, jl_10000, jl_10004, jl_10005, jl_10006, jl_10007, jl_10008, jl_10009, jl_10010, jl_10011, jl_10012, jl_10013, jl_10014, jl_10015, jl_10017, jl_10018, jl_10023, jl_12345, jl_1103515245, jN_add, jN_mul, jN_sub, jN_addm, jN_div, jN_irm, jN_nat, le_T, le_F, lt_T, lt_F, eq_F, ib_T, ib_F, add_j0, if_true, if_false, eq_self, Bool.false_eq_true, Option.bind_some, pb, jn, Nat.zero_add, Nat.add_zero]]
          exact ih q (r + 1) (by omega) (by omega)
    have M2 : ∀ e q r l d ff, r + e = rcN s → e < q → ∃ l' d' ff', X12_liar_L1 n s (fun o5 => some ((-3 : Int32), o5.2.1, o5.2.2.1, o5.2.2.2)) q (jN r) l d ff = some (liF s e r, l', d', ff') := by
      intro e
      induction e with
      | zero =>
        intro q r l d ff hr hq; obtain ⟨q, rfl⟩ : ∃ z, q = z + 1 := ⟨q - 1, by omega⟩
        refine ⟨l, d, ff, ?_⟩
        rw [X12_liar_L1, if_pos (by rw [h6, show r = rcN s by omega]; simp (disch := omega) only [jl_0, jl_1, jl_2, jl_3, jl_4, jl_5, jl_6, jl_7, jl_8, jl_9, jl_10, jl_11, jl_12, jl_13, jl_14, jl_15, jl_16, jl_17, jl_18, jl_20, jl_23, jl_29, jl_30, jl_31, jl_32, jl_35, jl_40, jl_48, jl_50, jl_51, jl_57, jl_60, jl_61, jl_63, jl_64, jl_65, jl_89, jl_97, jl_99, jl_100, jl_101, jl_113, jl_122, jl_200, jl_240, jl_241, jl_255, jl_259, jl_260, jl_261, jl_262, jl_313, jl_500, jl_999, jl_10000, jl_10004, jl_10005, jl_10006, jl_10007, jl_10008, jl_10009, jl_10010, jl_10011, jl_10012, jl_10013, jl_10014, jl_10015, jl_10017, jl_10018, jl_10023, jl_12345, jl_1103515245, jN_add, jN_mul, jN_sub, jN_addm, jN_div, jN_irm, jN_nat, le_T, le_F, lt_T, lt_F, eq_F, ib_T, ib_F, add_j0, if_true, if_false, eq_self, Bool.false_eq_true, Option.bind_some, pb, jn, Nat.zero_add, Nat.add_zero, Nat.le_refl])]; rfl
      | succ e ih =>
        intro q r l d ff hr hq; obtain ⟨q, rfl⟩ : ∃ z, q = z + 1 := ⟨q - 1, by omega⟩
        obtain ⟨l1, d1, e1⟩ := m_fitting h hn l d (jN r)
        have hb2 := fcS_b s (jN r) 500
        have hk : (alS s 500).testBit r = true ↔ fcS s (jN r) 500 ≠ 0 := by
          rw [hab r, fc_pos]
          constructor
          · rintro ⟨j, hj, q⟩; exact ⟨j, hj, by rw [ft_one h j r (by omega), decide_eq_true q, Bool.or_true]⟩
          · rintro ⟨j, hj, q⟩
            rw [ft_one h j r (by omega), Bool.or_eq_true, decide_eq_true_iff, decide_eq_true_iff] at q
            rcases q with q | q
            · exact absurd q (hno j hj)
            · exact ⟨j, hj, q⟩
        rw [X12_liar_L1, if_neg (by rw [h6]; simp (disch := omega) only [jl_0, jl_1, jl_2, jl_3, jl_4, jl_5, jl_6, jl_7, jl_8, jl_9, jl_10, jl_11, jl_12, jl_13, jl_14, jl_15, jl_16, jl_17, jl_18, jl_20, jl_23, jl_29, jl_30, jl_31, jl_32, jl_35, jl_40, jl_48, jl_50, jl_51, jl_57, jl_60, jl_61, jl_63, jl_64, jl_65, jl_89, jl_97, jl_99, jl_100, jl_101, jl_113, jl_122, jl_200, jl_240, jl_241, jl_255, jl_259, jl_260, jl_261, jl_262, jl_313, jl_500, jl_999, jl_10000, jl_10004, jl_10005, jl_10006, jl_10007, jl_10008, jl_10009, jl_10010, jl_10011, jl_10012, jl_10013, jl_10014, jl_10015, jl_10017, jl_10018, jl_10023, jl_12345, jl_1103515245, jN_add, jN_mul, jN_sub, jN_addm, jN_div, jN_irm, jN_nat, le_T, le_F, lt_T, lt_F, eq_F, ib_T, ib_F, add_j0, if_true, if_false, eq_self, Bool.false_eq_true, Option.bind_some, pb, jn, Nat.zero_add, Nat.add_zero]; exact not_false), e1]
        simp only [Option.bind_some]
        unfold liF
        by_cases hq2 : (alS s 500).testBit r = true
        · refine ⟨l1, d1, ffS s (jN r) 500, ?_⟩
          have := hk.mp hq2
          rw [if_pos hq2, if_neg (show ¬ jN (fcS s (jN r) 500) ≤ 0 by simp (disch := omega) only [jl_0, jl_1, jl_2, jl_3, jl_4, jl_5, jl_6, jl_7, jl_8, jl_9, jl_10, jl_11, jl_12, jl_13, jl_14, jl_15, jl_16, jl_17, jl_18, jl_20, jl_23, jl_29, jl_30, jl_31, jl_32, jl_35, jl_40, jl_48, jl_50, jl_51, jl_57, jl_60, jl_61, jl_63, jl_64, jl_65, jl_89, jl_97, jl_99, jl_100, jl_101, jl_113, jl_122, jl_200, jl_240, jl_241, jl_255, jl_259, jl_260, jl_261, jl_262, jl_313, jl_500, jl_999, jl_10000, jl_10004, jl_10005, jl_10006, jl_10007, jl_10008, jl_10009, jl_10010, jl_10011, jl_10012, jl_10013, jl_10014, jl_10015, jl_10017, jl_10018, jl_10023, jl_12345, jl_1103515245, jN_add, jN_mul, jN_sub, jN_addm, jN_div, jN_irm, jN_nat, le_T, le_F, lt_T, lt_F, eq_F, ib_T, ib_F, add_j0, if_true, if_false, eq_self, Bool.false_eq_true, Option.bind_some, pb, jn, Nat.zero_add, Nat.add_zero]; exact not_false)]
        · obtain ⟨l2, d2, f2, e2⟩ := ih q (r + 1) l1 d1 (ffS s (jN r) 500) (by omega) (by omega)
          refine ⟨l2, d2, f2, ?_⟩
          have : fcS s (jN r) 500 = 0 := by
            rcases Nat.eq_zero_or_pos (fcS s (jN r) 500) with q | q
            · exact q
            · exact absurd (hk.mpr (by omega)) hq2
          rw [if_neg hq2, this, if_pos (show jN 0 ≤ 0 by decide), show jN r + 1 = jN (r + 1) from by simp (disch := omega) only [jl_0, jl_1, jl_2, jl_3, jl_4, jl_5, jl_6, jl_7, jl_8, jl_9, jl_10, jl_11, jl_12, jl_13, jl_14, jl_15, jl_16, jl_17, jl_18, jl_20, jl_23, jl_29, jl_30, jl_31, jl_32, jl_35, jl_40, jl_48, jl_50, jl_51, jl_57, jl_60, jl_61, jl_63, jl_64, jl_65, jl_89, jl_97, jl_99, jl_100, jl_101, jl_113, jl_122, jl_200, jl_240, jl_241, jl_255, jl_259, jl_260, jl_261, jl_262, jl_313, jl_500, jl_999, jl_10000, jl_10004, jl_10005, jl_10006, jl_10007, jl_10008, jl_10009, jl_10010, jl_10011, jl_10012, jl_10013, jl_10014, jl_10015, jl_10017, jl_10018, jl_10023, jl_12345, jl_1103515245, jN_add, jN_mul, jN_sub, jN_addm, jN_div, jN_irm, jN_nat, le_T, le_F, lt_T, lt_F, eq_F, ib_T, ib_F, add_j0, if_true, if_false, eq_self, Bool.false_eq_true, Option.bind_some, pb, jn, Nat.zero_add, Nat.add_zero]]
          exact e2
    obtain ⟨l2, d2, f2, e2⟩ := M2 (rcN s) n 0 l' d' (ffS s (-1) 500) (by omega) (by omega)
    refine ⟨liF s (rcN s) 0, l2, d2, f2, ?_, ?_⟩
    · rw [show (0 : Int32) = jN 0 from rfl, show X11_liar_L1 n (kOf s) (rOf s) (s 6) (fun o4 => X11_liar_L2 n (s 6) o4.1 (fun o5 => some (-3)) n (jN 0)) n (jN 0) (jN 0) = _ from C1 _]
      exact C2 (rcN s) n 0 (by omega) (by omega)
    · rw [hz, if_pos (show jN 0 ≤ 0 by decide)]; exact e2
  · refine ⟨-3, l', d', ffS s (-1) 500, ?_, ?_⟩
    · -- the first stranger that fits ends the search
      obtain ⟨j, hj, hf⟩ := (fc_pos s (-1) 500).mp hz
      have key : ∀ (K : (Int32 × Int32) → Option Int32) e q i v, v < 64 → i + e = 500 → e < q → (∃ j, i ≤ j ∧ j < 500 ∧ ftB s (-1) j = true) → X11_liar_L1 n (kOf s) (rOf s) (s 6) K q (jN v) (jN i) = some (-3) := by
        intro K e
        induction e with
        | zero => intro q i v hv hi hq ⟨j, h1, h2, _⟩; omega
        | succ e ih =>
          intro q i v hv hi hq ⟨j, h1, h2, h3⟩; obtain ⟨q, rfl⟩ : ∃ z, q = z + 1 := ⟨q - 1, by omega⟩
          have hm := (miB_b h i).1
          rw [X11_liar_L1, if_neg (show ¬ (500 : Int32) ≤ jN i by simp (disch := omega) only [jl_0, jl_1, jl_2, jl_3, jl_4, jl_5, jl_6, jl_7, jl_8, jl_9, jl_10, jl_11, jl_12, jl_13, jl_14, jl_15, jl_16, jl_17, jl_18, jl_20, jl_23, jl_29, jl_30, jl_31, jl_32, jl_35, jl_40, jl_48, jl_50, jl_51, jl_57, jl_60, jl_61, jl_63, jl_64, jl_65, jl_89, jl_97, jl_99, jl_100, jl_101, jl_113, jl_122, jl_200, jl_240, jl_241, jl_255, jl_259, jl_260, jl_261, jl_262, jl_313, jl_500, jl_999, jl_10000, jl_10004, jl_10005, jl_10006, jl_10007, jl_10008, jl_10009, jl_10010, jl_10011, jl_10012, jl_10013, jl_10014, jl_10015, jl_10017, jl_10018, jl_10023, jl_12345, jl_1103515245, jN_add, jN_mul, jN_sub, jN_addm, jN_div, jN_irm, jN_nat, le_T, le_F, lt_T, lt_F, eq_F, ib_T, ib_F, add_j0, if_true, if_false, eq_self, Bool.false_eq_true, Option.bind_some, pb, jn, Nat.zero_add, Nat.add_zero]; exact not_false), c_missed h (by omega) (by omega), show jN i + 1 = jN (i + 1) from by simp (disch := omega) only [jl_0, jl_1, jl_2, jl_3, jl_4, jl_5, jl_6, jl_7, jl_8, jl_9, jl_10, jl_11, jl_12, jl_13, jl_14, jl_15, jl_16, jl_17, jl_18, jl_20, jl_23, jl_29, jl_30, jl_31, jl_32, jl_35, jl_40, jl_48, jl_50, jl_51, jl_57, jl_60, jl_61, jl_63, jl_64, jl_65, jl_89, jl_97, jl_99, jl_100, jl_101, jl_113, jl_122, jl_200, jl_240, jl_241, jl_255, jl_259, jl_260, jl_261, jl_262, jl_313, jl_500, jl_999, jl_10000, jl_10004, jl_10005, jl_10006, jl_10007, jl_10008, jl_10009, jl_10010, jl_10011, jl_10012, jl_10013, jl_10014, jl_10015, jl_10017, jl_10018, jl_10023, jl_12345, jl_1103515245, jN_add, jN_mul, jN_sub, jN_addm, jN_div, jN_irm, jN_nat, le_T, le_F, lt_T, lt_F, eq_F, ib_T, ib_F, add_j0, if_true, if_false, eq_self, Bool.false_eq_true, Option.bind_some, pb, jn, Nat.zero_add, Nat.add_zero]]
          simp only [Option.bind_some, pb]
          by_cases hmz : miB s i = 0
          · rw [hmz, if_pos (show jN 0 = 0 from rfl)]
          · rw [if_neg (show ¬ jN (miB s i) = 0 from fun z => hmz ((jN_inj (b := 0) (by omega) (by omega)).mp z))]
            have hij : i ≠ j := by
              intro q; subst q; rw [ft_all h i] at h3; exact hmz (of_decide_eq_true h3)
            rw [bt_or _ hv _ hm]
            have hex : ∃ j, i + 1 ≤ j ∧ j < 500 ∧ ftB s (-1) j = true := ⟨j, by omega, h2, h3⟩
            by_cases hq3 : J6_bitCount_0f7a4 (jN (miB s i)) = 1
            · rw [if_pos hq3]; exact ih q (i + 1) _ (or_64 hv hm) (by omega) (by omega) hex
            · rw [if_neg hq3]; exact ih q (i + 1) _ hv (by omega) (by omega) hex
      rw [show (0 : Int32) = jN 0 from rfl]
      exact key _ 500 n 0 0 (by omega) (by omega) (by omega) ⟨j, by omega, hj, hf⟩
    · have hpos : 0 < fcS s (-1) 500 := by omega
      have hne : ¬ jN (fcS s (-1) 500) ≤ 0 := by
        generalize fcS s (-1) 500 = c at *
        simp (disch := omega) only [jl_0, jl_1, jl_2, jl_3, jl_4, jl_5, jl_6, jl_7, jl_8, jl_9, jl_10, jl_11, jl_12, jl_13, jl_14, jl_15, jl_16, jl_17, jl_18, jl_20, jl_23, jl_29, jl_30, jl_31, jl_32, jl_35, jl_40, jl_48, jl_50, jl_51, jl_57, jl_60, jl_61, jl_63, jl_64, jl_65, jl_89, jl_97, jl_99, jl_100, jl_101, jl_113, jl_122, jl_200, jl_240, jl_241, jl_255, jl_259, jl_260, jl_261, jl_262, jl_313, jl_500, jl_999, jl_10000, jl_10004, jl_10005, jl_10006, jl_10007, jl_10008, jl_10009, jl_10010, jl_10011, jl_10012, jl_10013, jl_10014, jl_10015, jl_10017, jl_10018, jl_10023, jl_12345, jl_1103515245, jN_add, jN_mul, jN_sub, jN_addm, jN_div, jN_irm, jN_nat, le_T, le_F, lt_T, lt_F, eq_F, ib_T, ib_F, add_j0, if_true, if_false, eq_self, Bool.false_eq_true, Option.bind_some, pb, jn, Nat.zero_add, Nat.add_zero]; exact not_false
      rw [if_neg hne]
end LIAR
