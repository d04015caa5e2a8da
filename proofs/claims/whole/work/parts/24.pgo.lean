/-! A CHIME goes by: what both sides compute, given what the rules tell (W). -/
def iL (i : Nat) : Prop := 35 ≤ i ∧ i < 65 ∧ ((i - 35) % 5 = 1 ∨ (i - 35) % 5 = 4)
/-- only LAGS and RIGHTS differ -/
def FR (u s : Nat → Int32) : Prop := ∀ i, ¬ iL i → u i = s i
theorem iL_1 {k : Nat} (h : k < 6) : iL (iD k 1) := by unfold iL iD; omega
theorem iL_4 {k : Nat} (h : k < 6) : iL (iD k 4) := by unfold iL iD; omega
theorem nL_0 {k : Nat} : ¬ iL (iD k 0) := by unfold iL iD; omega
theorem nL_2 {k : Nat} : ¬ iL (iD k 2) := by unfold iL iD; omega
theorem nL_3 {k : Nat} : ¬ iL (iD k 3) := by unfold iL iD; omega
theorem FR.refl (s : Nat → Int32) : FR s s := fun _ _ => rfl
theorem FR.up {u s : Nat → Int32} {i : Nat} {v : Int32} (h : FR u s) (hi : iL i) : FR (upd u i v) s := fun j hj => by
  rw [upd_n (by rintro rfl; exact hj hi)]; exact h j hj
theorem FR.low {u s : Nat → Int32} (h : FR u s) {i : Nat} (hi : i < 35 ∨ 65 ≤ i) : u i = s i := h i (by unfold iL; omega)
theorem FR.nSE {u s : Nat → Int32} (h : FR u s) : nS u = nS s := by unfold nS; rw [h.low (by omega)]
theorem FR.sky {u s : Nat → Int32} (h : FR u s) : skN u = skN s := by
  unfold skN; rw [h.low (i := 0) (by omega)]; split
  · rfl
  · exact h.low (by omega)
theorem FR.shBE {u s : Nat → Int32} (h : FR u s) (k : Nat) : shB u k = shB s k := by
  unfold shB; rw [h _ nL_0, h.sky, h.low (i := 0) (by omega)]
theorem FR.shSE {u s : Nat → Int32} (h : FR u s) {f : Nat} (hf : f < 6) : ∀ k, shS u f k = shS s f k := by
  intro k
  induction k with
  | zero => exact h.low (by omega)
  | succ k ih => show shS u f k + _ = shS s f k + _; rw [ih, h _ nL_3, h.shBE]
theorem FR.shAE {u s : Nat → Int32} (h : FR u s) {f : Nat} (hf : f < 6) : shA u f = shA s f := by unfold shA; rw [h.nSE]; exact h.shSE hf _
theorem FR.slBE {u s : Nat → Int32} (h : FR u s) (hs : GS s) {k : Nat} (hk : k < 6) : slB u k = slB s k := by
  obtain ⟨f, hf, h1⟩ := hs.spot hk
  unfold slB; rw [h _ nL_0, h _ nL_3, h.sky, h1, jN_nat (by omega), h.shAE (by omega)]
theorem FR.pOfE {u s : Nat → Int32} (h : FR u s) : pOf u = pOf s := pOf_cg (fun i _ _ => h.low (by omega))
theorem FR.kOfE {u s : Nat → Int32} (h : FR u s) : kOf u = kOf s := kOf_cg (fun i _ _ => h.low (by omega))
theorem FR.rOfE {u s : Nat → Int32} (h : FR u s) : rOf u = rOf s := rOf_cg (fun i _ _ => h.low (by omega))
theorem FR.trans {u v s : Nat → Int32} (h : FR u v) (h2 : FR v s) : FR u s := fun i hi => (h i hi).trans (h2 i hi)
/-! set -/
def stS (s : Nat → Int32) (k : Nat) : Int32 × (Nat → Int32) := (pyB s k, if pyB s k ≤ 0 then s else upd (upd s (iD k 4) 1) (iD k 1) 0)
theorem stS_g {s : Nat → Int32} (h : GS s) {k : Nat} (hk : k < 6) : GS (stS s k).2 := by
  unfold stS; dsimp only; split
  · exact h
  · refine (h.up (Or.inr ?_)).up (Or.inr ?_)
    · rw [bd_D4 hk]; exact ⟨1, by omega, rfl⟩
    · rw [bd_D1 hk]; exact ⟨0, by omega, rfl⟩
theorem stS_f {s : Nat → Int32} {k : Nat} (hk : k < 6) : FR (stS s k).2 s := by
  unfold stS; dsimp only; split
  · exact FR.refl s
  · exact ((FR.refl s).up (iL_4 hk)).up (iL_1 hk)
theorem m_set {s : Nat → Int32} {k : Nat} (hk : k < 6) : X12_setsRight s (jN k) = some (stS s k) := by
  unfold X12_setsRight stS
  rw [m_paysOf hk]
  simp (disch := omega) only [Option.bind_some, jl_4, jl_1, m_puts]
  split
  · rfl
  · rfl
theorem c_set {s : Nat → Int32} (h : GS s) {k : Nat} (hk : k < 6) : X9_setRight_q0 (dOf s) (jN k) = some ((stS s k).1, dOf (stS s k).2) := by
  unfold X9_setRight_q0 stS
  rw [c_paysOf h hk]
  simp (disch := omega) only [Option.bind_some, ib_T, jN_nat, dOf_up, if_true]
  split
  · rfl
  · rfl
/-! argue -/
theorem half_j : ∀ a, a < 100 → ∀ b, b < 100 → jN b + (jN a - jN b) / jN 2 = jN (if b ≤ a then b + (a - b) / 2 else b - (b - a) / 2) := by
  intro a ha b hb
  by_cases h : b ≤ a
  · simp (disch := omega) only [jl_0, jl_1, jl_2, jl_3, jl_4, jl_5, jl_6, jl_7, jl_8, jl_9, jl_10, jl_11, jl_12, jl_13, jl_14, jl_15, jl_16, jl_17, jl_18, jl_20, jl_23, jl_29, jl_30, jl_31, jl_32, jl_35, jl_40, jl_48, jl_50, jl_51, jl_57, jl_60, jl_61, jl_63, jl_64, jl_65, jl_89, jl_97, jl_99, jl_100, jl_101, jl_113, jl_122, jl_200, jl_240, jl_241, jl_255, jl_259, jl_260, jl_261, jl_262, jl_313, jl_500, jl_999, jl_10000, jl_10004, jl_10005, jl_10006, jl_10007, jl_10008, jl_10009, jl_10010, jl_10011, jl_10012, jl_10013, jl_10014, jl_10015, jl_10017, jl_10018, jl_10023, jl_12345, jl_1103515245, jN_add, jN_mul, jN_sub, jN_addm, jN_div, jN_irm, jN_nat, le_T, le_F, lt_T, lt_F, eq_F, ib_T, ib_F, add_j0, if_true, if_false, eq_self, Bool.false_eq_true, Option.bind_some, pb, jn, Nat.zero_add, Nat.add_zero, h]
  · have e : jN a - jN b = -(jN (b - a)) := by rw [← jN_sub (show a ≤ b by omega), Int32.neg_sub]
    have e2 : (-(jN (b - a))) / jN 2 = -(jN ((b - a) / 2)) := by
      rw [← jN_div (by omega) (by omega)]
      have : ∀ x, x < 100 → (-(jN x)) / jN 2 = -(jN x / jN 2) := by decide +kernel
      exact this _ (by omega)
    rw [if_neg h, e, e2, ← Int32.sub_eq_add_neg, jN_sub (by omega)]
def arO (u : Nat → Int32) (k o : Nat) : Int32 := (u (iD k 1) - u (iD o 1)) / (2 : Int32)
def arC (u : Nat → Int32) (k o : Nat) : Bool := !decide (o = k) && (decide (u (iD o 4) = 0) && (!decide ((1 : Int32) < X12_apart (u (iD o 3)) (u (iD k 3))) && !decide (arO u k o = 0)))
def arX (x : Int32 × (Nat → Int32)) (k o : Nat) : Int32 × (Nat → Int32) := if arC x.2 k o = true then (x.1 + 1, upd x.2 (iD o 1) (x.2 (iD o 1) + arO x.2 k o)) else x
def arS (s : Nat → Int32) (k : Nat) : Nat → Int32 × (Nat → Int32)
  | 0 => (0, s)
  | o + 1 => arX (arS s k o) k o
def gaN (s : Nat → Int32) (k : Nat) : Int32 × (Nat → Int32) := arS s k (nS s)
theorem arS_i {s : Nat → Int32} (h : GS s) {k : Nat} (hk : k < 6) : ∀ o, o ≤ 6 → GS (arS s k o).2 ∧ FR (arS s k o).2 s := by
  intro o
  induction o with
  | zero => intro _; exact ⟨h, FR.refl s⟩
  | succ o ih =>
    intro ho
    obtain ⟨hg, hf⟩ := ih (by omega)
    show GS (arX (arS s k o) k o).2 ∧ FR (arX (arS s k o) k o).2 s
    generalize arS s k o = x at *
    unfold arX
    split
    · refine ⟨hg.up (Or.inr ?_), hf.up (iL_1 (by omega))⟩
      rw [bd_D1 (by omega)]
      obtain ⟨a, ha, h1⟩ := hg.lag hk
      obtain ⟨b, hb, h2⟩ := hg.lag (k := o) (by omega)
      unfold arO
      rw [h1, h2, show (2 : Int32) = jN 2 from rfl, half_j a (by omega) b (by omega)]
      exact ⟨_, by split <;> omega, rfl⟩
    · exact ⟨hg, hf⟩
theorem m_argues {s : Nat → Int32} (h : GS s) {k n : Nat} (hk : k < 6) (hn : 7 ≤ n) : X12_argues n s (jN k) = some (gaN s k) := by
  obtain ⟨hc, h4⟩ := h.n
  have L : X12_argues_L1 n (jN k) n (jN 0) (jN 0) s = some ((gaN s k).1, jN (nS s), (gaN s k).2) := by
    refine lp_0 (fun q j => X12_argues_L1 n (jN k) q (arS s k j).1 (jN j) (arS s k j).2) (nS s) (by omega) (fun q j hj => ?_) (fun q => ?_)
    · obtain ⟨hg, hf⟩ := arS_i h hk j (by omega)
      have h4' : (arS s k j).2 4 = jN (nS s) := (hf.low (by omega)).trans h4
      show X12_argues_L1 n (jN k) (q + 1) (arS s k j).1 (jN j) (arS s k j).2 = X12_argues_L1 n (jN k) q (arX (arS s k j) k j).1 (jN (j + 1)) (arX (arS s k j) k j).2
      rw [X12_argues_L1, h4']
      obtain ⟨x, hx, h5⟩ := hg.right (k := j) (by omega)
      have hself : upd (arS s k j).2 (iD j 1) ((arS s k j).2 (iD j 1) + jN 0) = (arS s k j).2 := upd_self (Int32.add_zero _).symm
      have hself2 : upd (arS s k j).2 (iD j 1) ((arS s k j).2 (iD j 1)) = (arS s k j).2 := upd_self rfl
      unfold arX
      generalize arS s k j = wu at *
      obtain ⟨w, u⟩ := wu
      dsimp only at *
      by_cases hjk : j = k
      · have hc : arC u k j = false := by simp [arC, hjk]
        rw [hc]; subst hjk
        simp (disch := omega) only [jl_0, jl_1, jl_2, jl_3, jl_4, jl_5, jl_6, jl_7, jl_8, jl_9, jl_10, jl_11, jl_12, jl_13, jl_14, jl_15, jl_16, jl_17, jl_18, jl_20, jl_23, jl_29, jl_30, jl_31, jl_32, jl_35, jl_40, jl_48, jl_50, jl_51, jl_57, jl_60, jl_61, jl_63, jl_64, jl_65, jl_89, jl_97, jl_99, jl_100, jl_101, jl_113, jl_122, jl_200, jl_240, jl_241, jl_255, jl_259, jl_260, jl_261, jl_262, jl_313, jl_500, jl_999, jl_10000, jl_10004, jl_10005, jl_10006, jl_10007, jl_10008, jl_10009, jl_10010, jl_10011, jl_10012, jl_10013, jl_10014, jl_10015, jl_10017, jl_10018, jl_10023, jl_12345, jl_1103515245, jN_add, jN_mul, jN_sub, jN_addm, jN_div, jN_irm, jN_nat, le_T, le_F, lt_T, lt_F, eq_F, ib_T, ib_F, add_j0, if_true, if_false, eq_self, Bool.false_eq_true, Option.bind_some, pb, jn, Nat.zero_add, Nat.add_zero, m_get, m_puts, hself, hself2]
      · (have : x = 0 ∨ x = 1 := by omega)
        rcases this with rfl | rfl
        · have h5' : u (iD j 4) = 0 := h5
          by_cases hn1 : (1 : Int32) < X12_apart (u (iD j 3)) (u (iD k 3))
          · have hc : arC u k j = false := by simp [arC, hn1]
            have hn1' : (jN 1 < X12_apart (u (iD j 3)) (u (iD k 3))) = True := eq_true hn1
            rw [hc]
            simp (disch := omega) only [jl_0, jl_1, jl_2, jl_3, jl_4, jl_5, jl_6, jl_7, jl_8, jl_9, jl_10, jl_11, jl_12, jl_13, jl_14, jl_15, jl_16, jl_17, jl_18, jl_20, jl_23, jl_29, jl_30, jl_31, jl_32, jl_35, jl_40, jl_48, jl_50, jl_51, jl_57, jl_60, jl_61, jl_63, jl_64, jl_65, jl_89, jl_97, jl_99, jl_100, jl_101, jl_113, jl_122, jl_200, jl_240, jl_241, jl_255, jl_259, jl_260, jl_261, jl_262, jl_313, jl_500, jl_999, jl_10000, jl_10004, jl_10005, jl_10006, jl_10007, jl_10008, jl_10009, jl_10010, jl_10011, jl_10012, jl_10013, jl_10014, jl_10015, jl_10017, jl_10018, jl_10023, jl_12345, jl_1103515245, jN_add, jN_mul, jN_sub, jN_addm, jN_div, jN_irm, jN_nat, le_T, le_F, lt_T, lt_F, eq_F, ib_T, ib_F, add_j0, if_true, if_false, eq_self, Bool.false_eq_true, Option.bind_some, pb, jn, Nat.zero_add, Nat.add_zero, m_get, m_puts, h5, hn1', hself, hself2]
          · have hn1' : (jN 1 < X12_apart (u (iD j 3)) (u (iD k 3))) = False := eq_false hn1
            by_cases hh : arO u k j = 0
            · have hc : arC u k j = false := by simp [arC, hh]
              have hh' : (u (iD k 1) - u (iD j 1)) / jN 2 = jN 0 := hh
              rw [hc]
              simp (disch := omega) only [jl_0, jl_1, jl_2, jl_3, jl_4, jl_5, jl_6, jl_7, jl_8, jl_9, jl_10, jl_11, jl_12, jl_13, jl_14, jl_15, jl_16, jl_17, jl_18, jl_20, jl_23, jl_29, jl_30, jl_31, jl_32, jl_35, jl_40, jl_48, jl_50, jl_51, jl_57, jl_60, jl_61, jl_63, jl_64, jl_65, jl_89, jl_97, jl_99, jl_100, jl_101, jl_113, jl_122, jl_200, jl_240, jl_241, jl_255, jl_259, jl_260, jl_261, jl_262, jl_313, jl_500, jl_999, jl_10000, jl_10004, jl_10005, jl_10006, jl_10007, jl_10008, jl_10009, jl_10010, jl_10011, jl_10012, jl_10013, jl_10014, jl_10015, jl_10017, jl_10018, jl_10023, jl_12345, jl_1103515245, jN_add, jN_mul, jN_sub, jN_addm, jN_div, jN_irm, jN_nat, le_T, le_F, lt_T, lt_F, eq_F, ib_T, ib_F, add_j0, if_true, if_false, eq_self, Bool.false_eq_true, Option.bind_some, pb, jn, Nat.zero_add, Nat.add_zero, m_get, m_puts, h5, hn1', hh', hself, hself2]
            · have hc : arC u k j = true := by simp [arC, hh, hn1, h5', hjk]
              have hh' : ((u (iD k 1) - u (iD j 1)) / jN 2 = jN 0) = False := eq_false hh
              rw [hc]
              simp (disch := omega) only [jl_0, jl_1, jl_2, jl_3, jl_4, jl_5, jl_6, jl_7, jl_8, jl_9, jl_10, jl_11, jl_12, jl_13, jl_14, jl_15, jl_16, jl_17, jl_18, jl_20, jl_23, jl_29, jl_30, jl_31, jl_32, jl_35, jl_40, jl_48, jl_50, jl_51, jl_57, jl_60, jl_61, jl_63, jl_64, jl_65, jl_89, jl_97, jl_99, jl_100, jl_101, jl_113, jl_122, jl_200, jl_240, jl_241, jl_255, jl_259, jl_260, jl_261, jl_262, jl_313, jl_500, jl_999, jl_10000, jl_10004, jl_10005, jl_10006, jl_10007, jl_10008, jl_10009, jl_10010, jl_10011, jl_10012, jl_10013, jl_10014, jl_10015, jl_10017, jl_10018, jl_10023, jl_12345, jl_1103515245, jN_add, jN_mul, jN_sub, jN_addm, jN_div, jN_irm, jN_nat, le_T, le_F, lt_T, lt_F, eq_F, ib_T, ib_F, add_j0, if_true, if_false, eq_self, Bool.false_eq_true, Option.bind_some, pb, jn, Nat.zero_add, Nat.add_zero, m_get, m_puts, h5, hn1', hh', arO]
        · have hc : arC u k j = false := by simp [arC, h5]; intro _ q; exact absurd q (by decide)
          rw [hc]
          simp (disch := omega) only [jl_0, jl_1, jl_2, jl_3, jl_4, jl_5, jl_6, jl_7, jl_8, jl_9, jl_10, jl_11, jl_12, jl_13, jl_14, jl_15, jl_16, jl_17, jl_18, jl_20, jl_23, jl_29, jl_30, jl_31, jl_32, jl_35, jl_40, jl_48, jl_50, jl_51, jl_57, jl_60, jl_61, jl_63, jl_64, jl_65, jl_89, jl_97, jl_99, jl_100, jl_101, jl_113, jl_122, jl_200, jl_240, jl_241, jl_255, jl_259, jl_260, jl_261, jl_262, jl_313, jl_500, jl_999, jl_10000, jl_10004, jl_10005, jl_10006, jl_10007, jl_10008, jl_10009, jl_10010, jl_10011, jl_10012, jl_10013, jl_10014, jl_10015, jl_10017, jl_10018, jl_10023, jl_12345, jl_1103515245, jN_add, jN_mul, jN_sub, jN_addm, jN_div, jN_irm, jN_nat, le_T, le_F, lt_T, lt_F, eq_F, ib_T, ib_F, add_j0, if_true, if_false, eq_self, Bool.false_eq_true, Option.bind_some, pb, jn, Nat.zero_add, Nat.add_zero, m_get, m_puts, h5, hself, hself2]
    · obtain ⟨hg, hf⟩ := arS_i h hk (nS s) (by omega)
      show X12_argues_L1 n (jN k) (q + 1) _ (jN (nS s)) (arS s k (nS s)).2 = _
      rw [X12_argues_L1, (hf.low (by omega)).trans h4]; simp (disch := omega) only [jl_0, jl_1, jl_2, jl_3, jl_4, jl_5, jl_6, jl_7, jl_8, jl_9, jl_10, jl_11, jl_12, jl_13, jl_14, jl_15, jl_16, jl_17, jl_18, jl_20, jl_23, jl_29, jl_30, jl_31, jl_32, jl_35, jl_40, jl_48, jl_50, jl_51, jl_57, jl_60, jl_61, jl_63, jl_64, jl_65, jl_89, jl_97, jl_99, jl_100, jl_101, jl_113, jl_122, jl_200, jl_240, jl_241, jl_255, jl_259, jl_260, jl_261, jl_262, jl_313, jl_500, jl_999, jl_10000, jl_10004, jl_10005, jl_10006, jl_10007, jl_10008, jl_10009, jl_10010, jl_10011, jl_10012, jl_10013, jl_10014, jl_10015, jl_10017, jl_10018, jl_10023, jl_12345, jl_1103515245, jN_add, jN_mul, jN_sub, jN_addm, jN_div, jN_irm, jN_nat, le_T, le_F, lt_T, lt_F, eq_F, ib_T, ib_F, add_j0, if_true, if_false, eq_self, Bool.false_eq_true, Option.bind_some, pb, jn, Nat.zero_add, Nat.add_zero]; rfl
  unfold X12_argues
  rw [show (0 : Int32) = jN 0 from rfl, L]; rfl
theorem c_argued {s : Nat → Int32} (h : GS s) {k n : Nat} (hk : k < 6) (hn : 7 ≤ n) : X9_arguedBy_q0 n (dOf s) (s 4) (jN k) = some ((gaN s k).1, dOf (gaN s k).2) := by
  obtain ⟨hc, h4⟩ := h.n
  have L : X9_arguedBy_q0_L1 n (s 4) (jN k) n (jN 0) (jN 0) (dOf s) = some ((gaN s k).1, jN (nS s), dOf (gaN s k).2) := by
    refine lp_0 (fun q j => X9_arguedBy_q0_L1 n (s 4) (jN k) q (arS s k j).1 (jN j) (dOf (arS s k j).2)) (nS s) (by omega) (fun q j hj => ?_) (fun q => ?_)
    · obtain ⟨hg, hf⟩ := arS_i h hk j (by omega)
      show X9_arguedBy_q0_L1 n (s 4) (jN k) (q + 1) (arS s k j).1 (jN j) (dOf (arS s k j).2) = X9_arguedBy_q0_L1 n (s 4) (jN k) q (arX (arS s k j) k j).1 (jN (j + 1)) (dOf (arX (arS s k j) k j).2)
      rw [X9_arguedBy_q0_L1, h4]
      obtain ⟨x, hx, h5⟩ := hg.right (k := j) (by omega)
      obtain ⟨y, hy, h6⟩ := hg.spot (k := j) (by omega)
      obtain ⟨z, hz, h7⟩ := hg.spot hk
      unfold arX
      generalize arS s k j = wu at *
      obtain ⟨w, u⟩ := wu
      dsimp only at *
      by_cases hjk : j = k
      · have hc : arC u k j = false := by simp [arC, hjk]
        rw [hc]; subst hjk
        simp (disch := omega) only [jl_0, jl_1, jl_2, jl_3, jl_4, jl_5, jl_6, jl_7, jl_8, jl_9, jl_10, jl_11, jl_12, jl_13, jl_14, jl_15, jl_16, jl_17, jl_18, jl_20, jl_23, jl_29, jl_30, jl_31, jl_32, jl_35, jl_40, jl_48, jl_50, jl_51, jl_57, jl_60, jl_61, jl_63, jl_64, jl_65, jl_89, jl_97, jl_99, jl_100, jl_101, jl_113, jl_122, jl_200, jl_240, jl_241, jl_255, jl_259, jl_260, jl_261, jl_262, jl_313, jl_500, jl_999, jl_10000, jl_10004, jl_10005, jl_10006, jl_10007, jl_10008, jl_10009, jl_10010, jl_10011, jl_10012, jl_10013, jl_10014, jl_10015, jl_10017, jl_10018, jl_10023, jl_12345, jl_1103515245, jN_add, jN_mul, jN_sub, jN_addm, jN_div, jN_irm, jN_nat, le_T, le_F, lt_T, lt_F, eq_F, ib_T, ib_F, add_j0, if_true, if_false, eq_self, Bool.false_eq_true, Option.bind_some, pb, jn, Nat.zero_add, Nat.add_zero, dOf_at]
      · by_cases hn1 : (1 : Int32) < X12_apart (jN y) (jN z)
        · have hc : arC u k j = false := by simp [arC, h6, h7, hn1]
          have hn1' : (jN 1 < X12_apart (jN y) (jN z)) = True := eq_true hn1
          rw [hc]
          simp (disch := omega) only [jl_0, jl_1, jl_2, jl_3, jl_4, jl_5, jl_6, jl_7, jl_8, jl_9, jl_10, jl_11, jl_12, jl_13, jl_14, jl_15, jl_16, jl_17, jl_18, jl_20, jl_23, jl_29, jl_30, jl_31, jl_32, jl_35, jl_40, jl_48, jl_50, jl_51, jl_57, jl_60, jl_61, jl_63, jl_64, jl_65, jl_89, jl_97, jl_99, jl_100, jl_101, jl_113, jl_122, jl_200, jl_240, jl_241, jl_255, jl_259, jl_260, jl_261, jl_262, jl_313, jl_500, jl_999, jl_10000, jl_10004, jl_10005, jl_10006, jl_10007, jl_10008, jl_10009, jl_10010, jl_10011, jl_10012, jl_10013, jl_10014, jl_10015, jl_10017, jl_10018, jl_10023, jl_12345, jl_1103515245, jN_add, jN_mul, jN_sub, jN_addm, jN_div, jN_irm, jN_nat, le_T, le_F, lt_T, lt_F, eq_F, ib_T, ib_F, add_j0, if_true, if_false, eq_self, Bool.false_eq_true, Option.bind_some, pb, jn, Nat.zero_add, Nat.add_zero, dOf_at, h6, h7, absi_j, hn1']
        · have hn1' : (jN 1 < X12_apart (jN y) (jN z)) = False := eq_false hn1
          (have : x = 0 ∨ x = 1 := by omega)
          rcases this with rfl | rfl
          · have h5' : u (iD j 4) = 0 := h5
            by_cases hh : arO u k j = 0
            · have hc : arC u k j = false := by simp [arC, hh]
              have hh' : (u (iD k 1) - u (iD j 1)) / jN 2 = jN 0 := hh
              rw [hc]
              simp (disch := omega) only [jl_0, jl_1, jl_2, jl_3, jl_4, jl_5, jl_6, jl_7, jl_8, jl_9, jl_10, jl_11, jl_12, jl_13, jl_14, jl_15, jl_16, jl_17, jl_18, jl_20, jl_23, jl_29, jl_30, jl_31, jl_32, jl_35, jl_40, jl_48, jl_50, jl_51, jl_57, jl_60, jl_61, jl_63, jl_64, jl_65, jl_89, jl_97, jl_99, jl_100, jl_101, jl_113, jl_122, jl_200, jl_240, jl_241, jl_255, jl_259, jl_260, jl_261, jl_262, jl_313, jl_500, jl_999, jl_10000, jl_10004, jl_10005, jl_10006, jl_10007, jl_10008, jl_10009, jl_10010, jl_10011, jl_10012, jl_10013, jl_10014, jl_10015, jl_10017, jl_10018, jl_10023, jl_12345, jl_1103515245, jN_add, jN_mul, jN_sub, jN_addm, jN_div, jN_irm, jN_nat, le_T, le_F, lt_T, lt_F, eq_F, ib_T, ib_F, add_j0, if_true, if_false, eq_self, Bool.false_eq_true, Option.bind_some, pb, jn, Nat.zero_add, Nat.add_zero, dOf_at, h6, h7, absi_j, hn1', c_isRight hg, h5, hh']
            · have hc : arC u k j = true := by simp [arC, hh, h6, h7, hn1, h5', hjk]
              have hh' : ((u (iD k 1) - u (iD j 1)) / jN 2 = jN 0) = False := eq_false hh
              rw [hc]
              simp (disch := omega) only [jl_0, jl_1, jl_2, jl_3, jl_4, jl_5, jl_6, jl_7, jl_8, jl_9, jl_10, jl_11, jl_12, jl_13, jl_14, jl_15, jl_16, jl_17, jl_18, jl_20, jl_23, jl_29, jl_30, jl_31, jl_32, jl_35, jl_40, jl_48, jl_50, jl_51, jl_57, jl_60, jl_61, jl_63, jl_64, jl_65, jl_89, jl_97, jl_99, jl_100, jl_101, jl_113, jl_122, jl_200, jl_240, jl_241, jl_255, jl_259, jl_260, jl_261, jl_262, jl_313, jl_500, jl_999, jl_10000, jl_10004, jl_10005, jl_10006, jl_10007, jl_10008, jl_10009, jl_10010, jl_10011, jl_10012, jl_10013, jl_10014, jl_10015, jl_10017, jl_10018, jl_10023, jl_12345, jl_1103515245, jN_add, jN_mul, jN_sub, jN_addm, jN_div, jN_irm, jN_nat, le_T, le_F, lt_T, lt_F, eq_F, ib_T, ib_F, add_j0, if_true, if_false, eq_self, Bool.false_eq_true, Option.bind_some, pb, jn, Nat.zero_add, Nat.add_zero, dOf_at, h6, h7, absi_j, hn1', c_isRight hg, h5, hh', dOf_up, arO]
          · have hc : arC u k j = false := by simp [arC, h5]; intro _ q; exact absurd q (by decide)
            rw [hc]
            simp (disch := omega) only [jl_0, jl_1, jl_2, jl_3, jl_4, jl_5, jl_6, jl_7, jl_8, jl_9, jl_10, jl_11, jl_12, jl_13, jl_14, jl_15, jl_16, jl_17, jl_18, jl_20, jl_23, jl_29, jl_30, jl_31, jl_32, jl_35, jl_40, jl_48, jl_50, jl_51, jl_57, jl_60, jl_61, jl_63, jl_64, jl_65, jl_89, jl_97, jl_99, jl_100, jl_101, jl_113, jl_122, jl_200, jl_240, jl_241, jl_255, jl_259, jl_260, jl_261, jl_262, jl_313, jl_500, jl_999, jl_10000, jl_10004, jl_10005, jl_10006, jl_10007, jl_10008, jl_10009, jl_10010, jl_10011, jl_10012, jl_10013, jl_10014, jl_10015, jl_10017, jl_10018, jl_10023, jl_12345, jl_1103515245, jN_add, jN_mul, jN_sub, jN_addm, jN_div, jN_irm, jN_nat, le_T, le_F, lt_T, lt_F, eq_F, ib_T, ib_F, add_j0, if_true, if_false, eq_self, Bool.false_eq_true, Option.bind_some, pb, jn, Nat.zero_add, Nat.add_zero, dOf_at, h6, h7, absi_j, hn1', c_isRight hg, h5]
    · show X9_arguedBy_q0_L1 n (s 4) (jN k) (q + 1) _ (jN (nS s)) _ = _
      rw [X9_arguedBy_q0_L1, h4]; simp (disch := omega) only [jl_0, jl_1, jl_2, jl_3, jl_4, jl_5, jl_6, jl_7, jl_8, jl_9, jl_10, jl_11, jl_12, jl_13, jl_14, jl_15, jl_16, jl_17, jl_18, jl_20, jl_23, jl_29, jl_30, jl_31, jl_32, jl_35, jl_40, jl_48, jl_50, jl_51, jl_57, jl_60, jl_61, jl_63, jl_64, jl_65, jl_89, jl_97, jl_99, jl_100, jl_101, jl_113, jl_122, jl_200, jl_240, jl_241, jl_255, jl_259, jl_260, jl_261, jl_262, jl_313, jl_500, jl_999, jl_10000, jl_10004, jl_10005, jl_10006, jl_10007, jl_10008, jl_10009, jl_10010, jl_10011, jl_10012, jl_10013, jl_10014, jl_10015, jl_10017, jl_10018, jl_10023, jl_12345, jl_1103515245, jN_add, jN_mul, jN_sub, jN_addm, jN_div, jN_irm, jN_nat, le_T, le_F, lt_T, lt_F, eq_F, ib_T, ib_F, add_j0, if_true, if_false, eq_self, Bool.false_eq_true, Option.bind_some, pb, jn, Nat.zero_add, Nat.add_zero]; rfl
  unfold X9_arguedBy_q0
  rw [show (0 : Int32) = jN 0 from rfl, L]; rfl
/-! slip -/
def slV (s : Nat → Int32) (k : Nat) : Int32 := if (99 : Int32) ≤ s (iD k 1) + slB s k then 99 else s (iD k 1) + slB s k
def slX (s u : Nat → Int32) (k : Nat) : Nat → Int32 := if decide (s (iD k 4) = 0) = true then upd u (iD k 1) (slV s k) else u
def slS (s : Nat → Int32) : Nat → (Nat → Int32)
  | 0 => s
  | k + 1 => slX s (slS s k) k
def slN (s : Nat → Int32) : Nat → Int32 := slS s (nS s)
theorem slV_b {s : Nat → Int32} (h : GS s) {k : Nat} (hk : k < 6) : ∃ a b, a ≤ 99 ∧ b ≤ 1000 ∧ s (iD k 1) = jN a ∧ slB s k = jN b ∧ slV s k = jN (if 99 ≤ a + b then 99 else a + b) := by
  obtain ⟨a, ha, h1⟩ := h.lag hk
  obtain ⟨b, hb, h2⟩ := slB_b h hk
  refine ⟨a, b, ha, hb, h1, h2, ?_⟩
  unfold slV
  rw [h1, h2]
  by_cases hq : 99 ≤ a + b
  · simp (disch := omega) only [jl_0, jl_1, jl_2, jl_3, jl_4, jl_5, jl_6, jl_7, jl_8, jl_9, jl_10, jl_11, jl_12, jl_13, jl_14, jl_15, jl_16, jl_17, jl_18, jl_20, jl_23, jl_29, jl_30, jl_31, jl_32, jl_35, jl_40, jl_48, jl_50, jl_51, jl_57, jl_60, jl_61, jl_63, jl_64, jl_65, jl_89, jl_97, jl_99, jl_100, jl_101, jl_113, jl_122, jl_200, jl_240, jl_241, jl_255, jl_259, jl_260, jl_261, jl_262, jl_313, jl_500, jl_999, jl_10000, jl_10004, jl_10005, jl_10006, jl_10007, jl_10008, jl_10009, jl_10010, jl_10011, jl_10012, jl_10013, jl_10014, jl_10015, jl_10017, jl_10018, jl_10023, jl_12345, jl_1103515245, jN_add, jN_mul, jN_sub, jN_addm, jN_div, jN_irm, jN_nat, le_T, le_F, lt_T, lt_F, eq_F, ib_T, ib_F, add_j0, if_true, if_false, eq_self, Bool.false_eq_true, Option.bind_some, pb, jn, Nat.zero_add, Nat.add_zero, hq]
  · simp (disch := omega) only [jl_0, jl_1, jl_2, jl_3, jl_4, jl_5, jl_6, jl_7, jl_8, jl_9, jl_10, jl_11, jl_12, jl_13, jl_14, jl_15, jl_16, jl_17, jl_18, jl_20, jl_23, jl_29, jl_30, jl_31, jl_32, jl_35, jl_40, jl_48, jl_50, jl_51, jl_57, jl_60, jl_61, jl_63, jl_64, jl_65, jl_89, jl_97, jl_99, jl_100, jl_101, jl_113, jl_122, jl_200, jl_240, jl_241, jl_255, jl_259, jl_260, jl_261, jl_262, jl_313, jl_500, jl_999, jl_10000, jl_10004, jl_10005, jl_10006, jl_10007, jl_10008, jl_10009, jl_10010, jl_10011, jl_10012, jl_10013, jl_10014, jl_10015, jl_10017, jl_10018, jl_10023, jl_12345, jl_1103515245, jN_add, jN_mul, jN_sub, jN_addm, jN_div, jN_irm, jN_nat, le_T, le_F, lt_T, lt_F, eq_F, ib_T, ib_F, add_j0, if_true, if_false, eq_self, Bool.false_eq_true, Option.bind_some, pb, jn, Nat.zero_add, Nat.add_zero, hq]
theorem slS_i {s : Nat → Int32} (h : GS s) : ∀ k, k ≤ 6 → GS (slS s k) ∧ FR (slS s k) s ∧ (∀ o, k ≤ o → o < 6 → slS s k (iD o 1) = s (iD o 1)) ∧ (∀ o, slS s k (iD o 4) = s (iD o 4)) := by
  intro k
  induction k with
  | zero => intro _; exact ⟨h, FR.refl s, fun _ _ _ => rfl, fun _ => rfl⟩
  | succ k ih =>
    intro hk
    obtain ⟨hg, hf, h1, h2⟩ := ih (by omega)
    show GS (slX s (slS s k) k) ∧ FR (slX s (slS s k) k) s ∧ (∀ o, k + 1 ≤ o → o < 6 → slX s (slS s k) k (iD o 1) = s (iD o 1)) ∧ (∀ o, slX s (slS s k) k (iD o 4) = s (iD o 4))
    unfold slX
    split
    · refine ⟨hg.up (Or.inr ?_), hf.up (iL_1 (by omega)), fun o ho ho2 => ?_, fun o => ?_⟩
      · rw [bd_D1 (by omega)]
        obtain ⟨a, b, ha, hb, -, -, h3⟩ := slV_b h (k := k) (by omega)
        rw [h3]; exact ⟨_, by split <;> omega, rfl⟩
      · rw [upd_n (by unfold iD; omega)]; exact h1 o (by omega) ho2
      · rw [upd_n (by unfold iD; omega)]; exact h2 o
    · exact ⟨hg, hf, fun o ho ho2 => h1 o (by omega) ho2, h2⟩
theorem m_slip {s : Nat → Int32} (h : GS s) {n : Nat} (hn : 7 ≤ n) : X12_goesBy_L1 n n (jN 0) s = some (jN (nS s), slN s) := by
  obtain ⟨hc, h4⟩ := h.n
  refine lp_0 (fun q j => X12_goesBy_L1 n q (jN j) (slS s j)) (nS s) (by omega) (fun q j hj => ?_) (fun q => ?_)
  · obtain ⟨hg, hf, h1, h2⟩ := slS_i h j (by omega)
    show X12_goesBy_L1 n (q + 1) (jN j) (slS s j) = X12_goesBy_L1 n q (jN (j + 1)) (slX s (slS s j) j)
    rw [X12_goesBy_L1, (hf.low (by omega)).trans h4]
    obtain ⟨x, hx, h5⟩ := h.right (k := j) (by omega)
    obtain ⟨a, b, ha, hb, h6, h7, h8⟩ := slV_b h (k := j) (by omega)
    have e1 : slS s j (iD j 1) = jN a := (h1 j (by omega) (by omega)).trans h6
    have e2 : slB (slS s j) j = jN b := (hf.slBE h (by omega)).trans h7
    have e3 : slS s j (iD j 4) = s (iD j 4) := h2 j
    unfold slX
    rw [h8]
    have hself : upd (slS s j) (iD j 1) (jN a) = slS s j := upd_self e1
    generalize slS s j = u at *
    (have : x = 0 ∨ x = 1 := by omega)
    rcases this with rfl | rfl
    · rw [show decide (s (iD j 4) = 0) = true from by rw [h5]; rfl]
      have hh : X12_held (jN (a + b)) (jN 99) = jN (if 99 ≤ a + b then 99 else a + b) := by
        unfold X12_held
        by_cases hq : a + b ≤ 99
        · by_cases hq2 : 99 ≤ a + b
          · simp (disch := omega) only [jl_0, jl_1, jl_2, jl_3, jl_4, jl_5, jl_6, jl_7, jl_8, jl_9, jl_10, jl_11, jl_12, jl_13, jl_14, jl_15, jl_16, jl_17, jl_18, jl_20, jl_23, jl_29, jl_30, jl_31, jl_32, jl_35, jl_40, jl_48, jl_50, jl_51, jl_57, jl_60, jl_61, jl_63, jl_64, jl_65, jl_89, jl_97, jl_99, jl_100, jl_101, jl_113, jl_122, jl_200, jl_240, jl_241, jl_255, jl_259, jl_260, jl_261, jl_262, jl_313, jl_500, jl_999, jl_10000, jl_10004, jl_10005, jl_10006, jl_10007, jl_10008, jl_10009, jl_10010, jl_10011, jl_10012, jl_10013, jl_10014, jl_10015, jl_10017, jl_10018, jl_10023, jl_12345, jl_1103515245, jN_add, jN_mul, jN_sub, jN_addm, jN_div, jN_irm, jN_nat, le_T, le_F, lt_T, lt_F, eq_F, ib_T, ib_F, add_j0, if_true, if_false, eq_self, Bool.false_eq_true, Option.bind_some, pb, jn, Nat.zero_add, Nat.add_zero, hq2]; congr 1; omega
          · simp (disch := omega) only [jl_0, jl_1, jl_2, jl_3, jl_4, jl_5, jl_6, jl_7, jl_8, jl_9, jl_10, jl_11, jl_12, jl_13, jl_14, jl_15, jl_16, jl_17, jl_18, jl_20, jl_23, jl_29, jl_30, jl_31, jl_32, jl_35, jl_40, jl_48, jl_50, jl_51, jl_57, jl_60, jl_61, jl_63, jl_64, jl_65, jl_89, jl_97, jl_99, jl_100, jl_101, jl_113, jl_122, jl_200, jl_240, jl_241, jl_255, jl_259, jl_260, jl_261, jl_262, jl_313, jl_500, jl_999, jl_10000, jl_10004, jl_10005, jl_10006, jl_10007, jl_10008, jl_10009, jl_10010, jl_10011, jl_10012, jl_10013, jl_10014, jl_10015, jl_10017, jl_10018, jl_10023, jl_12345, jl_1103515245, jN_add, jN_mul, jN_sub, jN_addm, jN_div, jN_irm, jN_nat, le_T, le_F, lt_T, lt_F, eq_F, ib_T, ib_F, add_j0, if_true, if_false, eq_self, Bool.false_eq_true, Option.bind_some, pb, jn, Nat.zero_add, Nat.add_zero, hq2]
        · simp (disch := omega) only [jl_0, jl_1, jl_2, jl_3, jl_4, jl_5, jl_6, jl_7, jl_8, jl_9, jl_10, jl_11, jl_12, jl_13, jl_14, jl_15, jl_16, jl_17, jl_18, jl_20, jl_23, jl_29, jl_30, jl_31, jl_32, jl_35, jl_40, jl_48, jl_50, jl_51, jl_57, jl_60, jl_61, jl_63, jl_64, jl_65, jl_89, jl_97, jl_99, jl_100, jl_101, jl_113, jl_122, jl_200, jl_240, jl_241, jl_255, jl_259, jl_260, jl_261, jl_262, jl_313, jl_500, jl_999, jl_10000, jl_10004, jl_10005, jl_10006, jl_10007, jl_10008, jl_10009, jl_10010, jl_10011, jl_10012, jl_10013, jl_10014, jl_10015, jl_10017, jl_10018, jl_10023, jl_12345, jl_1103515245, jN_add, jN_mul, jN_sub, jN_addm, jN_div, jN_irm, jN_nat, le_T, le_F, lt_T, lt_F, eq_F, ib_T, ib_F, add_j0, if_true, if_false, eq_self, Bool.false_eq_true, Option.bind_some, pb, jn, Nat.zero_add, Nat.add_zero]; rw [if_pos (by omega)]
      simp (disch := omega) only [jl_0, jl_1, jl_2, jl_3, jl_4, jl_5, jl_6, jl_7, jl_8, jl_9, jl_10, jl_11, jl_12, jl_13, jl_14, jl_15, jl_16, jl_17, jl_18, jl_20, jl_23, jl_29, jl_30, jl_31, jl_32, jl_35, jl_40, jl_48, jl_50, jl_51, jl_57, jl_60, jl_61, jl_63, jl_64, jl_65, jl_89, jl_97, jl_99, jl_100, jl_101, jl_113, jl_122, jl_200, jl_240, jl_241, jl_255, jl_259, jl_260, jl_261, jl_262, jl_313, jl_500, jl_999, jl_10000, jl_10004, jl_10005, jl_10006, jl_10007, jl_10008, jl_10009, jl_10010, jl_10011, jl_10012, jl_10013, jl_10014, jl_10015, jl_10017, jl_10018, jl_10023, jl_12345, jl_1103515245, jN_add, jN_mul, jN_sub, jN_addm, jN_div, jN_irm, jN_nat, le_T, le_F, lt_T, lt_F, eq_F, ib_T, ib_F, add_j0, if_true, if_false, eq_self, Bool.false_eq_true, Option.bind_some, pb, jn, Nat.zero_add, Nat.add_zero, m_get, m_slipsOf hg, m_puts, e1, e2, e3, h5, hh]
    · rw [show decide (s (iD j 4) = 0) = false from by rw [h5]; rfl]
      simp (disch := omega) only [jl_0, jl_1, jl_2, jl_3, jl_4, jl_5, jl_6, jl_7, jl_8, jl_9, jl_10, jl_11, jl_12, jl_13, jl_14, jl_15, jl_16, jl_17, jl_18, jl_20, jl_23, jl_29, jl_30, jl_31, jl_32, jl_35, jl_40, jl_48, jl_50, jl_51, jl_57, jl_60, jl_61, jl_63, jl_64, jl_65, jl_89, jl_97, jl_99, jl_100, jl_101, jl_113, jl_122, jl_200, jl_240, jl_241, jl_255, jl_259, jl_260, jl_261, jl_262, jl_313, jl_500, jl_999, jl_10000, jl_10004, jl_10005, jl_10006, jl_10007, jl_10008, jl_10009, jl_10010, jl_10011, jl_10012, jl_10013, jl_10014, jl_10015, jl_10017, jl_10018, jl_10023, jl_12345, jl_1103515245, jN_add, jN_mul, jN_sub, jN_addm, jN_div, jN_irm, jN_nat, le_T, le_F, lt_T, lt_F, eq_F, ib_T, ib_F, add_j0, if_true, if_false, eq_self, Bool.false_eq_true, Option.bind_some, pb, jn, Nat.zero_add, Nat.add_zero, m_get, m_slipsOf hg, m_puts, e1, e2, e3, h5, hself]
  · obtain ⟨hg, hf, h1, h2⟩ := slS_i h (nS s) (by omega)
    show X12_goesBy_L1 n (q + 1) (jN (nS s)) (slS s (nS s)) = _
    rw [X12_goesBy_L1, (hf.low (by omega)).trans h4]; simp (disch := omega) only [jl_0, jl_1, jl_2, jl_3, jl_4, jl_5, jl_6, jl_7, jl_8, jl_9, jl_10, jl_11, jl_12, jl_13, jl_14, jl_15, jl_16, jl_17, jl_18, jl_20, jl_23, jl_29, jl_30, jl_31, jl_32, jl_35, jl_40, jl_48, jl_50, jl_51, jl_57, jl_60, jl_61, jl_63, jl_64, jl_65, jl_89, jl_97, jl_99, jl_100, jl_101, jl_113, jl_122, jl_200, jl_240, jl_241, jl_255, jl_259, jl_260, jl_261, jl_262, jl_313, jl_500, jl_999, jl_10000, jl_10004, jl_10005, jl_10006, jl_10007, jl_10008, jl_10009, jl_10010, jl_10011, jl_10012, jl_10013, jl_10014, jl_10015, jl_10017, jl_10018, jl_10023, jl_12345, jl_1103515245, jN_add, jN_mul, jN_sub, jN_addm, jN_div, jN_irm, jN_nat, le_T, le_F, lt_T, lt_F, eq_F, ib_T, ib_F, add_j0, if_true, if_false, eq_self, Bool.false_eq_true, Option.bind_some, pb, jn, Nat.zero_add, Nat.add_zero]; rfl
theorem c_slip {s : Nat → Int32} (h : GS s) {n : Nat} (hn : 7 ≤ n) (sh0 : Nat → Int32) : X9_slipAll_q0 n (dOf s) (kOf s) (s 4) (s 0) (fun i => if i < 6 then shA s i else sh0 i) = some (dOf (slN s)) := by
  obtain ⟨hc, h4⟩ := h.n
  unfold X9_slipAll_q0
  rw [c_sky h]
  have L : X9_slipAll_q0_L1 n (s 4) (fun i => if i < 6 then shA s i else sh0 i) (irm (skN s) (jN 4)) n (jN 0) (dOf s) = some (jN (nS s), dOf (slN s)) := by
    refine lp_0 (fun q j => X9_slipAll_q0_L1 n (s 4) (fun i => if i < 6 then shA s i else sh0 i) (irm (skN s) (jN 4)) q (jN j) (dOf (slS s j))) (nS s) (by omega) (fun q j hj => ?_) (fun q => ?_)
    · obtain ⟨hg, hf, h1, h2⟩ := slS_i h j (by omega)
      show X9_slipAll_q0_L1 n (s 4) _ _ (q + 1) (jN j) (dOf (slS s j)) = X9_slipAll_q0_L1 n (s 4) _ _ q (jN (j + 1)) (dOf (slX s (slS s j) j))
      rw [X9_slipAll_q0_L1, h4]
      obtain ⟨x, hx, h5⟩ := h.right (k := j) (by omega)
      obtain ⟨f, hf2, h9⟩ := h.spot (k := j) (by omega)
      obtain ⟨a, b, ha, hb, h6, h7, h8⟩ := slV_b h (k := j) (by omega)
      have e1 : slS s j (iD j 1) = jN a := (h1 j (by omega) (by omega)).trans h6
      have e3 : slS s j (iD j 4) = s (iD j 4) := h2 j
      have e4 : slS s j (iD j 3) = jN f := (hf _ nL_3).trans h9
      have e5 : X12_slipsBy (s (iD j 0)) (shA s f) (irm (skN s) (jN 4)) = jN b := by rw [← h7]; unfold slB; rw [h9, jN_nat (by omega)]
      have e6 : slS s j (iD j 0) = s (iD j 0) := hf _ nL_0
      have hk := c_kindOf hg (show j < 6 by omega)
      have hl := kind_lt hg (show j < 6 by omega)
      have hv := vd_slK hg (show j < 6 by omega)
      rw [e6] at hk hl hv
      unfold slX
      rw [h8]
      generalize slS s j = u at *
      (have : x = 0 ∨ x = 1 := by omega)
      rcases this with rfl | rfl
      · rw [show decide (s (iD j 4) = 0) = true from by rw [h5]; rfl]
        by_cases hq : 99 ≤ a + b
        · simp (disch := omega) only [jl_0, jl_1, jl_2, jl_3, jl_4, jl_5, jl_6, jl_7, jl_8, jl_9, jl_10, jl_11, jl_12, jl_13, jl_14, jl_15, jl_16, jl_17, jl_18, jl_20, jl_23, jl_29, jl_30, jl_31, jl_32, jl_35, jl_40, jl_48, jl_50, jl_51, jl_57, jl_60, jl_61, jl_63, jl_64, jl_65, jl_89, jl_97, jl_99, jl_100, jl_101, jl_113, jl_122, jl_200, jl_240, jl_241, jl_255, jl_259, jl_260, jl_261, jl_262, jl_313, jl_500, jl_999, jl_10000, jl_10004, jl_10005, jl_10006, jl_10007, jl_10008, jl_10009, jl_10010, jl_10011, jl_10012, jl_10013, jl_10014, jl_10015, jl_10017, jl_10018, jl_10023, jl_12345, jl_1103515245, jN_add, jN_mul, jN_sub, jN_addm, jN_div, jN_irm, jN_nat, le_T, le_F, lt_T, lt_F, eq_F, ib_T, ib_F, add_j0, if_true, if_false, eq_self, Bool.false_eq_true, Option.bind_some, pb, jn, Nat.zero_add, Nat.add_zero, c_isRight hg, dOf_at, e1, e3, e4, h5, hk, hl, hv, e6]
          rw [if_pos (show f < 6 by omega), e5]
          simp (disch := omega) only [jl_0, jl_1, jl_2, jl_3, jl_4, jl_5, jl_6, jl_7, jl_8, jl_9, jl_10, jl_11, jl_12, jl_13, jl_14, jl_15, jl_16, jl_17, jl_18, jl_20, jl_23, jl_29, jl_30, jl_31, jl_32, jl_35, jl_40, jl_48, jl_50, jl_51, jl_57, jl_60, jl_61, jl_63, jl_64, jl_65, jl_89, jl_97, jl_99, jl_100, jl_101, jl_113, jl_122, jl_200, jl_240, jl_241, jl_255, jl_259, jl_260, jl_261, jl_262, jl_313, jl_500, jl_999, jl_10000, jl_10004, jl_10005, jl_10006, jl_10007, jl_10008, jl_10009, jl_10010, jl_10011, jl_10012, jl_10013, jl_10014, jl_10015, jl_10017, jl_10018, jl_10023, jl_12345, jl_1103515245, jN_add, jN_mul, jN_sub, jN_addm, jN_div, jN_irm, jN_nat, le_T, le_F, lt_T, lt_F, eq_F, ib_T, ib_F, add_j0, if_true, if_false, eq_self, Bool.false_eq_true, Option.bind_some, pb, jn, Nat.zero_add, Nat.add_zero, dOf_up, hq]
        · simp (disch := omega) only [jl_0, jl_1, jl_2, jl_3, jl_4, jl_5, jl_6, jl_7, jl_8, jl_9, jl_10, jl_11, jl_12, jl_13, jl_14, jl_15, jl_16, jl_17, jl_18, jl_20, jl_23, jl_29, jl_30, jl_31, jl_32, jl_35, jl_40, jl_48, jl_50, jl_51, jl_57, jl_60, jl_61, jl_63, jl_64, jl_65, jl_89, jl_97, jl_99, jl_100, jl_101, jl_113, jl_122, jl_200, jl_240, jl_241, jl_255, jl_259, jl_260, jl_261, jl_262, jl_313, jl_500, jl_999, jl_10000, jl_10004, jl_10005, jl_10006, jl_10007, jl_10008, jl_10009, jl_10010, jl_10011, jl_10012, jl_10013, jl_10014, jl_10015, jl_10017, jl_10018, jl_10023, jl_12345, jl_1103515245, jN_add, jN_mul, jN_sub, jN_addm, jN_div, jN_irm, jN_nat, le_T, le_F, lt_T, lt_F, eq_F, ib_T, ib_F, add_j0, if_true, if_false, eq_self, Bool.false_eq_true, Option.bind_some, pb, jn, Nat.zero_add, Nat.add_zero, c_isRight hg, dOf_at, e1, e3, e4, h5, hk, hl, hv, e6]
          rw [if_pos (show f < 6 by omega), e5]
          simp (disch := omega) only [jl_0, jl_1, jl_2, jl_3, jl_4, jl_5, jl_6, jl_7, jl_8, jl_9, jl_10, jl_11, jl_12, jl_13, jl_14, jl_15, jl_16, jl_17, jl_18, jl_20, jl_23, jl_29, jl_30, jl_31, jl_32, jl_35, jl_40, jl_48, jl_50, jl_51, jl_57, jl_60, jl_61, jl_63, jl_64, jl_65, jl_89, jl_97, jl_99, jl_100, jl_101, jl_113, jl_122, jl_200, jl_240, jl_241, jl_255, jl_259, jl_260, jl_261, jl_262, jl_313, jl_500, jl_999, jl_10000, jl_10004, jl_10005, jl_10006, jl_10007, jl_10008, jl_10009, jl_10010, jl_10011, jl_10012, jl_10013, jl_10014, jl_10015, jl_10017, jl_10018, jl_10023, jl_12345, jl_1103515245, jN_add, jN_mul, jN_sub, jN_addm, jN_div, jN_irm, jN_nat, le_T, le_F, lt_T, lt_F, eq_F, ib_T, ib_F, add_j0, if_true, if_false, eq_self, Bool.false_eq_true, Option.bind_some, pb, jn, Nat.zero_add, Nat.add_zero, dOf_up, hq]
      · rw [show decide (s (iD j 4) = 0) = false from by rw [h5]; rfl]
        simp (disch := omega) only [jl_0, jl_1, jl_2, jl_3, jl_4, jl_5, jl_6, jl_7, jl_8, jl_9, jl_10, jl_11, jl_12, jl_13, jl_14, jl_15, jl_16, jl_17, jl_18, jl_20, jl_23, jl_29, jl_30, jl_31, jl_32, jl_35, jl_40, jl_48, jl_50, jl_51, jl_57, jl_60, jl_61, jl_63, jl_64, jl_65, jl_89, jl_97, jl_99, jl_100, jl_101, jl_113, jl_122, jl_200, jl_240, jl_241, jl_255, jl_259, jl_260, jl_261, jl_262, jl_313, jl_500, jl_999, jl_10000, jl_10004, jl_10005, jl_10006, jl_10007, jl_10008, jl_10009, jl_10010, jl_10011, jl_10012, jl_10013, jl_10014, jl_10015, jl_10017, jl_10018, jl_10023, jl_12345, jl_1103515245, jN_add, jN_mul, jN_sub, jN_addm, jN_div, jN_irm, jN_nat, le_T, le_F, lt_T, lt_F, eq_F, ib_T, ib_F, add_j0, if_true, if_false, eq_self, Bool.false_eq_true, Option.bind_some, pb, jn, Nat.zero_add, Nat.add_zero, c_isRight hg, e3, h5]
    · show X9_slipAll_q0_L1 n (s 4) _ _ (q + 1) (jN (nS s)) _ = _
      rw [X9_slipAll_q0_L1, h4]; simp (disch := omega) only [jl_0, jl_1, jl_2, jl_3, jl_4, jl_5, jl_6, jl_7, jl_8, jl_9, jl_10, jl_11, jl_12, jl_13, jl_14, jl_15, jl_16, jl_17, jl_18, jl_20, jl_23, jl_29, jl_30, jl_31, jl_32, jl_35, jl_40, jl_48, jl_50, jl_51, jl_57, jl_60, jl_61, jl_63, jl_64, jl_65, jl_89, jl_97, jl_99, jl_100, jl_101, jl_113, jl_122, jl_200, jl_240, jl_241, jl_255, jl_259, jl_260, jl_261, jl_262, jl_313, jl_500, jl_999, jl_10000, jl_10004, jl_10005, jl_10006, jl_10007, jl_10008, jl_10009, jl_10010, jl_10011, jl_10012, jl_10013, jl_10014, jl_10015, jl_10017, jl_10018, jl_10023, jl_12345, jl_1103515245, jN_add, jN_mul, jN_sub, jN_addm, jN_div, jN_irm, jN_nat, le_T, le_F, lt_T, lt_F, eq_F, ib_T, ib_F, add_j0, if_true, if_false, eq_self, Bool.false_eq_true, Option.bind_some, pb, jn, Nat.zero_add, Nat.add_zero]; rfl
  simp only [Option.bind_some, jl_4, jl_0]
  rw [L]; rfl
