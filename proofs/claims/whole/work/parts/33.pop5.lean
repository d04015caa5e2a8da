section OPS5
variable {n ρ nr : Nat} {gc : Nat → Int32} {gk gw gs gd : Nat → Nat → Int32} {kl wl sl cl : Nat → Nat} {W : Int32 → (Nat → Int32) → Int32} {s : Nat → Int32}
/-! late -/
def laB (u : Nat → Int32) (k : Nat) : Bool := decide ((50 : Int32) ≤ u (iD k 1))
def laF (W : Int32 → (Nat → Int32) → Int32) (k : Nat) : Nat → (Nat → Int32) → (Nat → Int32)
  | 0, u => u
  | d + 1, u => if laB u k = true then u else if goB u = true then laF W k d (rsG W u) else u
def laA (u : Nat → Int32) (k : Nat) : Int32 := if laB u k = true then u 0 else -3
theorem laF_i (k : Nat) : ∀ (d : Nat) (u : Nat → Int32), GS u → GS (laF W k d u) ∧ FG (laF W k d u) u ∧ (laF W k d u) 3 = u 3 := by
  intro d
  induction d with
  | zero => intro u h; exact ⟨h, FG.refl u, rfl⟩
  | succ d ih =>
    intro u h
    unfold laF
    split
    · exact ⟨h, FG.refl u, rfl⟩
    · split
      · rename_i hq
        obtain ⟨g1, g2, g3, -⟩ := rsG_i (W := W) h hq
        obtain ⟨a, b, c⟩ := ih _ g1
        exact ⟨a, b.trans g2 h.n.1, c.trans g3⟩
      · exact ⟨h, FG.refl u, rfl⟩
theorem m_late1 (hn : 20 ≤ n) {k : Nat} (hk : k < 6) : ∀ (d m w : Nat) (u pile : Nat → Int32) (x : Nat), RM n u W → GS u → u 0 = jN x → x + d = 16 → d < m → w + 100 * d ≤ 2000 → ∃ w' pile', w' ≤ 2000 ∧ X12_late_L1 n (jN k) m (jN w) u pile = some (jN w', laF W k d u, pile') := by
  intro d
  induction d with
  | zero =>
    intro m w u pile x hM h h0 hx hm hw; obtain ⟨m, rfl⟩ : ∃ q, m = q + 1 := ⟨m - 1, by omega⟩
    refine ⟨w, pile, by omega, ?_⟩
    rw [X12_late_L1, show X12_get u (jN k) (1 : Int32) = some (u (iD k 1)) from m_get (j := 1) hk (by omega)]
    simp only [Option.bind_some]
    rw [m_oF (ov_16 h h0 (by omega))]
    split <;> rfl
  | succ d ih =>
    intro m w u pile x hM h h0 hx hm hw; obtain ⟨m, rfl⟩ : ∃ q, m = q + 1 := ⟨m - 1, by omega⟩
    rw [X12_late_L1, show X12_get u (jN k) (1 : Int32) = some (u (iD k 1)) from m_get (j := 1) hk (by omega)]
    simp only [Option.bind_some]
    unfold laF
    by_cases hl : (50 : Int32) ≤ u (iD k 1)
    · refine ⟨w, pile, by omega, ?_⟩
      rw [if_pos hl, if_pos (show laB u k = true from decide_eq_true hl)]
    · have hlb : ¬ laB u k = true := fun q => hl (of_decide_eq_true q)
      rw [if_neg hl, if_neg hlb]
      by_cases hq : goB u = true
      · obtain ⟨p1, e1⟩ := m_goesRest hM h (by omega) pile
        obtain ⟨g1, g2, g3, g4⟩ := rsG_i (W := W) h hq
        obtain ⟨y, hy, hy2⟩ := goW_w (W := W) h (raN_b (W := W))
        have h0' : (rsG W u) 0 = jN (x + 1) := by rw [g4, h0]; simp (disch := omega) only [jl_0, jl_1, jl_2, jl_3, jl_4, jl_5, jl_6, jl_7, jl_8, jl_9, jl_10, jl_11, jl_12, jl_13, jl_14, jl_15, jl_16, jl_17, jl_18, jl_20, jl_23, jl_29, jl_30, jl_31, jl_32, jl_35, jl_40, jl_48, jl_50, jl_51, jl_57, jl_60, jl_61, jl_63, jl_64, jl_65, jl_89, jl_97, jl_99, jl_100, jl_101, jl_113, jl_122, jl_200, jl_240, jl_241, jl_255, jl_259, jl_260, jl_261, jl_262, jl_313, jl_500, jl_999, jl_10000, jl_10004, jl_10005, jl_10006, jl_10007, jl_10008, jl_10009, jl_10010, jl_10011, jl_10012, jl_10013, jl_10014, jl_10015, jl_10017, jl_10018, jl_10023, jl_12345, jl_1103515245, jN_add, jN_mul, jN_sub, jN_addm, jN_div, jN_irm, jN_nat, le_T, le_F, lt_T, lt_F, eq_F, ib_T, ib_F, add_j0, if_true, if_false, eq_self, Bool.false_eq_true, Option.bind_some, pb, jn, Nat.zero_add, Nat.add_zero]
        obtain ⟨w', p2, hw', e2⟩ := ih m (w + y) (rsG W u) p1 (x + 1) (hM.go g2 h.n.1) g1 h0' (by omega) (by omega) (by omega)
        refine ⟨w', p2, hw', ?_⟩
        rw [m_oT hq, if_pos rfl, if_pos hq, e1, ← e2]
        simp only [Option.bind_some]
        rw [hy2, jN_add]; rfl
      · refine ⟨w, pile, by omega, ?_⟩
        rw [m_oF hq, if_neg (by decide), if_neg hq]
theorem c_late1 (hn : 20 ≤ n) (hC : RC n ρ gc gk gw gs gd kl wl sl cl W) (hr : ρ < nr) {k : Nat} (hk : k < 6) (K : _ → Option (Int32 × (Nat → Nat → Int32) × (Nat → Nat → Int32) × (Nat → Int32) × (Nat → Nat → Int32) × Int32 × Int32 × Int32 × Int32 × Int32 × Int32 × Nat × (Nat → Int32) × (Nat → Int32) × (Nat → Nat → Int32))) : ∀ (d m : Nat) (u : Nat → Int32) (x : Nat) (rp : Nat → Nat → Int32) (rc z : Int32) (sh fa : Nat → Int32) (st : Nat → Nat → Int32), GS u → u 0 = jN x → x + d = 16 → d < m → ∃ sh' fa' st', X11_late_L1 n (pOf u) (kOf u) rp (u 4) (u 1) rc z ρ gc gk gw gs gd kl wl sl cl nr (jN k) K m (u 0) (dOf u) (u 0) (u 2) sh fa st = some (laA (laF W k d u) k, dOf (laF W k d u), pOf u, kOf u, rp, u 4, (laF W k d u) 0, u 1, (laF W k d u) 2, rc, z, ρ, sh', fa', st') := by
  intro d
  induction d with
  | zero =>
    intro m u x rp rc z sh fa st h h0 hx hm; obtain ⟨m, rfl⟩ : ∃ q, m = q + 1 := ⟨m - 1, by omega⟩
    refine ⟨sh, fa, st, ?_⟩
    have ho := ov_16 h h0 (by omega)
    rw [X11_late_L1, ib_T hk (by omega), jN_nat (by omega), dOf_at hk (by omega), if_neg (by rw [h0]; simp (disch := omega) only [jl_0, jl_1, jl_2, jl_3, jl_4, jl_5, jl_6, jl_7, jl_8, jl_9, jl_10, jl_11, jl_12, jl_13, jl_14, jl_15, jl_16, jl_17, jl_18, jl_20, jl_23, jl_29, jl_30, jl_31, jl_32, jl_35, jl_40, jl_48, jl_50, jl_51, jl_57, jl_60, jl_61, jl_63, jl_64, jl_65, jl_89, jl_97, jl_99, jl_100, jl_101, jl_113, jl_122, jl_200, jl_240, jl_241, jl_255, jl_259, jl_260, jl_261, jl_262, jl_313, jl_500, jl_999, jl_10000, jl_10004, jl_10005, jl_10006, jl_10007, jl_10008, jl_10009, jl_10010, jl_10011, jl_10012, jl_10013, jl_10014, jl_10015, jl_10017, jl_10018, jl_10023, jl_12345, jl_1103515245, jN_add, jN_mul, jN_sub, jN_addm, jN_div, jN_irm, jN_nat, le_T, le_F, lt_T, lt_F, eq_F, ib_T, ib_F, add_j0, if_true, if_false, eq_self, Bool.false_eq_true, Option.bind_some, pb, jn, Nat.zero_add, Nat.add_zero]; exact not_false), if_pos rfl, q2_isOver, c_oF ho]
    unfold laA laF laB
    by_cases hl : (50 : Int32) ≤ u (iD k 1)
    · rw [if_neg (Int32.not_lt.mpr hl), if_pos (decide_eq_true hl)]
    · rw [if_pos (Int32.not_le.mp hl), if_neg (by decide), if_neg (fun q => hl (of_decide_eq_true q))]
  | succ d ih =>
    intro m u x rp rc z sh fa st h h0 hx hm; obtain ⟨m, rfl⟩ : ∃ q, m = q + 1 := ⟨m - 1, by omega⟩
    rw [X11_late_L1, ib_T hk (by omega), jN_nat (by omega), dOf_at hk (by omega), if_neg (by rw [h0]; simp (disch := omega) only [jl_0, jl_1, jl_2, jl_3, jl_4, jl_5, jl_6, jl_7, jl_8, jl_9, jl_10, jl_11, jl_12, jl_13, jl_14, jl_15, jl_16, jl_17, jl_18, jl_20, jl_23, jl_29, jl_30, jl_31, jl_32, jl_35, jl_40, jl_48, jl_50, jl_51, jl_57, jl_60, jl_61, jl_63, jl_64, jl_65, jl_89, jl_97, jl_99, jl_100, jl_101, jl_113, jl_122, jl_200, jl_240, jl_241, jl_255, jl_259, jl_260, jl_261, jl_262, jl_313, jl_500, jl_999, jl_10000, jl_10004, jl_10005, jl_10006, jl_10007, jl_10008, jl_10009, jl_10010, jl_10011, jl_10012, jl_10013, jl_10014, jl_10015, jl_10017, jl_10018, jl_10023, jl_12345, jl_1103515245, jN_add, jN_mul, jN_sub, jN_addm, jN_div, jN_irm, jN_nat, le_T, le_F, lt_T, lt_F, eq_F, ib_T, ib_F, add_j0, if_true, if_false, eq_self, Bool.false_eq_true, Option.bind_some, pb, jn, Nat.zero_add, Nat.add_zero]; exact not_false), if_pos rfl]
    unfold laF
    by_cases hl : (50 : Int32) ≤ u (iD k 1)
    · refine ⟨sh, fa, st, ?_⟩
      rw [if_neg (Int32.not_lt.mpr hl), if_pos (show laB u k = true from decide_eq_true hl)]
      unfold laA laB; rw [if_pos (decide_eq_true hl)]
    · have hlb : ¬ laB u k = true := fun q => hl (of_decide_eq_true q)
      rw [if_pos (Int32.not_le.mp hl), if_neg hlb, q2_isOver]
      by_cases hq : goB u = true
      · obtain ⟨a, b, c, e1⟩ := c_one hn hC hr h hq sh fa st
        obtain ⟨g1, g2, g3, g4⟩ := rsG_i (W := W) h hq
        have h0' : (rsG W u) 0 = jN (x + 1) := by rw [g4, h0]; simp (disch := omega) only [jl_0, jl_1, jl_2, jl_3, jl_4, jl_5, jl_6, jl_7, jl_8, jl_9, jl_10, jl_11, jl_12, jl_13, jl_14, jl_15, jl_16, jl_17, jl_18, jl_20, jl_23, jl_29, jl_30, jl_31, jl_32, jl_35, jl_40, jl_48, jl_50, jl_51, jl_57, jl_60, jl_61, jl_63, jl_64, jl_65, jl_89, jl_97, jl_99, jl_100, jl_101, jl_113, jl_122, jl_200, jl_240, jl_241, jl_255, jl_259, jl_260, jl_261, jl_262, jl_313, jl_500, jl_999, jl_10000, jl_10004, jl_10005, jl_10006, jl_10007, jl_10008, jl_10009, jl_10010, jl_10011, jl_10012, jl_10013, jl_10014, jl_10015, jl_10017, jl_10018, jl_10023, jl_12345, jl_1103515245, jN_add, jN_mul, jN_sub, jN_addm, jN_div, jN_irm, jN_nat, le_T, le_F, lt_T, lt_F, eq_F, ib_T, ib_F, add_j0, if_true, if_false, eq_self, Bool.false_eq_true, Option.bind_some, pb, jn, Nat.zero_add, Nat.add_zero]
        have e5 : (rsG W u) 4 = u 4 := g2.low (by omega) (by omega) (by omega) (by omega) h.n.1
        have e6 : (rsG W u) 1 = u 1 := g2.low (by omega) (by omega) (by omega) (by omega) h.n.1
        obtain ⟨a2, b2, c2, e2⟩ := ih m (rsG W u) (x + 1) rp rc z a b c g1 h0' (by omega) (by omega)
        rw [e5, e6, g2.pOfE h.n.1, g2.kOfE h.n.1] at e2
        refine ⟨a2, b2, c2, ?_⟩
        rw [c_oT hq, if_pos rfl, if_pos hq, q2_rest, e1, ← e2]
        simp only [Option.bind_some]
        rw [g4]
      · refine ⟨sh, fa, st, ?_⟩
        rw [c_oF hq, if_neg (by decide), if_neg hq]
        unfold laA; rw [if_neg hlb]
theorem o_late (hn : 70 ≤ n) (hC : RC n ρ gc gk gw gs gd kl wl sl cl W) (hr : ρ < nr) (hM : RM n s W) (h : GS s) (s2 : Nat → Int32) {ρ2 : Nat} (hr2 : ρ2 < nr) (sh fa : Nat → Int32) (st : Nat → Nat → Int32) (laid pile : Nat → Int32) (v1 : Int32) :
    ∃ r d2 p2 k2 r2 c2 ch2 e2 sc2 rc2 z2 ρ2' sh' fa' st' u2 laid' pile', X11_late n (dOf s) (pOf s) (kOf s) (rOf s) (s 4) (s 0) (s 1) (s 2) (s 6) (s 3) ρ (dOf s2) (pOf s2) (kOf s2) (rOf s2) (s2 4) (s2 0) (s2 1) (s2 2) (s2 6) (s2 3) ρ2 sh fa gc gk gw gs gd st kl wl sl cl nr v1 = some (r, d2, p2, k2, r2, c2, ch2, e2, sc2, rc2, z2, ρ2', sh', fa', st') ∧ X12_late n s laid pile v1 = some (r, s, laid', pile') ∧ ρ2' < nr ∧ SQ d2 p2 k2 r2 c2 ch2 e2 sc2 rc2 z2 u2 := by
  unfold X11_late X12_late
  rcases has_or h v1 with ⟨e1, e2⟩ | ⟨k, hk, rfl, e1, e2⟩
  · exact ⟨-1, _, _, _, _, _, _, _, _, _, _, ρ2, sh, fa, st, s2, laid, pile, by simp (disch := omega) only [jl_0, jl_1, jl_2, jl_3, jl_4, jl_5, jl_6, jl_7, jl_8, jl_9, jl_10, jl_11, jl_12, jl_13, jl_14, jl_15, jl_16, jl_17, jl_18, jl_20, jl_23, jl_29, jl_30, jl_31, jl_32, jl_35, jl_40, jl_48, jl_50, jl_51, jl_57, jl_60, jl_61, jl_63, jl_64, jl_65, jl_89, jl_97, jl_99, jl_100, jl_101, jl_113, jl_122, jl_200, jl_240, jl_241, jl_255, jl_259, jl_260, jl_261, jl_262, jl_313, jl_500, jl_999, jl_10000, jl_10004, jl_10005, jl_10006, jl_10007, jl_10008, jl_10009, jl_10010, jl_10011, jl_10012, jl_10013, jl_10014, jl_10015, jl_10017, jl_10018, jl_10023, jl_12345, jl_1103515245, jN_add, jN_mul, jN_sub, jN_addm, jN_div, jN_irm, jN_nat, le_T, le_F, lt_T, lt_F, eq_F, ib_T, ib_F, add_j0, if_true, if_false, eq_self, Bool.false_eq_true, Option.bind_some, pb, jn, Nat.zero_add, Nat.add_zero, e2], by simp (disch := omega) only [jl_0, jl_1, jl_2, jl_3, jl_4, jl_5, jl_6, jl_7, jl_8, jl_9, jl_10, jl_11, jl_12, jl_13, jl_14, jl_15, jl_16, jl_17, jl_18, jl_20, jl_23, jl_29, jl_30, jl_31, jl_32, jl_35, jl_40, jl_48, jl_50, jl_51, jl_57, jl_60, jl_61, jl_63, jl_64, jl_65, jl_89, jl_97, jl_99, jl_100, jl_101, jl_113, jl_122, jl_200, jl_240, jl_241, jl_255, jl_259, jl_260, jl_261, jl_262, jl_313, jl_500, jl_999, jl_10000, jl_10004, jl_10005, jl_10006, jl_10007, jl_10008, jl_10009, jl_10010, jl_10011, jl_10012, jl_10013, jl_10014, jl_10015, jl_10017, jl_10018, jl_10023, jl_12345, jl_1103515245, jN_add, jN_mul, jN_sub, jN_addm, jN_div, jN_irm, jN_nat, le_T, le_F, lt_T, lt_F, eq_F, ib_T, ib_F, add_j0, if_true, if_false, eq_self, Bool.false_eq_true, Option.bind_some, pb, jn, Nat.zero_add, Nat.add_zero, e1], hr2, SQ.rf s2⟩
  have hk6 : k < 6 := by have := h.n.1; omega
  rw [e1, e2, if_neg (show ¬ jN 1 = 0 by decide), if_neg (show ¬ jN 1 = 0 by decide), m_down (by omega), c_copy (by omega) s s2 hr]
  simp only [Option.bind_some, pb, jn]
  obtain ⟨x, hx, h0⟩ := h.chime
  obtain ⟨w', p, hw', e3⟩ := m_late1 (W := W) (by omega) hk6 (16 - x) n 0 s pile x hM h h0 (by omega) (by omega) (by omega)
  obtain ⟨a, b, c, e4⟩ := c_late1 (W := W) (by omega) hC hr hk6 (fun o6 => some ((-3 : Int32), o6.2.1, pOf s, kOf s, rOf s, s 4, o6.2.2.1, s 1, o6.2.2.2.1, s 6, s 3, ρ, o6.2.2.2.2.1, o6.2.2.2.2.2.1, o6.2.2.2.2.2.2)) (16 - x) n s x (rOf s) (s 6) (s 3) sh fa st h h0 (by omega) (by omega)
  obtain ⟨g1, g2, g3⟩ := laF_i (W := W) k (16 - x) s h
  have hsq := sq_go g2 h.n.1
  rw [g3] at hsq
  refine ⟨laA (laF W k (16 - x) s) k, _, _, _, _, _, _, _, _, _, _, ρ, a, b, c, laF W k (16 - x) s, (fun i => if i < 65 then s i else laid i), p, e4, ?_, hr, hsq⟩
  rw [show (0 : Int32) = jN 0 from rfl, e3]
  simp only [Option.bind_some]
  rw [show X12_get (laF W k (16 - x) s) (jN k) (1 : Int32) = some ((laF W k (16 - x) s) (iD k 1)) from m_get (j := 1) hk6 (by omega)]
  simp only [Option.bind_some]
  rw [m_laid (by omega) (dn65 s laid) (g2.hi h.n.1)]
  simp only [Option.bind_some]
  unfold laA laB
  by_cases hl : (50 : Int32) ≤ (laF W k (16 - x) s) (iD k 1)
  · rw [if_neg (Int32.not_lt.mpr hl), if_pos (decide_eq_true hl), if_neg (by simp (disch := omega) only [jl_0, jl_1, jl_2, jl_3, jl_4, jl_5, jl_6, jl_7, jl_8, jl_9, jl_10, jl_11, jl_12, jl_13, jl_14, jl_15, jl_16, jl_17, jl_18, jl_20, jl_23, jl_29, jl_30, jl_31, jl_32, jl_35, jl_40, jl_48, jl_50, jl_51, jl_57, jl_60, jl_61, jl_63, jl_64, jl_65, jl_89, jl_97, jl_99, jl_100, jl_101, jl_113, jl_122, jl_200, jl_240, jl_241, jl_255, jl_259, jl_260, jl_261, jl_262, jl_313, jl_500, jl_999, jl_10000, jl_10004, jl_10005, jl_10006, jl_10007, jl_10008, jl_10009, jl_10010, jl_10011, jl_10012, jl_10013, jl_10014, jl_10015, jl_10017, jl_10018, jl_10023, jl_12345, jl_1103515245, jN_add, jN_mul, jN_sub, jN_addm, jN_div, jN_irm, jN_nat, le_T, le_F, lt_T, lt_F, eq_F, ib_T, ib_F, add_j0, if_true, if_false, eq_self, Bool.false_eq_true, Option.bind_some, pb, jn, Nat.zero_add, Nat.add_zero]; exact not_false)]
  · rw [if_pos (Int32.not_le.mp hl), if_neg (fun q => hl (of_decide_eq_true q))]
/-! marks -/
def MK (m b : Nat → Int32) (c : Nat) : Prop := m 0 = b 0 ∧ ∀ k, k < c → m (1 + k) = b (iD k 1) ∧ m (7 + k) = b (iD k 4)
theorem c_mark (hn : 7 ≤ n) (h : GS s) (m0 : Nat → Int32) : ∃ m, X9_mark_q2_mk n (dOf s) (s 4) (s 0) m0 = some m ∧ MK m s (nS s) := by
  obtain ⟨hc, h4⟩ := h.n
  have L : ∀ d q j m, j + d = nS s → d < q → MK m s j → ∃ m' v, X9_mark_q2_mk_L1 n (dOf s) (s 4) q (jN j) m = some (v, m') ∧ MK m' s (nS s) := by
    intro d
    induction d with
    | zero =>
      intro q j m hj hq hm; obtain ⟨q, rfl⟩ : ∃ z, q = z + 1 := ⟨q - 1, by omega⟩
      have hjc : j = nS s := by omega
      subst hjc
      exact ⟨m, jN (nS s), by rw [X9_mark_q2_mk_L1, h4]; simp (disch := omega) only [jl_0, jl_1, jl_2, jl_3, jl_4, jl_5, jl_6, jl_7, jl_8, jl_9, jl_10, jl_11, jl_12, jl_13, jl_14, jl_15, jl_16, jl_17, jl_18, jl_20, jl_23, jl_29, jl_30, jl_31, jl_32, jl_35, jl_40, jl_48, jl_50, jl_51, jl_57, jl_60, jl_61, jl_63, jl_64, jl_65, jl_89, jl_97, jl_99, jl_100, jl_101, jl_113, jl_122, jl_200, jl_240, jl_241, jl_255, jl_259, jl_260, jl_261, jl_262, jl_313, jl_500, jl_999, jl_10000, jl_10004, jl_10005, jl_10006, jl_10007, jl_10008, jl_10009, jl_10010, jl_10011, jl_10012, jl_10013, jl_10014, jl_10015, jl_10017, jl_10018, jl_10023, jl_12345, jl_1103515245, jN_add, jN_mul, jN_sub, jN_addm, jN_div, jN_irm, jN_nat, le_T, le_F, lt_T, lt_F, eq_F, ib_T, ib_F, add_j0, if_true, if_false, eq_self, Bool.false_eq_true, Option.bind_some, pb, jn, Nat.zero_add, Nat.add_zero], hm⟩
    | succ d ih =>
      intro q j m hj hq hm; obtain ⟨q, rfl⟩ : ∃ z, q = z + 1 := ⟨q - 1, by omega⟩
      obtain ⟨m', v, e, hm'⟩ := ih q (j + 1) (upd (upd m (1 + j) (s (iD j 1))) (7 + j) (s (iD j 4))) (by omega) (by omega) (by
        refine ⟨?_, fun k hk => ⟨?_, ?_⟩⟩
        · rw [upd_n (by omega), upd_n (by omega)]; exact hm.1
        · rw [upd_n (by omega)]
          by_cases hkj : k = j
          · subst hkj; rw [upd_s]
          · rw [upd_n (by omega)]; exact (hm.2 k (by omega)).1
        · by_cases hkj : k = j
          · subst hkj; rw [upd_s]
          · rw [upd_n (by omega), upd_n (by omega)]; exact (hm.2 k (by omega)).2)
      refine ⟨m', v, ?_, hm'⟩
      rw [← e, X9_mark_q2_mk_L1, h4]; simp (disch := omega) only [jl_0, jl_1, jl_2, jl_3, jl_4, jl_5, jl_6, jl_7, jl_8, jl_9, jl_10, jl_11, jl_12, jl_13, jl_14, jl_15, jl_16, jl_17, jl_18, jl_20, jl_23, jl_29, jl_30, jl_31, jl_32, jl_35, jl_40, jl_48, jl_50, jl_51, jl_57, jl_60, jl_61, jl_63, jl_64, jl_65, jl_89, jl_97, jl_99, jl_100, jl_101, jl_113, jl_122, jl_200, jl_240, jl_241, jl_255, jl_259, jl_260, jl_261, jl_262, jl_313, jl_500, jl_999, jl_10000, jl_10004, jl_10005, jl_10006, jl_10007, jl_10008, jl_10009, jl_10010, jl_10011, jl_10012, jl_10013, jl_10014, jl_10015, jl_10017, jl_10018, jl_10023, jl_12345, jl_1103515245, jN_add, jN_mul, jN_sub, jN_addm, jN_div, jN_irm, jN_nat, le_T, le_F, lt_T, lt_F, eq_F, ib_T, ib_F, add_j0, if_true, if_false, eq_self, Bool.false_eq_true, Option.bind_some, pb, jn, Nat.zero_add, Nat.add_zero, dOf_at]
  obtain ⟨m', v, e, hm'⟩ := L (nS s) n 0 (upd m0 0 (s 0)) (by omega) (by omega) ⟨upd_s _ _ _, fun k hk => absurd hk (by omega)⟩
  refine ⟨m', ?_, hm'⟩
  unfold X9_mark_q2_mk
  rw [show (0 : Int32) = jN 0 from rfl, e]; rfl
def baS (t m : Nat → Int32) : Nat → (Nat → Int32)
  | 0 => t
  | j + 1 => upd (upd (baS t m j) (iD j 1) (m (1 + j))) (iD j 4) (m (7 + j))
theorem baS_i {t m b : Nat → Int32} {c : Nat} (hm : MK m b c) : ∀ j, j ≤ c → (∀ k, k < j → baS t m j (iD k 1) = b (iD k 1) ∧ baS t m j (iD k 4) = b (iD k 4)) ∧ (∀ i, (∀ k, k < j → i ≠ iD k 1 ∧ i ≠ iD k 4) → baS t m j i = t i) := by
  intro j
  induction j with
  | zero => intro _; exact ⟨fun k hk => absurd hk (by omega), fun _ _ => rfl⟩
  | succ j ih =>
    intro hj
    obtain ⟨a, b2⟩ := ih (by omega)
    refine ⟨fun k hk => ⟨?_, ?_⟩, fun i hi => ?_⟩
    · show upd (upd (baS t m j) (iD j 1) (m (1 + j))) (iD j 4) (m (7 + j)) (iD k 1) = _
      rw [upd_n (by unfold iD; omega)]
      by_cases hkj : k = j
      · subst hkj; rw [upd_s, (hm.2 k (by omega)).1]
      · rw [upd_n (by unfold iD; omega)]; exact (a k (by omega)).1
    · show upd (upd (baS t m j) (iD j 1) (m (1 + j))) (iD j 4) (m (7 + j)) (iD k 4) = _
      by_cases hkj : k = j
      · subst hkj; rw [upd_s, (hm.2 k (by omega)).2]
      · rw [upd_n (by unfold iD; omega), upd_n (by unfold iD; omega)]; exact (a k (by omega)).2
    · show upd (upd (baS t m j) (iD j 1) (m (1 + j))) (iD j 4) (m (7 + j)) i = _
      have := hi j (by omega)
      rw [upd_n this.2, upd_n this.1]; exact b2 i (fun k hk => hi k (by omega))
/-- what was marked comes back -/
theorem c_back (hn : 7 ≤ n) {t b m : Nat → Int32} (hb : GS b) (hf : FG t b) (hm : MK m b (nS b)) : X9_back_q2_mk n (dOf t) (b 4) m = some (dOf b, b 0) := by
  obtain ⟨hc, h4⟩ := hb.n
  have L : X9_back_q2_mk_L1 n (b 4) m n (jN 0) (dOf t) = some (jN (nS b), dOf (baS t m (nS b))) := by
    refine lp_0 (fun q j => X9_back_q2_mk_L1 n (b 4) m q (jN j) (dOf (baS t m j))) (nS b) (by omega) (fun q j hj => ?_) (fun q => ?_)
    · show X9_back_q2_mk_L1 n (b 4) m (q + 1) (jN j) (dOf (baS t m j)) = X9_back_q2_mk_L1 n (b 4) m q (jN (j + 1)) (dOf (upd (upd (baS t m j) (iD j 1) (m (1 + j))) (iD j 4) (m (7 + j))))
      rw [X9_back_q2_mk_L1, h4]; simp (disch := omega) only [jl_0, jl_1, jl_2, jl_3, jl_4, jl_5, jl_6, jl_7, jl_8, jl_9, jl_10, jl_11, jl_12, jl_13, jl_14, jl_15, jl_16, jl_17, jl_18, jl_20, jl_23, jl_29, jl_30, jl_31, jl_32, jl_35, jl_40, jl_48, jl_50, jl_51, jl_57, jl_60, jl_61, jl_63, jl_64, jl_65, jl_89, jl_97, jl_99, jl_100, jl_101, jl_113, jl_122, jl_200, jl_240, jl_241, jl_255, jl_259, jl_260, jl_261, jl_262, jl_313, jl_500, jl_999, jl_10000, jl_10004, jl_10005, jl_10006, jl_10007, jl_10008, jl_10009, jl_10010, jl_10011, jl_10012, jl_10013, jl_10014, jl_10015, jl_10017, jl_10018, jl_10023, jl_12345, jl_1103515245, jN_add, jN_mul, jN_sub, jN_addm, jN_div, jN_irm, jN_nat, le_T, le_F, lt_T, lt_F, eq_F, ib_T, ib_F, add_j0, if_true, if_false, eq_self, Bool.false_eq_true, Option.bind_some, pb, jn, Nat.zero_add, Nat.add_zero, dOf_up]
    · show X9_back_q2_mk_L1 n (b 4) m (q + 1) (jN (nS b)) _ = _
      rw [X9_back_q2_mk_L1, h4]; simp (disch := omega) only [jl_0, jl_1, jl_2, jl_3, jl_4, jl_5, jl_6, jl_7, jl_8, jl_9, jl_10, jl_11, jl_12, jl_13, jl_14, jl_15, jl_16, jl_17, jl_18, jl_20, jl_23, jl_29, jl_30, jl_31, jl_32, jl_35, jl_40, jl_48, jl_50, jl_51, jl_57, jl_60, jl_61, jl_63, jl_64, jl_65, jl_89, jl_97, jl_99, jl_100, jl_101, jl_113, jl_122, jl_200, jl_240, jl_241, jl_255, jl_259, jl_260, jl_261, jl_262, jl_313, jl_500, jl_999, jl_10000, jl_10004, jl_10005, jl_10006, jl_10007, jl_10008, jl_10009, jl_10010, jl_10011, jl_10012, jl_10013, jl_10014, jl_10015, jl_10017, jl_10018, jl_10023, jl_12345, jl_1103515245, jN_add, jN_mul, jN_sub, jN_addm, jN_div, jN_irm, jN_nat, le_T, le_F, lt_T, lt_F, eq_F, ib_T, ib_F, add_j0, if_true, if_false, eq_self, Bool.false_eq_true, Option.bind_some, pb, jn, Nat.zero_add, Nat.add_zero]
  unfold X9_back_q2_mk
  rw [show (0 : Int32) = jN 0 from rfl, L]
  simp only [Option.bind_some]
  obtain ⟨a1, a2⟩ := baS_i (t := t) hm (nS b) (Nat.le_refl _)
  rw [hm.1]
  congr 2
  refine dOf_cg (fun i h1 h2 => ?_)
  by_cases hi : ∃ k, k < nS b ∧ (i = iD k 1 ∨ i = iD k 4)
  · obtain ⟨k, hk, hk2⟩ := hi
    rcases hk2 with rfl | rfl
    · exact (a1 k hk).1
    · exact (a1 k hk).2
  · have hi' : ∀ k, k < nS b → i ≠ iD k 1 ∧ i ≠ iD k 4 := fun k hk => ⟨fun q => hi ⟨k, hk, Or.inl q⟩, fun q => hi ⟨k, hk, Or.inr q⟩⟩
    rw [a2 i hi']
    exact hf i (by omega) (by omega) (by omega) hi'
end OPS5
