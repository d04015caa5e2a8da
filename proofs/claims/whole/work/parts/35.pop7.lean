section OPS7
variable {n ρ nr : Nat} {gc : Nat → Int32} {gk gw gs gd : Nat → Nat → Int32} {kl wl sl cl : Nat → Nat} {W : Int32 → (Nat → Int32) → Int32} {s : Nat → Int32}
/-! times -/
def tmX (p : Int32 × Int32) (r : Int32 × (Nat → Int32)) (v : Int32) : Int32 × Int32 := (if r.1 < v then p.1 else p.1 + 1, r.2 3)
def tmF (W : Int32 → (Nat → Int32) → Int32) (s : Nat → Int32) (v : Int32) : Nat → Int32 × Int32
  | 0 => (0, s 3)
  | i + 1 => tmX (tmF W s v i) (loF W 16 (0, upd s 3 (tmF W s v i).2)) v
theorem m_lots (hn : 20 ≤ n) : ∀ (d m : Nat) (x : Int32 × (Nat → Int32)) (pile : Nat → Int32) (c : Nat), RM n x.2 W → GS x.2 → x.2 0 = jN c → 16 ≤ c + d → c ≤ 16 → d < m → ∃ pile', X12_times_L2 n m x.1 x.2 pile = some ((loF W d x).1, (loF W d x).2, pile') := by
  intro d
  induction d with
  | zero =>
    intro m x pile c hM h h0 hc hc2 hm; obtain ⟨m, rfl⟩ : ∃ q, m = q + 1 := ⟨m - 1, by omega⟩
    refine ⟨pile, ?_⟩
    rw [X12_times_L2, m_oF (ov_16 h h0 (by omega)), if_neg (by decide)]; rfl
  | succ d ih =>
    intro m x pile c hM h h0 hc hc2 hm; obtain ⟨m, rfl⟩ : ∃ q, m = q + 1 := ⟨m - 1, by omega⟩
    obtain ⟨w, u⟩ := x
    dsimp only at *
    rw [X12_times_L2]
    unfold loF; dsimp only
    by_cases hq : goB u = true
    · obtain ⟨p1, e1⟩ := m_byLot (W := W) (by omega) hM h pile
      obtain ⟨g1, g2⟩ := loG_i (W := W) h (of_decide_eq_true hq)
      have hc3 : c < 16 := by
        by_cases hh : c = 16
        · exact absurd hq (ov_16 h h0 hh)
        · omega
      obtain ⟨h1, h2⟩ := up3_i h (zN u)
      have h0' : (loG W u).2 0 = jN (c + 1) := by unfold loG; rw [goW_0, upd_n (by omega), h0]; simp (disch := omega) only [jl_0, jl_1, jl_2, jl_3, jl_4, jl_5, jl_6, jl_7, jl_8, jl_9, jl_10, jl_11, jl_12, jl_13, jl_14, jl_15, jl_16, jl_17, jl_18, jl_20, jl_23, jl_29, jl_30, jl_31, jl_32, jl_35, jl_40, jl_48, jl_50, jl_51, jl_57, jl_60, jl_61, jl_63, jl_64, jl_65, jl_89, jl_97, jl_99, jl_100, jl_101, jl_113, jl_122, jl_200, jl_240, jl_241, jl_255, jl_259, jl_260, jl_261, jl_262, jl_313, jl_500, jl_999, jl_10000, jl_10004, jl_10005, jl_10006, jl_10007, jl_10008, jl_10009, jl_10010, jl_10011, jl_10012, jl_10013, jl_10014, jl_10015, jl_10017, jl_10018, jl_10023, jl_12345, jl_1103515245, jN_add, jN_mul, jN_sub, jN_addm, jN_div, jN_irm, jN_nat, le_T, le_F, lt_T, lt_F, eq_F, ib_T, ib_F, add_j0, if_true, if_false, eq_self, Bool.false_eq_true, Option.bind_some, pb, jn, Nat.zero_add, Nat.add_zero]
      obtain ⟨p2, e2⟩ := ih m (w + (loG W u).1, (loG W u).2) p1 (c + 1) (hM.go g2 h.n.1) g1 h0' (by omega) (by omega) (by omega)
      refine ⟨p2, ?_⟩
      rw [m_oT hq, if_pos rfl, if_pos hq, e1, ← e2]; rfl
    · refine ⟨pile, ?_⟩
      rw [m_oF hq, if_neg (by decide), if_neg hq]
theorem m_times1 (hn : 70 ≤ n) (hM : RM n s W) (h : GS s) {l : Nat → Int32} (hl : ∀ i, i < 65 → l i = s i) (c : Nat) (hc : c ≤ 40) (v : Int32) : ∀ (d m j : Nat) (pile : Nat → Int32), j + d = c → d < m → ∃ a pile', X12_times_L1 n l (jN c) v m (tmF W s v j).1 (jN j) (upd s 3 (tmF W s v j).2) pile = some ((tmF W s v c).1, a, upd s 3 (tmF W s v c).2, pile') := by
  intro d
  induction d with
  | zero =>
    intro m j pile hj hm; obtain ⟨m, rfl⟩ : ∃ q, m = q + 1 := ⟨m - 1, by omega⟩
    have hjc : j = c := by omega
    subst hjc
    refine ⟨jN j, pile, ?_⟩
    rw [X12_times_L1, if_pos (show jN j ≤ jN j by simp (disch := omega) only [jl_0, jl_1, jl_2, jl_3, jl_4, jl_5, jl_6, jl_7, jl_8, jl_9, jl_10, jl_11, jl_12, jl_13, jl_14, jl_15, jl_16, jl_17, jl_18, jl_20, jl_23, jl_29, jl_30, jl_31, jl_32, jl_35, jl_40, jl_48, jl_50, jl_51, jl_57, jl_60, jl_61, jl_63, jl_64, jl_65, jl_89, jl_97, jl_99, jl_100, jl_101, jl_113, jl_122, jl_200, jl_240, jl_241, jl_255, jl_259, jl_260, jl_261, jl_262, jl_313, jl_500, jl_999, jl_10000, jl_10004, jl_10005, jl_10006, jl_10007, jl_10008, jl_10009, jl_10010, jl_10011, jl_10012, jl_10013, jl_10014, jl_10015, jl_10017, jl_10018, jl_10023, jl_12345, jl_1103515245, jN_add, jN_mul, jN_sub, jN_addm, jN_div, jN_irm, jN_nat, le_T, le_F, lt_T, lt_F, eq_F, ib_T, ib_F, add_j0, if_true, if_false, eq_self, Bool.false_eq_true, Option.bind_some, pb, jn, Nat.zero_add, Nat.add_zero, Nat.le_refl])]
  | succ d ih =>
    intro m j pile hj hm; obtain ⟨m, rfl⟩ : ∃ q, m = q + 1 := ⟨m - 1, by omega⟩
    obtain ⟨h1, h2⟩ := up3_i h (tmF W s v j).2
    obtain ⟨x, hx, h0⟩ := h1.chime
    obtain ⟨p, e1⟩ := m_lots (W := W) (by omega) 16 n (0, upd s 3 (tmF W s v j).2) pile x (hM.go h2 h.n.1) h1 h0 (by omega) hx (by omega)
    obtain ⟨q1, q2⟩ := loF_i (W := W) h1 16 0
    have hn6 : nS (upd s 3 (tmF W s v j).2) ≤ 6 := h1.n.1
    obtain ⟨a, p2, e2⟩ := ih m (j + 1) p (by omega) (by omega)
    refine ⟨a, p2, ?_⟩
    rw [X12_times_L1, if_neg (show ¬ jN c ≤ jN j by simp (disch := omega) only [jl_0, jl_1, jl_2, jl_3, jl_4, jl_5, jl_6, jl_7, jl_8, jl_9, jl_10, jl_11, jl_12, jl_13, jl_14, jl_15, jl_16, jl_17, jl_18, jl_20, jl_23, jl_29, jl_30, jl_31, jl_32, jl_35, jl_40, jl_48, jl_50, jl_51, jl_57, jl_60, jl_61, jl_63, jl_64, jl_65, jl_89, jl_97, jl_99, jl_100, jl_101, jl_113, jl_122, jl_200, jl_240, jl_241, jl_255, jl_259, jl_260, jl_261, jl_262, jl_313, jl_500, jl_999, jl_10000, jl_10004, jl_10005, jl_10006, jl_10007, jl_10008, jl_10009, jl_10010, jl_10011, jl_10012, jl_10013, jl_10014, jl_10015, jl_10017, jl_10018, jl_10023, jl_12345, jl_1103515245, jN_add, jN_mul, jN_sub, jN_addm, jN_div, jN_irm, jN_nat, le_T, le_F, lt_T, lt_F, eq_F, ib_T, ib_F, add_j0, if_true, if_false, eq_self, Bool.false_eq_true, Option.bind_some, pb, jn, Nat.zero_add, Nat.add_zero]; exact not_false), show X12_times_L2 n n (0 : Int32) (upd s 3 (tmF W s v j).2) pile = _ from e1]
    simp only [Option.bind_some, pb]
    rw [m_laid (by omega) hl (fun i hi => (q2.hi hn6 i hi).trans (upd_n (by omega)))]
    simp only [Option.bind_some]
    rw [← e2, show jN j + 1 = jN (j + 1) from by simp (disch := omega) only [jl_0, jl_1, jl_2, jl_3, jl_4, jl_5, jl_6, jl_7, jl_8, jl_9, jl_10, jl_11, jl_12, jl_13, jl_14, jl_15, jl_16, jl_17, jl_18, jl_20, jl_23, jl_29, jl_30, jl_31, jl_32, jl_35, jl_40, jl_48, jl_50, jl_51, jl_57, jl_60, jl_61, jl_63, jl_64, jl_65, jl_89, jl_97, jl_99, jl_100, jl_101, jl_113, jl_122, jl_200, jl_240, jl_241, jl_255, jl_259, jl_260, jl_261, jl_262, jl_313, jl_500, jl_999, jl_10000, jl_10004, jl_10005, jl_10006, jl_10007, jl_10008, jl_10009, jl_10010, jl_10011, jl_10012, jl_10013, jl_10014, jl_10015, jl_10017, jl_10018, jl_10023, jl_12345, jl_1103515245, jN_add, jN_mul, jN_sub, jN_addm, jN_div, jN_irm, jN_nat, le_T, le_F, lt_T, lt_F, eq_F, ib_T, ib_F, add_j0, if_true, if_false, eq_self, Bool.false_eq_true, Option.bind_some, pb, jn, Nat.zero_add, Nat.add_zero]]
    show X12_times_L1 n l (jN c) v m ((tmF W s v j).1 + (if (loF W 16 (0, upd s 3 (tmF W s v j).2)).1 < v then 0 else 1)) _ _ p = X12_times_L1 n l (jN c) v m (if (loF W 16 (0, upd s 3 (tmF W s v j).2)).1 < v then (tmF W s v j).1 else (tmF W s v j).1 + 1) _ (upd s 3 ((loF W 16 (0, upd s 3 (tmF W s v j).2)).2 3)) p
    by_cases hq : (loF W 16 (0, upd s 3 (tmF W s v j).2)).1 < v
    · rw [if_pos hq, if_pos hq, Int32.add_zero]
    · rw [if_neg hq, if_neg hq]
theorem c_times1 (hn : 70 ≤ n) (hC : RC n ρ gc gk gw gs gd kl wl sl cl W) (hr : ρ < nr) (h : GS s) {mk : Nat → Int32} (hmk : MK mk s (nS s)) (c : Nat) (hc : c ≤ 40) (v : Int32) : ∀ (d m j : Nat) (t : Nat → Int32) (sh fa : Nat → Int32) (st : Nat → Nat → Int32), FG t s → t 3 = (tmF W s v j).2 → j + d = c → d < m → ∃ a t' sh' fa' st', X11_times_L1 n (pOf s) (kOf s) (s 4) (s 1) ρ mk gc gk gw gs gd kl wl sl cl nr (jN c) v m (tmF W s v j).1 (jN j) (dOf t) (t 0) (t 2) (t 3) sh fa st = some ((tmF W s v c).1, a, dOf t', t' 0, t' 2, t' 3, sh', fa', st') ∧ FG t' s := by
  intro d
  induction d with
  | zero =>
    intro m j t sh fa st hft ht3 hj hm; obtain ⟨m, rfl⟩ : ∃ q, m = q + 1 := ⟨m - 1, by omega⟩
    have hjc : j = c := by omega
    subst hjc
    refine ⟨jN j, t, sh, fa, st, ?_, hft⟩
    rw [X11_times_L1, if_pos (show jN j ≤ jN j by simp (disch := omega) only [jl_0, jl_1, jl_2, jl_3, jl_4, jl_5, jl_6, jl_7, jl_8, jl_9, jl_10, jl_11, jl_12, jl_13, jl_14, jl_15, jl_16, jl_17, jl_18, jl_20, jl_23, jl_29, jl_30, jl_31, jl_32, jl_35, jl_40, jl_48, jl_50, jl_51, jl_57, jl_60, jl_61, jl_63, jl_64, jl_65, jl_89, jl_97, jl_99, jl_100, jl_101, jl_113, jl_122, jl_200, jl_240, jl_241, jl_255, jl_259, jl_260, jl_261, jl_262, jl_313, jl_500, jl_999, jl_10000, jl_10004, jl_10005, jl_10006, jl_10007, jl_10008, jl_10009, jl_10010, jl_10011, jl_10012, jl_10013, jl_10014, jl_10015, jl_10017, jl_10018, jl_10023, jl_12345, jl_1103515245, jN_add, jN_mul, jN_sub, jN_addm, jN_div, jN_irm, jN_nat, le_T, le_F, lt_T, lt_F, eq_F, ib_T, ib_F, add_j0, if_true, if_false, eq_self, Bool.false_eq_true, Option.bind_some, pb, jn, Nat.zero_add, Nat.add_zero, Nat.le_refl])]
  | succ d ih =>
    intro m j t sh fa st hft ht3 hj hm; obtain ⟨m, rfl⟩ : ∃ q, m = q + 1 := ⟨m - 1, by omega⟩
    have e1 := c_back (n := n) (by omega) h hft hmk
    obtain ⟨h1, h2⟩ := up3_i h (tmF W s v j).2
    have hE := E2.of (upd s 3 (tmF W s v j).2) (t 2)
    have hG : GS (upd (upd s 3 (tmF W s v j).2) 2 (t 2)) := hE.gs h1
    obtain ⟨a, b, cc, e2⟩ := c_byLot (W := W) (by omega) hC hr hG 16 (by omega) sh fa st
    obtain ⟨hw, hw2⟩ := hE.lo (W := W) 16 0
    rw [hE.dOfE, hE.pOfE, hE.kOfE, dOf_D (by omega), pOf_D (by omega), kOf_D (by omega), hE 4 (by omega), hE 0 (by omega), hE 1 (by omega), hE 3 (by omega), upd_s, upd_s, upd_n (show 4 ≠ 3 by omega), upd_n (show 0 ≠ 3 by omega), upd_n (show 1 ≠ 3 by omega), hw] at e2
    obtain ⟨q1, q2⟩ := loF_i (W := W) hG 16 0
    have hn6 := h.n.1
    have q2' : FG (loF W 16 (0, upd (upd s 3 (tmF W s v j).2) 2 (t 2))).2 s := q2.trans ((h2).up' (Or.inr (Or.inl rfl))) hn6
    obtain ⟨a2, t2, sh2, fa2, st2, e3, r1⟩ := ih m (j + 1) _ a b cc q2' (show (loF W 16 (0, upd (upd s 3 (tmF W s v j).2) 2 (t 2))).2 3 = (loF W 16 (0, upd s 3 (tmF W s v j).2)).2 3 from hw2 3 (by omega)) (by omega) (by omega)
    refine ⟨a2, t2, sh2, fa2, st2, ?_, r1⟩
    rw [X11_times_L1, if_neg (show ¬ jN c ≤ jN j by simp (disch := omega) only [jl_0, jl_1, jl_2, jl_3, jl_4, jl_5, jl_6, jl_7, jl_8, jl_9, jl_10, jl_11, jl_12, jl_13, jl_14, jl_15, jl_16, jl_17, jl_18, jl_20, jl_23, jl_29, jl_30, jl_31, jl_32, jl_35, jl_40, jl_48, jl_50, jl_51, jl_57, jl_60, jl_61, jl_63, jl_64, jl_65, jl_89, jl_97, jl_99, jl_100, jl_101, jl_113, jl_122, jl_200, jl_240, jl_241, jl_255, jl_259, jl_260, jl_261, jl_262, jl_313, jl_500, jl_999, jl_10000, jl_10004, jl_10005, jl_10006, jl_10007, jl_10008, jl_10009, jl_10010, jl_10011, jl_10012, jl_10013, jl_10014, jl_10015, jl_10017, jl_10018, jl_10023, jl_12345, jl_1103515245, jN_add, jN_mul, jN_sub, jN_addm, jN_div, jN_irm, jN_nat, le_T, le_F, lt_T, lt_F, eq_F, ib_T, ib_F, add_j0, if_true, if_false, eq_self, Bool.false_eq_true, Option.bind_some, pb, jn, Nat.zero_add, Nat.add_zero]; exact not_false), e1]
    simp only [Option.bind_some]
    rw [q2_byLot, ht3, show (16 : Int32) = jN 16 from rfl, e2]
    simp only [Option.bind_some, pb]
    rw [← e3, show jN j + 1 = jN (j + 1) from by simp (disch := omega) only [jl_0, jl_1, jl_2, jl_3, jl_4, jl_5, jl_6, jl_7, jl_8, jl_9, jl_10, jl_11, jl_12, jl_13, jl_14, jl_15, jl_16, jl_17, jl_18, jl_20, jl_23, jl_29, jl_30, jl_31, jl_32, jl_35, jl_40, jl_48, jl_50, jl_51, jl_57, jl_60, jl_61, jl_63, jl_64, jl_65, jl_89, jl_97, jl_99, jl_100, jl_101, jl_113, jl_122, jl_200, jl_240, jl_241, jl_255, jl_259, jl_260, jl_261, jl_262, jl_313, jl_500, jl_999, jl_10000, jl_10004, jl_10005, jl_10006, jl_10007, jl_10008, jl_10009, jl_10010, jl_10011, jl_10012, jl_10013, jl_10014, jl_10015, jl_10017, jl_10018, jl_10023, jl_12345, jl_1103515245, jN_add, jN_mul, jN_sub, jN_addm, jN_div, jN_irm, jN_nat, le_T, le_F, lt_T, lt_F, eq_F, ib_T, ib_F, add_j0, if_true, if_false, eq_self, Bool.false_eq_true, Option.bind_some, pb, jn, Nat.zero_add, Nat.add_zero]]
    rfl
theorem o_times (hn : 70 ≤ n) (hC : RC n ρ gc gk gw gs gd kl wl sl cl W) (hr : ρ < nr) (hM : RM n s W) (h : GS s) (s2 : Nat → Int32) {ρ2 : Nat} (hr2 : ρ2 < nr) (sh fa mk : Nat → Int32) (st : Nat → Nat → Int32) (laid pile : Nat → Int32) (v1 v2 : Int32) :
    ∃ r d2 p2 k2 r2 c2 ch2 e2 sc2 rc2 z2 ρ2' sh' fa' mk' st' u2 laid' pile', X11_times n (dOf s) (pOf s) (kOf s) (rOf s) (s 4) (s 0) (s 1) (s 2) (s 6) (s 3) ρ (dOf s2) (pOf s2) (kOf s2) (rOf s2) (s2 4) (s2 0) (s2 1) (s2 2) (s2 6) (s2 3) ρ2 sh fa mk gc gk gw gs gd st kl wl sl cl nr v1 v2 = some (r, d2, p2, k2, r2, c2, ch2, e2, sc2, rc2, z2, ρ2', sh', fa', mk', st') ∧ X12_times n s laid pile v1 v2 = some (r, s, laid', pile') ∧ ρ2' < nr ∧ SQ d2 p2 k2 r2 c2 ch2 e2 sc2 rc2 z2 u2 := by
  unfold X11_times X12_times
  rw [isIn_eq]
  rcases in1_or v1 1 40 (by decide) (by decide) with e1 | ⟨c, hc1, hc2, rfl⟩
  · exact ⟨-1, _, _, _, _, _, _, _, _, _, _, ρ2, sh, fa, mk, st, s2, laid, pile, by simp (disch := omega) only [jl_0, jl_1, jl_2, jl_3, jl_4, jl_5, jl_6, jl_7, jl_8, jl_9, jl_10, jl_11, jl_12, jl_13, jl_14, jl_15, jl_16, jl_17, jl_18, jl_20, jl_23, jl_29, jl_30, jl_31, jl_32, jl_35, jl_40, jl_48, jl_50, jl_51, jl_57, jl_60, jl_61, jl_63, jl_64, jl_65, jl_89, jl_97, jl_99, jl_100, jl_101, jl_113, jl_122, jl_200, jl_240, jl_241, jl_255, jl_259, jl_260, jl_261, jl_262, jl_313, jl_500, jl_999, jl_10000, jl_10004, jl_10005, jl_10006, jl_10007, jl_10008, jl_10009, jl_10010, jl_10011, jl_10012, jl_10013, jl_10014, jl_10015, jl_10017, jl_10018, jl_10023, jl_12345, jl_1103515245, jN_add, jN_mul, jN_sub, jN_addm, jN_div, jN_irm, jN_nat, le_T, le_F, lt_T, lt_F, eq_F, ib_T, ib_F, add_j0, if_true, if_false, eq_self, Bool.false_eq_true, Option.bind_some, pb, jn, Nat.zero_add, Nat.add_zero, e1], by simp (disch := omega) only [jl_0, jl_1, jl_2, jl_3, jl_4, jl_5, jl_6, jl_7, jl_8, jl_9, jl_10, jl_11, jl_12, jl_13, jl_14, jl_15, jl_16, jl_17, jl_18, jl_20, jl_23, jl_29, jl_30, jl_31, jl_32, jl_35, jl_40, jl_48, jl_50, jl_51, jl_57, jl_60, jl_61, jl_63, jl_64, jl_65, jl_89, jl_97, jl_99, jl_100, jl_101, jl_113, jl_122, jl_200, jl_240, jl_241, jl_255, jl_259, jl_260, jl_261, jl_262, jl_313, jl_500, jl_999, jl_10000, jl_10004, jl_10005, jl_10006, jl_10007, jl_10008, jl_10009, jl_10010, jl_10011, jl_10012, jl_10013, jl_10014, jl_10015, jl_10017, jl_10018, jl_10023, jl_12345, jl_1103515245, jN_add, jN_mul, jN_sub, jN_addm, jN_div, jN_irm, jN_nat, le_T, le_F, lt_T, lt_F, eq_F, ib_T, ib_F, add_j0, if_true, if_false, eq_self, Bool.false_eq_true, Option.bind_some, pb, jn, Nat.zero_add, Nat.add_zero, e1], hr2, SQ.rf s2⟩
  have ec : X12_in1 (jN c) (1 : Int32) (40 : Int32) = jN 1 := in1_T hc1 hc2 (by decide)
  rw [ec, if_neg (show ¬ jN 1 = 0 by decide), if_neg (show ¬ jN 1 = 0 by decide)]
  rcases in1_or v2 0 999 (by decide) (by decide) with e1 | ⟨v, hv1, hv2, rfl⟩
  · exact ⟨-1, _, _, _, _, _, _, _, _, _, _, ρ2, sh, fa, mk, st, s2, laid, pile, by simp (disch := omega) only [jl_0, jl_1, jl_2, jl_3, jl_4, jl_5, jl_6, jl_7, jl_8, jl_9, jl_10, jl_11, jl_12, jl_13, jl_14, jl_15, jl_16, jl_17, jl_18, jl_20, jl_23, jl_29, jl_30, jl_31, jl_32, jl_35, jl_40, jl_48, jl_50, jl_51, jl_57, jl_60, jl_61, jl_63, jl_64, jl_65, jl_89, jl_97, jl_99, jl_100, jl_101, jl_113, jl_122, jl_200, jl_240, jl_241, jl_255, jl_259, jl_260, jl_261, jl_262, jl_313, jl_500, jl_999, jl_10000, jl_10004, jl_10005, jl_10006, jl_10007, jl_10008, jl_10009, jl_10010, jl_10011, jl_10012, jl_10013, jl_10014, jl_10015, jl_10017, jl_10018, jl_10023, jl_12345, jl_1103515245, jN_add, jN_mul, jN_sub, jN_addm, jN_div, jN_irm, jN_nat, le_T, le_F, lt_T, lt_F, eq_F, ib_T, ib_F, add_j0, if_true, if_false, eq_self, Bool.false_eq_true, Option.bind_some, pb, jn, Nat.zero_add, Nat.add_zero, e1], by simp (disch := omega) only [jl_0, jl_1, jl_2, jl_3, jl_4, jl_5, jl_6, jl_7, jl_8, jl_9, jl_10, jl_11, jl_12, jl_13, jl_14, jl_15, jl_16, jl_17, jl_18, jl_20, jl_23, jl_29, jl_30, jl_31, jl_32, jl_35, jl_40, jl_48, jl_50, jl_51, jl_57, jl_60, jl_61, jl_63, jl_64, jl_65, jl_89, jl_97, jl_99, jl_100, jl_101, jl_113, jl_122, jl_200, jl_240, jl_241, jl_255, jl_259, jl_260, jl_261, jl_262, jl_313, jl_500, jl_999, jl_10000, jl_10004, jl_10005, jl_10006, jl_10007, jl_10008, jl_10009, jl_10010, jl_10011, jl_10012, jl_10013, jl_10014, jl_10015, jl_10017, jl_10018, jl_10023, jl_12345, jl_1103515245, jN_add, jN_mul, jN_sub, jN_addm, jN_div, jN_irm, jN_nat, le_T, le_F, lt_T, lt_F, eq_F, ib_T, ib_F, add_j0, if_true, if_false, eq_self, Bool.false_eq_true, Option.bind_some, pb, jn, Nat.zero_add, Nat.add_zero, e1], hr2, SQ.rf s2⟩
  have ev : X12_in1 (jN v) (0 : Int32) (999 : Int32) = jN 1 := in1_T hv1 hv2 (by decide)
  rw [ev, if_neg (show ¬ jN 1 = 0 by decide), if_neg (show ¬ jN 1 = 0 by decide)]
  obtain ⟨m, e1, hm⟩ := c_mark (n := n) (by omega) h mk
  obtain ⟨a, t', sh', fa', st', e2, r1⟩ := c_times1 (W := W) hn hC hr h hm c hc2 (jN v) c n 0 s sh fa st (FG.refl s) rfl (by omega) (by omega)
  obtain ⟨a3, p, e4⟩ := m_times1 (W := W) hn hM h (dn65 s laid) c hc2 (jN v) c n 0 pile (by omega) (by omega)
  rw [show upd s 3 (tmF W s (jN v) 0).2 = s from upd_self rfl] at e4
  have hsq := sq_go r1 h.n.1
  refine ⟨(tmF W s (jN v) c).1, _, _, _, _, _, _, _, _, _, _, ρ, sh', fa', m, st', t', (fun i => if i < 65 then s i else laid i), p, ?_, ?_, hr, hsq⟩
  · rw [c_copy (by omega) s s2 hr]
    simp only [Option.bind_some]
    rw [e1]
    simp only [Option.bind_some]
    rw [show X11_times_L1 n (pOf s) (kOf s) (s 4) (s 1) ρ m gc gk gw gs gd kl wl sl cl nr (jN c) (jN v) n (0 : Int32) (0 : Int32) (dOf s) (s 0) (s 2) (s 3) sh fa st = _ from e2]
    rfl
  · rw [m_down (by omega)]
    simp only [Option.bind_some]
    rw [show X12_times_L1 n (fun i => if i < 65 then s i else laid i) (jN c) (jN v) n (0 : Int32) (0 : Int32) s pile = _ from e4]
    simp only [Option.bind_some]
    rw [m_laid (by omega) (dn65 s laid) (fun i hi => upd_n (by omega))]
    rfl
/-! the middle -/
def amS (s : Nat → Int32) (k : Nat) : Nat → Int32
  | 0 => 0
  | o + 1 => amS s k o + X12_apart (s (iD k 1)) (s (iD o 1))
def miX (p : Int32 × Int32) (a : Int32) (k : Nat) : Int32 × Int32 := if p.1 = -3 then (jN k, a) else if p.2 ≤ a then p else (jN k, a)
def miS (s : Nat → Int32) : Nat → Int32 × Int32
  | 0 => (-3, 0)
  | k + 1 => miX (miS s k) (amS s k (nS s)) k
theorem miS_i (s : Nat → Int32) : ∀ k, k ≤ 6 → (miS s k).1 = -3 ∨ ∃ j, j < 6 ∧ (miS s k).1 = jN j := by
  intro k
  induction k with
  | zero => intro _; exact Or.inl rfl
  | succ k ih =>
    intro hk
    show (miX (miS s k) (amS s k (nS s)) k).1 = -3 ∨ ∃ j, j < 6 ∧ (miX (miS s k) (amS s k (nS s)) k).1 = jN j
    unfold miX; split
    · exact Or.inr ⟨k, by omega, rfl⟩
    · split
      · exact ih (by omega)
      · exact Or.inr ⟨k, by omega, rfl⟩
theorem o_middle (h : GS s) (hn : 20 ≤ n) : ∃ r, X11_middle n (dOf s) (s 4) = some r ∧ X12_middle n s = some r := by
  obtain ⟨hc, h4⟩ := h.n
  have A : ∀ k, k < 6 → X9_apartFromAll_q0 n (dOf s) (s 4) (jN k) = some (amS s k (nS s)) := by
    intro k hk
    have L : X9_apartFromAll_q0_L1 n (dOf s) (s 4) (jN k) n (jN 0) (jN 0) = some (amS s k (nS s), jN (nS s)) := by
      refine lp_0 (fun q j => X9_apartFromAll_q0_L1 n (dOf s) (s 4) (jN k) q (amS s k j) (jN j)) (nS s) (by omega) (fun q j hj => ?_) (fun q => ?_)
      · obtain ⟨x, hx, e1⟩ := h.lag hk
        obtain ⟨y, hy, e2⟩ := h.lag (k := j) (by omega)
        show X9_apartFromAll_q0_L1 n (dOf s) (s 4) (jN k) (q + 1) (amS s k j) (jN j) = X9_apartFromAll_q0_L1 n (dOf s) (s 4) (jN k) q (amS s k j + X12_apart (s (iD k 1)) (s (iD j 1))) (jN (j + 1))
        rw [X9_apartFromAll_q0_L1, h4, e1, e2, apart_sym (by omega) (by omega)]; simp (disch := omega) only [jl_0, jl_1, jl_2, jl_3, jl_4, jl_5, jl_6, jl_7, jl_8, jl_9, jl_10, jl_11, jl_12, jl_13, jl_14, jl_15, jl_16, jl_17, jl_18, jl_20, jl_23, jl_29, jl_30, jl_31, jl_32, jl_35, jl_40, jl_48, jl_50, jl_51, jl_57, jl_60, jl_61, jl_63, jl_64, jl_65, jl_89, jl_97, jl_99, jl_100, jl_101, jl_113, jl_122, jl_200, jl_240, jl_241, jl_255, jl_259, jl_260, jl_261, jl_262, jl_313, jl_500, jl_999, jl_10000, jl_10004, jl_10005, jl_10006, jl_10007, jl_10008, jl_10009, jl_10010, jl_10011, jl_10012, jl_10013, jl_10014, jl_10015, jl_10017, jl_10018, jl_10023, jl_12345, jl_1103515245, jN_add, jN_mul, jN_sub, jN_addm, jN_div, jN_irm, jN_nat, le_T, le_F, lt_T, lt_F, eq_F, ib_T, ib_F, add_j0, if_true, if_false, eq_self, Bool.false_eq_true, Option.bind_some, pb, jn, Nat.zero_add, Nat.add_zero, dOf_at, e1, e2, absi_j]
      · show X9_apartFromAll_q0_L1 n (dOf s) (s 4) (jN k) (q + 1) _ (jN (nS s)) = _
        rw [X9_apartFromAll_q0_L1, h4]; simp (disch := omega) only [jl_0, jl_1, jl_2, jl_3, jl_4, jl_5, jl_6, jl_7, jl_8, jl_9, jl_10, jl_11, jl_12, jl_13, jl_14, jl_15, jl_16, jl_17, jl_18, jl_20, jl_23, jl_29, jl_30, jl_31, jl_32, jl_35, jl_40, jl_48, jl_50, jl_51, jl_57, jl_60, jl_61, jl_63, jl_64, jl_65, jl_89, jl_97, jl_99, jl_100, jl_101, jl_113, jl_122, jl_200, jl_240, jl_241, jl_255, jl_259, jl_260, jl_261, jl_262, jl_313, jl_500, jl_999, jl_10000, jl_10004, jl_10005, jl_10006, jl_10007, jl_10008, jl_10009, jl_10010, jl_10011, jl_10012, jl_10013, jl_10014, jl_10015, jl_10017, jl_10018, jl_10023, jl_12345, jl_1103515245, jN_add, jN_mul, jN_sub, jN_addm, jN_div, jN_irm, jN_nat, le_T, le_F, lt_T, lt_F, eq_F, ib_T, ib_F, add_j0, if_true, if_false, eq_self, Bool.false_eq_true, Option.bind_some, pb, jn, Nat.zero_add, Nat.add_zero, Nat.le_refl]
    unfold X9_apartFromAll_q0
    rw [show (0 : Int32) = jN 0 from rfl, L]; rfl
  have B : ∀ k, k < 6 → X12_middle_L2 n s (jN k) n (jN 0) (jN 0) = some (amS s k (nS s), jN (nS s)) := by
    intro k hk
    refine lp_0 (fun q j => X12_middle_L2 n s (jN k) q (amS s k j) (jN j)) (nS s) (by omega) (fun q j hj => ?_) (fun q => ?_)
    · show X12_middle_L2 n s (jN k) (q + 1) (amS s k j) (jN j) = X12_middle_L2 n s (jN k) q (amS s k j + X12_apart (s (iD k 1)) (s (iD j 1))) (jN (j + 1))
      rw [X12_middle_L2, h4]; simp (disch := omega) only [jl_0, jl_1, jl_2, jl_3, jl_4, jl_5, jl_6, jl_7, jl_8, jl_9, jl_10, jl_11, jl_12, jl_13, jl_14, jl_15, jl_16, jl_17, jl_18, jl_20, jl_23, jl_29, jl_30, jl_31, jl_32, jl_35, jl_40, jl_48, jl_50, jl_51, jl_57, jl_60, jl_61, jl_63, jl_64, jl_65, jl_89, jl_97, jl_99, jl_100, jl_101, jl_113, jl_122, jl_200, jl_240, jl_241, jl_255, jl_259, jl_260, jl_261, jl_262, jl_313, jl_500, jl_999, jl_10000, jl_10004, jl_10005, jl_10006, jl_10007, jl_10008, jl_10009, jl_10010, jl_10011, jl_10012, jl_10013, jl_10014, jl_10015, jl_10017, jl_10018, jl_10023, jl_12345, jl_1103515245, jN_add, jN_mul, jN_sub, jN_addm, jN_div, jN_irm, jN_nat, le_T, le_F, lt_T, lt_F, eq_F, ib_T, ib_F, add_j0, if_true, if_false, eq_self, Bool.false_eq_true, Option.bind_some, pb, jn, Nat.zero_add, Nat.add_zero, m_get]
    · show X12_middle_L2 n s (jN k) (q + 1) _ (jN (nS s)) = _
      rw [X12_middle_L2, h4]; simp (disch := omega) only [jl_0, jl_1, jl_2, jl_3, jl_4, jl_5, jl_6, jl_7, jl_8, jl_9, jl_10, jl_11, jl_12, jl_13, jl_14, jl_15, jl_16, jl_17, jl_18, jl_20, jl_23, jl_29, jl_30, jl_31, jl_32, jl_35, jl_40, jl_48, jl_50, jl_51, jl_57, jl_60, jl_61, jl_63, jl_64, jl_65, jl_89, jl_97, jl_99, jl_100, jl_101, jl_113, jl_122, jl_200, jl_240, jl_241, jl_255, jl_259, jl_260, jl_261, jl_262, jl_313, jl_500, jl_999, jl_10000, jl_10004, jl_10005, jl_10006, jl_10007, jl_10008, jl_10009, jl_10010, jl_10011, jl_10012, jl_10013, jl_10014, jl_10015, jl_10017, jl_10018, jl_10023, jl_12345, jl_1103515245, jN_add, jN_mul, jN_sub, jN_addm, jN_div, jN_irm, jN_nat, le_T, le_F, lt_T, lt_F, eq_F, ib_T, ib_F, add_j0, if_true, if_false, eq_self, Bool.false_eq_true, Option.bind_some, pb, jn, Nat.zero_add, Nat.add_zero, Nat.le_refl]
  refine ⟨(miS s (nS s)).1, ?_, ?_⟩
  · have L : X11_middle_L1 n (dOf s) (s 4) n (-3 : Int32) (0 : Int32) (jN 0) = some ((miS s (nS s)).1, (miS s (nS s)).2, jN (nS s)) := by
      refine lp_0 (fun q j => X11_middle_L1 n (dOf s) (s 4) q (miS s j).1 (miS s j).2 (jN j)) (nS s) (by omega) (fun q j hj => ?_) (fun q => ?_)
      · show X11_middle_L1 n (dOf s) (s 4) (q + 1) (miS s j).1 (miS s j).2 (jN j) = X11_middle_L1 n (dOf s) (s 4) q (miX (miS s j) (amS s j (nS s)) j).1 (miX (miS s j) (amS s j (nS s)) j).2 (jN (j + 1))
        rw [X11_middle_L1, if_neg (by rw [h4]; simp (disch := omega) only [jl_0, jl_1, jl_2, jl_3, jl_4, jl_5, jl_6, jl_7, jl_8, jl_9, jl_10, jl_11, jl_12, jl_13, jl_14, jl_15, jl_16, jl_17, jl_18, jl_20, jl_23, jl_29, jl_30, jl_31, jl_32, jl_35, jl_40, jl_48, jl_50, jl_51, jl_57, jl_60, jl_61, jl_63, jl_64, jl_65, jl_89, jl_97, jl_99, jl_100, jl_101, jl_113, jl_122, jl_200, jl_240, jl_241, jl_255, jl_259, jl_260, jl_261, jl_262, jl_313, jl_500, jl_999, jl_10000, jl_10004, jl_10005, jl_10006, jl_10007, jl_10008, jl_10009, jl_10010, jl_10011, jl_10012, jl_10013, jl_10014, jl_10015, jl_10017, jl_10018, jl_10023, jl_12345, jl_1103515245, jN_add, jN_mul, jN_sub, jN_addm, jN_div, jN_irm, jN_nat, le_T, le_F, lt_T, lt_F, eq_F, ib_T, ib_F, add_j0, if_true, if_false, eq_self, Bool.false_eq_true, Option.bind_some, pb, jn, Nat.zero_add, Nat.add_zero]; exact not_false), A j (by omega)]
        simp only [Option.bind_some, pb]
        rw [show jN j + 1 = jN (j + 1) from by simp (disch := omega) only [jl_0, jl_1, jl_2, jl_3, jl_4, jl_5, jl_6, jl_7, jl_8, jl_9, jl_10, jl_11, jl_12, jl_13, jl_14, jl_15, jl_16, jl_17, jl_18, jl_20, jl_23, jl_29, jl_30, jl_31, jl_32, jl_35, jl_40, jl_48, jl_50, jl_51, jl_57, jl_60, jl_61, jl_63, jl_64, jl_65, jl_89, jl_97, jl_99, jl_100, jl_101, jl_113, jl_122, jl_200, jl_240, jl_241, jl_255, jl_259, jl_260, jl_261, jl_262, jl_313, jl_500, jl_999, jl_10000, jl_10004, jl_10005, jl_10006, jl_10007, jl_10008, jl_10009, jl_10010, jl_10011, jl_10012, jl_10013, jl_10014, jl_10015, jl_10017, jl_10018, jl_10023, jl_12345, jl_1103515245, jN_add, jN_mul, jN_sub, jN_addm, jN_div, jN_irm, jN_nat, le_T, le_F, lt_T, lt_F, eq_F, ib_T, ib_F, add_j0, if_true, if_false, eq_self, Bool.false_eq_true, Option.bind_some, pb, jn, Nat.zero_add, Nat.add_zero]]
        rfl
      · show X11_middle_L1 n (dOf s) (s 4) (q + 1) _ _ (jN (nS s)) = _
        rw [X11_middle_L1, h4]; simp (disch := omega) only [jl_0, jl_1, jl_2, jl_3, jl_4, jl_5, jl_6, jl_7, jl_8, jl_9, jl_10, jl_11, jl_12, jl_13, jl_14, jl_15, jl_16, jl_17, jl_18, jl_20, jl_23, jl_29, jl_30, jl_31, jl_32, jl_35, jl_40, jl_48, jl_50, jl_51, jl_57, jl_60, jl_61, jl_63, jl_64, jl_65, jl_89, jl_97, jl_99, jl_100, jl_101, jl_113, jl_122, jl_200, jl_240, jl_241, jl_255, jl_259, jl_260, jl_261, jl_262, jl_313, jl_500, jl_999, jl_10000, jl_10004, jl_10005, jl_10006, jl_10007, jl_10008, jl_10009, jl_10010, jl_10011, jl_10012, jl_10013, jl_10014, jl_10015, jl_10017, jl_10018, jl_10023, jl_12345, jl_1103515245, jN_add, jN_mul, jN_sub, jN_addm, jN_div, jN_irm, jN_nat, le_T, le_F, lt_T, lt_F, eq_F, ib_T, ib_F, add_j0, if_true, if_false, eq_self, Bool.false_eq_true, Option.bind_some, pb, jn, Nat.zero_add, Nat.add_zero, Nat.le_refl]
    unfold X11_middle
    rw [show (0 : Int32) = jN 0 from rfl, show X11_middle_L1 n (dOf s) (s 4) n (-3 : Int32) (jN 0) (jN 0) = _ from L]; rfl
  · have L : X12_middle_L1 n s n (-3 : Int32) (0 : Int32) (jN 0) = some ((miS s (nS s)).1, (miS s (nS s)).2, jN (nS s)) := by
      refine lp_0 (fun q j => X12_middle_L1 n s q (miS s j).1 (miS s j).2 (jN j)) (nS s) (by omega) (fun q j hj => ?_) (fun q => ?_)
      · show X12_middle_L1 n s (q + 1) (miS s j).1 (miS s j).2 (jN j) = X12_middle_L1 n s q (miX (miS s j) (amS s j (nS s)) j).1 (miX (miS s j) (amS s j (nS s)) j).2 (jN (j + 1))
        rw [X12_middle_L1, if_neg (by rw [h4]; simp (disch := omega) only [jl_0, jl_1, jl_2, jl_3, jl_4, jl_5, jl_6, jl_7, jl_8, jl_9, jl_10, jl_11, jl_12, jl_13, jl_14, jl_15, jl_16, jl_17, jl_18, jl_20, jl_23, jl_29, jl_30, jl_31, jl_32, jl_35, jl_40, jl_48, jl_50, jl_51, jl_57, jl_60, jl_61, jl_63, jl_64, jl_65, jl_89, jl_97, jl_99, jl_100, jl_101, jl_113, jl_122, jl_200, jl_240, jl_241, jl_255, jl_259, jl_260, jl_261, jl_262, jl_313, jl_500, jl_999, jl_10000, jl_10004, jl_10005, jl_10006, jl_10007, jl_10008, jl_10009, jl_10010, jl_10011, jl_10012, jl_10013, jl_10014, jl_10015, jl_10017, jl_10018, jl_10023, jl_12345, jl_1103515245, jN_add, jN_mul, jN_sub, jN_addm, jN_div, jN_irm, jN_nat, le_T, le_F, lt_T, lt_F, eq_F, ib_T, ib_F, add_j0, if_true, if_false, eq_self, Bool.false_eq_true, Option.bind_some, pb, jn, Nat.zero_add, Nat.add_zero]; exact not_false), show X12_middle_L2 n s (jN j) n (0 : Int32) (0 : Int32) = _ from B j (by omega)]
        simp only [Option.bind_some, pb]
        rw [show jN j + 1 = jN (j + 1) from by simp (disch := omega) only [jl_0, jl_1, jl_2, jl_3, jl_4, jl_5, jl_6, jl_7, jl_8, jl_9, jl_10, jl_11, jl_12, jl_13, jl_14, jl_15, jl_16, jl_17, jl_18, jl_20, jl_23, jl_29, jl_30, jl_31, jl_32, jl_35, jl_40, jl_48, jl_50, jl_51, jl_57, jl_60, jl_61, jl_63, jl_64, jl_65, jl_89, jl_97, jl_99, jl_100, jl_101, jl_113, jl_122, jl_200, jl_240, jl_241, jl_255, jl_259, jl_260, jl_261, jl_262, jl_313, jl_500, jl_999, jl_10000, jl_10004, jl_10005, jl_10006, jl_10007, jl_10008, jl_10009, jl_10010, jl_10011, jl_10012, jl_10013, jl_10014, jl_10015, jl_10017, jl_10018, jl_10023, jl_12345, jl_1103515245, jN_add, jN_mul, jN_sub, jN_addm, jN_div, jN_irm, jN_nat, le_T, le_F, lt_T, lt_F, eq_F, ib_T, ib_F, add_j0, if_true, if_false, eq_self, Bool.false_eq_true, Option.bind_some, pb, jn, Nat.zero_add, Nat.add_zero]]
        have hi := miS_i s j (by omega)
        generalize miS s j = p at *
        obtain ⟨b, l⟩ := p
        dsimp only at *
        unfold miX; dsimp only
        rcases hi with rfl | ⟨i, hi6, rfl⟩
        · rfl
        · have e1 : (jN i < 0) = False := lt_F (b := 0) (by omega) (by omega)
          have e2 : (jN i = -3) = False := eq_false (fun q => by rw [q] at e1; exact absurd e1 (by decide))
          simp only [e1, e2, if_false]
          by_cases hq : l ≤ amS s j (nS s)
          · simp only [hq, if_true]
          · simp only [hq, if_false]; rfl
      · show X12_middle_L1 n s (q + 1) _ _ (jN (nS s)) = _
        rw [X12_middle_L1, h4]; simp (disch := omega) only [jl_0, jl_1, jl_2, jl_3, jl_4, jl_5, jl_6, jl_7, jl_8, jl_9, jl_10, jl_11, jl_12, jl_13, jl_14, jl_15, jl_16, jl_17, jl_18, jl_20, jl_23, jl_29, jl_30, jl_31, jl_32, jl_35, jl_40, jl_48, jl_50, jl_51, jl_57, jl_60, jl_61, jl_63, jl_64, jl_65, jl_89, jl_97, jl_99, jl_100, jl_101, jl_113, jl_122, jl_200, jl_240, jl_241, jl_255, jl_259, jl_260, jl_261, jl_262, jl_313, jl_500, jl_999, jl_10000, jl_10004, jl_10005, jl_10006, jl_10007, jl_10008, jl_10009, jl_10010, jl_10011, jl_10012, jl_10013, jl_10014, jl_10015, jl_10017, jl_10018, jl_10023, jl_12345, jl_1103515245, jN_add, jN_mul, jN_sub, jN_addm, jN_div, jN_irm, jN_nat, le_T, le_F, lt_T, lt_F, eq_F, ib_T, ib_F, add_j0, if_true, if_false, eq_self, Bool.false_eq_true, Option.bind_some, pb, jn, Nat.zero_add, Nat.add_zero, Nat.le_refl]
    unfold X12_middle
    rw [show X12_middle_L1 n s n (-3 : Int32) (0 : Int32) (0 : Int32) = _ from L]; rfl
end OPS7
