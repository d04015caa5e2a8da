section OPS4
variable {n ρ nr : Nat} {gc : Nat → Int32} {gk gw gs gd : Nat → Nat → Int32} {kl wl sl cl : Nat → Nat} {W : Int32 → (Nat → Int32) → Int32} {s : Nat → Int32}
/-- the state a chime of THE REST later -/
def rsG (W : Int32 → (Nat → Int32) → Int32) (u : Nat → Int32) : Nat → Int32 := (goW W u (raN W u)).2
theorem rsG_i (h : GS s) (hq : goB s = true) : GS (rsG W s) ∧ FG (rsG W s) s ∧ (rsG W s) 3 = s 3 ∧ (rsG W s) 0 = s 0 + 1 := ⟨goW_g h raN_b (of_decide_eq_true hq), goW_G h raN_b, goW_3 h raN_b, goW_0⟩
/-- one chime of THE REST on the square for trials -/
theorem c_one (hn : 20 ≤ n) (hC : RC n ρ gc gk gw gs gd kl wl sl cl W) (hr : ρ < nr) (h : GS s) (hq : goB s = true) (sh fa : Nat → Int32) (st : Nat → Nat → Int32) : ∃ sh' fa' st', X9_rest_q0 n (dOf s) (pOf s) (kOf s) (s 4) (s 0) (s 1) (s 2) ρ sh fa gc gk gw gs gd st kl wl sl cl nr (1 : Int32) = some (0 + (goW W s (raN W s)).1, dOf (rsG W s), (rsG W s) 0, (rsG W s) 2, sh', fa', st') := by
  obtain ⟨a, b, c, e1⟩ := c_rest hn hC hr h 1 (by omega) sh fa st
  have hre : reF W 1 (0, s) = (0 + (goW W s (raN W s)).1, (goW W s (raN W s)).2) := by unfold reF; rw [if_pos hq]; rfl
  rw [hre] at e1
  exact ⟨a, b, c, e1⟩
/-! when -/
def whF (W : Int32 → (Nat → Int32) → Int32) (k : Nat) : Nat → (Nat → Int32) → Int32 × (Nat → Int32)
  | 0, u => (-3, u)
  | d + 1, u => if goB u = true then (if decide ((rsG W u) (iD k 4) = 0) = true then whF W k d (rsG W u) else (u 0, rsG W u)) else (-3, u)
theorem whF_i (k : Nat) : ∀ (d : Nat) (u : Nat → Int32), GS u → GS (whF W k d u).2 ∧ FG (whF W k d u).2 u ∧ (whF W k d u).2 3 = u 3 := by
  intro d
  induction d with
  | zero => intro u h; exact ⟨h, FG.refl u, rfl⟩
  | succ d ih =>
    intro u h
    unfold whF
    split
    · rename_i hq
      obtain ⟨g1, g2, g3, -⟩ := rsG_i (W := W) h hq
      split
      · obtain ⟨a, b, c⟩ := ih _ g1
        exact ⟨a, b.trans g2 h.n.1, c.trans g3⟩
      · exact ⟨g1, g2, g3⟩
    · exact ⟨h, FG.refl u, rfl⟩
theorem ov_16 (h : GS s) {x : Nat} (h0 : s 0 = jN x) (hx : x = 16) : ¬ goB s = true := by
  subst hx
  obtain ⟨e, he, h1⟩ := h.ends
  intro q
  have := of_decide_eq_true q
  rw [h0, h1, jN_lt (by omega) (by omega)] at this
  omega
theorem m_when1 (hn : 20 ≤ n) {k : Nat} (hk : k < 6) : ∀ (d m : Nat) (u pile : Nat → Int32) (x : Nat), RM n u W → GS u → u (iD k 4) = 0 → u 0 = jN x → x + d = 16 → d < m → ∃ v3 pile', X12_when_L1 n (jN k) m (-3 : Int32) 1 u pile = some ((whF W k d u).1, v3, (whF W k d u).2, pile') := by
  intro d
  induction d with
  | zero =>
    intro m u pile x hM h hk0 h0 hx hm; obtain ⟨m, rfl⟩ : ∃ q, m = q + 1 := ⟨m - 1, by omega⟩
    refine ⟨1, pile, ?_⟩
    rw [X12_when_L1, m_oF (ov_16 h h0 (by omega))]; rfl
  | succ d ih =>
    intro m u pile x hM h hk0 h0 hx hm; obtain ⟨m, rfl⟩ : ∃ q, m = q + 1 := ⟨m - 1, by omega⟩
    unfold whF
    by_cases hq : goB u = true
    · obtain ⟨p1, e1⟩ := m_goesRest hM h (by omega) pile
      obtain ⟨g1, g2, g3, g4⟩ := rsG_i (W := W) h hq
      obtain ⟨y, hy, hy2⟩ := g1.right hk
      obtain ⟨w, hw, hw2⟩ := goW_w (W := W) h (raN_b (W := W))
      have h0' : (rsG W u) 0 = jN (x + 1) := by rw [g4, h0]; simp (disch := omega) only [jl_0, jl_1, jl_2, jl_3, jl_4, jl_5, jl_6, jl_7, jl_8, jl_9, jl_10, jl_11, jl_12, jl_13, jl_14, jl_15, jl_16, jl_17, jl_18, jl_20, jl_23, jl_29, jl_30, jl_31, jl_32, jl_35, jl_40, jl_48, jl_50, jl_51, jl_57, jl_60, jl_61, jl_63, jl_64, jl_65, jl_89, jl_97, jl_99, jl_100, jl_101, jl_113, jl_122, jl_200, jl_240, jl_241, jl_255, jl_259, jl_260, jl_261, jl_262, jl_313, jl_500, jl_999, jl_10000, jl_10004, jl_10005, jl_10006, jl_10007, jl_10008, jl_10009, jl_10010, jl_10011, jl_10012, jl_10013, jl_10014, jl_10015, jl_10017, jl_10018, jl_10023, jl_12345, jl_1103515245, jN_add, jN_mul, jN_sub, jN_addm, jN_div, jN_irm, jN_nat, le_T, le_F, lt_T, lt_F, eq_F, ib_T, ib_F, add_j0, if_true, if_false, eq_self, Bool.false_eq_true, Option.bind_some, pb, jn, Nat.zero_add, Nat.add_zero]
      (have : y = 0 ∨ y = 1 := by omega)
      rcases this with rfl | rfl
      · obtain ⟨v3, p2, e2⟩ := ih m (rsG W u) p1 (x + 1) (hM.go g2 h.n.1) g1 hy2 h0' (by omega) (by omega)
        refine ⟨v3, p2, ?_⟩
        rw [if_pos hq, show decide ((rsG W u) (iD k 4) = 0) = true from decide_eq_true hy2, if_pos rfl, ← e2]
        rw [X12_when_L1, m_oT hq, if_neg (by decide), if_pos rfl, e1]
        simp only [Option.bind_some]
        rw [show (goW W u (raN W u)).2 = rsG W u from rfl, show X12_get (rsG W u) (jN k) (4 : Int32) = some ((rsG W u) (iD k 4)) from m_get (j := 4) hk (by omega), hy2]
        rfl
      · refine ⟨0, p1, ?_⟩
        have hne : decide ((rsG W u) (iD k 4) = 0) = false := by rw [hy2]; rfl
        rw [if_pos hq, hne]
        rw [X12_when_L1, m_oT hq, if_neg (by decide), if_pos rfl, e1]
        simp only [Option.bind_some]
        rw [show (goW W u (raN W u)).2 = rsG W u from rfl, show X12_get (rsG W u) (jN k) (4 : Int32) = some ((rsG W u) (iD k 4)) from m_get (j := 4) hk (by omega), hy2, hw2, h0', h0]
        obtain ⟨m, rfl⟩ : ∃ q, m = q + 1 := ⟨m - 1, by omega⟩
        simp only [pb, Option.bind_some]
        rw [X12_when_L1]
        simp (disch := omega) only [jl_0, jl_1, jl_2, jl_3, jl_4, jl_5, jl_6, jl_7, jl_8, jl_9, jl_10, jl_11, jl_12, jl_13, jl_14, jl_15, jl_16, jl_17, jl_18, jl_20, jl_23, jl_29, jl_30, jl_31, jl_32, jl_35, jl_40, jl_48, jl_50, jl_51, jl_57, jl_60, jl_61, jl_63, jl_64, jl_65, jl_89, jl_97, jl_99, jl_100, jl_101, jl_113, jl_122, jl_200, jl_240, jl_241, jl_255, jl_259, jl_260, jl_261, jl_262, jl_313, jl_500, jl_999, jl_10000, jl_10004, jl_10005, jl_10006, jl_10007, jl_10008, jl_10009, jl_10010, jl_10011, jl_10012, jl_10013, jl_10014, jl_10015, jl_10017, jl_10018, jl_10023, jl_12345, jl_1103515245, jN_add, jN_mul, jN_sub, jN_addm, jN_div, jN_irm, jN_nat, le_T, le_F, lt_T, lt_F, eq_F, ib_T, ib_F, add_j0, if_true, if_false, eq_self, Bool.false_eq_true, Option.bind_some, pb, jn, Nat.zero_add, Nat.add_zero, Nat.add_sub_cancel]
    · refine ⟨1, pile, ?_⟩
      rw [X12_when_L1, m_oF hq, if_neg (by decide), if_neg (by decide), if_neg hq]
theorem c_when1 (hn : 20 ≤ n) (hC : RC n ρ gc gk gw gs gd kl wl sl cl W) (hr : ρ < nr) {k : Nat} (hk : k < 6) {β : Type} : ∀ (d m : Nat) (u : Nat → Int32) (x : Nat) (rp : Nat → Nat → Int32) (rc z : Int32) (K : _ → Option (Int32 × (Nat → Nat → Int32) × (Nat → Nat → Int32) × (Nat → Int32) × (Nat → Nat → Int32) × Int32 × Int32 × Int32 × Int32 × Int32 × Int32 × Nat × (Nat → Int32) × (Nat → Int32) × (Nat → Nat → Int32))) (sh fa : Nat → Int32) (st : Nat → Nat → Int32), (∀ o, K o = some (-3, o.2.1, pOf u, kOf u, rp, u 4, o.2.2.1, u 1, o.2.2.2.1, rc, z, ρ, o.2.2.2.2.1, o.2.2.2.2.2.1, o.2.2.2.2.2.2)) → GS u → u 0 = jN x → x + d = 16 → d < m → ∃ sh' fa' st', X11_when_L1 n (u 1) (pOf u) (kOf u) rp (u 4) (u 1) rc z ρ gc gk gw gs gd kl wl sl cl nr (jN k) K m (u 0) (dOf u) (u 0) (u 2) sh fa st = some ((whF W k d u).1, dOf (whF W k d u).2, pOf u, kOf u, rp, u 4, (whF W k d u).2 0, u 1, (whF W k d u).2 2, rc, z, ρ, sh', fa', st') := by
  intro d
  induction d with
  | zero =>
    intro m u x rp rc z K sh fa st hK h h0 hx hm; obtain ⟨m, rfl⟩ : ∃ q, m = q + 1 := ⟨m - 1, by omega⟩
    refine ⟨sh, fa, st, ?_⟩
    have ho := ov_16 h h0 (by omega)
    rw [X11_when_L1, if_pos (Int32.not_lt.mp (fun q => ho (decide_eq_true q))), hK]; rfl
  | succ d ih =>
    intro m u x rp rc z K sh fa st hK h h0 hx hm; obtain ⟨m, rfl⟩ : ∃ q, m = q + 1 := ⟨m - 1, by omega⟩
    unfold whF
    by_cases hq : goB u = true
    · obtain ⟨a, b, c, e1⟩ := c_one hn hC hr h hq sh fa st
      obtain ⟨g1, g2, g3, g4⟩ := rsG_i (W := W) h hq
      obtain ⟨y, hy, hy2⟩ := g1.right hk
      have h0' : (rsG W u) 0 = jN (x + 1) := by rw [g4, h0]; simp (disch := omega) only [jl_0, jl_1, jl_2, jl_3, jl_4, jl_5, jl_6, jl_7, jl_8, jl_9, jl_10, jl_11, jl_12, jl_13, jl_14, jl_15, jl_16, jl_17, jl_18, jl_20, jl_23, jl_29, jl_30, jl_31, jl_32, jl_35, jl_40, jl_48, jl_50, jl_51, jl_57, jl_60, jl_61, jl_63, jl_64, jl_65, jl_89, jl_97, jl_99, jl_100, jl_101, jl_113, jl_122, jl_200, jl_240, jl_241, jl_255, jl_259, jl_260, jl_261, jl_262, jl_313, jl_500, jl_999, jl_10000, jl_10004, jl_10005, jl_10006, jl_10007, jl_10008, jl_10009, jl_10010, jl_10011, jl_10012, jl_10013, jl_10014, jl_10015, jl_10017, jl_10018, jl_10023, jl_12345, jl_1103515245, jN_add, jN_mul, jN_sub, jN_addm, jN_div, jN_irm, jN_nat, le_T, le_F, lt_T, lt_F, eq_F, ib_T, ib_F, add_j0, if_true, if_false, eq_self, Bool.false_eq_true, Option.bind_some, pb, jn, Nat.zero_add, Nat.add_zero]
      have e5 : (rsG W u) 4 = u 4 := g2.low (by omega) (by omega) (by omega) (by omega) h.n.1
      have e6 : (rsG W u) 1 = u 1 := g2.low (by omega) (by omega) (by omega) (by omega) h.n.1
      have e7 := g2.pOfE h.n.1
      have e8 := g2.kOfE h.n.1
      rw [X11_when_L1, if_neg (fun q => absurd (of_decide_eq_true hq) (Int32.not_lt.mpr q)), q2_rest, e1]
      simp only [Option.bind_some]
      rw [q2_isRight, c_isRight g1 hk]
      simp only [Option.bind_some]
      (have : y = 0 ∨ y = 1 := by omega)
      rcases this with rfl | rfl
      · obtain ⟨a2, b2, c2, e2⟩ := ih m (rsG W u) (x + 1) rp rc z K a b c (by rw [e5, e6, e7, e8]; exact hK) g1 h0' (by omega) (by omega)
        rw [e5, e6, e7, e8] at e2
        refine ⟨a2, b2, c2, ?_⟩
        rw [if_pos hq, show decide ((rsG W u) (iD k 4) = 0) = true from decide_eq_true hy2, if_pos rfl, ← e2, hy2, if_pos (show jN 0 = 0 from rfl), g4]
      · refine ⟨a, b, c, ?_⟩
        have hne : decide ((rsG W u) (iD k 4) = 0) = false := by rw [hy2]; rfl
        rw [if_pos hq, hne, hy2, if_neg (show ¬ jN 1 = 0 by decide)]; rfl
    · refine ⟨sh, fa, st, ?_⟩
      rw [X11_when_L1, if_pos (Int32.not_lt.mp (fun q => hq (decide_eq_true q))), hK, if_neg hq]
theorem o_when (hn : 70 ≤ n) (hC : RC n ρ gc gk gw gs gd kl wl sl cl W) (hr : ρ < nr) (hM : RM n s W) (h : GS s) (s2 : Nat → Int32) {ρ2 : Nat} (hr2 : ρ2 < nr) (sh fa : Nat → Int32) (st : Nat → Nat → Int32) (laid pile : Nat → Int32) (v1 : Int32) :
    ∃ r d2 p2 k2 r2 c2 ch2 e2 sc2 rc2 z2 ρ2' sh' fa' st' u2 laid' pile', X11_when n (dOf s) (pOf s) (kOf s) (rOf s) (s 4) (s 0) (s 1) (s 2) (s 6) (s 3) ρ (dOf s2) (pOf s2) (kOf s2) (rOf s2) (s2 4) (s2 0) (s2 1) (s2 2) (s2 6) (s2 3) ρ2 sh fa gc gk gw gs gd st kl wl sl cl nr v1 = some (r, d2, p2, k2, r2, c2, ch2, e2, sc2, rc2, z2, ρ2', sh', fa', st') ∧ X12_when n s laid pile v1 = some (r, s, laid', pile') ∧ ρ2' < nr ∧ SQ d2 p2 k2 r2 c2 ch2 e2 sc2 rc2 z2 u2 := by
  unfold X11_when X12_when
  rcases has_or h v1 with ⟨e1, e2⟩ | ⟨k, hk, rfl, e1, e2⟩
  · exact ⟨-1, _, _, _, _, _, _, _, _, _, _, ρ2, sh, fa, st, s2, laid, pile, by simp (disch := omega) only [jl_0, jl_1, jl_2, jl_3, jl_4, jl_5, jl_6, jl_7, jl_8, jl_9, jl_10, jl_11, jl_12, jl_13, jl_14, jl_15, jl_16, jl_17, jl_18, jl_20, jl_23, jl_29, jl_30, jl_31, jl_32, jl_35, jl_40, jl_48, jl_50, jl_51, jl_57, jl_60, jl_61, jl_63, jl_64, jl_65, jl_89, jl_97, jl_99, jl_100, jl_101, jl_113, jl_122, jl_200, jl_240, jl_241, jl_255, jl_259, jl_260, jl_261, jl_262, jl_313, jl_500, jl_999, jl_10000, jl_10004, jl_10005, jl_10006, jl_10007, jl_10008, jl_10009, jl_10010, jl_10011, jl_10012, jl_10013, jl_10014, jl_10015, jl_10017, jl_10018, jl_10023, jl_12345, jl_1103515245, jN_add, jN_mul, jN_sub, jN_addm, jN_div, jN_irm, jN_nat, le_T, le_F, lt_T, lt_F, eq_F, ib_T, ib_F, add_j0, if_true, if_false, eq_self, Bool.false_eq_true, Option.bind_some, pb, jn, Nat.zero_add, Nat.add_zero, e2], by simp (disch := omega) only [jl_0, jl_1, jl_2, jl_3, jl_4, jl_5, jl_6, jl_7, jl_8, jl_9, jl_10, jl_11, jl_12, jl_13, jl_14, jl_15, jl_16, jl_17, jl_18, jl_20, jl_23, jl_29, jl_30, jl_31, jl_32, jl_35, jl_40, jl_48, jl_50, jl_51, jl_57, jl_60, jl_61, jl_63, jl_64, jl_65, jl_89, jl_97, jl_99, jl_100, jl_101, jl_113, jl_122, jl_200, jl_240, jl_241, jl_255, jl_259, jl_260, jl_261, jl_262, jl_313, jl_500, jl_999, jl_10000, jl_10004, jl_10005, jl_10006, jl_10007, jl_10008, jl_10009, jl_10010, jl_10011, jl_10012, jl_10013, jl_10014, jl_10015, jl_10017, jl_10018, jl_10023, jl_12345, jl_1103515245, jN_add, jN_mul, jN_sub, jN_addm, jN_div, jN_irm, jN_nat, le_T, le_F, lt_T, lt_F, eq_F, ib_T, ib_F, add_j0, if_true, if_false, eq_self, Bool.false_eq_true, Option.bind_some, pb, jn, Nat.zero_add, Nat.add_zero, e1], hr2, SQ.rf s2⟩
  have hk6 : k < 6 := by have := h.n.1; omega
  rw [e1, e2, if_neg (show ¬ jN 1 = 0 by decide), if_neg (show ¬ jN 1 = 0 by decide), c_isRight h hk6, m_down (by omega), show X12_get s (jN k) (4 : Int32) = some (s (iD k 4)) from m_get (j := 4) hk6 (by omega)]
  simp only [Option.bind_some]
  obtain ⟨y, hy, hy2⟩ := h.right hk6
  obtain ⟨x, hx, h0⟩ := h.chime
  (have : y = 0 ∨ y = 1 := by omega)
  rcases this with rfl | rfl
  · rw [hy2, if_pos (show jN 0 = 0 from rfl), if_pos (show jN 0 = 0 from rfl), c_copy (by omega) s s2 hr]
    simp only [Option.bind_some, pb, jn]
    obtain ⟨v3, p, e3⟩ := m_when1 (W := W) (by omega) hk6 (16 - x) n s pile x hM h hy2 h0 (by omega) (by omega)
    obtain ⟨a, b, c, e4⟩ := c_when1 (W := W) (β := Nat) (by omega) hC hr hk6 (16 - x) n s x (rOf s) (s 6) (s 3) _ sh fa st (fun _ => rfl) h h0 (by omega) (by omega)
    obtain ⟨g1, g2, g3⟩ := whF_i (W := W) k (16 - x) s h
    have hsq := sq_go g2 h.n.1
    rw [g3] at hsq
    refine ⟨(whF W k (16 - x) s).1, _, _, _, _, _, _, _, _, _, _, ρ, a, b, c, (whF W k (16 - x) s).2, (fun i => if i < 65 then s i else laid i), p, e4, ?_, hr, hsq⟩
    · rw [e3]
      simp only [Option.bind_some]
      rw [m_laid (by omega) (dn65 s laid) (g2.hi h.n.1)]
      simp only [Option.bind_some]
  · rw [hy2, if_neg (show ¬ jN 1 = 0 by decide), if_neg (show ¬ jN 1 = 0 by decide)]
    obtain ⟨m, rfl⟩ : ∃ q, n = q + 1 := ⟨n - 1, by omega⟩
    refine ⟨-3, _, _, _, _, _, _, _, _, _, _, ρ2, sh, fa, st, s2, (fun i => if i < 65 then s i else laid i), pile, rfl, ?_, hr2, SQ.rf s2⟩
    simp only [pb]
    rw [X12_when_L1, if_pos rfl]
    simp only [Option.bind_some]
    rw [m_laid (by omega) (dn65 s laid) (fun _ _ => rfl)]
    rfl
end OPS4
