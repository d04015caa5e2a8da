theorem CSEG.cg {cr cr2 : Nat → Int32} {a b : Nat} {hv} (h : CSEG cr a b hv) (hc : ∀ i, i < b → cr2 i = cr i) : CSEG cr2 a b hv := by
  rcases h with y | ⟨e, y1, y2⟩
  · exact Or.inl y
  · exact Or.inr ⟨e, y1.cg (fun i _ hi => hc i hi), y2⟩
theorem MSEG.cg {mr mr2 : Nat → Int32} {a b : Nat} {hv} (h : MSEG mr a b hv) (hc : ∀ i, i < b → mr2 i = mr i) : MSEG mr2 a b hv := by
  rcases h with y | ⟨e, y1, y2⟩
  · exact Or.inl y
  · exact Or.inr ⟨e, y1.cg (fun i _ hi => hc i hi), y2⟩
/-- j rules are read -/
def RI (j a b : Nat) (kinds wills starts cc read mc : Nat → Int32) (kk : Nat → Nat) (ww : Nat → Int32) (hv : Nat → (Nat → Int32) → Int32) (sa sb : Nat → Nat) : Prop :=
  sa 0 = 0 ∧ sb 0 = 0 ∧ sa j = a ∧ sb j = b ∧ ∀ r, r < j → kk r < 6 ∧ kinds r = jN (kk r) ∧ wills r = ww r ∧ starts r = jN (sa r) ∧ read (3 * r) = jN (kk r) ∧ read (3 * r + 1) = ww r ∧ read (3 * r + 2) = jN (sb (r + 1)) ∧ sa (r + 1) ≤ a ∧ sb (r + 1) ≤ b ∧ CSEG cc (sa r) (sa (r + 1)) (hv r) ∧ MSEG mc (sb r) (sb (r + 1)) (hv r)
theorem RI.up {j a b a' b' : Nat} {kinds wills starts cc read mc cc' mc' : Nat → Int32} {kk : Nat → Nat} {ww : Nat → Int32} {hv : Nat → (Nat → Int32) → Int32} {sa sb : Nat → Nat} (h : RI j a b kinds wills starts cc read mc kk ww hv sa sb) {k : Nat} {w0 : Int32} {hv0 : (Nat → Int32) → Int32} (hk : k < 6) (ha : a ≤ a') (hb : b ≤ b') (hc : ∀ q, q < a → cc' q = cc q) (hm : ∀ q, q < b → mc' q = mc q) (hC : CSEG cc' a a' hv0) (hM : MSEG mc' b b' hv0) :
    RI (j + 1) a' b' (upd kinds j (jN k)) (upd wills j w0) (upd starts j (jN a)) cc' (upd (upd (upd read (3 * j) (jN k)) (3 * j + 1) w0) (3 * j + 2) (jN b')) mc' (fun r => if r = j then k else kk r) (fun r => if r = j then w0 else ww r) (fun r => if r = j then hv0 else hv r) (fun r => if r ≤ j then sa r else a') (fun r => if r ≤ j then sb r else b') := by
  obtain ⟨h1, h2, h3, h4, h5⟩ := h
  refine ⟨?_, ?_, ?_, ?_, ?_⟩
  · dsimp only; rw [if_pos (Nat.zero_le _)]; exact h1
  · dsimp only; rw [if_pos (Nat.zero_le _)]; exact h2
  · dsimp only; rw [if_neg (by omega)]
  · dsimp only; rw [if_neg (by omega)]
  intro r hr
  dsimp only
  by_cases q : r = j
  · subst q
    rw [if_pos rfl, if_pos rfl, if_pos rfl, if_pos (Nat.le_refl r), if_pos (Nat.le_refl r), if_neg (show ¬ r + 1 ≤ r by omega), if_neg (show ¬ r + 1 ≤ r by omega), upd_s, upd_s, upd_s, h3, h4]
    refine ⟨hk, rfl, rfl, rfl, ?_, ?_, ?_, Nat.le_refl _, Nat.le_refl _, hC, hM⟩
    · rw [upd_n (by omega), upd_n (by omega), upd_s]
    · rw [upd_n (by omega), upd_s]
    · rw [upd_s]
  · obtain ⟨g1, g2, g3, g4, g5, g6, g7, g8, g9, g10, g11⟩ := h5 r (by omega)
    rw [if_neg q, if_neg q, if_neg q, if_pos (show r ≤ j by omega), if_pos (show r ≤ j by omega), if_pos (show r + 1 ≤ j by omega), if_pos (show r + 1 ≤ j by omega), upd_n q, upd_n q, upd_n q]
    refine ⟨g1, g2, g3, g4, ?_, ?_, ?_, by omega, by omega, g10.cg (fun i hi => hc i (by omega)), g11.cg (fun i hi => hm i (by omega))⟩
    · rw [upd_n (by omega), upd_n (by omega), upd_n (by omega)]; exact g5
    · rw [upd_n (by omega), upd_n (by omega), upd_n (by omega)]; exact g6
    · rw [upd_n (by omega), upd_n (by omega), upd_n (by omega)]; exact g7
theorem WT.end {w t v : Int32} (h : WT w t v) : w = -2 ↔ t = -1 := by
  rcases h with ⟨c, hc, rfl, rfl⟩ | ⟨k, hk, rfl, rfl, rfl⟩ | ⟨rfl, k, rfl, h1, h2, h3, h4⟩ | ⟨rfl, rfl⟩
  · have := tT_l c hc
    exact ⟨fun z => absurd z.symm (m2_no _ (by omega)), fun z => absurd z.symm (m1_no _ (by omega))⟩
  · exact ⟨fun z => absurd z.symm (m2_no _ (by omega)), fun z => absurd z.symm (m1_no _ (by omega))⟩
  · exact ⟨fun z => absurd z (by decide), fun z => absurd z.symm (m1_no _ (by omega))⟩
  · exact ⟨fun _ => rfl, fun _ => rfl⟩
section READ
variable {n L w : Nat} {bt : Nat → Nat} {tc tm words : Nat → Int32}
theorem PX.reads (X : PX n L w bt tc tm words) (places : Nat → Int32) : ∀ d m m3 j i a b kinds wills starts cc read mc at0 bg t v op, j + d = 8 → d < m → d + 1 < m3 → i ≤ w → a ≤ i → b ≤ i → PS bt L i at0 bg t v → (∃ kk ww hv sa sb, RI j a b kinds wills starts cc read mc kk ww hv sa sb) →
    (∃ i' kinds' wills' starts' cc' cnt' a' v1 at' bg' t' v' op' b' mc' read', X6_read_L1 n words places (fun o6 => (if (ib o6.2.1 201) = true then (if (words o6.2.1.toNatClampNeg) = (-2 : Int32) then some ((1 : Int32), words, places, o6.2.1, o6.2.2.1, o6.2.2.2.1, o6.2.2.2.2.1, o6.2.2.2.2.2.1, o6.2.2.2.2.2.2.1, o6.2.2.2.2.2.2.2) else some ((0 : Int32), words, places, o6.2.1, o6.2.2.1, o6.2.2.2.1, o6.2.2.2.2.1, o6.2.2.2.2.2.1, o6.2.2.2.2.2.2.1, o6.2.2.2.2.2.2.2)) else none)) m (jN j) (jN i) kinds wills starts cc (jN j) (jN a) = some (0, words, places, jN i', kinds', wills', starts', cc', cnt', a') ∧ X12_rules_L1 n tm (jN L) ltr m3 (jN j) 1 at0 bg t v op (jN b) mc read = some (v1, 0, at', bg', t', v', op', b', mc', read') ∧ i' ≤ w ∧ PS bt L i' at' bg' t' v') ∨
    (∃ c i' kinds' wills' starts' cc' a' at' bg' t' v' op' b' mc' read', X6_read_L1 n words places (fun o6 => (if (ib o6.2.1 201) = true then (if (words o6.2.1.toNatClampNeg) = (-2 : Int32) then some ((1 : Int32), words, places, o6.2.1, o6.2.2.1, o6.2.2.2.1, o6.2.2.2.2.1, o6.2.2.2.2.2.1, o6.2.2.2.2.2.2.1, o6.2.2.2.2.2.2.2) else some ((0 : Int32), words, places, o6.2.1, o6.2.2.1, o6.2.2.2.1, o6.2.2.2.2.1, o6.2.2.2.2.2.1, o6.2.2.2.2.2.2.1, o6.2.2.2.2.2.2.2)) else none)) m (jN j) (jN i) kinds wills starts cc (jN j) (jN a) = some (1, words, places, jN i', kinds', wills', starts', cc', jN c, jN a') ∧ X12_rules_L1 n tm (jN L) ltr m3 (jN j) 1 at0 bg t v op (jN b) mc read = some (jN c, 1, at', bg', t', v', op', jN b', mc', read') ∧ c ≤ 8 ∧ i' ≤ w ∧ a' ≤ i' ∧ b' ≤ i' ∧ ∃ kk ww hv sa sb, RI c a' b' kinds' wills' starts' cc' read' mc' kk ww hv sa sb) := by
  have hwL := X.hw
  have hL := X.hL
  have hn := X.hn
  intro d
  induction d with
  | zero =>
    intro m m3 j i a b kinds wills starts cc read mc at0 bg t v op hj hm hm3 hi ha hb hp hR
    obtain ⟨m, rfl⟩ : ∃ y, m = y + 1 := ⟨m - 1, by omega⟩
    obtain ⟨m3, rfl⟩ : ∃ y, m3 = y + 2 := ⟨m3 - 2, by omega⟩
    have : j = 8 := by omega
    subst this
    have he := hp.2.2.end
    rw [← X.hwd i hi] at he
    rw [X6_read_L1, X12_rules_L1, if_pos (show (8 : Int32) ≤ jN 8 by decide), if_neg (show ¬ (1 : Int32) = 0 by decide)]
    dsimp only
    rw [ib_T (show i < 201 by omega) (by omega), jN_nat (show i < 2147483648 by omega)]
    simp only [if_true]
    by_cases q : words i = (-2 : Int32)
    · right
      rw [if_pos q, if_pos (he.mp q)]
      exact ⟨8, i, kinds, wills, starts, cc, a, at0, bg, t, v, op, b, mc, read, rfl, rfl, Nat.le_refl _, hi, ha, hb, hR⟩
    · left
      rw [if_neg q, if_neg (fun z => q (he.mpr z))]
      refine ⟨i, kinds, wills, starts, cc, jN 8, jN a, jN 8 + 1, at0, bg, t, v, op, jN b, mc, read, rfl, ?_, hi, hp⟩
      unfold X12_readsRule
      rw [if_pos (show jN 8 = (8 : Int32) from rfl)]
      simp only [Option.bind_some]
      rw [X12_rules_L1, if_pos (show (0 : Int32) = 0 from rfl)]
  | succ d ih =>
    intro m m3 j i a b kinds wills starts cc read mc at0 bg t v op hj hm hm3 hi ha hb hp hR
    obtain ⟨m, rfl⟩ : ∃ y, m = y + 1 := ⟨m - 1, by omega⟩
    obtain ⟨m3, rfl⟩ : ∃ y, m3 = y + 2 := ⟨m3 - 2, by omega⟩
    have he := hp.2.2.end
    rw [← X.hwd i hi] at he
    rw [X6_read_L1, X12_rules_L1, if_neg (show ¬ (8 : Int32) ≤ jN j by rw [jl_8, le_F (by omega) (by omega)]; exact not_false), if_neg (show ¬ (1 : Int32) = 0 by decide)]
    dsimp only
    rw [ib_T (show i < 201 by omega) (by omega), jN_nat (show i < 2147483648 by omega)]
    simp only [if_true]
    by_cases q : words i = (-2 : Int32)
    · right
      rw [if_pos q, if_pos (he.mp q)]
      refine ⟨j, i, kinds, wills, starts, cc, a, at0, bg, t, v, op, b, mc, read, ?_, rfl, by omega, hi, ha, hb, hR⟩
      try rw [if_pos q]
    · rw [if_neg q, if_neg (fun z => q (he.mpr z))]
      obtain ⟨r, i', kinds', wills', starts', cc', cnt', a', at', bg', t', v', op', b', mc', read', e1, e2, e3, e4, e5, e6⟩ := X.rule (j := j) (by omega) hi ha hb (op := op) hp kinds wills starts cc read mc (jN j)
      rw [e1, e2]
      simp only [Option.bind_some]
      rcases e6 with rfl | ⟨rfl, f0, rfl, f1, f2, f3, f4, f5, f6, k, w0, hv0, f7, rfl, rfl, rfl, rfl, f8, f9⟩
      · left
        refine ⟨i', kinds', wills', starts', cc', cnt', jN a', jN j + 1, at', bg', t', v', op', jN b', mc', read', by rw [if_pos (show (0 : Int32) = 0 from rfl)], ?_, e4, e5⟩
        rw [X12_rules_L1, if_pos (show (0 : Int32) = 0 from rfl)]
      · rw [if_neg (show ¬ (1 : Int32) = 0 by decide), show jN j + (1 : Int32) = jN (j + 1) from by rw [jl_1, jN_add]]
        obtain ⟨kk, ww, hv, sa, sb, hR⟩ := hR
        exact ih m (m3 + 1) (j + 1) i' a' b' _ _ _ cc' _ mc' at' bg' t' v' op' (by omega) (by omega) (by omega) e4 (by omega) (by omega) e5 ⟨_, _, _, _, _, hR.up f7 f3 f4 f5 f6 f8 f9⟩
theorem m_r2 {c : Nat} (hc : c ≤ 8) (read : Nat → Int32) : ∀ d m q (s : Nat → Int32), q + d = 3 * c → d < m → ∃ s', X12_rules_L2 n read (jN c) m (jN q) s = some (jN (3 * c), s') ∧ ∀ i, s' i = if 89 + q ≤ i ∧ i < 89 + 3 * c then read (i - 89) else s i := by
  intro d
  induction d with
  | zero =>
    intro m q s hq hm
    obtain ⟨m, rfl⟩ : ∃ y, m = y + 1 := ⟨m - 1, by omega⟩
    have : q = 3 * c := by omega
    subst this
    refine ⟨s, ?_, fun i => by rw [if_neg (by omega)]⟩
    rw [X12_rules_L2, show (3 : Int32) * jN c = jN (3 * c) from by rw [jl_3, jN_mul], if_pos (Int32.le_refl _)]
  | succ d ih =>
    intro m q s hq hm
    obtain ⟨m, rfl⟩ : ∃ y, m = y + 1 := ⟨m - 1, by omega⟩
    obtain ⟨s', e1, e2⟩ := ih m (q + 1) (upd s (89 + q) (read q)) (by omega) (by omega)
    refine ⟨s', ?_, fun i => ?_⟩
    · rw [X12_rules_L2, show (3 : Int32) * jN c = jN (3 * c) from by rw [jl_3, jN_mul], if_neg (show ¬ jN (3 * c) ≤ jN q by rw [le_F (by omega) (by omega)]; exact not_false), ib_T (show q < 24 by omega) (by omega), show (89 : Int32) + jN q = jN (89 + q) from by rw [jl_89, jN_add], ib_T (show 89 + q < 313 by omega) (by omega), jN_nat (show q < 2147483648 by omega), jN_nat (show 89 + q < 2147483648 by omega), show jN q + (1 : Int32) = jN (q + 1) from by rw [jl_1, jN_add]]
      simp only [if_true]
      exact e1
    · rw [e2]
      by_cases h1 : i = 89 + q
      · subst h1
        rw [if_neg (by omega), if_pos (by omega), upd_s, show 89 + q - 89 = q by omega]
      · rw [upd_n h1]
        by_cases h2 : 89 + (q + 1) ≤ i ∧ i < 89 + 3 * c
        · rw [if_pos h2, if_pos (by omega)]
        · rw [if_neg h2, if_neg (by omega)]
theorem m_r3 {c : Nat} (hc : c ≤ 200) (read : Nat → Int32) : ∀ d m q (s : Nat → Int32), q + d = c → d < m → ∃ s', X12_rules_L3 n (jN c) read m (jN q) s = some (jN c, s') ∧ ∀ i, s' i = if 113 + q ≤ i ∧ i < 113 + c then read (i - 113) else s i := by
  intro d
  induction d with
  | zero =>
    intro m q s hq hm
    obtain ⟨m, rfl⟩ : ∃ y, m = y + 1 := ⟨m - 1, by omega⟩
    have : q = c := by omega
    subst this
    refine ⟨s, ?_, fun i => by rw [if_neg (by omega)]⟩
    rw [X12_rules_L3, if_pos (Int32.le_refl _)]
  | succ d ih =>
    intro m q s hq hm
    obtain ⟨m, rfl⟩ : ∃ y, m = y + 1 := ⟨m - 1, by omega⟩
    obtain ⟨s', e1, e2⟩ := ih m (q + 1) (upd s (113 + q) (read q)) (by omega) (by omega)
    refine ⟨s', ?_, fun i => ?_⟩
    · rw [X12_rules_L3, if_neg (show ¬ jN c ≤ jN q by rw [le_F (by omega) (by omega)]; exact not_false), ib_T (show q < 200 by omega) (by omega), show (113 : Int32) + jN q = jN (113 + q) from by rw [jl_113, jN_add], ib_T (show 113 + q < 313 by omega) (by omega), jN_nat (show q < 2147483648 by omega), jN_nat (show 113 + q < 2147483648 by omega), show jN q + (1 : Int32) = jN (q + 1) from by rw [jl_1, jN_add]]
      simp only [if_true]
      exact e1
    · rw [e2]
      by_cases h1 : i = 113 + q
      · subst h1
        rw [if_neg (by omega), if_pos (by omega), upd_s, show 113 + q - 113 = q by omega]
      · rw [upd_n h1]
        by_cases h2 : 113 + (q + 1) ≤ i ∧ i < 113 + c
        · rw [if_pos h2, if_pos (by omega)]
        · rw [if_neg h2, if_neg (by omega)]
/-- the tape is read: a fault at the same place, or the same rules -/
theorem o_read (hn : 300 ≤ n) (hL : L ≤ 200) (hT : TR L tc tm) (words0 places kinds wills starts cc s mc read : Nat → Int32) (val op : Int32) :
    (∃ i words' places' kinds' wills' starts' cc' cnt' a' at' bg' t' v' op' b' mc' read', i ≤ 200 ∧ X6_read n (jN L) tc words0 places kinds wills starts cc = some (0, words', places', jN i, kinds', wills', starts', cc', cnt', a') ∧ X12_rules n s tm (jN L) ltr val op mc read = some (-100 - places' i, s, 0, at', bg', t', v', op', b', mc', read')) ∨
    (∃ c i words' places' kinds' wills' starts' cc' a s' at' bg' t' v' op' b' mc' read' kk ww hv, ∃ sa : Nat → Nat, i ≤ 200 ∧ c ≤ 8 ∧ a ≤ 200 ∧ X6_read n (jN L) tc words0 places kinds wills starts cc = some (1, words', places', jN i, kinds', wills', starts', cc', jN c, jN a) ∧ X12_rules n s tm (jN L) ltr val op mc read = some (jN c, s', 0, at', bg', t', v', op', b', mc', read') ∧ RuM s' c kk ww hv ∧ (∀ i, i ≠ 5 → (i < 89 ∨ 313 ≤ i) → s' i = s i) ∧ sa 0 = 0 ∧ sa c = a ∧ ∀ r, r < c → kk r < 6 ∧ kinds' r = jN (kk r) ∧ wills' r = ww r ∧ starts' r = jN (sa r) ∧ sa (r + 1) ≤ a ∧ CSEG cc' (sa r) (sa (r + 1)) (hv r)) := by
  have hB := hT.bt
  generalize (fun i => (tm i).toNatClampNeg) = bt at hB
  obtain ⟨w, words, places', hw, hend, hcut, hW, hw2, hp2⟩ := c_cut hn hL hB words0 places
  have X : PX n L w bt tc tm words := ⟨hn, hL, hB, hw, hend, fun i hi => (hW i hi).2.2, fun i hi => by
    by_cases q : i = w
    · subst q; rw [hw2, hend]; unfold wd; rw [if_neg (Nat.lt_irrefl _)]
    · exact (hW i (by omega)).1⟩
  have hpl : ∀ i, i ≤ w → places' i = jN (po bt L i) := fun i hi => by
    by_cases q : i = w
    · subst q; rw [hp2, hend]
    · exact (hW i (by omega)).2.1
  obtain ⟨t, v, e1, e2⟩ := m_next hn hL hB (Nat.zero_le L) val
  have hp0 : PS bt L 0 (jN (if sk bt L 0 < L then en bt L (sk bt L 0) else L)) (jN (sk bt L 0)) t v := ⟨rfl, rfl, e2⟩
  have hR0 : RI 0 0 0 kinds wills starts cc read mc (fun _ => 0) (fun _ => 0) (fun _ _ => 0) (fun _ => 0) (fun _ => 0) := ⟨rfl, rfl, rfl, rfl, fun r hr => by omega⟩
  unfold X6_read X12_rules
  rw [hcut, show X12_next n tm (jN L) ltr (0 : Int32) val = _ from e1]
  simp only [Option.bind_some, jn]
  rcases X.reads places' 8 n n 0 0 0 0 kinds wills starts cc read mc _ _ t v op (by omega) (by omega) (by omega) (Nat.zero_le _) (Nat.le_refl _) (Nat.le_refl _) hp0 ⟨_, _, _, _, _, hR0⟩ with ⟨i', kinds', wills', starts', cc', cnt', a', v1, at', bg', t', v', op', b', mc', read', g1, g2, g3, g4⟩ | ⟨c, i', kinds', wills', starts', cc', a', at', bg', t', v', op', b', mc', read', g1, g2, g3, g4, g5, g6, kk, ww, hv, sa, sb, g7⟩
  · left
    refine ⟨i', words, places', kinds', wills', starts', cc', cnt', a', at', bg', t', v', op', b', mc', read', by omega, g1, ?_⟩
    rw [show X12_rules_L1 n tm (jN L) ltr n (0 : Int32) (1 : Int32) _ _ t v op (0 : Int32) mc read = _ from g2]
    simp only [Option.bind_some]
    simp only [if_true]
    rw [hpl i' g3, g4.2.1]
  · right
    obtain ⟨s1, k1, k2⟩ := m_r2 (n := n) g3 read' (3 * c) n 0 (upd s 5 (jN c)) (by omega) (by omega)
    obtain ⟨s2, k3, k4⟩ := m_r3 (n := n) (c := b') (by omega) mc' b' n 0 s1 (by omega) (by omega)
    obtain ⟨h1, h2, h3, h4, h5⟩ := g7
    have r2 : ∀ q, q < 3 * c → s2 (89 + q) = read' q := fun q hq => by
      rw [k4, if_neg (by omega), k2, if_pos (by omega), show 89 + q - 89 = q by omega]
    have r3 : ∀ q, q < b' → s2 (113 + q) = mc' q := fun q hq => by
      rw [k4, if_pos (by omega), show 113 + q - 113 = q by omega]
    refine ⟨c, i', words, places', kinds', wills', starts', cc', a', s2, at', bg', t', v', op', jN b', mc', read', kk, ww, hv, sa, by omega, g3, by omega, g1, ?_, ⟨g3, ?_, sb, h2, fun r hr => ?_⟩, fun i hi5 hi => ?_, h1, h3, fun r hr => ?_⟩
    · rw [show X12_rules_L1 n tm (jN L) ltr n (0 : Int32) (1 : Int32) _ _ t v op (0 : Int32) mc read = _ from g2]
      simp only [Option.bind_some]
      rw [if_neg (show ¬ (1 : Int32) = 0 by decide), show X12_rules_L2 n read' (jN c) n (0 : Int32) (upd s 5 (jN c)) = _ from k1]
      simp only [Option.bind_some]
      rw [show X12_rules_L3 n (jN b') mc' n (0 : Int32) s1 = _ from k3]
      rfl
    · rw [k4, if_neg (by omega), k2, if_neg (by omega), upd_s]
    · obtain ⟨f1, f2, f3, f4, f5, f6, f7, f8, f9, f10, f11⟩ := h5 r hr
      refine ⟨f1, ?_, ?_, ?_, by omega, f11.cg (fun j hj => r3 j (by omega))⟩
      · rw [r2 _ (by omega)]; exact f5
      · rw [Nat.add_assoc, r2 _ (by omega)]; exact f6
      · rw [Nat.add_assoc, r2 _ (by omega)]; exact f7
    · rw [k4, if_neg (by omega), k2, if_neg (by omega), upd_n hi5]
    · obtain ⟨f1, f2, f3, f4, f5, f6, f7, f8, f9, f10, f11⟩ := h5 r hr
      exact ⟨f1, f2, f3, f4, f8, f10⟩
end READ
