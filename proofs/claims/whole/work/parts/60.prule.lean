theorem in1_n {x lo hi : Nat} (hx : x < 1000000) (hlo : lo < 1000000) (hhi : hi < 1000000) (h : ¬ (lo ≤ x ∧ x ≤ hi)) : X12_in1 (jN x) (jN lo) (jN hi) = 0 := by
  unfold X12_in1
  by_cases q : x < lo
  · rw [if_pos (by rw [lt_T q (by omega)]; trivial)]
  · rw [if_neg (by rw [lt_F (by omega) (by omega)]; exact not_false), if_pos (by rw [lt_T (by omega) (by omega)]; trivial)]
theorem in1_m1 {lo hi : Nat} (hlo : lo < 1000000) : X12_in1 (-1) (jN lo) (jN hi) = 0 := by
  unfold X12_in1; rw [if_pos (by rw [neg_lt (by decide) lo (by omega)]; trivial)]
theorem in1_m2 {lo hi : Nat} (hlo : lo < 1000000) : X12_in1 (-2) (jN lo) (jN hi) = 0 := by
  unfold X12_in1; rw [if_pos (by rw [neg_lt (by decide) lo (by omega)]; trivial)]
/-- words of one sort, to both sides -/
theorem WT.rng {w t v : Int32} (h : WT w t v) {lo hi tl th : Nat} (hl : lo ≤ hi) (hh : hi < 24) (ht : th < 18) (hT : ∀ c, c < 24 → (lo ≤ c ∧ c ≤ hi ↔ tl ≤ tT c ∧ tT c ≤ th) ∧ (lo ≤ c → c ≤ hi → tT c = tl + (c - lo))) : (X11_isIn w (jN (10000 + lo)) (jN (10000 + hi)) = 0 ∧ X12_in1 t (jN tl) (jN th) = 0) ∨ ∃ k, k ≤ hi - lo ∧ w = jN (10000 + lo + k) ∧ ¬ X11_isIn w (jN (10000 + lo)) (jN (10000 + hi)) = 0 ∧ ¬ X12_in1 t (jN tl) (jN th) = 0 ∧ t = jN (tl + k) := by
  rw [isIn_eq]
  rcases h with ⟨c, hc, rfl, rfl⟩ | ⟨k, hk, rfl, rfl, rfl⟩ | ⟨rfl, k, rfl, h1, h2, h3, h4⟩ | ⟨rfl, rfl⟩
  · have h1 := tT_l c hc
    by_cases q : lo ≤ c ∧ c ≤ hi
    · right
      have q2 := (hT c hc).1.mp q
      have q3 := (hT c hc).2 q.1 q.2
      refine ⟨c - lo, by omega, by congr 1; omega, ?_, ?_, by rw [q3]⟩
      · rw [show X12_in1 (jN (10000 + c)) (jN (10000 + lo)) (jN (10000 + hi)) = jN 1 from in1_T (by omega) (by omega) (by omega)]; decide
      · rw [show X12_in1 (jN (tT c)) (jN tl) (jN th) = jN 1 from in1_T q2.1 q2.2 (by omega)]; decide
    · left
      have q2 : ¬ (tl ≤ tT c ∧ tT c ≤ th) := fun z => q ((hT c hc).1.mpr z)
      have h0 := (hT lo (by omega)).1.mp ⟨Nat.le_refl _, hl⟩
      exact ⟨in1_n (by omega) (by omega) (by omega) (by omega), in1_n (by omega) (by omega) (by omega) q2⟩
  · left
    have h0 := (hT lo (by omega)).1.mp ⟨Nat.le_refl _, hl⟩
    exact ⟨in1_n (by omega) (by omega) (by omega) (by omega), in1_n (by omega) (by omega) (by omega) (by omega)⟩
  · left
    have h0 := (hT lo (by omega)).1.mp ⟨Nat.le_refl _, hl⟩
    exact ⟨in1_m1 (by omega), in1_n (by omega) (by omega) (by omega) (by omega)⟩
  · left
    have h0 := (hT lo (by omega)).1.mp ⟨Nat.le_refl _, hl⟩
    exact ⟨in1_m2 (by omega), in1_m1 (by omega)⟩
theorem tT_k : ∀ c, c < 24 → (18 ≤ c ∧ c ≤ 23 ↔ 0 ≤ tT c ∧ tT c ≤ 5) ∧ (18 ≤ c → c ≤ 23 → tT c = 0 + (c - 18)) := by decide +kernel
theorem tT_w : ∀ c, c < 24 → (15 ≤ c ∧ c ≤ 17 ↔ 6 ≤ tT c ∧ tT c ≤ 8) ∧ (15 ≤ c → c ≤ 17 → tT c = 6 + (c - 15)) := by decide +kernel
theorem j_dif {a b c : Nat} (h : a = b + c) : jN a - jN b = jN c := by
  rw [jN_sub (by omega)]; exact congrArg jN (by omega)
section RULE
variable {n L w : Nat} {bt : Nat → Nat} {tc tm words : Nat → Int32}
theorem PX.rule (X : PX n L w bt tc tm words) {j i a b : Nat} (hj : j < 8) (hi : i ≤ w) (ha : a ≤ i) (hb : b ≤ i) {at0 bg t v op : Int32} (hp : PS bt L i at0 bg t v) (kinds wills starts cc read mc : Nat → Int32) (cnt : Int32) :
    ∃ r i' kinds' wills' starts' cc' cnt' a' at' bg' t' v' op' b' mc' read', X6_readRule n words (jN i) kinds wills starts cc cnt (jN a) (jN j) = some (r, jN i', kinds', wills', starts', cc', cnt', jN a') ∧ X12_readsRule n tm (jN L) ltr at0 bg t v op (jN b) mc read (jN j) = some (r, at', bg', t', v', op', jN b', mc', read') ∧ i ≤ i' ∧ i' ≤ w ∧ PS bt L i' at' bg' t' v' ∧
      (r = 0 ∨ (r = 1 ∧ i < i' ∧ cnt' = cnt + 1 ∧ a' + i ≤ a + i' ∧ b' + i ≤ b + i' ∧ a ≤ a' ∧ b ≤ b' ∧ (∀ q, q < a → cc' q = cc q) ∧ (∀ q, q < b → mc' q = mc q) ∧ ∃ k ww hv, k < 6 ∧ kinds' = upd kinds j (jN k) ∧ wills' = upd wills j ww ∧ starts' = upd starts j (jN a) ∧ read' = upd (upd (upd read (3 * j) (jN k)) (3 * j + 1) ww) (3 * j + 2) (jN b') ∧ CSEG cc' a a' hv ∧ MSEG mc' b b' hv)) := by
  have hwL := X.hw
  have hL := X.hL
  have hn := X.hn
  unfold X6_readRule X12_readsRule
  rw [if_neg (show ¬ jN j = (8 : Int32) from fun z => by have := (jN_inj (b := 8) (by omega) (by omega)).mp z; omega), ib_T (show i < 201 by omega) (by omega), jN_nat (show i < 2147483648 by omega), ib_T (show j < 8 by omega) (by omega), ib_T (show j < 9 by omega) (by omega), jN_nat (show j < 2147483648 by omega), show (3 : Int32) * jN j = jN (3 * j) from by rw [jl_3, jN_mul], show jN (3 * j) + (1 : Int32) = jN (3 * j + 1) from by rw [jl_1, jN_add], show jN (3 * j) + (2 : Int32) = jN (3 * j + 2) from by rw [jl_2, jN_add], ib_T (show 3 * j < 24 by omega) (by omega), ib_T (show 3 * j + 1 < 24 by omega) (by omega), ib_T (show 3 * j + 2 < 24 by omega) (by omega), jN_nat (show 3 * j < 2147483648 by omega), jN_nat (show 3 * j + 1 < 2147483648 by omega), jN_nat (show 3 * j + 2 < 2147483648 by omega), X.hwd i hi, show jN i + (1 : Int32) = jN (i + 1) from by rw [jl_1, jN_add]]
  simp only [if_true]
  rcases hp.2.2.rng (lo := 18) (hi := 23) (tl := 0) (th := 5) (by omega) (by omega) (by omega) tT_k with ⟨z1, z2⟩ | ⟨k, hk, z0, z1, z2, z3⟩
  · rw [if_pos (show X11_isIn _ (10018 : Int32) (10023 : Int32) = 0 from z1), if_pos (show X12_in1 t (0 : Int32) (5 : Int32) = 0 from z2)]
    exact ⟨0, i, kinds, wills, starts, cc, cnt, a, at0, bg, t, v, op, b, mc, read, rfl, rfl, Nat.le_refl _, hi, hp, Or.inl rfl⟩
  have hiw : i < w := X.lt hi (fun y => by rw [X.hwd i hi, z0] at y; exact m2_no _ (by omega) y.symm)
  obtain ⟨at1, bg1, t1, v1, e1, hp1⟩ := X.next hiw hp
  rw [if_neg (show ¬ X11_isIn _ (10018 : Int32) (10023 : Int32) = 0 from z1), if_neg (show ¬ X12_in1 t (0 : Int32) (5 : Int32) = 0 from z2), e1, z0, z3, show jN (10000 + 18 + k) - (10018 : Int32) = jN k from j_dif (a := 10000 + 18 + k) (b := 10018) (c := k) (by omega), Nat.zero_add]
  simp only [Option.bind_some]
  -- from the word behind the condition on
  have fin : ∀ (i2 a2 b2 : Nat) (cc2 mc2 : Nat → Int32) (at2 bg2 t2 v2 : Int32) (hv : (Nat → Int32) → Int32), i < i2 → i2 ≤ w → PS bt L i2 at2 bg2 t2 v2 → a2 + i + 1 ≤ a + i2 → b2 + i + 1 ≤ b + i2 → a ≤ a2 → b ≤ b2 → (∀ q, q < a → cc2 q = cc q) → (∀ q, q < b → mc2 q = mc q) → CSEG cc2 a a2 hv → MSEG mc2 b b2 hv →
      ∃ r i' kinds' wills' starts' cc' cnt' a' at' bg' t' v' op' b' mc' read', (if ib (jN i2) 201 = true then (if X11_isIn (words (jN i2).toNatClampNeg) (10015 : Int32) (10017 : Int32) = 0 then some ((0 : Int32), jN i2, upd kinds j (jN k), wills, upd starts j (jN a), cc2, cnt, jN a2) else (if ib (jN i2) 201 = true then ((X6_takes words (jN i2 + 1) (10014 : Int32)).bind fun r13 => (if bk r13.1 = true then some (r13.1, r13.2, upd kinds j (jN k), upd wills j (words (jN i2).toNatClampNeg - 10015), upd starts j (jN a), cc2, cnt + 1, jN a2) else none)) else none)) else none) = some (r, jN i', kinds', wills', starts', cc', cnt', jN a') ∧
        (if X12_in1 t2 (6 : Int32) (8 : Int32) = 0 then some ((0 : Int32), at2, bg2, t2, v2, (0 : Int32), jN b2, mc2, upd read (3 * j) (jN k)) else ((X12_next n tm (jN L) ltr at2 v2).bind fun r11 => ((X12_takes n tm (jN L) ltr r11.1 r11.2.1 r11.2.2.1 r11.2.2.2 (259 : Int32)).bind fun r13 => (if bk r13.1 = true then some (r13.1, r13.2.1, r13.2.2.1, r13.2.2.2.1, r13.2.2.2.2, (0 : Int32), jN b2, mc2, upd (upd (upd read (3 * j) (jN k)) (3 * j + 1) (t2 - 6)) (3 * j + 2) (jN b2)) else none)))) = some (r, at', bg', t', v', op', jN b', mc', read') ∧ i ≤ i' ∧ i' ≤ w ∧ PS bt L i' at' bg' t' v' ∧
      (r = 0 ∨ (r = 1 ∧ i < i' ∧ cnt' = cnt + 1 ∧ a' + i ≤ a + i' ∧ b' + i ≤ b + i' ∧ a ≤ a' ∧ b ≤ b' ∧ (∀ q, q < a → cc' q = cc q) ∧ (∀ q, q < b → mc' q = mc q) ∧ ∃ k ww hv, k < 6 ∧ kinds' = upd kinds j (jN k) ∧ wills' = upd wills j ww ∧ starts' = upd starts j (jN a) ∧ read' = upd (upd (upd read (3 * j) (jN k)) (3 * j + 1) ww) (3 * j + 2) (jN b') ∧ CSEG cc' a a' hv ∧ MSEG mc' b b' hv)) := by
    intro i2 a2 b2 cc2 mc2 at2 bg2 t2 v2 hv hi2 hi2w hp2 qa qb qa2 qb2 qc qm qC qM
    rw [ib_T (show i2 < 201 by omega) (by omega), jN_nat (show i2 < 2147483648 by omega), X.hwd i2 hi2w, show jN i2 + (1 : Int32) = jN (i2 + 1) from by rw [jl_1, jN_add]]
    simp only [if_true]
    rcases hp2.2.2.rng (lo := 15) (hi := 17) (tl := 6) (th := 8) (by omega) (by omega) (by omega) tT_w with ⟨y1, y2⟩ | ⟨k2, hk2, y0, y1, y2, y3⟩
    · rw [if_pos (show X11_isIn _ (10015 : Int32) (10017 : Int32) = 0 from y1), if_pos (show X12_in1 t2 (6 : Int32) (8 : Int32) = 0 from y2)]
      exact ⟨0, i2, _, wills, _, cc2, cnt, a2, at2, bg2, t2, v2, 0, b2, mc2, _, rfl, rfl, by omega, hi2w, hp2, Or.inl rfl⟩
    have hi2lt : i2 < w := X.lt hi2w (fun y => by rw [X.hwd i2 hi2w, y0] at y; exact m2_no _ (by omega) y.symm)
    obtain ⟨at3, bg3, t3, v3, g1, hp3⟩ := X.next hi2lt hp2
    rw [if_neg (show ¬ X11_isIn _ (10015 : Int32) (10017 : Int32) = 0 from y1), if_neg (show ¬ X12_in1 t2 (6 : Int32) (8 : Int32) = 0 from y2), g1, y0, y3, show jN (10000 + 15 + k2) - (10015 : Int32) = jN k2 from j_dif (a := 10000 + 15 + k2) (b := 10015) (c := k2) (by omega), show jN (6 + k2) - (6 : Int32) = jN k2 from j_dif (a := 6 + k2) (b := 6) (c := k2) (by omega)]
    simp only [Option.bind_some]
    rcases X.takes (i := i2 + 1) (by omega) (c := 14) (by omega) hp3 (x := (10014 : Int32)) (y := (259 : Int32)) rfl rfl with ⟨x0, x1, at4, bg4, t4, v4, x2, hp4⟩ | ⟨x1, x2, -⟩
    · rw [x1, x2]
      simp only [Option.bind_some]
      rw [if_pos (show bk (1 : Int32) = true from rfl), if_pos (show bk (1 : Int32) = true from rfl)]
      exact ⟨1, i2 + 1 + 1, _, _, _, cc2, _, a2, at4, bg4, t4, v4, 0, b2, mc2, _, rfl, rfl, by omega, by omega, hp4, Or.inr ⟨rfl, by omega, rfl, by omega, by omega, qa2, qb2, qc, qm, k, jN k2, hv, by omega, rfl, rfl, rfl, rfl, qC, qM⟩⟩
    · rw [x1, x2]
      simp only [Option.bind_some]
      rw [if_pos (show bk (0 : Int32) = true from rfl), if_pos (show bk (0 : Int32) = true from rfl)]
      exact ⟨0, i2 + 1, _, _, _, cc2, _, a2, at3, bg3, t3, v3, 0, b2, mc2, _, rfl, rfl, by omega, by omega, hp3, Or.inl rfl⟩
  rcases X.takes (i := i + 1) (by omega) (c := 11) (by omega) hp1 (x := (10011 : Int32)) (y := (9 : Int32)) rfl rfl with ⟨x0, x1, at2, bg2, t2, v2, x2, hp2⟩ | ⟨x1, x2, -⟩
  · rw [x1, x2]
    simp only [Option.bind_some, jn]
    rw [if_neg (show ¬ (1 : Int32) = 0 by decide), if_neg (show ¬ (1 : Int32) = 0 by decide)]
    obtain ⟨r, i3, cc3, a3, at3, bg3, t3, v3, op3, b3, mc3, g1, g2, g3, g4, g5, g6⟩ := X.condition 3 0 20 (by omega) (by omega) (i + 1 + 1) a b cc mc at2 bg2 t2 v2 (by omega) (by omega) (by omega) hp2
    unfold X6_readCondition X12_readsCondition
    rw [show X6_readCondition_G n 20 0 words (jN (i + 1 + 1)) cc (jN a) (0 : Int32) = _ from g1, show X12_readsCondition_G n 20 0 tm (jN L) ltr at2 bg2 t2 v2 (0 : Int32) (jN b) mc = _ from g2]
    simp only [Option.bind_some]
    rcases g6 with rfl | ⟨rfl, rfl, f1, f2, f3, f4, e, f5, f6, f7⟩
    · rw [if_pos (show (0 : Int32) = 0 from rfl), if_pos (show (0 : Int32) = 0 from rfl)]
      exact ⟨0, i3, _, wills, _, cc3, cnt, a3, at3, bg3, t3, v3, op3, b3, mc3, _, rfl, rfl, by omega, g4, g5, Or.inl rfl⟩
    · rw [if_neg (show ¬ (1 : Int32) = 0 by decide), if_neg (show ¬ (1 : Int32) = 0 by decide)]
      have ca := f5.1
      have cb := f6.1
      exact fin i3 a3 b3 cc3 mc3 at3 bg3 t3 v3 (fun fv => if e fv = 0 then 0 else 1) (by omega) g4 g5 (by omega) (by omega) (by omega) (by omega) f3 f4 (Or.inr ⟨e, f5, fun _ => rfl⟩) (Or.inr ⟨e, f6, fun _ => rfl⟩)
  · rw [x1, x2]
    simp only [Option.bind_some, jn]
    simp only [if_true]
    exact fin (i + 1) a b cc mc at1 bg1 t1 v1 (fun _ => 1) (by omega) (by omega) hp1 (by omega) (by omega) (Nat.le_refl _) (Nat.le_refl _) (fun _ _ => rfl) (fun _ _ => rfl) (Or.inl ⟨rfl, fun _ => rfl⟩) (Or.inl ⟨rfl, fun _ => rfl⟩)
end RULE
