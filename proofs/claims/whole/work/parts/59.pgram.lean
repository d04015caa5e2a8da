/-- what a reader of both sides answers, from word i on -/
def PRR (bt : Nat → Nat) (L w o dp i a b : Nat) (cc mc : Nat → Int32) (x : Option (Int32 × Int32 × (Nat → Int32) × Int32)) (y : Option (Int32 × Int32 × Int32 × Int32 × Int32 × Int32 × Int32 × (Nat → Int32))) : Prop :=
  ∃ r i' cc' a' at' bg' t' v' op' b' mc', x = some (r, jN i', cc', jN a') ∧ y = some (r, at', bg', t', v', op', jN b', mc') ∧ i ≤ i' ∧ i' ≤ w ∧ PS bt L i' at' bg' t' v' ∧
    (r = 0 ∨ (r = 1 ∧ op' = jN o ∧ a' + i ≤ a + i' ∧ b' + i ≤ b + i' ∧ (∀ j, j < a → cc' j = cc j) ∧ (∀ j, j < b → mc' j = mc j) ∧ ∃ e, CEV cc' a a' dp e ∧ MEV mc' b b' dp e ∧ ∀ fv, e fv = 0 ∨ e fv = 1))
theorem MEV.ext {mr : Nat → Int32} {a b dp : Nat} {e e2} (h : MEV mr a b dp e) (he : ∀ fv, e fv = e2 fv) : MEV mr a b dp e2 := (funext he : e = e2) ▸ h
theorem nb_1 {x : Int32} (h : x = 0 ∨ x = 1) : (1 : Int32) - x = 0 ∨ (1 : Int32) - x = 1 := by rcases h with rfl | rfl <;> decide
theorem nb_2 {x : Int32} (h : x = 0 ∨ x = 1) : (1 : Int32) - (1 - x) = x := by rcases h with rfl | rfl <;> decide
section GRAM
variable {n L w : Nat} {bt : Nat → Nat} {tc tm words : Nat → Int32} {Fc : Nat → (Nat → Int32) → Int32 → (Nat → Int32) → Int32 → Int32 → Option (Int32 × Int32 × (Nat → Int32) × Int32)} {Fm : Nat → (Nat → Int32) → Int32 → (Nat → Int32) → Int32 → Int32 → Int32 → Int32 → Int32 → Int32 → (Nat → Int32) → Option (Int32 × Int32 × Int32 × Int32 × Int32 × Int32 × Int32 × (Nat → Int32))}
theorem PX.all (X : PX n L w bt tc tm words) {o dp : Nat} (hdp : 1 ≤ dp) {V : Int32} (hF : ∀ (i a b : Nat) (cc mc : Nat → Int32) (at0 bg t v : Int32), i ≤ w → a ≤ i → b ≤ i → PS bt L i at0 bg t v → PRR bt L w o dp i a b cc mc (Fc 2 words (jN i) cc (jN a) V) (Fm 2 tm (jN L) ltr at0 bg t v (jN o) (jN b) mc)) {i0 a0 b0 : Nat} (cc0 mc0 : Nat → Int32) {at0 bg t v : Int32} (hi0 : i0 ≤ w) (ha0 : a0 ≤ i0) (hb0 : b0 ≤ i0) (hP : PS bt L i0 at0 bg t v) : PRR bt L w o (dp + 1) i0 a0 b0 cc0 mc0 (X6_readAll_b n Fc words (jN i0) cc0 (jN a0) V) (X12_readsAll_b n Fm tm (jN L) ltr at0 bg t v (jN o) (jN b0) mc0) := by
  have hwL := X.hw
  have hL := X.hL
  have hn := X.hn
  have K : ∀ d m m3 it i a b cc mc at0 bg t v (e : (Nat → Int32) → Int32), w - i ≤ d → d < m → d + 1 < m3 → it ≤ i → i0 ≤ i → i ≤ w → PS bt L i at0 bg t v → a + i0 ≤ a0 + i → b + i0 ≤ b0 + i → (∀ j, j < a0 → cc j = cc0 j) → (∀ j, j < b0 → mc j = mc0 j) → CEV cc a0 a (dp + 1) e → MEV mc b0 b (dp + 1) e → (∀ fv, e fv = 0 ∨ e fv = 1) →
      PRR bt L w o (dp + 1) i0 a0 b0 cc0 mc0 (X6_readAll_L1 n Fc words V (fun o9 => some ((1 : Int32), o9.2.1, o9.2.2.1, o9.2.2.2)) m (jN it) (jN i) cc (jN a)) (X12_readsAll_L1 n Fm tm (jN L) ltr m3 1 at0 bg t v (jN o) (jN b) mc) := by
    intro d
    induction d with
    | zero =>
      intro m m3 it i a b cc mc at0 bg t v e hd hm hm3 hit hi1 hi hp ha hb hcc hmc hC hM hbit
      obtain ⟨m, rfl⟩ : ∃ y, m = y + 1 := ⟨m - 1, by omega⟩
      obtain ⟨m3, rfl⟩ : ∃ y, m3 = y + 1 := ⟨m3 - 1, by omega⟩
      rcases X.takes hi (c := 9) (by omega) hp (x := (10009 : Int32)) (y := (11 : Int32)) rfl rfl with ⟨z, -⟩ | ⟨z1, z2, -⟩
      · omega
      refine ⟨1, i, cc, a, at0, bg, t, v, jN o, b, mc, ?_, ?_, hi1, hi, hp, Or.inr ⟨rfl, rfl, ha, hb, hcc, hmc, e, hC, hM, hbit⟩⟩
      · rw [X6_readAll_L1]
        by_cases q : (200 : Int32) ≤ jN it
        · rw [if_pos q]
        · rw [if_neg q, z1]; rfl
      · rw [X12_readsAll_L1, if_neg (show ¬ (1 : Int32) = 0 by decide), z2]; rfl
    | succ d ih =>
      intro m m3 it i a b cc mc at0 bg t v e hd hm hm3 hit hi1 hi hp ha hb hcc hmc hC hM hbit
      obtain ⟨m, rfl⟩ : ∃ y, m = y + 1 := ⟨m - 1, by omega⟩
      obtain ⟨m3, rfl⟩ : ∃ y, m3 = y + 1 := ⟨m3 - 1, by omega⟩
      rcases X.takes hi (c := 9) (by omega) hp (x := (10009 : Int32)) (y := (11 : Int32)) rfl rfl with ⟨z, z1, at1, bg1, t1, v1, z2, hp1⟩ | ⟨z1, z2, -⟩
      · rw [X6_readAll_L1, X12_readsAll_L1, if_neg (show ¬ (1 : Int32) = 0 by decide), z1, z2, if_neg (show ¬ (200 : Int32) ≤ jN it by rw [jl_200, le_F (by omega) (by omega)]; exact not_false)]
        simp only [Option.bind_some]
        rw [if_neg (show ¬ (1 : Int32) = 0 by decide), if_neg (show ¬ (1 : Int32) = 0 by decide)]
        obtain ⟨r, i2, cc2, a2, at2, bg2, t2, v2, op2, b2, mc2, e1, e2, e3, e4, e5, e6⟩ := hF (i + 1) a b cc mc at1 bg1 t1 v1 (by omega) (by omega) (by omega) hp1
        rw [e1, e2]
        simp only [Option.bind_some]
        rcases e6 with rfl | ⟨rfl, rfl, f1, f2, f3, f4, e', f5, f6, f7⟩
        · rw [if_pos (show (0 : Int32) = 0 from rfl), if_pos (show (0 : Int32) = 0 from rfl)]
          obtain ⟨m3, rfl⟩ : ∃ y, m3 = y + 1 := ⟨m3 - 1, by omega⟩
          refine ⟨0, i2, cc2, a2, at2, bg2, t2, v2, op2, b2, mc2, rfl, ?_, by omega, e4, e5, Or.inl rfl⟩
          rw [X12_readsAll_L1, if_pos (show (0 : Int32) = 0 from rfl)]
        · rw [if_neg (show ¬ (1 : Int32) = 0 by decide), if_neg (show ¬ (1 : Int32) = 0 by decide), c_emit (by omega), m_lays (by omega)]
          simp only [Option.bind_some]
          rw [show jN it + (1 : Int32) = jN (it + 1) from by rw [jl_1, jN_add]]
          have hca := hC.1
          have hcb := hM.1
          have hca2 := f5.1
          have hcb2 := f6.1
          refine ih m m3 (it + 1) i2 (a2 + 1) (b2 + 1) (upd cc2 a2 (10009 : Int32)) (upd mc2 b2 (10013 : Int32)) at2 bg2 t2 v2 (fun fv => opF 4 (e fv) (e' fv)) (by omega) (by omega) (by omega) (by omega) (by omega) e4 e5 (by omega) (by omega) (fun j hj => ?_) (fun j hj => ?_) ?_ ?_ (fun fv => opF_b _ _ _)
          · rw [upd_n (by omega), f3 j (by omega)]; exact hcc j hj
          · rw [upd_n (by omega), f4 j (by omega)]; exact hmc j hj
          · exact CEV.bin (hC.cg (fun j _ hj => by rw [upd_n (by omega)]; exact f3 j hj)) (f5.cg (fun j _ hj => upd_n (by omega))) hdp (Or.inr (Or.inr (Or.inr ⟨by omega, hbit, f7⟩))) (by rw [upd_s]; rfl)
          · exact MEV.bin (o2 := 3) (hM.cg (fun j _ hj => by rw [upd_n (by omega)]; exact f4 j hj)) (f6.cg (fun j _ hj => upd_n (by omega))) hdp (by omega) (by rw [upd_s]; rfl)
      · refine ⟨1, i, cc, a, at0, bg, t, v, jN o, b, mc, ?_, ?_, hi1, hi, hp, Or.inr ⟨rfl, rfl, ha, hb, hcc, hmc, e, hC, hM, hbit⟩⟩
        · rw [X6_readAll_L1]
          by_cases q : (200 : Int32) ≤ jN it
          · rw [if_pos q]
          · rw [if_neg q, z1]; rfl
        · rw [X12_readsAll_L1, if_neg (show ¬ (1 : Int32) = 0 by decide), z2]; rfl
  unfold X6_readAll_b X12_readsAll_b
  obtain ⟨r, i2, cc2, a2, at2, bg2, t2, v2, op2, b2, mc2, e1, e2, e3, e4, e5, e6⟩ := hF i0 a0 b0 cc0 mc0 at0 bg t v hi0 ha0 hb0 hP
  rw [e1, e2]
  simp only [Option.bind_some, jn]
  rcases e6 with rfl | ⟨rfl, rfl, f1, f2, f3, f4, e', f5, f6, f7⟩
  · obtain ⟨m, hm⟩ : ∃ m, n = m + 1 := ⟨n - 1, by omega⟩
    refine ⟨0, i2, cc2, a2, at2, bg2, t2, v2, op2, b2, mc2, by rw [if_pos (show (0 : Int32) = 0 from rfl)], ?_, e3, e4, e5, Or.inl rfl⟩
    rw [show X12_readsAll_L1 n Fm tm (jN L) ltr n 0 at2 bg2 t2 v2 op2 (jN b2) mc2 = some (0, at2, bg2, t2, v2, op2, jN b2, mc2) from by rw [hm, X12_readsAll_L1, if_pos (show (0 : Int32) = 0 from rfl)]]
    simp only [Option.bind_some]
    rw [if_pos (show bk (0 : Int32) = true from rfl)]
  · obtain ⟨r, i3, cc3, a3, at3, bg3, t3, v3, op3, b3, mc3, g1, g2, g3⟩ := K w n n 0 i2 a2 b2 cc2 mc2 at2 bg2 t2 v2 e' (by omega) (by omega) (by omega) (by omega) e3 e4 e5 f1 f2 f3 f4 (f5.mono (by omega)) (f6.mono (by omega)) f7
    refine ⟨r, i3, cc3, a3, at3, bg3, t3, v3, op3, b3, mc3, ?_, ?_, g3⟩
    · rw [if_neg (show ¬ (1 : Int32) = 0 by decide)]; exact g1
    · rw [g2]
      simp only [Option.bind_some]
      rcases g3.2.2.2 with rfl | ⟨rfl, -⟩
      · rw [if_pos (show bk (0 : Int32) = true from rfl)]
      · rw [if_pos (show bk (1 : Int32) = true from rfl)]
theorem PX.cond (X : PX n L w bt tc tm words) {o dp : Nat} (hdp : 1 ≤ dp) {V : Int32} (hF : ∀ (i a b : Nat) (cc mc : Nat → Int32) (at0 bg t v : Int32), i ≤ w → a ≤ i → b ≤ i → PS bt L i at0 bg t v → PRR bt L w o dp i a b cc mc (Fc 1 words (jN i) cc (jN a) V) (Fm 1 tm (jN L) ltr at0 bg t v (jN o) (jN b) mc)) {i0 a0 b0 : Nat} (cc0 mc0 : Nat → Int32) {at0 bg t v : Int32} (hi0 : i0 ≤ w) (ha0 : a0 ≤ i0) (hb0 : b0 ≤ i0) (hP : PS bt L i0 at0 bg t v) : PRR bt L w o (dp + 1) i0 a0 b0 cc0 mc0 (X6_readCondition_b n Fc words (jN i0) cc0 (jN a0) V) (X12_readsCondition_b n Fm tm (jN L) ltr at0 bg t v (jN o) (jN b0) mc0) := by
  have hwL := X.hw
  have hL := X.hL
  have hn := X.hn
  have K : ∀ d m m3 it i a b cc mc at0 bg t v (e : (Nat → Int32) → Int32), w - i ≤ d → d < m → d + 1 < m3 → it ≤ i → i0 ≤ i → i ≤ w → PS bt L i at0 bg t v → a + i0 ≤ a0 + i → b + i0 ≤ b0 + i → (∀ j, j < a0 → cc j = cc0 j) → (∀ j, j < b0 → mc j = mc0 j) → CEV cc a0 a (dp + 1) e → MEV mc b0 b (dp + 1) e → (∀ fv, e fv = 0 ∨ e fv = 1) →
      PRR bt L w o (dp + 1) i0 a0 b0 cc0 mc0 (X6_readCondition_L1 n Fc words V (fun o9 => some ((1 : Int32), o9.2.1, o9.2.2.1, o9.2.2.2)) m (jN it) (jN i) cc (jN a)) (X12_readsCondition_L1 n Fm tm (jN L) ltr m3 1 at0 bg t v (jN o) (jN b) mc) := by
    intro d
    induction d with
    | zero =>
      intro m m3 it i a b cc mc at0 bg t v e hd hm hm3 hit hi1 hi hp ha hb hcc hmc hC hM hbit
      obtain ⟨m, rfl⟩ : ∃ y, m = y + 1 := ⟨m - 1, by omega⟩
      obtain ⟨m3, rfl⟩ : ∃ y, m3 = y + 1 := ⟨m3 - 1, by omega⟩
      rcases X.takes hi (c := 10) (by omega) hp (x := (10010 : Int32)) (y := (12 : Int32)) rfl rfl with ⟨z, -⟩ | ⟨z1, z2, -⟩
      · omega
      refine ⟨1, i, cc, a, at0, bg, t, v, jN o, b, mc, ?_, ?_, hi1, hi, hp, Or.inr ⟨rfl, rfl, ha, hb, hcc, hmc, e, hC, hM, hbit⟩⟩
      · rw [X6_readCondition_L1]
        by_cases q : (200 : Int32) ≤ jN it
        · rw [if_pos q]
        · rw [if_neg q, z1]; rfl
      · rw [X12_readsCondition_L1, if_neg (show ¬ (1 : Int32) = 0 by decide), z2]; rfl
    | succ d ih =>
      intro m m3 it i a b cc mc at0 bg t v e hd hm hm3 hit hi1 hi hp ha hb hcc hmc hC hM hbit
      obtain ⟨m, rfl⟩ : ∃ y, m = y + 1 := ⟨m - 1, by omega⟩
      obtain ⟨m3, rfl⟩ : ∃ y, m3 = y + 1 := ⟨m3 - 1, by omega⟩
      rcases X.takes hi (c := 10) (by omega) hp (x := (10010 : Int32)) (y := (12 : Int32)) rfl rfl with ⟨z, z1, at1, bg1, t1, v1, z2, hp1⟩ | ⟨z1, z2, -⟩
      · rw [X6_readCondition_L1, X12_readsCondition_L1, if_neg (show ¬ (1 : Int32) = 0 by decide), z1, z2, if_neg (show ¬ (200 : Int32) ≤ jN it by rw [jl_200, le_F (by omega) (by omega)]; exact not_false)]
        simp only [Option.bind_some]
        rw [if_neg (show ¬ (1 : Int32) = 0 by decide), if_neg (show ¬ (1 : Int32) = 0 by decide)]
        obtain ⟨r, i2, cc2, a2, at2, bg2, t2, v2, op2, b2, mc2, e1, e2, e3, e4, e5, e6⟩ := hF (i + 1) a b cc mc at1 bg1 t1 v1 (by omega) (by omega) (by omega) hp1
        rw [e1, e2]
        simp only [Option.bind_some]
        rcases e6 with rfl | ⟨rfl, rfl, f1, f2, f3, f4, e', f5, f6, f7⟩
        · rw [if_pos (show (0 : Int32) = 0 from rfl), if_pos (show (0 : Int32) = 0 from rfl)]
          obtain ⟨m3, rfl⟩ : ∃ y, m3 = y + 1 := ⟨m3 - 1, by omega⟩
          refine ⟨0, i2, cc2, a2, at2, bg2, t2, v2, op2, b2, mc2, rfl, ?_, by omega, e4, e5, Or.inl rfl⟩
          rw [X12_readsCondition_L1, if_pos (show (0 : Int32) = 0 from rfl)]
        · rw [if_neg (show ¬ (1 : Int32) = 0 by decide), if_neg (show ¬ (1 : Int32) = 0 by decide), c_emit (by omega), m_lays (by omega)]
          simp only [Option.bind_some]
          rw [show jN it + (1 : Int32) = jN (it + 1) from by rw [jl_1, jN_add]]
          have hca := hC.1
          have hcb := hM.1
          have hca2 := f5.1
          have hcb2 := f6.1
          refine ih m m3 (it + 1) i2 (a2 + 1) (b2 + 1) (upd cc2 a2 (10010 : Int32)) (upd mc2 b2 (10014 : Int32)) at2 bg2 t2 v2 (fun fv => opF 5 (e fv) (e' fv)) (by omega) (by omega) (by omega) (by omega) (by omega) e4 e5 (by omega) (by omega) (fun j hj => ?_) (fun j hj => ?_) ?_ ?_ (fun fv => opF_b _ _ _)
          · rw [upd_n (by omega), f3 j (by omega)]; exact hcc j hj
          · rw [upd_n (by omega), f4 j (by omega)]; exact hmc j hj
          · exact CEV.bin (hC.cg (fun j _ hj => by rw [upd_n (by omega)]; exact f3 j hj)) (f5.cg (fun j _ hj => upd_n (by omega))) hdp (Or.inr (Or.inr (Or.inr ⟨by omega, hbit, f7⟩))) (by rw [upd_s]; rfl)
          · exact MEV.bin (o2 := 4) (hM.cg (fun j _ hj => by rw [upd_n (by omega)]; exact f4 j hj)) (f6.cg (fun j _ hj => upd_n (by omega))) hdp (by omega) (by rw [upd_s]; rfl)
      · refine ⟨1, i, cc, a, at0, bg, t, v, jN o, b, mc, ?_, ?_, hi1, hi, hp, Or.inr ⟨rfl, rfl, ha, hb, hcc, hmc, e, hC, hM, hbit⟩⟩
        · rw [X6_readCondition_L1]
          by_cases q : (200 : Int32) ≤ jN it
          · rw [if_pos q]
          · rw [if_neg q, z1]; rfl
        · rw [X12_readsCondition_L1, if_neg (show ¬ (1 : Int32) = 0 by decide), z2]; rfl
  unfold X6_readCondition_b X12_readsCondition_b
  obtain ⟨r, i2, cc2, a2, at2, bg2, t2, v2, op2, b2, mc2, e1, e2, e3, e4, e5, e6⟩ := hF i0 a0 b0 cc0 mc0 at0 bg t v hi0 ha0 hb0 hP
  rw [e1, e2]
  simp only [Option.bind_some, jn]
  rcases e6 with rfl | ⟨rfl, rfl, f1, f2, f3, f4, e', f5, f6, f7⟩
  · obtain ⟨m, hm⟩ : ∃ m, n = m + 1 := ⟨n - 1, by omega⟩
    refine ⟨0, i2, cc2, a2, at2, bg2, t2, v2, op2, b2, mc2, by rw [if_pos (show (0 : Int32) = 0 from rfl)], ?_, e3, e4, e5, Or.inl rfl⟩
    rw [show X12_readsCondition_L1 n Fm tm (jN L) ltr n 0 at2 bg2 t2 v2 op2 (jN b2) mc2 = some (0, at2, bg2, t2, v2, op2, jN b2, mc2) from by rw [hm, X12_readsCondition_L1, if_pos (show (0 : Int32) = 0 from rfl)]]
    simp only [Option.bind_some]
    rw [if_pos (show bk (0 : Int32) = true from rfl)]
  · obtain ⟨r, i3, cc3, a3, at3, bg3, t3, v3, op3, b3, mc3, g1, g2, g3⟩ := K w n n 0 i2 a2 b2 cc2 mc2 at2 bg2 t2 v2 e' (by omega) (by omega) (by omega) (by omega) e3 e4 e5 f1 f2 f3 f4 (f5.mono (by omega)) (f6.mono (by omega)) f7
    refine ⟨r, i3, cc3, a3, at3, bg3, t3, v3, op3, b3, mc3, ?_, ?_, g3⟩
    · rw [if_neg (show ¬ (1 : Int32) = 0 by decide)]; exact g1
    · rw [g2]
      simp only [Option.bind_some]
      rcases g3.2.2.2 with rfl | ⟨rfl, -⟩
      · rw [if_pos (show bk (0 : Int32) = true from rfl)]
      · rw [if_pos (show bk (1 : Int32) = true from rfl)]
theorem PX.nots (X : PX n L w bt tc tm words) : ∀ d m m3 c i at0 bg t v, w - i ≤ d → d < m → d < m3 → c ≤ i → i ≤ w → PS bt L i at0 bg t v → ∃ c' i' z at' bg' t' v', X6_readOne_L1 n Fc words m (jN (c % 2)) (jN c) (jN i) = some (jN (c' % 2), z, jN i') ∧ X12_readsOne_L1 n Fm tm (jN L) ltr m3 (jN c) at0 bg t v = some (jN c', at', bg', t', v') ∧ i ≤ i' ∧ i' ≤ w ∧ c' + i = c + i' ∧ PS bt L i' at' bg' t' v' := by
  have hwL := X.hw
  have hL := X.hL
  intro d
  induction d with
  | zero =>
    intro m m3 c i at0 bg t v hd hm hm3 hc hi hp
    obtain ⟨m, rfl⟩ : ∃ y, m = y + 1 := ⟨m - 1, by omega⟩
    obtain ⟨m3, rfl⟩ : ∃ y, m3 = y + 1 := ⟨m3 - 1, by omega⟩
    rcases X.takes hi (c := 8) (by omega) hp (x := (10008 : Int32)) (y := (10 : Int32)) rfl rfl with ⟨z, -⟩ | ⟨z1, z2, -⟩
    · omega
    refine ⟨c, i, jN c, at0, bg, t, v, ?_, ?_, Nat.le_refl _, hi, rfl, hp⟩
    · rw [X6_readOne_L1]
      by_cases q : (200 : Int32) ≤ jN c
      · rw [if_pos q]
      · rw [if_neg q, z1]; rfl
    · rw [X12_readsOne_L1, z2]; rfl
  | succ d ih =>
    intro m m3 c i at0 bg t v hd hm hm3 hc hi hp
    obtain ⟨m, rfl⟩ : ∃ y, m = y + 1 := ⟨m - 1, by omega⟩
    obtain ⟨m3, rfl⟩ : ∃ y, m3 = y + 1 := ⟨m3 - 1, by omega⟩
    rcases X.takes hi (c := 8) (by omega) hp (x := (10008 : Int32)) (y := (10 : Int32)) rfl rfl with ⟨z, z1, at1, bg1, t1, v1, z2, hp1⟩ | ⟨z1, z2, -⟩
    · obtain ⟨c', i', y, at', bg', t', v', e1, e2, e3, e4, e5, e6⟩ := ih m m3 (c + 1) (i + 1) at1 bg1 t1 v1 (by omega) (by omega) (by omega) (by omega) (by omega) hp1
      refine ⟨c', i', y, at', bg', t', v', ?_, ?_, by omega, e4, by omega, e6⟩
      · rw [X6_readOne_L1, if_neg (show ¬ (200 : Int32) ≤ jN c by rw [jl_200, le_F (by omega) (by omega)]; exact not_false), z1]
        simp only [Option.bind_some, pb]
        rw [if_neg (show ¬ (1 : Int32) = 0 by decide), show jN c + (1 : Int32) = jN (c + 1) from by rw [jl_1, jN_add]]
        rw [show (if jN (c % 2) = 0 then (1 : Int32) else 0) = jN ((c + 1) % 2) from by
          (have : c % 2 = 0 ∨ c % 2 = 1 := by omega)
          rcases this with y | y
          · rw [y, show (c + 1) % 2 = 1 by omega, if_pos (show jN 0 = 0 from rfl)]; rfl
          · rw [y, show (c + 1) % 2 = 0 by omega, if_neg (show ¬ jN 1 = 0 by decide)]; rfl]
        exact e1
      · rw [X12_readsOne_L1, z2]
        simp only [Option.bind_some]
        rw [if_neg (show ¬ (1 : Int32) = 0 by decide), show jN c + (1 : Int32) = jN (c + 1) from by rw [jl_1, jN_add]]
        exact e2
    · refine ⟨c, i, jN c, at0, bg, t, v, ?_, ?_, Nat.le_refl _, hi, rfl, hp⟩
      · rw [X6_readOne_L1]
        by_cases q : (200 : Int32) ≤ jN c
        · rw [if_pos q]
        · rw [if_neg q, z1]; rfl
      · rw [X12_readsOne_L1, z2]; rfl
/-- the reference's NOTs are laid -/
theorem m_denies (hn : 300 ≤ n) {c b0 b dp : Nat} {mc : Nat → Int32} {e : (Nat → Int32) → Int32} (hd : 1 ≤ dp) (hb : b + c ≤ 200) (hM : MEV mc b0 b dp e) (hbit : ∀ fv, e fv = 0 ∨ e fv = 1) : ∃ z mc', X12_readsOne_L2 n Fm (jN c) 1 n (0 : Int32) (jN b) mc = some (z, jN (b + c), mc') ∧ (∀ j, j < b → mc' j = mc j) ∧ MEV mc' b0 (b + c) dp (fun fv => if c % 2 = 0 then e fv else 1 - e fv) := by
  have K : ∀ d m k mc, k + d = c → d < m → MEV mc b0 (b + k) dp (fun fv => if k % 2 = 0 then e fv else 1 - e fv) → ∃ z mc', X12_readsOne_L2 n Fm (jN c) 1 m (jN k) (jN (b + k)) mc = some (z, jN (b + c), mc') ∧ (∀ j, j < b → mc' j = mc j) ∧ MEV mc' b0 (b + c) dp (fun fv => if c % 2 = 0 then e fv else 1 - e fv) := by
    intro d
    induction d with
    | zero =>
      intro m k mc hk hm hM
      obtain ⟨m, rfl⟩ : ∃ y, m = y + 1 := ⟨m - 1, by omega⟩
      have : k = c := by omega
      subst this
      exact ⟨jN k, mc, by rw [X12_readsOne_L2, if_pos (Int32.le_refl _)], fun _ _ => rfl, hM⟩
    | succ d ih =>
      intro m k mc hk hm hM
      obtain ⟨m, rfl⟩ : ∃ y, m = y + 1 := ⟨m - 1, by omega⟩
      have hb0 := hM.1
      have q := (hM.cg (mr2 := upd mc (b + k) 10015) (fun j _ hj => upd_n (by omega))).not hd (by rw [upd_s]; rfl)
      obtain ⟨z, mc', e1, e2, e3⟩ := ih m (k + 1) (upd mc (b + k) 10015) (by omega) (by omega) (q.ext (fun fv => by
        (have : k % 2 = 0 ∨ k % 2 = 1 := by omega)
        rcases this with y | y
        · rw [if_pos y, if_neg (by omega)]
        · rw [if_neg (by omega), if_pos (by omega)]; exact nb_2 (hbit fv)))
      refine ⟨z, mc', ?_, fun j hj => by rw [e2 j hj, upd_n (by omega)], e3⟩
      rw [X12_readsOne_L2, if_neg (show ¬ jN c ≤ jN k by rw [le_F (by omega) (by omega)]; exact not_false), if_neg (show ¬ (1 : Int32) = 0 by decide), m_lays (by omega), show jN k + (1 : Int32) = jN (k + 1) from by rw [jl_1, jN_add]]
      exact e1
  exact K c n 0 mc (by omega) (by omega) (hM.ext (fun fv => rfl))
theorem PX.one (X : PX n L w bt tc tm words) {o dp : Nat} (hdp : 2 ≤ dp) (hF : ∀ (i a b : Nat) (cc mc : Nat → Int32) (at0 bg t v : Int32), i ≤ w → words i = 10012 → a ≤ i → b ≤ i → PS bt L i at0 bg t v → PRR bt L w o dp i a b cc mc (Fc 3 words (jN i) cc (jN a) (jN o + 1)) (Fm 3 tm (jN L) ltr at0 bg t v (jN o) (jN b) mc)) {i0 a0 b0 : Nat} (cc0 mc0 : Nat → Int32) {at0 bg t v : Int32} (hi0 : i0 ≤ w) (ha0 : a0 ≤ i0) (hb0 : b0 ≤ i0) (hP : PS bt L i0 at0 bg t v) : PRR bt L w o dp i0 a0 b0 cc0 mc0 (X6_readOne_b n Fc words (jN i0) cc0 (jN a0) (jN o)) (X12_readsOne_b n Fm tm (jN L) ltr at0 bg t v (jN o) (jN b0) mc0) := by
  have hwL := X.hw
  have hL := X.hL
  have hn := X.hn
  unfold X6_readOne_b X12_readsOne_b
  obtain ⟨c, i1, z, at1, bg1, t1, v1, e1, e2, e3, e4, e5, hp1⟩ := X.nots (Fc := Fc) (Fm := Fm) w n n 0 i0 at0 bg t v (by omega) (by omega) (by omega) (by omega) hi0 hP
  rw [show X6_readOne_L1 n Fc words n (0 : Int32) (0 : Int32) (jN i0) = _ from e1, show X12_readsOne_L1 n Fm tm (jN L) ltr n (0 : Int32) at0 bg t v = _ from e2]
  simp only [Option.bind_some]
  rw [ib_T (show i1 < 201 by omega) (by omega), jN_nat (show i1 < 2147483648 by omega)]
  simp only [if_true]
  have inner : PRR bt L w o dp i1 a0 b0 cc0 mc0 (if words i1 = (10012 : Int32) then ((Fc 3 words (jN i1) cc0 (jN a0) (jN o + 1)).bind fun r6 => some (r6.1, r6.2.1, r6.2.2.1, r6.2.2.2)) else ((X6_readCompared words (jN i1) cc0 (jN a0)).bind fun r8 => some (r8.1, r8.2.1, r8.2.2.1, r8.2.2.2))) (if t1 = (240 : Int32) then ((Fm 3 tm (jN L) ltr at1 bg1 t1 v1 (jN o) (jN b0) mc0).bind fun r4 => some (r4.1, r4.2.1, r4.2.2.1, r4.2.2.2.1, r4.2.2.2.2.1, r4.2.2.2.2.2.1, r4.2.2.2.2.2.2.1, r4.2.2.2.2.2.2.2)) else ((X12_readsLike n tm (jN L) ltr at1 bg1 t1 v1 (jN b0) mc0).bind fun r6 => some (r6.1, r6.2.1, r6.2.2.1, r6.2.2.2.1, r6.2.2.2.2.1, jN o, r6.2.2.2.2.2.1, r6.2.2.2.2.2.2))) := by
    have hw12 := hp1.2.2.eq (c := 12) (by omega)
    rw [← X.hwd i1 e4] at hw12
    by_cases q : words i1 = (10012 : Int32)
    · rw [if_pos q, if_pos (show t1 = (240 : Int32) from hw12.mp q)]
      obtain ⟨r, i2, cc2, a2, at2, bg2, t2, v2, op2, b2, mc2, f1, f2, f3⟩ := hF i1 a0 b0 cc0 mc0 at1 bg1 t1 v1 e4 q (by omega) (by omega) hp1
      rw [f1, f2]
      exact ⟨r, i2, cc2, a2, at2, bg2, t2, v2, op2, b2, mc2, rfl, rfl, f3⟩
    · rw [if_neg q, if_neg (show ¬ t1 = (240 : Int32) from fun y => q (hw12.mpr y))]
      obtain ⟨r, i2, cc2, a2, at2, bg2, t2, v2, b2, mc2, f1, f2, f3, f4, f5, f6⟩ := X.like (a := a0) (b := b0) e4 (by omega) (by omega) hp1 cc0 mc0
      rw [f1, f2]
      refine ⟨r, i2, cc2, a2, at2, bg2, t2, v2, jN o, b2, mc2, rfl, rfl, f3, f4, f5, ?_⟩
      rcases f6 with y | ⟨y1, y2, y3, y4, y5, e, y6, y7, y8⟩
      · exact Or.inl y
      · exact Or.inr ⟨y1, rfl, y2, y3, y4, y5, e, y6.mono hdp, y7.mono hdp, y8⟩
  obtain ⟨r, i2, cc2, a2, at2, bg2, t2, v2, op2, b2, mc2, f1, f2, f3, f4, f5, f6⟩ := inner
  rw [f1, f2]
  simp only [Option.bind_some]
  rcases f6 with rfl | ⟨rfl, rfl, y2, y3, y4, y5, e, y6, y7, y8⟩
  · obtain ⟨m, hm⟩ : ∃ m, n = m + 1 := ⟨n - 1, by omega⟩
    have h2 : X12_readsOne_L2 n Fm (jN c) 0 n (0 : Int32) (jN b2) mc2 = some (0, jN b2, mc2) := by
      rw [hm, X12_readsOne_L2]
      by_cases q : jN c ≤ (0 : Int32)
      · rw [if_pos q]
      · rw [if_neg q, if_pos (show (0 : Int32) = 0 from rfl)]
    refine ⟨0, i2, cc2, a2, at2, bg2, t2, v2, op2, b2, mc2, ?_, ?_, by omega, f4, f5, Or.inl rfl⟩
    · rw [if_pos (show (0 : Int32) = 0 from rfl), if_pos (show bk (0 : Int32) = true from rfl)]
    · rw [h2]
      simp only [Option.bind_some]
      rw [if_pos (show bk (0 : Int32) = true from rfl)]
  · obtain ⟨z2, mc3, g1, g2, g3⟩ := m_denies (n := n) (Fm := Fm) (c := c) (b := b2) (mc := mc2) hn (by omega) (by omega) y7 y8
    rw [g1, if_neg (show ¬ (1 : Int32) = 0 by decide)]
    simp only [Option.bind_some]
    rw [if_pos (show bk (1 : Int32) = true from rfl), if_pos (show bk (1 : Int32) = true from rfl)]
    have hbits : ∀ fv, (if c % 2 = 0 then e fv else 1 - e fv) = 0 ∨ (if c % 2 = 0 then e fv else 1 - e fv) = 1 := fun fv => by
      split
      · exact y8 fv
      · exact nb_1 (y8 fv)
    have hca := y6.1
    have hcb := y7.1
    by_cases q : c % 2 = 0
    · rw [q, if_pos (show jN 0 = 0 from rfl)]
      refine ⟨1, i2, cc2, a2, at2, bg2, t2, v2, jN o, b2 + c, mc3, rfl, rfl, by omega, f4, f5, Or.inr ⟨rfl, rfl, by omega, by omega, y4, fun j hj => by rw [g2 j (by omega)]; exact y5 j hj, e, y6, g3.ext (fun fv => if_pos q), y8⟩⟩
    · rw [if_neg (show ¬ jN (c % 2) = 0 from fun y => q ((jN_inj (b := 0) (by omega) (by omega)).mp y)), c_emit (by omega)]
      simp only [Option.bind_some]
      refine ⟨1, i2, upd cc2 a2 10008, a2 + 1, at2, bg2, t2, v2, jN o, b2 + c, mc3, rfl, rfl, by omega, f4, f5, Or.inr ⟨rfl, rfl, by omega, by omega, fun j hj => by rw [upd_n (by omega)]; exact y4 j hj, fun j hj => by rw [g2 j (by omega)]; exact y5 j hj, fun fv => 1 - e fv, (y6.cg (fun j _ hj => upd_n (by omega))).not (by omega) (by rw [upd_s]; rfl), g3.ext (fun fv => if_neg q), fun fv => nb_1 (y8 fv)⟩⟩
theorem PX.within (X : PX n L w bt tc tm words) {o dp : Nat} (ho : o ≤ 3) (hF : o < 3 → ∀ (i a b : Nat) (cc mc : Nat → Int32) (at0 bg t v : Int32), i ≤ w → a ≤ i → b ≤ i → PS bt L i at0 bg t v → PRR bt L w (o + 1) dp i a b cc mc (Fc 0 words (jN i) cc (jN a) (jN (o + 1))) (Fm 0 tm (jN L) ltr at0 bg t v (jN (o + 1)) (jN b) mc)) {i0 a0 b0 : Nat} (cc0 mc0 : Nat → Int32) {at0 bg t v : Int32} (hi0 : i0 ≤ w) (hq : words i0 = 10012) (ha0 : a0 ≤ i0) (hb0 : b0 ≤ i0) (hP : PS bt L i0 at0 bg t v) : PRR bt L w o dp i0 a0 b0 cc0 mc0 (X6_readOpened_b n Fc words (jN i0) cc0 (jN a0) (jN o + 1)) (X12_readsWithin_b n Fm tm (jN L) ltr at0 bg t v (jN o) (jN b0) mc0) := by
  have hwL := X.hw
  have hL := X.hL
  have hn := X.hn
  unfold X6_readOpened_b X12_readsWithin_b
  rw [show jN o + (1 : Int32) = jN (o + 1) from by rw [jl_1, jN_add]]
  have hiw : i0 < w := X.lt hi0 (fun z => by rw [hq] at z; exact absurd z (by decide))
  by_cases h3 : o = 3
  · subst h3
    rw [if_neg (show ¬ jN (3 + 1) ≤ (3 : Int32) by decide), if_pos (show jN 3 = (3 : Int32) from rfl)]
    exact ⟨0, i0, cc0, a0, at0, bg, t, v, jN 3, b0, mc0, rfl, rfl, Nat.le_refl _, hi0, hP, Or.inl rfl⟩
  rw [if_pos (show jN (o + 1) ≤ (3 : Int32) by rw [jl_3, le_T (by omega) (by omega)]; trivial), if_neg (show ¬ jN o = (3 : Int32) from fun z => h3 ((jN_inj (b := 3) (by omega) (by omega)).mp z)), show jN i0 + (1 : Int32) = jN (i0 + 1) from by rw [jl_1, jN_add]]
  obtain ⟨at1, bg1, t1, v1, e1, hp1⟩ := X.next hiw hP
  rw [e1]
  simp only [Option.bind_some]
  obtain ⟨r, i2, cc2, a2, at2, bg2, t2, v2, op2, b2, mc2, f1, f2, f3, f4, f5, f6⟩ := hF (by omega) (i0 + 1) a0 b0 cc0 mc0 at1 bg1 t1 v1 (by omega) (by omega) (by omega) hp1
  rw [f1, f2]
  simp only [Option.bind_some]
  rcases f6 with rfl | ⟨rfl, rfl, y2, y3, y4, y5, e, y6, y7, y8⟩
  · rw [if_pos (show (0 : Int32) = 0 from rfl), if_pos (show (0 : Int32) = 0 from rfl)]
    exact ⟨0, i2, cc2, a2, at2, bg2, t2, v2, op2, b2, mc2, rfl, rfl, by omega, f4, f5, Or.inl rfl⟩
  rw [if_neg (show ¬ (1 : Int32) = 0 by decide), if_neg (show ¬ (1 : Int32) = 0 by decide)]
  rcases X.takes f4 (c := 13) (by omega) f5 (x := (10013 : Int32)) (y := (241 : Int32)) rfl rfl with ⟨z, z1, at3, bg3, t3, v3, z2, hp3⟩ | ⟨z1, z2, -⟩
  · rw [z1, z2]
    simp only [Option.bind_some]
    rw [if_neg (show ¬ (1 : Int32) = 0 by decide), if_neg (show ¬ (1 : Int32) = 0 by decide), show jN (o + 1) - (1 : Int32) = jN o from by rw [jl_1, jN_sub (by omega)]; rfl]
    exact ⟨1, i2 + 1, cc2, a2, at3, bg3, t3, v3, jN o, b2, mc2, rfl, rfl, by omega, by omega, hp3, Or.inr ⟨rfl, rfl, by omega, by omega, y4, y5, e, y6, y7, y8⟩⟩
  · rw [z1, z2]
    simp only [Option.bind_some]
    simp only [if_true]
    exact ⟨0, i2, cc2, a2, at2, bg2, t2, v2, jN (o + 1), b2, mc2, rfl, rfl, by omega, f4, f5, Or.inl rfl⟩
/-- a condition, o parentheses open -/
theorem PX.condition (X : PX n L w bt tc tm words) : ∀ k o d, o + k = 3 → 4 * k + 3 < d → ∀ (i a b : Nat) (cc mc : Nat → Int32) (at0 bg t v : Int32), i ≤ w → a ≤ i → b ≤ i → PS bt L i at0 bg t v → PRR bt L w o (2 * k + 4) i a b cc mc (X6_readCondition_G n d 0 words (jN i) cc (jN a) (jN o)) (X12_readsCondition_G n d 0 tm (jN L) ltr at0 bg t v (jN o) (jN b) mc) := by
  intro k
  induction k with
  | zero =>
    intro o d hk hd i a b cc mc at0 bg t v hi ha hb hp
    obtain ⟨d, rfl⟩ : ∃ y, d = y + 4 := ⟨d - 4, by omega⟩
    refine X.cond (dp := 3) (by omega) (fun i a b cc mc at0 bg t v hi ha hb hp => ?_) cc mc hi ha hb hp
    refine X.all (dp := 2) (by omega) (fun i a b cc mc at0 bg t v hi ha hb hp => ?_) cc mc hi ha hb hp
    refine X.one (dp := 2) (by omega) (fun i a b cc mc at0 bg t v hi hq ha hb hp => ?_) cc mc hi ha hb hp
    exact X.within (by omega) (fun h => by omega) cc mc hi hq ha hb hp
  | succ k ih =>
    intro o d hk hd i a b cc mc at0 bg t v hi ha hb hp
    obtain ⟨d, rfl⟩ : ∃ y, d = y + 4 := ⟨d - 4, by omega⟩
    refine X.cond (dp := 2 * k + 5) (by omega) (fun i a b cc mc at0 bg t v hi ha hb hp => ?_) cc mc hi ha hb hp
    refine X.all (dp := 2 * k + 4) (by omega) (fun i a b cc mc at0 bg t v hi ha hb hp => ?_) cc mc hi ha hb hp
    refine X.one (dp := 2 * k + 4) (by omega) (fun i a b cc mc at0 bg t v hi hq ha hb hp => ?_) cc mc hi ha hb hp
    exact X.within (by omega) (fun _ i a b cc mc at0 bg t v hi ha hb hp => ih (o + 1) d (by omega) (by omega) i a b cc mc at0 bg t v hi ha hb hp) cc mc hi hq ha hb hp
end GRAM
