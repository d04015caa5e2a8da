theorem tT_i : ∀ c, c < 24 → ∀ d, d < 24 → tT c = tT d → c = d := by decide +kernel
theorem tT_l : ∀ c, c < 24 → tT c < 300 ∧ tT c ≠ 100 := by decide +kernel
theorem tT_v : ∀ c, c < 24 → (13 ≤ tT c ∧ tT c ≤ 17 ↔ c < 5) ∧ (c < 5 → tT c = c + 13) := by decide +kernel
theorem m1_no (k : Nat) (hk : k < 2147483648) : ¬ (-1 : Int32) = jN k := fun z => by
  have h : (jN k < 0) = False := lt_F (b := 0) (by omega) hk
  rw [← z] at h; exact absurd h (by decide)
theorem m2_no (k : Nat) (hk : k < 2147483648) : ¬ (-2 : Int32) = jN k := fun z => by
  have h : (jN k < 0) = False := lt_F (b := 0) (by omega) hk
  rw [← z] at h; exact absurd h (by decide)
theorem WT.eq {w t v : Int32} (h : WT w t v) {c : Nat} (hc : c < 24) : w = jN (10000 + c) ↔ t = jN (tT c) := by
  have hl := tT_l c hc
  rcases h with ⟨d, hd, rfl, rfl⟩ | ⟨k, hk, rfl, rfl, rfl⟩ | ⟨rfl, k, rfl, h1, h2, h3, h4⟩ | ⟨rfl, rfl⟩
  · have hl2 := tT_l d hd
    constructor
    · intro z; have := (jN_inj (by omega) (by omega)).mp z; rw [show d = c by omega]
    · intro z; have := (jN_inj (by omega) (by omega)).mp z; rw [tT_i d hd c hc this]
  · constructor
    · intro z; have := (jN_inj (by omega) (by omega)).mp z; omega
    · intro z; have := (jN_inj (by omega) (by omega)).mp z; omega
  · constructor
    · intro z; exact absurd z (m1_no _ (by omega))
    · intro z; have := (jN_inj (by omega) (by omega)).mp z; exact absurd this.symm (h4 c hc)
  · constructor
    · intro z; exact absurd z (m2_no _ (by omega))
    · intro z; exact absurd z (m1_no _ (by omega))
/-- a value, to both sides -/
theorem WT.val {w t v : Int32} (h : WT w t v) : (X11_isIn w (0 : Int32) (10004 : Int32) = 0 ∧ (if t = (100 : Int32) then (1 : Int32) else (if (X12_in1 t (13 : Int32) (17 : Int32)) = 0 then (0 : Int32) else (1 : Int32))) = 0) ∨ ∃ k, k < 10005 ∧ w = jN k ∧ ¬ X11_isIn w (0 : Int32) (10004 : Int32) = 0 ∧ (if t = (100 : Int32) then (1 : Int32) else (if (X12_in1 t (13 : Int32) (17 : Int32)) = 0 then (0 : Int32) else (1 : Int32))) = 1 ∧ (if t = (100 : Int32) then v else (((10000 : Int32) + t) - (13 : Int32))) = jN k := by
  rw [isIn_eq]
  rcases h with ⟨c, hc, rfl, rfl⟩ | ⟨k, hk, rfl, rfl, rfl⟩ | ⟨rfl, k, rfl, h1, h2, h3, h4⟩ | ⟨rfl, rfl⟩
  · have hl := tT_l c hc
    have hv := tT_v c hc
    rw [if_neg (show ¬ jN (tT c) = (100 : Int32) from fun z => hl.2 ((jN_inj (b := 100) (by omega) (by omega)).mp z)), if_neg (show ¬ jN (tT c) = (100 : Int32) from fun z => hl.2 ((jN_inj (b := 100) (by omega) (by omega)).mp z))]
    by_cases h5 : c < 5
    · right
      refine ⟨10000 + c, by omega, rfl, ?_, ?_, ?_⟩
      · rw [show X12_in1 (jN (10000 + c)) (0 : Int32) (10004 : Int32) = jN 1 from in1_T (lo := 0) (hi := 10004) (by omega) (by omega) (by decide)]; decide
      · rw [show X12_in1 (jN (tT c)) (13 : Int32) (17 : Int32) = jN 1 from in1_T (lo := 13) (hi := 17) (hv.1.mpr h5).1 (hv.1.mpr h5).2 (by decide), if_neg (by decide)]
      · rw [hv.2 h5, jl_10000, jN_add, jl_13, jN_sub (by omega)]; congr 1
    · left
      refine ⟨?_, ?_⟩
      · exact in1_F (lo := 0) (hi := 10004) (by omega) (by omega) (by decide)
      · rw [show X12_in1 (jN (tT c)) (13 : Int32) (17 : Int32) = jN 0 from by
          unfold X12_in1
          by_cases q : tT c < 13
          · rw [if_pos (by rw [jl_13, lt_T (by omega) (by omega)]; trivial)]; rfl
          · have : ¬ tT c ≤ 17 := fun z => h5 (hv.1.mp ⟨by omega, z⟩)
            rw [if_neg (by rw [jl_13, lt_F (by omega) (by omega)]; exact not_false), if_pos (by rw [jl_17, lt_T (by omega) (by omega)]; trivial)]; rfl]
        rfl
  · right
    refine ⟨k, by omega, rfl, ?_, ?_, ?_⟩
    · rw [show X12_in1 (jN k) (0 : Int32) (10004 : Int32) = jN 1 from in1_T (lo := 0) (hi := 10004) (by omega) (by omega) (by decide)]; decide
    · rw [if_pos (show jN 100 = (100 : Int32) from rfl)]
    · rw [if_pos (show jN 100 = (100 : Int32) from rfl)]
  · left
    refine ⟨by decide, ?_⟩
    rw [if_neg (show ¬ jN k = (100 : Int32) from fun z => h3 ((jN_inj (b := 100) (by omega) (by omega)).mp z)), show X12_in1 (jN k) (13 : Int32) (17 : Int32) = jN 0 from in1_F (lo := 13) (hi := 17) (by omega) (by omega) (by decide)]
    rfl
  · left; exact ⟨by decide, by decide⟩
/-- LESS, LIKE, MORE, to both sides -/
theorem WT.cmp {w t v : Int32} (h : WT w t v) : (X11_isIn w (10005 : Int32) (10007 : Int32) = 0 ∧ (if t = (260 : Int32) then (10010 : Int32) else (if t = (261 : Int32) then (10011 : Int32) else (if t = (262 : Int32) then (10012 : Int32) else (0 : Int32)))) = 0) ∨ ∃ o, o < 3 ∧ w = jN (10005 + o) ∧ ¬ X11_isIn w (10005 : Int32) (10007 : Int32) = 0 ∧ (if t = (260 : Int32) then (10010 : Int32) else (if t = (261 : Int32) then (10011 : Int32) else (if t = (262 : Int32) then (10012 : Int32) else (0 : Int32)))) = jN (10010 + o) := by
  have e0 := h.eq (c := 5) (by omega)
  have e1 := h.eq (c := 6) (by omega)
  have e2 := h.eq (c := 7) (by omega)
  rw [isIn_eq]
  by_cases q0 : w = jN 10005
  · right; refine ⟨0, by omega, q0, by rw [q0]; decide, ?_⟩
    rw [if_pos (show t = (260 : Int32) from e0.mp q0)]; rfl
  by_cases q1 : w = jN 10006
  · right; refine ⟨1, by omega, q1, by rw [q1]; decide, ?_⟩
    rw [show t = (261 : Int32) from e1.mp q1]; decide
  by_cases q2 : w = jN 10007
  · right; refine ⟨2, by omega, q2, by rw [q2]; decide, ?_⟩
    rw [show t = (262 : Int32) from e2.mp q2]; decide
  left
  refine ⟨?_, ?_⟩
  · rcases in1_or w 10005 10007 (by decide) (by decide) with z | ⟨k, k1, k2, rfl⟩
    · exact z
    · exfalso
      (have : k = 10005 ∨ k = 10006 ∨ k = 10007 := by omega)
      rcases this with y | y | y
      · exact q0 (by rw [y])
      · exact q1 (by rw [y])
      · exact q2 (by rw [y])
  · rw [if_neg (show ¬ t = (260 : Int32) from fun z => q0 (e0.mpr z)), if_neg (show ¬ t = (261 : Int32) from fun z => q1 (e1.mpr z)), if_neg (show ¬ t = (262 : Int32) from fun z => q2 (e2.mpr z))]
theorem opF_b (o : Nat) (x y : Int32) : opF o x y = 0 ∨ opF o x y = 1 := by
  unfold opF
  repeat' split
  all_goals first | exact Or.inl rfl | exact Or.inr rfl
section LIKE
variable {n L w : Nat} {bt : Nat → Nat} {tc tm words : Nat → Int32}
/-- what both sides know: the tape, its words -/
def PX (n L w : Nat) (bt : Nat → Nat) (tc tm words : Nat → Int32) : Prop := 300 ≤ n ∧ L ≤ 200 ∧ BT L bt tc tm ∧ w ≤ L ∧ po bt L w = L ∧ (∀ i, i < w → po bt L i < L) ∧ (∀ i, i ≤ w → words i = wd bt L (po bt L i))
theorem PX.hn (X : PX n L w bt tc tm words) : 300 ≤ n := X.1
theorem PX.hL (X : PX n L w bt tc tm words) : L ≤ 200 := X.2.1
theorem PX.hB (X : PX n L w bt tc tm words) : BT L bt tc tm := X.2.2.1
theorem PX.hw (X : PX n L w bt tc tm words) : w ≤ L := X.2.2.2.1
theorem PX.hend (X : PX n L w bt tc tm words) : po bt L w = L := X.2.2.2.2.1
theorem PX.hlt (X : PX n L w bt tc tm words) : ∀ i, i < w → po bt L i < L := X.2.2.2.2.2.1
theorem PX.hwd (X : PX n L w bt tc tm words) : ∀ i, i ≤ w → words i = wd bt L (po bt L i) := X.2.2.2.2.2.2
/-- the reference stands at word i -/
def PS (bt : Nat → Nat) (L i : Nat) (at0 bg t v : Int32) : Prop := at0 = jN (if po bt L i < L then en bt L (po bt L i) else L) ∧ bg = jN (po bt L i) ∧ WT (wd bt L (po bt L i)) t v
theorem PX.next (X : PX n L w bt tc tm words) {i : Nat} (hi : i < w) {at0 bg t v : Int32} (h : PS bt L i at0 bg t v) : ∃ at' bg' t' v', X12_next n tm (jN L) ltr at0 v = some (at', bg', t', v') ∧ PS bt L (i + 1) at' bg' t' v' := by
  obtain ⟨rfl, rfl, -⟩ := h
  have hp := X.hlt i hi
  obtain ⟨n1, n2, n3⟩ := en_b (bt := bt) hp
  rw [if_pos hp]
  obtain ⟨t', v', e1, e2⟩ := m_next X.hn X.hL X.hB n2 v
  have hpo : po bt L (i + 1) = sk bt L (en bt L (po bt L i)) := by
    show (if po bt L i < L then sk bt L (en bt L (po bt L i)) else L) = _
    rw [if_pos hp]
  rw [← hpo] at e1 e2
  exact ⟨_, _, t', v', e1, rfl, rfl, e2⟩
theorem PX.lt (X : PX n L w bt tc tm words) {i : Nat} (hi : i ≤ w) (h : ¬ words i = -2) : i < w := by
  rcases Nat.lt_or_ge i w with z | z
  · exact z
  · exfalso; apply h
    rw [X.hwd i hi, show i = w by omega, X.hend]; unfold wd; rw [if_neg (Nat.lt_irrefl _)]
theorem PX.takes (X : PX n L w bt tc tm words) {i c : Nat} (hi : i ≤ w) (hc : c < 24) {at0 bg t v : Int32} (h : PS bt L i at0 bg t v) {x y : Int32} (hx : x = jN (10000 + c)) (hy : y = jN (tT c)) :
    (i < w ∧ X6_takes words (jN i) x = some (1, jN (i + 1)) ∧ ∃ at' bg' t' v', X12_takes n tm (jN L) ltr at0 bg t v y = some (1, at', bg', t', v') ∧ PS bt L (i + 1) at' bg' t' v') ∨
    (X6_takes words (jN i) x = some (0, jN i) ∧ X12_takes n tm (jN L) ltr at0 bg t v y = some (0, at0, bg, t, v) ∧ ¬ words i = x) := by
  have hwL := X.hw
  have hL := X.hL
  subst hx hy
  have he := h.2.2.eq hc
  unfold X6_takes X12_takes
  rw [ib_T (show i < 201 by omega) (by omega), jN_nat (show i < 2147483648 by omega)]
  simp only [if_true, pb]
  by_cases q : words i = jN (10000 + c)
  · left
    have hiw : i < w := X.lt hi (fun z => by rw [q] at z; exact m2_no _ (by omega) z.symm)
    obtain ⟨at', bg', t', v', e1, e2⟩ := X.next hiw h
    have ht : t = jN (tT c) := he.mp (by rw [← X.hwd i hi]; exact q)
    refine ⟨hiw, ?_, at', bg', t', v', ?_, e2⟩
    · rw [if_pos q, show jN i + (1 : Int32) = jN (i + 1) from by simp (disch := omega) only [jl_0, jl_1, jl_2, jl_3, jl_4, jl_5, jl_6, jl_7, jl_8, jl_9, jl_10, jl_11, jl_12, jl_13, jl_14, jl_15, jl_16, jl_17, jl_18, jl_20, jl_23, jl_29, jl_30, jl_31, jl_32, jl_35, jl_40, jl_48, jl_50, jl_51, jl_57, jl_60, jl_61, jl_63, jl_64, jl_65, jl_89, jl_97, jl_99, jl_100, jl_101, jl_113, jl_122, jl_200, jl_240, jl_241, jl_255, jl_259, jl_260, jl_261, jl_262, jl_313, jl_500, jl_999, jl_10000, jl_10004, jl_10005, jl_10006, jl_10007, jl_10008, jl_10009, jl_10010, jl_10011, jl_10012, jl_10013, jl_10014, jl_10015, jl_10017, jl_10018, jl_10023, jl_12345, jl_1103515245, jN_add, jN_mul, jN_sub, jN_addm, jN_div, jN_irm, jN_nat, le_T, le_F, lt_T, lt_F, eq_F, ib_T, ib_F, add_j0, if_true, if_false, eq_self, Bool.false_eq_true, Option.bind_some, pb, jn, Nat.zero_add, Nat.add_zero]]
    · rw [if_pos ht, if_neg (show ¬ (1 : Int32) = 0 by decide), e1]
      simp only [Option.bind_some]
      rw [if_pos (show bk (1 : Int32) = true from rfl)]
  · right
    have ht : ¬ t = jN (tT c) := fun z => q (by rw [X.hwd i hi]; exact he.mpr z)
    refine ⟨by rw [if_neg q], ?_, q⟩
    rw [if_neg ht, if_pos (show (0 : Int32) = 0 from rfl), if_pos (show bk (0 : Int32) = true from rfl)]
theorem c_emit {cc : Nat → Int32} {a : Nat} (ha : a < 200) (x : Int32) : X6_emit cc (jN a) x = some (upd cc a x, jN (a + 1)) := by
  unfold X6_emit
  rw [if_pos (show jN a < (200 : Int32) by rw [jl_200, lt_T (by omega) (by omega)]; trivial), ib_T (show a < 200 by omega) (by omega), jN_nat (show a < 2147483648 by omega), if_pos rfl, show jN a + (1 : Int32) = jN (a + 1) from by simp (disch := omega) only [jl_0, jl_1, jl_2, jl_3, jl_4, jl_5, jl_6, jl_7, jl_8, jl_9, jl_10, jl_11, jl_12, jl_13, jl_14, jl_15, jl_16, jl_17, jl_18, jl_20, jl_23, jl_29, jl_30, jl_31, jl_32, jl_35, jl_40, jl_48, jl_50, jl_51, jl_57, jl_60, jl_61, jl_63, jl_64, jl_65, jl_89, jl_97, jl_99, jl_100, jl_101, jl_113, jl_122, jl_200, jl_240, jl_241, jl_255, jl_259, jl_260, jl_261, jl_262, jl_313, jl_500, jl_999, jl_10000, jl_10004, jl_10005, jl_10006, jl_10007, jl_10008, jl_10009, jl_10010, jl_10011, jl_10012, jl_10013, jl_10014, jl_10015, jl_10017, jl_10018, jl_10023, jl_12345, jl_1103515245, jN_add, jN_mul, jN_sub, jN_addm, jN_div, jN_irm, jN_nat, le_T, le_F, lt_T, lt_F, eq_F, ib_T, ib_F, add_j0, if_true, if_false, eq_self, Bool.false_eq_true, Option.bind_some, pb, jn, Nat.zero_add, Nat.add_zero]]
theorem m_lays {cc : Nat → Int32} {a : Nat} (ha : a < 200) (x : Int32) : X12_lays (jN a) cc x = some (jN (a + 1), upd cc a x) := by
  unfold X12_lays
  rw [ib_T (show a < 200 by omega) (by omega), jN_nat (show a < 2147483648 by omega), if_pos rfl, show jN a + (1 : Int32) = jN (a + 1) from by simp (disch := omega) only [jl_0, jl_1, jl_2, jl_3, jl_4, jl_5, jl_6, jl_7, jl_8, jl_9, jl_10, jl_11, jl_12, jl_13, jl_14, jl_15, jl_16, jl_17, jl_18, jl_20, jl_23, jl_29, jl_30, jl_31, jl_32, jl_35, jl_40, jl_48, jl_50, jl_51, jl_57, jl_60, jl_61, jl_63, jl_64, jl_65, jl_89, jl_97, jl_99, jl_100, jl_101, jl_113, jl_122, jl_200, jl_240, jl_241, jl_255, jl_259, jl_260, jl_261, jl_262, jl_313, jl_500, jl_999, jl_10000, jl_10004, jl_10005, jl_10006, jl_10007, jl_10008, jl_10009, jl_10010, jl_10011, jl_10012, jl_10013, jl_10014, jl_10015, jl_10017, jl_10018, jl_10023, jl_12345, jl_1103515245, jN_add, jN_mul, jN_sub, jN_addm, jN_div, jN_irm, jN_nat, le_T, le_F, lt_T, lt_F, eq_F, ib_T, ib_F, add_j0, if_true, if_false, eq_self, Bool.false_eq_true, Option.bind_some, pb, jn, Nat.zero_add, Nat.add_zero]]
/-- a value is read -/
theorem PX.value (X : PX n L w bt tc tm words) {i b : Nat} (hi : i ≤ w) (hb : b ≤ i + 2) {at0 bg t v : Int32} (h : PS bt L i at0 bg t v) (hb2 : i < w → b < 200) (mc : Nat → Int32) :
    (X11_isIn (words i) (0 : Int32) (10004 : Int32) = 0 ∧ X12_readsValue n tm (jN L) ltr at0 bg t v (jN b) mc = some (0, at0, bg, t, v, jN b, mc)) ∨
    ∃ k at' bg' t' v', i < w ∧ k < 10005 ∧ words i = jN k ∧ ¬ X11_isIn (words i) (0 : Int32) (10004 : Int32) = 0 ∧ X12_readsValue n tm (jN L) ltr at0 bg t v (jN b) mc = some (1, at', bg', t', v', jN (b + 1), upd mc b (jN k)) ∧ PS bt L (i + 1) at' bg' t' v' := by
  unfold X12_readsValue
  simp only [pb]
  rw [X.hwd i hi]
  rcases h.2.2.val with ⟨z1, z2⟩ | ⟨k, hk, z1, z2, z3, z4⟩
  · left
    rw [z2]
    exact ⟨z1, by rw [if_pos (show (0 : Int32) = 0 from rfl), if_pos (show bk (0 : Int32) = true from rfl)]⟩
  · right
    have hiw : i < w := X.lt hi (fun z => by rw [X.hwd i hi, z1] at z; exact m2_no _ (by omega) z.symm)
    obtain ⟨at', bg', t', v', e1, e2⟩ := X.next hiw h
    refine ⟨k, at', bg', t', v', hiw, hk, z1, z2, ?_, e2⟩
    rw [z3, z4, if_neg (show ¬ (1 : Int32) = 0 by decide), m_lays (hb2 hiw)]
    simp only [Option.bind_some]
    rw [e1]
    simp only [Option.bind_some]
    rw [if_pos (show bk (1 : Int32) = true from rfl)]
/-- two values are held against each other -/
theorem PX.like (X : PX n L w bt tc tm words) {i a b : Nat} (hi : i ≤ w) (ha : a ≤ i) (hb : b ≤ i) {at0 bg t v : Int32} (h : PS bt L i at0 bg t v) (cc mc : Nat → Int32) :
    ∃ r i' cc' a' at' bg' t' v' b' mc', X6_readCompared words (jN i) cc (jN a) = some (r, jN i', cc', jN a') ∧ X12_readsLike n tm (jN L) ltr at0 bg t v (jN b) mc = some (r, at', bg', t', v', jN b', mc') ∧ i ≤ i' ∧ i' ≤ w ∧ PS bt L i' at' bg' t' v' ∧
      (r = 0 ∨ (r = 1 ∧ a' + i ≤ a + i' ∧ b' + i ≤ b + i' ∧ (∀ j, j < a → cc' j = cc j) ∧ (∀ j, j < b → mc' j = mc j) ∧ ∃ e, CEV cc' a a' 2 e ∧ MEV mc' b b' 2 e ∧ ∀ fv, e fv = 0 ∨ e fv = 1)) := by
  have hwL := X.hw
  have hL := X.hL
  unfold X6_readCompared X12_readsLike
  rw [ib_T (show i < 201 by omega) (by omega), jN_nat (show i < 2147483648 by omega), show jN i + (1 : Int32) = jN (i + 1) from by simp (disch := omega) only [jl_0, jl_1, jl_2, jl_3, jl_4, jl_5, jl_6, jl_7, jl_8, jl_9, jl_10, jl_11, jl_12, jl_13, jl_14, jl_15, jl_16, jl_17, jl_18, jl_20, jl_23, jl_29, jl_30, jl_31, jl_32, jl_35, jl_40, jl_48, jl_50, jl_51, jl_57, jl_60, jl_61, jl_63, jl_64, jl_65, jl_89, jl_97, jl_99, jl_100, jl_101, jl_113, jl_122, jl_200, jl_240, jl_241, jl_255, jl_259, jl_260, jl_261, jl_262, jl_313, jl_500, jl_999, jl_10000, jl_10004, jl_10005, jl_10006, jl_10007, jl_10008, jl_10009, jl_10010, jl_10011, jl_10012, jl_10013, jl_10014, jl_10015, jl_10017, jl_10018, jl_10023, jl_12345, jl_1103515245, jN_add, jN_mul, jN_sub, jN_addm, jN_div, jN_irm, jN_nat, le_T, le_F, lt_T, lt_F, eq_F, ib_T, ib_F, add_j0, if_true, if_false, eq_self, Bool.false_eq_true, Option.bind_some, pb, jn, Nat.zero_add, Nat.add_zero], show jN (i + 1) + (1 : Int32) = jN (i + 2) from by simp (disch := omega) only [jl_0, jl_1, jl_2, jl_3, jl_4, jl_5, jl_6, jl_7, jl_8, jl_9, jl_10, jl_11, jl_12, jl_13, jl_14, jl_15, jl_16, jl_17, jl_18, jl_20, jl_23, jl_29, jl_30, jl_31, jl_32, jl_35, jl_40, jl_48, jl_50, jl_51, jl_57, jl_60, jl_61, jl_63, jl_64, jl_65, jl_89, jl_97, jl_99, jl_100, jl_101, jl_113, jl_122, jl_200, jl_240, jl_241, jl_255, jl_259, jl_260, jl_261, jl_262, jl_313, jl_500, jl_999, jl_10000, jl_10004, jl_10005, jl_10006, jl_10007, jl_10008, jl_10009, jl_10010, jl_10011, jl_10012, jl_10013, jl_10014, jl_10015, jl_10017, jl_10018, jl_10023, jl_12345, jl_1103515245, jN_add, jN_mul, jN_sub, jN_addm, jN_div, jN_irm, jN_nat, le_T, le_F, lt_T, lt_F, eq_F, ib_T, ib_F, add_j0, if_true, if_false, eq_self, Bool.false_eq_true, Option.bind_some, pb, jn, Nat.zero_add, Nat.add_zero], show jN (i + 2) + (1 : Int32) = jN (i + 3) from by simp (disch := omega) only [jl_0, jl_1, jl_2, jl_3, jl_4, jl_5, jl_6, jl_7, jl_8, jl_9, jl_10, jl_11, jl_12, jl_13, jl_14, jl_15, jl_16, jl_17, jl_18, jl_20, jl_23, jl_29, jl_30, jl_31, jl_32, jl_35, jl_40, jl_48, jl_50, jl_51, jl_57, jl_60, jl_61, jl_63, jl_64, jl_65, jl_89, jl_97, jl_99, jl_100, jl_101, jl_113, jl_122, jl_200, jl_240, jl_241, jl_255, jl_259, jl_260, jl_261, jl_262, jl_313, jl_500, jl_999, jl_10000, jl_10004, jl_10005, jl_10006, jl_10007, jl_10008, jl_10009, jl_10010, jl_10011, jl_10012, jl_10013, jl_10014, jl_10015, jl_10017, jl_10018, jl_10023, jl_12345, jl_1103515245, jN_add, jN_mul, jN_sub, jN_addm, jN_div, jN_irm, jN_nat, le_T, le_F, lt_T, lt_F, eq_F, ib_T, ib_F, add_j0, if_true, if_false, eq_self, Bool.false_eq_true, Option.bind_some, pb, jn, Nat.zero_add, Nat.add_zero], jN_nat (show i + 1 < 2147483648 by omega), jN_nat (show i + 2 < 2147483648 by omega)]
  simp only [if_true]
  rcases X.value (b := b) hi (by omega) h (fun _ => by omega) mc with ⟨z1, z2⟩ | ⟨k, at1, bg1, t1, v1, hiw, hk, z0, z1, z2, h1⟩
  · rw [if_pos z1, z2]
    exact ⟨0, i, cc, a, at0, bg, t, v, b, mc, rfl, by simp only [Option.bind_some]; rfl, by omega, hi, h, Or.inl rfl⟩
  rw [if_neg z1, z2, ib_T (show i + 1 < 201 by omega) (by omega)]
  simp only [if_true, Option.bind_some, pb]
  rw [if_neg (show ¬ (1 : Int32) = 0 by decide), X.hwd (i + 1) (by omega)]
  rcases h1.2.2.cmp with ⟨y1, y2⟩ | ⟨o, ho, y0, y1, y2⟩
  · rw [if_pos y1, y2]
    exact ⟨0, i + 1, cc, a, at1, bg1, t1, v1, b + 1, upd mc b (jN k), rfl, by rw [if_pos (show (0 : Int32) = 0 from rfl)], by omega, by omega, h1, Or.inl rfl⟩
  have hi1w : i + 1 < w := X.lt (by omega) (fun z => by rw [X.hwd (i + 1) (by omega), y0] at z; exact m2_no _ (by omega) z.symm)
  obtain ⟨at2, bg2, t2, v2, g1, h2⟩ := X.next hi1w h1
  rw [if_neg y1, y2, if_neg (show ¬ jN (10010 + o) = 0 from fun z => by have := (jN_inj (b := 0) (by omega) (by omega)).mp z; omega), g1, ib_T (show i + 2 < 201 by omega) (by omega), y0]
  simp only [if_true, Option.bind_some]
  rcases X.value (b := b + 1) (i := i + 2) (by omega) (by omega) h2 (fun _ => by omega) (upd mc b (jN k)) with ⟨x1, x2⟩ | ⟨k2, at3, bg3, t3, v3, hi2w, hk2, x0, x1, x2, h3⟩
  · rw [if_pos x1, x2]
    exact ⟨0, i + 2, cc, a, at2, bg2, t2, v2, b + 1, upd mc b (jN k), rfl, by simp only [Option.bind_some]; rfl, by omega, by omega, h2, Or.inl rfl⟩
  rw [if_neg x1, x2, x0, z0, c_emit (by omega)]
  simp only [Option.bind_some]
  rw [c_emit (by omega)]
  simp only [Option.bind_some]
  rw [c_emit (by omega), if_neg (show ¬ (1 : Int32) = 0 by decide), m_lays (by omega)]
  simp only [Option.bind_some]
  refine ⟨1, i + 3, _, a + 1 + 1 + 1, at3, bg3, t3, v3, b + 1 + 1 + 1, _, rfl, rfl, by omega, by omega, h3, Or.inr ⟨rfl, by omega, by omega, fun j hj => ?_, fun j hj => ?_, fun fv => opF o (atF k fv) (atF k2 fv), ?_, ?_, fun fv => opF_b o _ _⟩⟩
  · rw [upd_n (by omega), upd_n (by omega), upd_n (by omega)]
  · rw [upd_n (by omega), upd_n (by omega), upd_n (by omega)]
  · exact CEV.bin ((CEV.atom hk (by rw [upd_n (by omega), upd_n (by omega), upd_s])).mono (by omega)) (CEV.atom hk2 (by rw [upd_n (by omega), upd_s])) (Nat.le_refl 1) (by omega) (by rw [upd_s])
  · exact MEV.bin (o2 := o) ((MEV.atom hk (by rw [upd_n (by omega), upd_n (by omega), upd_s])).mono (by omega)) (MEV.atom hk2 (by rw [upd_n (by omega), upd_s])) (Nat.le_refl 1) (by omega) (by rw [upd_s])
end LIKE
