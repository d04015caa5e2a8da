/-! The pure layer: numbers, loops, the reference's row s as the state of both sides. -/
def jN (a : Nat) : Int32 := Int32.ofNat a
theorem jN_lit (n : Nat) : (OfNat.ofNat n : Int32) = jN n := rfl
theorem jl_0 : (0 : Int32) = jN 0 := rfl
theorem jl_1 : (1 : Int32) = jN 1 := rfl
theorem jl_2 : (2 : Int32) = jN 2 := rfl
theorem jl_3 : (3 : Int32) = jN 3 := rfl
theorem jl_4 : (4 : Int32) = jN 4 := rfl
theorem jl_5 : (5 : Int32) = jN 5 := rfl
theorem jl_6 : (6 : Int32) = jN 6 := rfl
theorem jl_7 : (7 : Int32) = jN 7 := rfl
theorem jl_8 : (8 : Int32) = jN 8 := rfl
theorem jl_9 : (9 : Int32) = jN 9 := rfl
theorem jl_10 : (10 : Int32) = jN 10 := rfl
theorem jl_11 : (11 : Int32) = jN 11 := rfl
theorem jl_12 : (12 : Int32) = jN 12 := rfl
theorem jl_13 : (13 : Int32) = jN 13 := rfl
theorem jl_14 : (14 : Int32) = jN 14 := rfl
theorem jl_15 : (15 : Int32) = jN 15 := rfl
theorem jl_16 : (16 : Int32) = jN 16 := rfl
theorem jl_17 : (17 : Int32) = jN 17 := rfl
theorem jl_18 : (18 : Int32) = jN 18 := rfl
theorem jl_20 : (20 : Int32) = jN 20 := rfl
theorem jl_23 : (23 : Int32) = jN 23 := rfl
theorem jl_29 : (29 : Int32) = jN 29 := rfl
theorem jl_30 : (30 : Int32) = jN 30 := rfl
theorem jl_31 : (31 : Int32) = jN 31 := rfl
theorem jl_32 : (32 : Int32) = jN 32 := rfl
theorem jl_35 : (35 : Int32) = jN 35 := rfl
theorem jl_40 : (40 : Int32) = jN 40 := rfl
theorem jl_48 : (48 : Int32) = jN 48 := rfl
theorem jl_50 : (50 : Int32) = jN 50 := rfl
theorem jl_51 : (51 : Int32) = jN 51 := rfl
theorem jl_57 : (57 : Int32) = jN 57 := rfl
theorem jl_60 : (60 : Int32) = jN 60 := rfl
theorem jl_61 : (61 : Int32) = jN 61 := rfl
theorem jl_63 : (63 : Int32) = jN 63 := rfl
theorem jl_64 : (64 : Int32) = jN 64 := rfl
theorem jl_65 : (65 : Int32) = jN 65 := rfl
theorem jl_89 : (89 : Int32) = jN 89 := rfl
theorem jl_97 : (97 : Int32) = jN 97 := rfl
theorem jl_99 : (99 : Int32) = jN 99 := rfl
theorem jl_100 : (100 : Int32) = jN 100 := rfl
theorem jl_101 : (101 : Int32) = jN 101 := rfl
theorem jl_113 : (113 : Int32) = jN 113 := rfl
theorem jl_122 : (122 : Int32) = jN 122 := rfl
theorem jl_200 : (200 : Int32) = jN 200 := rfl
theorem jl_240 : (240 : Int32) = jN 240 := rfl
theorem jl_241 : (241 : Int32) = jN 241 := rfl
theorem jl_255 : (255 : Int32) = jN 255 := rfl
theorem jl_259 : (259 : Int32) = jN 259 := rfl
theorem jl_260 : (260 : Int32) = jN 260 := rfl
theorem jl_261 : (261 : Int32) = jN 261 := rfl
theorem jl_262 : (262 : Int32) = jN 262 := rfl
theorem jl_313 : (313 : Int32) = jN 313 := rfl
theorem jl_500 : (500 : Int32) = jN 500 := rfl
theorem jl_999 : (999 : Int32) = jN 999 := rfl
theorem jl_10000 : (10000 : Int32) = jN 10000 := rfl
theorem jl_10004 : (10004 : Int32) = jN 10004 := rfl
theorem jl_10005 : (10005 : Int32) = jN 10005 := rfl
theorem jl_10006 : (10006 : Int32) = jN 10006 := rfl
theorem jl_10007 : (10007 : Int32) = jN 10007 := rfl
theorem jl_10008 : (10008 : Int32) = jN 10008 := rfl
theorem jl_10009 : (10009 : Int32) = jN 10009 := rfl
theorem jl_10010 : (10010 : Int32) = jN 10010 := rfl
theorem jl_10011 : (10011 : Int32) = jN 10011 := rfl
theorem jl_10012 : (10012 : Int32) = jN 10012 := rfl
theorem jl_10013 : (10013 : Int32) = jN 10013 := rfl
theorem jl_10014 : (10014 : Int32) = jN 10014 := rfl
theorem jl_10015 : (10015 : Int32) = jN 10015 := rfl
theorem jl_10017 : (10017 : Int32) = jN 10017 := rfl
theorem jl_10018 : (10018 : Int32) = jN 10018 := rfl
theorem jl_10023 : (10023 : Int32) = jN 10023 := rfl
theorem jl_12345 : (12345 : Int32) = jN 12345 := rfl
theorem jl_1103515245 : (1103515245 : Int32) = jN 1103515245 := rfl
theorem jN_add (a b : Nat) : jN a + jN b = jN (a + b) := (Int32.ofNat_add a b).symm
theorem jN_mul (a b : Nat) : jN a * jN b = jN (a * b) := (Int32.ofNat_mul a b).symm
theorem jN_sub {a b : Nat} (h : b ≤ a) : jN a - jN b = jN (a - b) := (Int32.ofNat_sub a b h).symm
theorem jN_addm {a : Nat} (h : 1 ≤ a) : jN a + -jN 1 = jN (a - 1) := by
  rw [← jN_sub h]; exact (Int32.sub_eq_add_neg _ _).symm
theorem add_j0 (x : Int32) : x + jN 0 = x := Int32.add_zero x
theorem jN_div {a b : Nat} (ha : a < 2147483648) (hb : b < 2147483648) : jN a / jN b = jN (a / b) := (Int32.ofNat_div ha hb).symm
theorem jN_irm {a b : Nat} (ha : a < 2147483648) (hb : b < 2147483648) : irm (jN a) (jN b) = jN (a % b) := by
  unfold irm
  rw [jN_div ha hb, jN_mul, jN_sub (Nat.div_mul_le_self a b)]
  congr 1
  have := Nat.div_add_mod a b
  rw [Nat.mul_comm] at this
  omega
theorem jN_nat {a : Nat} (h : a < 2147483648) : (jN a).toNatClampNeg = a := Int32.toNatClampNeg_ofNat_of_lt h
theorem jN_le {a b : Nat} (ha : a < 2147483648) (hb : b < 2147483648) : jN a ≤ jN b ↔ a ≤ b := Int32.ofNat_le_iff_le ha hb
theorem jN_lt {a b : Nat} (ha : a < 2147483648) (hb : b < 2147483648) : jN a < jN b ↔ a < b := Int32.ofNat_lt_iff_lt ha hb
theorem jN_inj {a b : Nat} (ha : a < 2147483648) (hb : b < 2147483648) : jN a = jN b ↔ a = b := by
  constructor
  · intro h
    have := congrArg Int32.toNatClampNeg h
    rwa [jN_nat ha, jN_nat hb] at this
  · rintro rfl; rfl
theorem le_T {a b : Nat} (h : a ≤ b) (hb : b < 2147483648) : (jN a ≤ jN b) = True := eq_true ((jN_le (by omega) hb).mpr h)
theorem le_F {a b : Nat} (h : b < a) (ha : a < 2147483648) : (jN a ≤ jN b) = False := eq_false (fun q => by have := (jN_le ha (by omega)).mp q; omega)
theorem lt_T {a b : Nat} (h : a < b) (hb : b < 2147483648) : (jN a < jN b) = True := eq_true ((jN_lt (by omega) hb).mpr h)
theorem lt_F {a b : Nat} (h : b ≤ a) (ha : a < 2147483648) : (jN a < jN b) = False := eq_false (fun q => by have := (jN_lt ha (by omega)).mp q; omega)
theorem eq_F {a b : Nat} (h : a ≠ b) (ha : a < 2147483648) (hb : b < 2147483648) : (jN a = jN b) = False := eq_false (fun q => h ((jN_inj ha hb).mp q))
theorem ib_T {a n : Nat} (h : a < n) (ha : a < 2147483648) : ib (jN a) n = true := by
  unfold ib
  rw [jN_nat ha]
  have h1 : (jN a < 0) = False := lt_F (b := 0) (by omega) ha
  simp [h1]; omega
theorem ib_F {a n : Nat} (h : n ≤ a) (ha : a < 2147483648) : ib (jN a) n = false := by
  unfold ib
  rw [jN_nat ha]
  simp; intro _; exact h
theorem jN_of {v : Int32} (h : 0 ≤ v) : ∃ a, a < 2147483648 ∧ v = jN a := ⟨v.toNatClampNeg, v.toNatClampNeg_lt, (Int32.ofNat_toNatClampNeg v h).symm⟩
/-- a number is below 0, or jN of some Nat -/
theorem jN_cases (v : Int32) : v < 0 ∨ ∃ a, a < 2147483648 ∧ v = jN a := by
  by_cases h : 0 ≤ v
  · exact Or.inr (jN_of h)
  · exact Or.inl (Int32.not_le.mp h)
theorem neg_le {v : Int32} (h : v < 0) (a : Nat) (ha : a < 2147483648) : (jN a ≤ v) = False := eq_false (fun q => by
  have h1 := Int32.lt_iff_toInt_lt.mp h
  have h2 := Int32.le_iff_toInt_le.mp q
  have h3 : (jN a).toInt = a := Int32.toInt_ofNat_of_lt ha
  rw [h3] at h2
  have h4 : (0 : Int32).toInt = 0 := rfl
  rw [h4] at h1
  omega)
theorem neg_lt {v : Int32} (h : v < 0) (a : Nat) (ha : a < 2147483648) : (v < jN a) = True := eq_true (by
  have h1 := Int32.lt_iff_toInt_lt.mp h
  have h3 : (jN a).toInt = a := Int32.toInt_ofNat_of_lt ha
  refine Int32.lt_iff_toInt_lt.mpr ?_
  rw [h3]
  have h4 : (0 : Int32).toInt = 0 := rfl
  rw [h4] at h1
  omega)
theorem neg_ib {v : Int32} (h : v < 0) (n : Nat) : ib v n = false := by
  unfold ib; simp [h]
theorem neg_ne {v : Int32} (h : v < 0) (a : Nat) (ha : a < 2147483648) : (v = jN a) = False := eq_false (fun q => by
  subst q
  have h1 := Int32.lt_iff_toInt_lt.mp h
  have h3 : (jN a).toInt = a := Int32.toInt_ofNat_of_lt ha
  rw [h3] at h1
  have h4 : (0 : Int32).toInt = 0 := rfl
  rw [h4] at h1
  omega)
/-! loops -/
theorem lp_N {β : Type} (F : Nat → Nat → Option β) (c : Nat) (R : Option β) (h1 : ∀ k j, j < c → F (k + 1) j = F k (j + 1)) (h2 : ∀ k, F (k + 1) c = R) : ∀ (d n j : Nat), j + d = c → d < n → F n j = R := by
  intro d
  induction d with
  | zero => intro n j hj hn; obtain ⟨k, rfl⟩ : ∃ k, n = k + 1 := ⟨n - 1, by omega⟩; have : j = c := by omega
            subst this; exact h2 k
  | succ d ih => intro n j hj hn; obtain ⟨k, rfl⟩ : ∃ k, n = k + 1 := ⟨n - 1, by omega⟩; rw [h1 k j (by omega)]; exact ih k (j + 1) (by omega) (by omega)
/-- a loop from 0 (or from j0) to c, its state known at each index -/
theorem lp_0 {β : Type} (F : Nat → Nat → Option β) (c : Nat) {R : Option β} {n : Nat} (hn : c < n) (h1 : ∀ k j, j < c → F (k + 1) j = F k (j + 1)) (h2 : ∀ k, F (k + 1) c = R) : F n 0 = R := lp_N F c R h1 h2 c n 0 (by omega) hn
theorem lp_j {β : Type} (F : Nat → Nat → Option β) (c j0 : Nat) {R : Option β} {n : Nat} (hj : j0 ≤ c) (hn : c < n) (h1 : ∀ k j, j0 ≤ j → j < c → F (k + 1) j = F k (j + 1)) (h2 : ∀ k, F (k + 1) c = R) : F n j0 = R := by
  have := lp_N (fun k j => F k (j0 + j)) (c - j0) R (fun k j hj => h1 k (j0 + j) (by omega) (by omega)) (fun k => by rw [show j0 + (c - j0) = c by omega]; exact h2 k) (c - j0) n 0 (by omega) (by omega)
  exact this
/-- a loop with scratch state τ that nobody asks for -/
theorem lp_E {β τ : Type} (F : Nat → Nat → τ → Option β) (P : Option β → Prop) (c : Nat) (h1 : ∀ k j t, j < c → ∃ t', F (k + 1) j t = F k (j + 1) t') (h2 : ∀ k t, P (F (k + 1) c t)) : ∀ (d n j : Nat) (t : τ), j + d = c → d < n → P (F n j t) := by
  intro d
  induction d with
  | zero => intro n j t hj hn; obtain ⟨k, rfl⟩ : ∃ k, n = k + 1 := ⟨n - 1, by omega⟩; have : j = c := by omega
            subst this; exact h2 k t
  | succ d ih => intro n j t hj hn; obtain ⟨k, rfl⟩ : ∃ k, n = k + 1 := ⟨n - 1, by omega⟩; obtain ⟨t', ht⟩ := h1 k j t (by omega); rw [ht]; exact ih k (j + 1) t' (by omega) (by omega)
/-- a loop that may leave early -/
theorem lp_X {β τ : Type} (F : Nat → Nat → τ → Option β) (P : Nat → Option β → Prop) (c : Nat) (h1 : ∀ k j t, j < c → (P j (F (k + 1) j t)) ∨ (∃ t', F (k + 1) j t = F k (j + 1) t' ∧ (P (j + 1) (F k (j + 1) t') → P j (F k (j + 1) t')))) (h2 : ∀ k t, P c (F (k + 1) c t)) : ∀ (d n j : Nat) (t : τ), j + d = c → d < n → P j (F n j t) := by
  intro d
  induction d with
  | zero => intro n j t hj hn; obtain ⟨k, rfl⟩ : ∃ k, n = k + 1 := ⟨n - 1, by omega⟩; have : j = c := by omega
            subst this; exact h2 k t
  | succ d ih =>
    intro n j t hj hn; obtain ⟨k, rfl⟩ : ∃ k, n = k + 1 := ⟨n - 1, by omega⟩
    rcases h1 k j t (by omega) with h | ⟨t', ht, hp⟩
    · exact h
    · rw [ht]; exact hp (ih k (j + 1) t' (by omega) (by omega))
/-! updates -/
theorem upd_s (f : Nat → Int32) (k : Nat) (x : Int32) : upd f k x k = x := by simp [upd]
theorem upd_n {f : Nat → Int32} {k j : Nat} {x : Int32} (h : j ≠ k) : upd f k x j = f j := by simp [upd, h]
theorem upd_self {f : Nat → Int32} {k : Nat} {x : Int32} (h : f k = x) : upd f k x = f := by
  funext j; by_cases hj : j = k
  · subst hj; rw [upd_s, h]
  · rw [upd_n hj]
theorem upd_upd {f : Nat → Int32} {k : Nat} {x y : Int32} : upd (upd f k x) k y = upd f k y := by
  funext j; by_cases hj : j = k
  · subst hj; rw [upd_s, upd_s]
  · rw [upd_n hj, upd_n hj, upd_n hj]
theorem upd_comm {f : Nat → Int32} {k j : Nat} {x y : Int32} (h : k ≠ j) : upd (upd f k x) j y = upd (upd f j y) k x := by
  funext i; simp only [upd]; split <;> split <;> first | rfl | omega
theorem vup_s {α : Type} (f : Nat → α) (k : Nat) (x : α) : va_up f k x k = x := by simp [va_up]
theorem vup_n {α : Type} {f : Nat → α} {k j : Nat} {x : α} (h : j ≠ k) : va_up f k x j = f j := by simp [va_up, h]
/-! the state of a square as the reference has it; the class's cells out of it -/
def iD (k j : Nat) : Nat := 35 + 5 * k + j
def iR (r j : Nat) : Nat := 65 + 4 * r + j
def dOf (s : Nat → Int32) : Nat → Nat → Int32 := fun k j => if k < 6 ∧ j < 5 then s (iD k j) else 0
def pOf (s : Nat → Int32) : Nat → Nat → Int32 := fun f j => if f < 6 ∧ j < 2 then s (23 + 6 * j + f) else 0
def kOf (s : Nat → Int32) : Nat → Int32 := fun i => if i < 16 then s (7 + i) else 0
def rOf (s : Nat → Int32) : Nat → Nat → Int32 := fun r j => if r < 6 ∧ j < 4 then s (iR r j) else 0
theorem dOf_at {s : Nat → Int32} {k j : Nat} (hk : k < 6) (hj : j < 5) : dOf s k j = s (iD k j) := if_pos ⟨hk, hj⟩
theorem pOf_at {s : Nat → Int32} {k j : Nat} (hk : k < 6) (hj : j < 2) : pOf s k j = s (23 + 6 * j + k) := if_pos ⟨hk, hj⟩
theorem kOf_at {s : Nat → Int32} {i : Nat} (hi : i < 16) : kOf s i = s (7 + i) := if_pos hi
theorem rOf_at {s : Nat → Int32} {k j : Nat} (hk : k < 6) (hj : j < 4) : rOf s k j = s (iR k j) := if_pos ⟨hk, hj⟩
theorem dOf_up {s : Nat → Int32} {k j : Nat} {v : Int32} (hk : k < 6) (hj : j < 5) : va_up (dOf s) k (upd (dOf s k) j v) = dOf (upd s (iD k j) v) := by
  funext a b
  by_cases ha : a = k
  · subst ha; rw [vup_s]
    by_cases hb : b = j
    · subst hb; rw [upd_s, dOf_at hk hj, upd_s]
    · rw [upd_n hb]; unfold dOf; split
      · rw [upd_n (by unfold iD; omega)]
      · rfl
  · rw [vup_n ha]; unfold dOf; split
    · rw [upd_n (by unfold iD; omega)]
    · rfl
theorem pOf_up {s : Nat → Int32} {k j : Nat} {v : Int32} (hk : k < 6) (hj : j < 2) : va_up (pOf s) k (upd (pOf s k) j v) = pOf (upd s (23 + 6 * j + k) v) := by
  funext a b
  by_cases ha : a = k
  · subst ha; rw [vup_s]
    by_cases hb : b = j
    · subst hb; rw [upd_s, pOf_at hk hj, upd_s]
    · rw [upd_n hb]; unfold pOf; split
      · rw [upd_n (by omega)]
      · rfl
  · rw [vup_n ha]; unfold pOf; split
    · rw [upd_n (by omega)]
    · rfl
theorem kOf_up {s : Nat → Int32} {i : Nat} {v : Int32} (hi : i < 16) : upd (kOf s) i v = kOf (upd s (7 + i) v) := by
  funext a
  by_cases ha : a = i
  · subst ha; rw [upd_s, kOf_at hi, upd_s]
  · rw [upd_n ha]; unfold kOf; split
    · rw [upd_n (by omega)]
    · rfl
theorem rOf_up {s : Nat → Int32} {k j : Nat} {v : Int32} (hk : k < 6) (hj : j < 4) : va_up (rOf s) k (upd (rOf s k) j v) = rOf (upd s (iR k j) v) := by
  funext a b
  by_cases ha : a = k
  · subst ha; rw [vup_s]
    by_cases hb : b = j
    · subst hb; rw [upd_s, rOf_at hk hj, upd_s]
    · rw [upd_n hb]; unfold rOf; split
      · rw [upd_n (by unfold iR; omega)]
      · rfl
  · rw [vup_n ha]; unfold rOf; split
    · rw [upd_n (by unfold iR; omega)]
    · rfl
theorem dOf_cg {s u : Nat → Int32} (h : ∀ i, 35 ≤ i → i < 65 → s i = u i) : dOf s = dOf u := by
  funext a b; unfold dOf; split
  · rename_i q; exact h _ (by unfold iD; omega) (by unfold iD; omega)
  · rfl
theorem pOf_cg {s u : Nat → Int32} (h : ∀ i, 23 ≤ i → i < 35 → s i = u i) : pOf s = pOf u := by
  funext a b; unfold pOf; split
  · rename_i q; exact h _ (by omega) (by omega)
  · rfl
theorem kOf_cg {s u : Nat → Int32} (h : ∀ i, 7 ≤ i → i < 23 → s i = u i) : kOf s = kOf u := by
  funext a; unfold kOf; split
  · exact h _ (by omega) (by omega)
  · rfl
theorem rOf_cg {s u : Nat → Int32} (h : ∀ i, 65 ≤ i → i < 89 → s i = u i) : rOf s = rOf u := by
  funext a b; unfold rOf; split
  · rename_i q; exact h _ (by unfold iR; omega) (by unfold iR; omega)
  · rfl
/-- what is not written stays -/
theorem pOf_D {s : Nat → Int32} {i : Nat} {v : Int32} (h : i < 23 ∨ 35 ≤ i) : pOf (upd s i v) = pOf s := pOf_cg (fun q h1 h2 => upd_n (by omega))
theorem kOf_D {s : Nat → Int32} {i : Nat} {v : Int32} (h : i < 7 ∨ 23 ≤ i) : kOf (upd s i v) = kOf s := kOf_cg (fun q h1 h2 => upd_n (by omega))
theorem rOf_D {s : Nat → Int32} {i : Nat} {v : Int32} (h : i < 65 ∨ 89 ≤ i) : rOf (upd s i v) = rOf s := rOf_cg (fun q h1 h2 => upd_n (by omega))
theorem dOf_D {s : Nat → Int32} {i : Nat} {v : Int32} (h : i < 35 ∨ 65 ≤ i) : dOf (upd s i v) = dOf s := dOf_cg (fun q h1 h2 => upd_n (by omega))
/-! bounds -/
def NB (m : Nat) (x : Int32) : Prop := ∃ a, a ≤ m ∧ x = jN a
def bd (i : Nat) : Nat := if i ≤ 1 then 16 else if i = 4 ∨ i = 6 then 6 else if i < 7 then 0 else if i < 23 then 15 else if i < 35 then 9 else if i < 65 then (if (i - 35) % 5 = 0 then 5 else if (i - 35) % 5 = 1 then 99 else if (i - 35) % 5 = 2 then 9 else if (i - 35) % 5 = 3 then 5 else 1) else if i < 89 then (if (i - 65) % 4 = 0 then 15 else if (i - 65) % 4 = 1 then 1 else 99) else 0
def GS (s : Nat → Int32) : Prop := ∀ i, bd i = 0 ∨ NB (bd i) (s i)
theorem GS.up {s : Nat → Int32} {i : Nat} {v : Int32} (h : GS s) (hv : bd i = 0 ∨ NB (bd i) v) : GS (upd s i v) := by
  intro j
  by_cases hj : j = i
  · subst hj; rw [upd_s]; exact hv
  · rw [upd_n hj]; exact h j
theorem GS.at {s : Nat → Int32} (h : GS s) (i m : Nat) (hb : bd i = m) (hm : m ≠ 0) : NB m (s i) := by
  rcases h i with q | q
  · exact absurd (hb.symm.trans q) hm
  · rw [hb] at q; exact q
theorem bd_D0 {k : Nat} (h : k < 6) : bd (iD k 0) = 5 := by (have : k = 0 ∨ k = 1 ∨ k = 2 ∨ k = 3 ∨ k = 4 ∨ k = 5 := by omega); rcases this with rfl | rfl | rfl | rfl | rfl | rfl <;> rfl
theorem bd_D1 {k : Nat} (h : k < 6) : bd (iD k 1) = 99 := by (have : k = 0 ∨ k = 1 ∨ k = 2 ∨ k = 3 ∨ k = 4 ∨ k = 5 := by omega); rcases this with rfl | rfl | rfl | rfl | rfl | rfl <;> rfl
theorem bd_D2 {k : Nat} (h : k < 6) : bd (iD k 2) = 9 := by (have : k = 0 ∨ k = 1 ∨ k = 2 ∨ k = 3 ∨ k = 4 ∨ k = 5 := by omega); rcases this with rfl | rfl | rfl | rfl | rfl | rfl <;> rfl
theorem bd_D3 {k : Nat} (h : k < 6) : bd (iD k 3) = 5 := by (have : k = 0 ∨ k = 1 ∨ k = 2 ∨ k = 3 ∨ k = 4 ∨ k = 5 := by omega); rcases this with rfl | rfl | rfl | rfl | rfl | rfl <;> rfl
theorem bd_D4 {k : Nat} (h : k < 6) : bd (iD k 4) = 1 := by (have : k = 0 ∨ k = 1 ∨ k = 2 ∨ k = 3 ∨ k = 4 ∨ k = 5 := by omega); rcases this with rfl | rfl | rfl | rfl | rfl | rfl <;> rfl
theorem bd_R0 {k : Nat} (h : k < 6) : bd (iR k 0) = 15 := by (have : k = 0 ∨ k = 1 ∨ k = 2 ∨ k = 3 ∨ k = 4 ∨ k = 5 := by omega); rcases this with rfl | rfl | rfl | rfl | rfl | rfl <;> rfl
theorem bd_R1 {k : Nat} (h : k < 6) : bd (iR k 1) = 1 := by (have : k = 0 ∨ k = 1 ∨ k = 2 ∨ k = 3 ∨ k = 4 ∨ k = 5 := by omega); rcases this with rfl | rfl | rfl | rfl | rfl | rfl <;> rfl
theorem bd_R2 {k : Nat} (h : k < 6) : bd (iR k 2) = 99 := by (have : k = 0 ∨ k = 1 ∨ k = 2 ∨ k = 3 ∨ k = 4 ∨ k = 5 := by omega); rcases this with rfl | rfl | rfl | rfl | rfl | rfl <;> rfl
theorem bd_R3 {k : Nat} (h : k < 6) : bd (iR k 3) = 99 := by (have : k = 0 ∨ k = 1 ∨ k = 2 ∨ k = 3 ∨ k = 4 ∨ k = 5 := by omega); rcases this with rfl | rfl | rfl | rfl | rfl | rfl <;> rfl
theorem bd_K {i : Nat} (h : i < 16) : bd (7 + i) = 15 := by
  unfold bd; rw [if_neg (by omega), if_neg (by omega), if_neg (by omega), if_pos (by omega)]
theorem bd_W {i : Nat} (h : i < 12) : bd (23 + i) = 9 := by
  unfold bd; rw [if_neg (by omega), if_neg (by omega), if_neg (by omega), if_neg (by omega), if_pos (by omega)]
theorem GS.kind {s : Nat → Int32} (h : GS s) {k : Nat} (hk : k < 6) : NB 5 (s (iD k 0)) := h.at _ _ (bd_D0 hk) (by decide)
theorem GS.lag {s : Nat → Int32} (h : GS s) {k : Nat} (hk : k < 6) : NB 99 (s (iD k 1)) := h.at _ _ (bd_D1 hk) (by decide)
theorem GS.pride {s : Nat → Int32} (h : GS s) {k : Nat} (hk : k < 6) : NB 9 (s (iD k 2)) := h.at _ _ (bd_D2 hk) (by decide)
theorem GS.spot {s : Nat → Int32} (h : GS s) {k : Nat} (hk : k < 6) : NB 5 (s (iD k 3)) := h.at _ _ (bd_D3 hk) (by decide)
theorem GS.right {s : Nat → Int32} (h : GS s) {k : Nat} (hk : k < 6) : NB 1 (s (iD k 4)) := h.at _ _ (bd_D4 hk) (by decide)
theorem GS.sky {s : Nat → Int32} (h : GS s) {i : Nat} (hi : i < 16) : NB 15 (s (7 + i)) := h.at _ _ (bd_K hi) (by decide)
theorem GS.wall {s : Nat → Int32} (h : GS s) {i : Nat} (hi : i < 12) : NB 9 (s (23 + i)) := h.at _ _ (bd_W hi) (by decide)
theorem GS.chime {s : Nat → Int32} (h : GS s) : NB 16 (s 0) := h.at 0 _ rfl (by decide)
theorem GS.ends {s : Nat → Int32} (h : GS s) : NB 16 (s 1) := h.at 1 _ rfl (by decide)
theorem GS.count {s : Nat → Int32} (h : GS s) : NB 6 (s 4) := h.at 4 _ rfl (by decide)
theorem GS.reps {s : Nat → Int32} (h : GS s) : NB 6 (s 6) := h.at 6 _ rfl (by decide)
