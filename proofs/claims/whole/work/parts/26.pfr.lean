/-! Frames of a chime; nothing of it depends on SCORE. -/
def FG (u s : Nat → Int32) : Prop := ∀ i, i ≠ 0 → i ≠ 2 → i ≠ 3 → (∀ k, k < nS s → i ≠ iD k 1 ∧ i ≠ iD k 4) → u i = s i
theorem FG.refl (s : Nat → Int32) : FG s s := fun _ _ _ _ _ => rfl
theorem FG.low {u s : Nat → Int32} (h : FG u s) {i : Nat} (h0 : i ≠ 0) (h2 : i ≠ 2) (h3 : i ≠ 3) (hi : i < 35 ∨ 65 ≤ i) (hn : nS s ≤ 6) : u i = s i := h i h0 h2 h3 (fun k hk => by unfold iD; omega)
theorem FG.nn {u s : Nat → Int32} (h : FG u s) (hn : nS s ≤ 6) : nS u = nS s := by unfold nS; rw [h.low (by omega) (by omega) (by omega) (by omega) hn]
theorem FG.trans {u v s : Nat → Int32} (h : FG u v) (h2 : FG v s) (hn : nS s ≤ 6) : FG u s := fun i a b c d => (h i a b c (by rw [h2.nn hn]; exact d)).trans (h2 i a b c d)
theorem FG.D {u s : Nat → Int32} (h : FG u s) {k j : Nat} (hk : nS s ≤ k) (hj : j < 5) : u (iD k j) = s (iD k j) := h _ (by unfold iD; omega) (by unfold iD; omega) (by unfold iD; omega) (fun q hq => by unfold iD; omega)
theorem FG.D' {u s : Nat → Int32} (h : FG u s) {k j : Nat} (hj : j = 0 ∨ j = 2 ∨ j = 3) : u (iD k j) = s (iD k j) := h _ (by unfold iD; omega) (by unfold iD; omega) (by unfold iD; omega) (fun q hq => by unfold iD; omega)
theorem FG.up {u s : Nat → Int32} {k j : Nat} {v : Int32} (h : FG u s) (hk : k < nS s) (hj : j = 1 ∨ j = 4) : FG (upd u (iD k j) v) s := fun i a b c d => by
  have := d k hk
  rw [upd_n (by rcases hj with rfl | rfl; exact this.1; exact this.2)]; exact h i a b c d
theorem FG.up' {u s : Nat → Int32} {j : Nat} {v : Int32} (h : FG u s) (hj : j = 0 ∨ j = 2 ∨ j = 3) : FG (upd u j v) s := fun i a b c d => by
  rw [upd_n (by omega)]; exact h i a b c d
theorem FG.pOfE {u s : Nat → Int32} (h : FG u s) (hn : nS s ≤ 6) : pOf u = pOf s := pOf_cg (fun i _ _ => h.low (by omega) (by omega) (by omega) (by omega) hn)
theorem FG.kOfE {u s : Nat → Int32} (h : FG u s) (hn : nS s ≤ 6) : kOf u = kOf s := kOf_cg (fun i _ _ => h.low (by omega) (by omega) (by omega) (by omega) hn)
theorem FG.rOfE {u s : Nat → Int32} (h : FG u s) (hn : nS s ≤ 6) : rOf u = rOf s := rOf_cg (fun i _ _ => h.low (by omega) (by omega) (by omega) (by omega) hn)
theorem FG.R {u s : Nat → Int32} (h : FG u s) (hn : nS s ≤ 6) : ∀ i, i = 5 ∨ 89 ≤ i → u i = s i := fun i hi => h.low (by omega) (by omega) (by omega) (by omega) hn
section WG
variable {W : Int32 → (Nat → Int32) → Int32} {s : Nat → Int32}
theorem stS_G {k : Nat} (hk : k < nS s) : FG (stS s k).2 s := by
  unfold stS; dsimp only; split
  · exact FG.refl s
  · exact ((FG.refl s).up hk (Or.inr rfl)).up hk (Or.inl rfl)
theorem gaN_G {k : Nat} : FG (gaN s k).2 s := by
  have : ∀ o, o ≤ nS s → FG (arS s k o).2 s := by
    intro o
    induction o with
    | zero => intro _; exact FG.refl s
    | succ o ih =>
      intro ho
      show FG (arX (arS s k o) k o).2 s
      unfold arX; split
      · exact (ih (by omega)).up (by omega) (Or.inl rfl)
      · exact ih (by omega)
  exact this _ (Nat.le_refl _)
theorem slN_G : FG (slN s) s := by
  have : ∀ o, o ≤ nS s → FG (slS s o) s := by
    intro o
    induction o with
    | zero => intro _; exact FG.refl s
    | succ o ih =>
      intro ho
      show FG (slX s (slS s o) o) s
      unfold slX; split
      · exact (ih (by omega)).up (by omega) (Or.inl rfl)
      · exact ih (by omega)
  exact this _ (Nat.le_refl _)
theorem acW_G {a : Nat} (ha : a ≤ nS s) : FG (acW W s a).2 s := by
  unfold acW; split
  · exact FG.refl s
  · unfold meW; split
    · exact stS_G (by omega)
    · split
      · exact gaN_G
      · exact FG.refl s
theorem goW_G (h : GS s) {a : Nat} (ha : a ≤ nS s) : FG (goW W s a).2 s := by
  have h1 := acW_G (W := W) ha
  exact ((slN_G.trans h1 h.n.1).up' (Or.inl rfl)).up' (Or.inr (Or.inl rfl))
theorem goW_g (h : GS s) {a : Nat} (ha : a ≤ nS s) (hc : s 0 < s 1) : GS (goW W s a).2 := by
  obtain ⟨hg, -⟩ := acW_i (W := W) h ha
  obtain ⟨hg2, -⟩ := slN_i hg
  unfold goW; dsimp only
  refine (hg2.up (Or.inr ?_)).up (Or.inl rfl)
  obtain ⟨x, hx, h0⟩ := h.chime
  obtain ⟨y, hy, h1⟩ := h.ends
  rw [h0, h1, jN_lt (by omega) (by omega)] at hc
  rw [h0, show bd 0 = 16 from rfl, jl_1, jN_add]
  exact ⟨_, by omega, rfl⟩
theorem goW_0 {a : Nat} : (goW W s a).2 0 = s 0 + 1 := by
  unfold goW; dsimp only; rw [upd_n (by omega), upd_s]
theorem goW_2 {a : Nat} : (goW W s a).2 2 = s 2 + (goW W s a).1 := by
  unfold goW; dsimp only; rw [upd_s]
theorem goW_3 (h : GS s) {a : Nat} (ha : a ≤ nS s) : (goW W s a).2 3 = s 3 := by
  obtain ⟨hg, hf⟩ := acW_i (W := W) h ha
  obtain ⟨hg2, hf2⟩ := slN_i hg
  unfold goW; dsimp only; rw [upd_n (by omega), upd_n (by omega), hf2.low (by omega), hf.low (by omega)]
end WG
/-! SCORE doesn't matter -/
def E2 (u s : Nat → Int32) : Prop := ∀ i, i ≠ 2 → u i = s i
theorem E2.refl (s : Nat → Int32) : E2 s s := fun _ _ => rfl
theorem E2.of (s : Nat → Int32) (x : Int32) : E2 (upd s 2 x) s := fun i hi => upd_n hi
theorem E2.at {u s : Nat → Int32} (h : E2 u s) (k j : Nat) : u (iD k j) = s (iD k j) := h _ (by unfold iD; omega)
section E2
variable {W : Int32 → (Nat → Int32) → Int32} {u s : Nat → Int32} (h : E2 u s)
theorem E2.symm (h : E2 u s) : E2 s u := fun i hi => (h i hi).symm
theorem E2.trans {v : Nat → Int32} (h : E2 u s) (h2 : E2 s v) : E2 u v := fun i hi => (h i hi).trans (h2 i hi)
theorem E2.nn (h : E2 u s) : nS u = nS s := by unfold nS; rw [h 4 (by omega)]
theorem E2.sky (h : E2 u s) : skN u = skN s := by
  unfold skN; rw [h 0 (by omega)]; split
  · rfl
  · exact h _ (by omega)
theorem E2.sh1 (h : E2 u s) (k : Nat) : shB u k = shB s k := by unfold shB; rw [h.at, h.sky, h 0 (by omega)]
theorem E2.sh2 (h : E2 u s) (f : Nat) : ∀ k, shS u f k = shS s f k := by
  intro k
  induction k with
  | zero => exact h _ (by omega)
  | succ k ih => show shS u f k + _ = shS s f k + _; rw [ih, h.at, h.sh1]
theorem E2.sh3 (h : E2 u s) (f : Nat) : shA u f = shA s f := by unfold shA; rw [h.nn]; exact h.sh2 f _
theorem E2.sl1 (h : E2 u s) (k : Nat) : slB u k = slB s k := by unfold slB; rw [h.at, h.at, h.sky, h.sh3]
theorem E2.py (h : E2 u s) (k : Nat) : pyB u k = pyB s k := by unfold pyB pyV; rw [h.at, h.at, h.at]
theorem E2.ag (h : E2 u s) (a b : Nat) : agB u a b = agB s a b := by unfold agB; rw [h.at, h.at]
theorem E2.pr1 (h : E2 u s) (a : Nat) (x : Int32) : ∀ b, prI u a x b = prI s a x b := by
  intro b
  induction b with
  | zero => rfl
  | succ b ih => unfold prI; rw [ih, h.ag]
theorem E2.pr2 (h : E2 u s) (c : Nat) : ∀ a, prO u c a = prO s c a := by
  intro a
  induction a with
  | zero => rfl
  | succ a ih => unfold prO; rw [ih, h.pr1]
theorem E2.pr (h : E2 u s) : prN u = prN s := by unfold prN; rw [h.nn, h.pr2]
theorem E2.rs (h : E2 u s) : rsN u = rsN s := by
  have : ∀ k, rsS u k = rsS s k := by
    intro k
    induction k with
    | zero => rfl
    | succ k ih => unfold rsS; rw [ih, h.at]
  unfold rsN; rw [h.nn, this]
theorem E2.wl (h : E2 u s) (k : Nat) : wlW W u k = wlW W s k := by
  unfold wlW fcV; rw [h.at, h.at, h.at, h.sky, h 0 (by omega)]
theorem E2.my (h : E2 u s) (k : Nat) : myB W u k = myB W s k := by unfold myB; rw [h.wl, h.py]
theorem E2.ra (h : E2 u s) : raN W u = raN W s := by
  have : ∀ d k, raF W u d k = raF W s d k := by
    intro d
    induction d with
    | zero => intro k; rfl
    | succ d ih => intro k; unfold raF; rw [h.my, ih]
  unfold raN; rw [h.nn, this]
theorem E2.up (h : E2 u s) (i : Nat) (v : Int32) : E2 (upd u i v) (upd s i v) := fun j hj => by
  by_cases q : j = i
  · subst q; rw [upd_s, upd_s]
  · rw [upd_n q, upd_n q]; exact h j hj
theorem E2.st (h : E2 u s) (k : Nat) : (stS u k).1 = (stS s k).1 ∧ E2 (stS u k).2 (stS s k).2 := by
  unfold stS; dsimp only; rw [h.py]
  refine ⟨rfl, ?_⟩
  split
  · exact h
  · exact (h.up _ _).up _ _
theorem E2.ar (h : E2 u s) (k : Nat) : ∀ o, (arS u k o).1 = (arS s k o).1 ∧ E2 (arS u k o).2 (arS s k o).2 := by
  intro o
  induction o with
  | zero => exact ⟨rfl, h⟩
  | succ o ih =>
    obtain ⟨h1, h2⟩ := ih
    show (arX (arS u k o) k o).1 = (arX (arS s k o) k o).1 ∧ E2 (arX (arS u k o) k o).2 (arX (arS s k o) k o).2
    generalize arS u k o = x at *
    generalize arS s k o = y at *
    have e1 : arO x.2 k o = arO y.2 k o := by unfold arO; rw [h2.at, h2.at]
    have e2 : arC x.2 k o = arC y.2 k o := by unfold arC; rw [e1, h2.at, h2.at, h2.at]
    unfold arX; rw [e2, e1]
    split
    · rw [h1, h2.at]; exact ⟨rfl, h2.up _ _⟩
    · exact ⟨h1, h2⟩
theorem E2.sl (h : E2 u s) : E2 (slN u) (slN s) := by
  have : ∀ k, E2 (slS u k) (slS s k) := by
    intro k
    induction k with
    | zero => exact h
    | succ k ih =>
      show E2 (slX u (slS u k) k) (slX s (slS s k) k)
      have e : slV u k = slV s k := by unfold slV; rw [h.at, h.sl1]
      unfold slX; rw [h.at, e]
      split
      · exact ih.up _ _
      · exact ih
  unfold slN; rw [h.nn]; exact this _
theorem E2.go (h : E2 u s) (a : Nat) : (goW W u a).1 = (goW W s a).1 ∧ E2 (goW W u a).2 (goW W s a).2 := by
  have hac : (acW W u a).1 = (acW W s a).1 ∧ E2 (acW W u a).2 (acW W s a).2 := by
    unfold acW; split
    · exact ⟨rfl, h⟩
    · unfold meW; rw [h.wl]; split
      · exact h.st _
      · split
        · unfold gaN; rw [h.nn]; exact h.ar _ _
        · exact ⟨rfl, h⟩
  obtain ⟨h1, h2⟩ := hac
  unfold goW; dsimp only
  rw [h1, h2.pr, h 0 (by omega)]
  refine ⟨rfl, fun i hi => ?_⟩
  rw [upd_n hi, upd_n hi]
  exact (h2.sl.up 0 _) i hi
theorem E2.dOfE (h : E2 u s) : dOf u = dOf s := dOf_cg (fun i _ _ => h i (by omega))
theorem E2.pOfE (h : E2 u s) : pOf u = pOf s := pOf_cg (fun i _ _ => h i (by omega))
theorem E2.kOfE (h : E2 u s) : kOf u = kOf s := kOf_cg (fun i _ _ => h i (by omega))
theorem E2.rOfE (h : E2 u s) : rOf u = rOf s := rOf_cg (fun i _ _ => h i (by omega))
theorem E2.gs (h : E2 u s) (hg : GS s) : GS u := fun i => by
  by_cases hi : i = 2
  · subst hi; exact Or.inl rfl
  · rw [h i hi]; exact hg i
end E2
/-! THE REST, and lots -/
/-- it isn't over -/
def goB (u : Nat → Int32) : Bool := decide (u 0 < u 1)
def reF (W : Int32 → (Nat → Int32) → Int32) : Nat → Int32 × (Nat → Int32) → Int32 × (Nat → Int32)
  | 0, x => x
  | d + 1, x => if goB x.2 = true then reF W d (x.1 + (goW W x.2 (raN W x.2)).1, (goW W x.2 (raN W x.2)).2) else x
/-- the next z, and the act in it -/
def zN (u : Nat → Int32) : Int32 := u 3 * (1103515245 : Int32) + (12345 : Int32)
def ltA (u : Nat → Int32) : Nat := (irm ((zN u).toUInt32 >>> ((16 : Int32).toUInt32 &&& Int32.toUInt32 31)).toInt32 (u 4 + (1 : Int32))).toNatClampNeg
def loG (W : Int32 → (Nat → Int32) → Int32) (u : Nat → Int32) : Int32 × (Nat → Int32) := goW W (upd u 3 (zN u)) (ltA u)
def loF (W : Int32 → (Nat → Int32) → Int32) : Nat → Int32 × (Nat → Int32) → Int32 × (Nat → Int32)
  | 0, x => x
  | d + 1, x => if goB x.2 = true then loF W d (x.1 + (loG W x.2).1, (loG W x.2).2) else x
theorem shr_16 (z : Int32) : ∃ b, b ≤ 65535 ∧ (z.toUInt32 >>> ((16 : Int32).toUInt32 &&& Int32.toUInt32 31)).toInt32 = jN b := by
  refine ⟨(z.toUInt32 >>> ((16 : Int32).toUInt32 &&& Int32.toUInt32 31)).toNat, ?_, ?_⟩
  · rw [show ((16 : Int32).toUInt32 &&& Int32.toUInt32 31) = 16 from by decide]
    rw [UInt32.toNat_shiftRight]
    have := z.toUInt32.toNat_lt
    simp only [Nat.shiftRight_eq_div_pow]
    have e : (UInt32.toNat 16 % 32) = 16 := by decide
    rw [e]; omega
  · unfold jN
    rw [← UInt32.toInt32_ofNat', UInt32.ofNat_toNat]
theorem ltA_b {u : Nat → Int32} (h : GS u) : ltA u ≤ nS u ∧ irm ((zN u).toUInt32 >>> ((16 : Int32).toUInt32 &&& Int32.toUInt32 31)).toInt32 (u 4 + (1 : Int32)) = jN (ltA u) := by
  obtain ⟨b, hb, e⟩ := shr_16 (zN u)
  obtain ⟨hc, h4⟩ := h.n
  unfold ltA
  rw [e, h4]
  simp (disch := omega) only [jl_0, jl_1, jl_2, jl_3, jl_4, jl_5, jl_6, jl_7, jl_8, jl_9, jl_10, jl_11, jl_12, jl_13, jl_14, jl_15, jl_16, jl_17, jl_18, jl_20, jl_23, jl_29, jl_30, jl_31, jl_32, jl_35, jl_40, jl_48, jl_50, jl_51, jl_57, jl_60, jl_61, jl_63, jl_64, jl_65, jl_89, jl_97, jl_99, jl_100, jl_101, jl_113, jl_122, jl_200, jl_240, jl_241, jl_255, jl_259, jl_260, jl_261, jl_262, jl_313, jl_500, jl_999, jl_10000, jl_10004, jl_10005, jl_10006, jl_10007, jl_10008, jl_10009, jl_10010, jl_10011, jl_10012, jl_10013, jl_10014, jl_10015, jl_10017, jl_10018, jl_10023, jl_12345, jl_1103515245, jN_add, jN_mul, jN_sub, jN_addm, jN_div, jN_irm, jN_nat, le_T, le_F, lt_T, lt_F, eq_F, ib_T, ib_F, add_j0, if_true, if_false, eq_self, Bool.false_eq_true, Option.bind_some, pb, jn, Nat.zero_add, Nat.add_zero]
  have : b % (nS u + 1) < nS u + 1 := Nat.mod_lt _ (by omega)
  rw [jN_nat (by omega)]; exact ⟨by omega, rfl⟩
section E3
variable {W : Int32 → (Nat → Int32) → Int32} {u s : Nat → Int32}
theorem E2.gb (h : E2 u s) : goB u = goB s := by unfold goB; rw [h 0 (by omega), h 1 (by omega)]
theorem E2.re (h : E2 u s) : ∀ (d : Nat) (w : Int32), (reF W d (w, u)).1 = (reF W d (w, s)).1 ∧ E2 (reF W d (w, u)).2 (reF W d (w, s)).2 := by
  intro d
  induction d generalizing u s with
  | zero => intro w; exact ⟨rfl, h⟩
  | succ d ih =>
    intro w
    unfold reF; dsimp only
    rw [h.gb, h.ra]
    split
    · obtain ⟨h1, h2⟩ := h.go (W := W) (raN W s)
      rw [h1]; exact ih h2 _
    · exact ⟨rfl, h⟩
theorem E2.lg (h : E2 u s) : (loG W u).1 = (loG W s).1 ∧ E2 (loG W u).2 (loG W s).2 := by
  unfold loG
  have e1 : zN u = zN s := by unfold zN; rw [h 3 (by omega)]
  have e2 : ltA u = ltA s := by unfold ltA; rw [e1, h 4 (by omega)]
  rw [e1, e2]
  exact (h.up 3 _).go _
theorem E2.lo (h : E2 u s) : ∀ (d : Nat) (w : Int32), (loF W d (w, u)).1 = (loF W d (w, s)).1 ∧ E2 (loF W d (w, u)).2 (loF W d (w, s)).2 := by
  intro d
  induction d generalizing u s with
  | zero => intro w; exact ⟨rfl, h⟩
  | succ d ih =>
    intro w
    unfold loF; dsimp only
    rw [h.gb]
    split
    · obtain ⟨h1, h2⟩ := h.lg (W := W)
      rw [h1]; exact ih h2 _
    · exact ⟨rfl, h⟩
/-- what stands after chimes: bounds and frame -/
theorem reF_i (h : GS s) : ∀ (d : Nat) (w : Int32), GS (reF W d (w, s)).2 ∧ FG (reF W d (w, s)).2 s ∧ (reF W d (w, s)).2 3 = s 3 := by
  intro d
  induction d generalizing s with
  | zero => intro w; exact ⟨h, FG.refl s, rfl⟩
  | succ d ih =>
    intro w
    unfold reF; dsimp only
    split
    · rename_i hc
      have hg := goW_g (W := W) h (raN_b (W := W)) (of_decide_eq_true hc)
      have hf := goW_G (W := W) h (raN_b (W := W))
      obtain ⟨a, b, c⟩ := ih hg (w + (goW W s (raN W s)).1)
      exact ⟨a, b.trans hf h.n.1, c.trans (goW_3 h (raN_b (W := W)))⟩
    · exact ⟨h, FG.refl s, rfl⟩
theorem up3_i (h : GS s) (z : Int32) : GS (upd s 3 z) ∧ FG (upd s 3 z) s := ⟨h.up (Or.inl rfl), (FG.refl s).up' (Or.inr (Or.inr rfl))⟩
theorem loG_i (h : GS s) (hc : s 0 < s 1) : GS (loG W s).2 ∧ FG (loG W s).2 s := by
  obtain ⟨h1, h2⟩ := up3_i h (zN s)
  have hb : ltA s ≤ nS (upd s 3 (zN s)) := by rw [h2.nn h.n.1]; exact (ltA_b h).1
  exact ⟨goW_g h1 hb (by rw [upd_n (by omega), upd_n (by omega)]; exact hc), (goW_G h1 hb).trans h2 h.n.1⟩
theorem loF_i (h : GS s) : ∀ (d : Nat) (w : Int32), GS (loF W d (w, s)).2 ∧ FG (loF W d (w, s)).2 s := by
  intro d
  induction d generalizing s with
  | zero => intro w; exact ⟨h, FG.refl s⟩
  | succ d ih =>
    intro w
    unfold loF; dsimp only
    split
    · rename_i hc
      obtain ⟨hg, hf⟩ := loG_i (W := W) h (of_decide_eq_true hc)
      obtain ⟨a, b⟩ := ih hg (w + (loG W s).1)
      exact ⟨a, b.trans hf h.n.1⟩
    · exact ⟨h, FG.refl s⟩
end E3
