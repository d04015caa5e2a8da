/-! The first worlds hold the invariant. -/
theorem s0_lt : ∀ i, i < 23 → bd i = 0 ∨ ((s0 i).toNatClampNeg ≤ bd i ∧ jN (s0 i).toNatClampNeg = s0 i) := by decide +kernel
theorem s0_ge {i : Nat} (h : 23 ≤ i) : s0 i = 0 := by
  unfold s0 upd
  dsimp only
  repeat rw [if_neg (by omega)]
theorem sk0_ge {i : Nat} (h : 16 ≤ i) : sk0 i = 0 := by
  unfold sk0 upd
  dsimp only
  repeat rw [if_neg (by omega)]
theorem sk0_lt : ∀ i, i < 16 → sk0 i = s0 (7 + i) := by decide +kernel
theorem j0 : (0 : Int32) = jN 0 := by decide +kernel
theorem sq0 : SQ (fun _ _ => 0) (fun _ _ => 0) sk0 (fun _ _ => 0) 0 0 12 0 0 1 s0 := by
  refine ⟨?_, ?_, ?_, ?_, by decide +kernel, by decide +kernel, by decide +kernel, by decide +kernel, by decide +kernel, by decide +kernel⟩
  · funext k j
    unfold dOf
    by_cases h : k < 6 ∧ j < 5
    · rw [if_pos h, s0_ge (by unfold iD; omega)]
    · rw [if_neg h]
  · funext k j
    unfold pOf
    by_cases h : k < 6 ∧ j < 2
    · rw [if_pos h, s0_ge (by omega)]
    · rw [if_neg h]
  · funext i
    unfold kOf
    by_cases h : i < 16
    · rw [if_pos h, sk0_lt i h]
    · rw [if_neg h, sk0_ge (by omega)]
  · funext k j
    unfold rOf
    by_cases h : k < 6 ∧ j < 4
    · rw [if_pos h, s0_ge (by unfold iR; omega)]
    · rw [if_neg h]
theorem gs0 : GS s0 := by
  intro i
  by_cases h : i < 23
  · rcases s0_lt i h with h1 | ⟨h1, h2⟩
    · exact Or.inl h1
    · exact Or.inr ⟨_, h1, h2.symm⟩
  · rw [s0_ge (by omega)]
    exact Or.inr ⟨0, by omega, j0⟩
theorem iq0 : IQ 1 (fun _ => 0) (fun _ _ => 0) (fun _ _ => 0) (fun _ _ => 0) (fun _ _ => 0) (fun _ => 0) (fun _ => 0) (fun _ => 1) (fun _ => 0) (fun _ _ => 0) (fun _ _ => 0) sk0 (fun _ _ => 0) 0 0 12 0 0 1 0 s0 :=
  ⟨sq0, gs0, by omega, 0, fun _ => 0, fun _ => 0, fun _ _ => 0, ⟨by decide, j0, by decide, by decide, by decide, by decide, by decide, by decide, by decide, fun _ => 0, fun i hi => absurd hi (by omega)⟩, ⟨by omega, by decide +kernel, fun _ => 0, rfl, fun i hi => absurd hi (by omega)⟩⟩
theorem ih0 : IH so0 (fun _ => 0) (fun _ _ => 0) he0 (fun _ => 0) (fun _ => 0) (fun _ => 0) 0 so0 (fun _ => 0) (fun _ => 0) so0 (fun _ => 0) (fun _ => 0) 0 := by
  have e1 : ∀ i, i < 4 → so0 i = -1 := by decide +kernel
  have e2 : ∀ i, i < 4 → he0 i = jN 2 := by decide +kernel
  refine ⟨rfl, rfl, ?_, fun i hi => ⟨Or.inl (e1 i hi), 0, by omega, j0⟩, fun i hi => Or.inr (Or.inr ⟨e2 i hi, e1 i hi⟩), rfl, 0, by omega, j0, j0⟩
  funext k i
  unfold iOf
  by_cases h : k < 4 ∧ i < 40
  · rw [if_pos h]
  · rw [if_neg h]
theorem ip0 : IP (fun _ _ => 0) 0 (fun _ => 0) 0 := by
  refine ⟨?_, 0, by omega, j0, j0⟩
  funext k j
  unfold wOf
  by_cases h : k < 4 ∧ j < 3
  · rw [if_pos h]
  · rw [if_neg h]
theorem inv0 {a am : Nat → Nat} {ar : Nat → Nat → Nat} {t : Nat → ClassId} : INW a am t (cW0 a ar t) (mW0 am t) :=
  INW.mk (ar := ar) rfl rfl iq0 ⟨⟨s0, sq0⟩, by omega, Or.inl rfl⟩ ⟨⟨s0, sq0⟩, by omega⟩ ip0 (IT.nil _ _) ih0
