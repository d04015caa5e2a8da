section NEWR
variable {ρ nr : Nat} {gc : Nat → Int32} {gk gw gs gd : Nat → Nat → Int32} {kl wl sl cl : Nat → Nat} {s : Nat → Int32} {c : Nat} {kk : Nat → Nat} {ww : Nat → Int32} {hv : Nat → (Nat → Int32) → Int32}
/-- the rules just read, in their new object -/
theorem RuC.new {a : Nat} {sa : Nat → Nat} {kinds wills starts cc g1 g2 g3 g4 : Nat → Int32} (hc : c ≤ 8) (ha : a ≤ 200) (h0 : sa 0 = 0) (hca : sa c = a) (hr : ∀ r, r < c → kk r < 6 ∧ kinds r = jN (kk r) ∧ wills r = ww r ∧ starts r = jN (sa r) ∧ sa (r + 1) ≤ a ∧ CSEG cc (sa r) (sa (r + 1)) (hv r))
    (h1 : ∀ i, i < (jN c).toNatClampNeg → g1 i = kinds i) (h2 : ∀ i, i < (jN c).toNatClampNeg → g2 i = wills i) (h3 : ∀ i, i < (jN c + 1).toNatClampNeg → g3 i = (upd starts (jN c).toNatClampNeg (jN a)) i) (h4 : ∀ i, i < (jN a).toNatClampNeg → g4 i = cc i) :
    RuC nr (upd gc nr (jN c)) (va_up gk nr g1) (va_up gw nr g2) (va_up gs nr g3) (va_up gd nr g4) (va_up kl nr (jN c).toNatClampNeg) (va_up wl nr (jN c).toNatClampNeg) (va_up sl nr (jN c + 1).toNatClampNeg) (va_up cl nr (jN a).toNatClampNeg) c kk ww hv := by
  have e1 : (jN c).toNatClampNeg = c := jN_nat (by omega)
  have e2 : (jN c + 1).toNatClampNeg = c + 1 := by rw [show jN c + (1 : Int32) = jN (c + 1) from by rw [jl_1, jN_add]]; exact jN_nat (by omega)
  have e3 : (jN a).toNatClampNeg = a := jN_nat (by omega)
  rw [e1] at h1 h2 h3
  rw [e2] at h3
  rw [e3] at h4
  rw [e1, e2, e3]
  unfold RuC
  simp only [vup_s, upd_s]
  refine ⟨hc, trivial, Nat.le_refl _, by omega, Nat.le_refl _, by omega, Nat.le_refl _, by omega, ha, sa, fun i hi => ?_⟩
  obtain ⟨q1, q2, q3, q4, q5, q6⟩ := hr i hi
  refine ⟨q1, by rw [h1 i hi, q2], by rw [h2 i hi, q3], ?_, ?_, q5, q6.cg (fun j hj => h4 j (by omega))⟩
  · rw [h3 i (by omega), upd_n (by omega), q4]
  · rw [h3 (i + 1) (by omega)]
    by_cases q : i + 1 = c
    · rw [q, upd_s, hca]
    · rw [upd_n q]; exact (hr (i + 1) (by omega)).2.2.2.1
/-- older rules stay -/
theorem RuC.old {x : Int32} {g1 g2 g3 g4 : Nat → Int32} {l1 l2 l3 l4 : Nat} (hρ : ρ < nr) (h : RuC ρ gc gk gw gs gd kl wl sl cl c kk ww hv) : RuC ρ (upd gc nr x) (va_up gk nr g1) (va_up gw nr g2) (va_up gs nr g3) (va_up gd nr g4) (va_up kl nr l1) (va_up wl nr l2) (va_up sl nr l3) (va_up cl nr l4) c kk ww hv := by
  have hne : ρ ≠ nr := by omega
  unfold RuC
  rw [upd_n hne, vup_n hne, vup_n hne, vup_n hne, vup_n hne, vup_n hne, vup_n hne, vup_n hne, vup_n hne]
  exact h
/-- the reference's row behind its rules stays -/
theorem RuM.cg {u : Nat → Int32} (h : RuM s c kk ww hv) (hu : ∀ i, i = 5 ∨ (89 ≤ i ∧ i < 313) → u i = s i) : RuM u c kk ww hv := by
  obtain ⟨h1, h2, a, h3, h4⟩ := h
  refine ⟨h1, by rw [hu 5 (Or.inl rfl)]; exact h2, a, h3, fun i hi => ?_⟩
  obtain ⟨q1, q2, q3, q4, q5, q6⟩ := h4 i hi
  exact ⟨q1, by rw [hu _ (by omega)]; exact q2, by rw [hu _ (by omega)]; exact q3, by rw [hu _ (by omega)]; exact q4, q5, q6.cg (fun j hj => hu _ (by omega))⟩
theorem rules_sq {u : Nat → Int32} (h : GS s) (hu : ∀ i, i ≠ 5 → (i < 89 ∨ 313 ≤ i) → u i = s i) : GS u ∧ SQ (dOf s) (pOf s) (kOf s) (rOf s) (s 4) (s 0) (s 1) (s 2) (s 6) (s 3) u := by
  refine ⟨fun i => ?_, (dOf_cg (fun i _ _ => hu i (by omega) (by omega))).symm, (pOf_cg (fun i _ _ => hu i (by omega) (by omega))).symm, (kOf_cg (fun i _ _ => hu i (by omega) (by omega))).symm, (rOf_cg (fun i _ _ => hu i (by omega) (by omega))).symm, (hu 4 (by omega) (by omega)).symm, (hu 0 (by omega) (by omega)).symm, (hu 1 (by omega) (by omega)).symm, (hu 2 (by omega) (by omega)).symm, (hu 6 (by omega) (by omega)).symm, (hu 3 (by omega) (by omega)).symm⟩
  by_cases h5 : i = 5
  · subst h5; exact Or.inl rfl
  · by_cases h8 : i < 89
    · rw [hu i h5 (Or.inl h8)]; exact h i
    · left; unfold bd
      rw [if_neg (by omega), if_neg (by omega), if_neg (by omega), if_neg (by omega), if_neg (by omega), if_neg (by omega), if_neg (by omega)]
end NEWR
