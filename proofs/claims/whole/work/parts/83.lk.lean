/-! What the law's start gives: the classes, the arrays' classes, the text. -/
section START
variable {args : Array Value} {s : State}
theorem ac_T {ty : FieldType} (h : (Cond.arrayClass ty).before args s = true) (hr : ∀ c : ClassId, s.vm.findClass ("[" ++ ty.toString) = some c → va_RA s c ty) : ∃ c : ClassId, ArrOfT s c ty ∧ va_RA s c ty := by
  obtain ⟨c, k, comp, h1, h2, h3⟩ := Cond.arrayClass_spec (args := args) (first := s) (o := none) (s := s) (idx := []) h
  exact ⟨c, fun n z => ⟨fun q hq => (by cases hq), k, h2, comp, h3⟩, hr c h1⟩
theorem ac_A {ty : FieldType} (h : (Cond.arrayOver (.array ty)).before args s = true) : ∃ c : ClassId, ArrOfT s c (.array ty) ∧ va_RA s c (.array ty) := by
  obtain ⟨comp, c, k, h1, h2, h3, h4, h5⟩ := arrayOverA_spec (args := args) (first := s) (o := none) (s := s) (idx := []) h
  exact ⟨c, fun n z => ⟨fun q hq => (by cases hq), k, h3, comp, h4⟩, h5⟩
theorem ac_O {C : String} (h : (Cond.arrayOver (.object C)).before args s = true) : ∃ c : ClassId, ArrOfT s c (.object C) ∧ va_RA s c (.object C) := by
  obtain ⟨comp, c, k, h1, h2, h3, h4, h5⟩ := Cond.arrayOver_spec (args := args) (first := s) (o := none) (s := s) (idx := []) h
  exact ⟨c, fun n z => ⟨fun q hq => (by cases hq), k, h3, comp, h4⟩, k, comp, h3, h4, h1, h5⟩
theorem tb {w : Cond} (hts : ∀ w ∈ lw_tbl, w.before args s = true) (h : w ∈ tables_1) : w.before args s = true := hts w (List.mem_append_right _ h)
theorem nml_ok (hts : ∀ w ∈ lw_tbl, w.before args s = true) : ∀ q ∈ nml, va_Nw (.methodLinkNest q.1 q.2.1 q.2.2.1 q.2.2.2) s := by
  unfold nml
  exact List.forall_mem_cons.mpr ⟨va_Nw.of rfl (tb hts w_32), List.forall_mem_cons.mpr ⟨va_Nw.of rfl (tb hts w_75), List.forall_mem_cons.mpr ⟨va_Nw.of rfl (tb hts w_131), List.forall_mem_cons.mpr ⟨va_Nw.of rfl (tb hts w_138), List.forall_mem_cons.mpr ⟨va_Nw.of rfl (tb hts w_141), List.forall_mem_cons.mpr ⟨va_Nw.of rfl (tb hts w_145), List.forall_mem_cons.mpr ⟨va_Nw.of rfl (tb hts w_148), List.forall_mem_cons.mpr ⟨va_Nw.of rfl (tb hts w_152), List.forall_mem_cons.mpr ⟨va_Nw.of rfl (tb hts w_155), List.forall_mem_cons.mpr ⟨va_Nw.of rfl (tb hts w_159), List.forall_mem_cons.mpr ⟨va_Nw.of rfl (tb hts w_162), List.forall_mem_cons.mpr ⟨va_Nw.of rfl (tb hts w_166), List.forall_mem_cons.mpr ⟨va_Nw.of rfl (tb hts w_169), List.forall_mem_cons.mpr ⟨va_Nw.of rfl (tb hts w_456), List.forall_mem_cons.mpr ⟨va_Nw.of rfl (tb hts w_612), fun _ h => absurd h List.not_mem_nil⟩⟩⟩⟩⟩⟩⟩⟩⟩⟩⟩⟩⟩⟩⟩
theorem ncl_ok (hts : ∀ w ∈ lw_tbl, w.before args s = true) : ∀ q ∈ ncl, va_Nw (.castable q.1 q.2) s := by
  unfold ncl
  exact List.forall_mem_cons.mpr ⟨va_Nw.of rfl (tb hts w_1724), List.forall_mem_cons.mpr ⟨va_Nw.of rfl (tb hts w_1725), List.forall_mem_cons.mpr ⟨va_Nw.of rfl (tb hts w_1726), List.forall_mem_cons.mpr ⟨va_Nw.of rfl (tb hts w_1727), List.forall_mem_cons.mpr ⟨va_Nw.of rfl (tb hts w_1728), List.forall_mem_cons.mpr ⟨va_Nw.of rfl (tb hts w_658), fun _ h => absurd h List.not_mem_nil⟩⟩⟩⟩⟩⟩
theorem KX0 (hts : ∀ w ∈ lw_tbl, w.before args s = true) : ∃ (D : va_G) (t : Nat → ClassId), KX D t s := by
  have ht := tw_ok hts
  obtain ⟨c0, i0, k0⟩ := u_known (C := RX0) (T := TX0) (N := 0) (n := 0) ht lay_0 (tb hts w_130)
  obtain ⟨c1, i1, k1⟩ := u_known (C := RX1) (T := TX1) (N := 0) (n := 0) ht lay_1 (tb hts w_151)
  obtain ⟨c2, i2, k2⟩ := u_known (C := RX2) (T := TX2) (N := 11) (n := 11) ht lay_2 (tb hts w_74)
  obtain ⟨c3, i3, k3⟩ := u_known (C := RX3) (T := TX3) (N := 0) (n := 0) ht lay_3 (tb hts w_158)
  obtain ⟨c4, i4, k4⟩ := u_known (C := RX4) (T := TX4) (N := 0) (n := 0) ht lay_4 (tb hts w_137)
  obtain ⟨c5, i5, k5⟩ := u_known (C := RX5) (T := TX5) (N := 14) (n := 14) ht lay_5 (tb hts w_263)
  obtain ⟨c6, i6, k6⟩ := u_known (C := RX6) (T := TX6) (N := 11) (n := 11) ht lay_6 (tb hts w_31)
  obtain ⟨c7, i7, k7⟩ := u_known (C := RX7) (T := TX7) (N := 6) (n := 6) ht lay_7 (tb hts w_172)
  obtain ⟨c8, i8, k8⟩ := u_known (C := RX8) (T := TX8) (N := 0) (n := 0) ht lay_8 (tb hts w_165)
  obtain ⟨c9, i9, k9⟩ := u_known (C := RX9) (T := TX9) (N := 14) (n := 14) ht lay_9 (tb hts w_198)
  obtain ⟨c10, i10, k10⟩ := u_known (C := RX10) (T := TX10) (N := 0) (n := 0) ht lay_10 (tb hts w_144)
  obtain ⟨c11, i11, k11⟩ := u_known (C := RX11) (T := TX11) (N := 8) (n := 8) ht lay_11 (tb hts w_23)
  obtain ⟨c12, i12, k12⟩ := u_known (C := RX12) (T := TX12) (N := 37) (n := 37) ht lay_12 (tb hts w_1092)
  obtain ⟨t0, a0⟩ := ac_T (tb hts w_71) (fun _ h => h)
  obtain ⟨t1, a1⟩ := ac_T (tb hts w_72) (fun _ h => h)
  obtain ⟨t2, a2⟩ := ac_T (tb hts w_1209) (fun _ h => h)
  obtain ⟨t3, a3⟩ := ac_A (tb hts w_80)
  obtain ⟨t4, a4⟩ := ac_O (tb hts w_129)
  refine ⟨((fun k => match k with | 0 => c0 | 1 => c1 | 2 => c2 | 3 => c3 | 4 => c4 | 5 => c5 | 6 => c6 | 7 => c7 | 8 => c8 | 9 => c9 | 10 => c10 | 11 => c11 | _ => c12), (fun k => match k with | 0 => i0 | 1 => i1 | 2 => i2 | 3 => i3 | 4 => i4 | 5 => i5 | 6 => i6 | 7 => i7 | 8 => i8 | 9 => i9 | 10 => i10 | 11 => i11 | _ => i12)), (fun k => match k with | 0 => t0 | 1 => t1 | 2 => t2 | 3 => t3 | _ => t4), ⟨fun c q hq => ?_, fun k q hk => ?_⟩, nml_ok hts, ncl_ok hts, (tb (args := args) hts w_80), va_AO.of (tb hts w_129)⟩
  · match c, hq with
    | 0, hq => cases hq; exact k0
    | 1, hq => cases hq; exact k1
    | 2, hq => cases hq; exact k2
    | 3, hq => cases hq; exact k3
    | 4, hq => cases hq; exact k4
    | 5, hq => cases hq; exact k5
    | 6, hq => cases hq; exact k6
    | 7, hq => cases hq; exact k7
    | 8, hq => cases hq; exact k8
    | 9, hq => cases hq; exact k9
    | 10, hq => cases hq; exact k10
    | 11, hq => cases hq; exact k11
    | 12, hq => cases hq; exact k12
    | c + 13, hq => simp [cls] at hq
  · match k, hk with
    | 0, hk => cases hk; exact a0
    | 1, hk => cases hk; exact a1
    | 2, hk => cases hk; exact a2
    | 3, hk => cases hk; exact a3
    | 4, hk => cases hk; exact a4
    | k + 5, hk => simp [tyl] at hk
theorem fl_el : (flatC (Cond.and given_1 narrow_1)).drop 13 = (List.range 97).map (fun j => Cond.eq (.elem (.field (Term.string "DialSquare$RuleText" 79) "java/lang/String" "value" "[B") (.int (Int32.ofNat j))) (.int (wch j))) := by rfl
theorem fl_in {w : Cond} {i : Nat} (hg : (Cond.and given_1 narrow_1).before args s = true) (h : (flatC (Cond.and given_1 narrow_1))[i]? = some w) : w.before args s = true := flat_of_before _ hg w (List.mem_of_getElem? h)
theorem EW0 {A : Nat → Prop} (hts : ∀ w ∈ lw_tbl, w.before args s = true) (hg : (Cond.and given_1 narrow_1).before args s = true) (hA : ∀ a : Nat, a < s.heap.size → ¬ A a) : ∃ sa sv, EW sa sv A s s.heap := by
  have hel : ∀ j : Nat, j < 97 → (Cond.eq (.elem (.field (Term.string "DialSquare$RuleText" 79) "java/lang/String" "value" "[B") (.int (Int32.ofNat j))) (.int (wch j))).before args s = true := fun j hj => by
    refine flat_of_before _ hg _ (List.mem_of_mem_drop (i := 13) ?_)
    rw [fl_el]
    exact List.mem_map.mpr ⟨j, List.mem_range.mpr hj, rfl⟩
  obtain ⟨adK, adV, h1, h2⟩ := vk_Sof (args := args) (s := s) (N := 1) (tm := fun _ => (Term.string "DialSquare$RuleText" 79)) (len := [97]) (byt := [wtb]) (A := A) (fun i hi => by rw [show i = 0 by omega]; decide) (fun i hi => fl_in (i := 9) hg rfl) (fun i hi => fl_in (i := 10) hg rfl) (fun i hi => fl_in (i := 11) hg rfl) (fun i hi => by rw [show i = 0 by omega]; exact fl_in (i := 12) hg rfl) (fun i hi j hj => by
    have e : i = 0 := by omega
    subst e
    exact hel j hj) (fun i j hi hj hij => absurd (show i = j by omega) hij) hA
  obtain ⟨b1, b2, b3, b4⟩ := h1.1 0 (by omega)
  exact ⟨adK 0, adV 0, b1, b2, b3, b4, va_Zof (tb hts w_565) (tb hts w_16) (va_eqi (fl_in (i := 4) hg rfl)) hA, va_Zqof (tb hts w_581) (tb hts w_18) (fl_in (i := 5) hg rfl) hA, vk_R.of (tb hts w_555) (h2 0 (by omega))⟩
end START
