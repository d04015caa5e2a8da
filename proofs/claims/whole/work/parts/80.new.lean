/-! Constructors: new rows, new tables of rows, worlds with one object at hand. -/
theorem arrV_ext {cI : ClassId} {N : Nat} {f g : Nat → Value} (h : ∀ j, j < N → f j = g j) : arrV cI N f = arrV cI N g := by
  unfold arrV
  congr 1
  congr 1
  exact funext fun j => h j.val j.isLt
/-- n new places behind h -/
def nws (h : Nat) (g : Nat → va_E) (n : Nat) : va_W := (List.range n).map (fun i => (h + i, g i))
theorem nws_at {h : Nat} {g : Nat → va_E} {n k : Nat} {x : Nat × va_E} (hx : (nws h g n)[k]? = some x) : k < n ∧ x = (h + k, g k) := by
  unfold nws at hx
  rw [List.getElem?_map] at hx
  by_cases hk : k < n
  · rw [List.getElem?_range hk] at hx
    cases hx
    exact ⟨hk, rfl⟩
  · rw [List.getElem?_eq_none (by rw [List.length_range]; omega)] at hx
    cases hx
theorem nws_D {A : Nat → Prop} {D : va_G} {cl : List vw_C} {H : Heap} {ws : va_W} (hD : va_D A ws) (hP : va_P D cl ws H) (hA : ∀ q, H.size ≤ q → A q) (g : Nat → va_E) (n : Nat) : va_D A (ws ++ nws H.size g n) := by
  have key : ∀ (k : Nat) (x : Nat × va_E), (ws ++ nws H.size g n)[k]? = some x → (k < ws.length ∧ ws[k]? = some x ∧ x.1 < H.size) ∨ (ws.length ≤ k ∧ x.1 = H.size + (k - ws.length)) := by
    intro k x hx
    by_cases h1 : k < ws.length
    · rw [List.getElem?_append_left h1] at hx
      exact Or.inl ⟨h1, hx, (hP k x hx).lt⟩
    · rw [List.getElem?_append_right (by omega)] at hx
      obtain ⟨-, rfl⟩ := nws_at hx
      exact Or.inr ⟨by omega, rfl⟩
  refine ⟨fun i j x y hi hj hxy => ?_, fun k x hx => ?_⟩
  · rcases key i x hi with ⟨a1, a2, a3⟩ | ⟨a1, a2⟩ <;> rcases key j y hj with ⟨b1, b2, b3⟩ | ⟨b1, b2⟩
    · exact hD.1 i j x y a2 b2 hxy
    · omega
    · omega
    · omega
  · rcases key k x hx with ⟨-, a2, -⟩ | ⟨-, a2⟩
    · exact hD.2 k x a2
    · exact hA _ (by omega)
section MAKE2
variable {p : Program} {l : Launch} {e : Env} {R : Room} {s : State} {m : MethodId} {args : Array Value} {below : List Frame} {meth : Method} {c : Code} {H : Heap} {locs : List Loc} {cells slots : Nat} {Q : State → Prop}
variable {E : EX} {D : va_G} {t : Nat → ClassId} {cc : ByteArray} {own nm : String} {nL pc : Nat} {A : Nat → Prop} {ws w1 : va_W} {ls : Array Slot} {rest st : List Value} {r : Int32}
theorem newB (cx : Cx E D t p s m args meth c cc own nm nL A) (hw : Wd D A s ws H locs) {n : Int32} {N : Nat} (hn : ¬ n < 0) (hN : n.toNatClampNeg = N) (hb : N ≤ 100000) (hcells : cells + 1 ≤ R.cells) (hslots : slots + N ≤ R.slots) (hdg : decode cc pc = .ok (.newarray .byte, 2))
    (kk : ∀ (q : Nat) (H : Heap), Wd D A s (ws ++ [(q, .inl (t 1, N, .inl (fun _ => 0)))]) H locs → W p l e R s m args below meth c H locs (cells + 1) (slots + N) Q (F0 m (pc + 2) ls (.ref q :: rest))) : W p l e R s m args below meth c H locs cells slots Q (F0 m pc ls (.int n :: rest)) := by
  refine va_newa (atype := .byte) (a0 := (N, .inl (fun _ => 0))) cx.1 cx.2.1 (cx.2.2.2.2.1 _ q_72) rfl cx.2.2.2.2.2.1.1 hw.1 hw.2.1 hw.2.2 cx.2.2.2.2.2.2.1 (fun _ => rfl) hn hN (by show N * 1 ≤ _; omega) hcells hslots hdg (fun q cA H1 hK hP hD hS => ?_)
  have h1 : s.vm.findClass ("[" ++ (FieldType.byte).toString) = some cA := (hK.2 5 _ rfl).2
  have h2 : s.vm.findClass ("[" ++ (FieldType.byte).toString) = some (t 1) := (hK.2 1 _ rfl).2
  have h3 : cA = t 1 := Option.some.inj (h1.symm.trans h2)
  subst h3
  exact kk q H1 ⟨hP, hD, hS⟩
theorem newC (cx : Cx E D t p s m args meth c cc own nm nL A) (hw : Wd D A s ws H locs) {n : Int32} {N : Nat} (hn : ¬ n < 0) (hN : n.toNatClampNeg = N) (hb : N ≤ 100000) (hcells : cells + 1 ≤ R.cells) (hslots : slots + N ≤ R.slots) (hdg : decode cc pc = .ok (.newarray .char, 2))
    (kk : ∀ (q : Nat) (H : Heap), Wd D A s (ws ++ [(q, .inl (t 2, N, .inl (fun _ => 0)))]) H locs → W p l e R s m args below meth c H locs (cells + 1) (slots + N) Q (F0 m (pc + 2) ls (.ref q :: rest))) : W p l e R s m args below meth c H locs cells slots Q (F0 m pc ls (.int n :: rest)) := by
  refine va_newa (atype := .char) (a0 := (N, .inl (fun _ => 0))) cx.1 cx.2.1 (cx.2.2.2.2.1 _ q_1209) rfl cx.2.2.2.2.2.1.1 hw.1 hw.2.1 hw.2.2 cx.2.2.2.2.2.2.1 (fun _ => rfl) hn hN (by show N * 2 ≤ _; omega) hcells hslots hdg (fun q cA H1 hK hP hD hS => ?_)
  have h1 : s.vm.findClass ("[" ++ (FieldType.char).toString) = some cA := (hK.2 5 _ rfl).2
  have h2 : s.vm.findClass ("[" ++ (FieldType.char).toString) = some (t 2) := (hK.2 2 _ rfl).2
  have h3 : cA = t 2 := Option.some.inj (h1.symm.trans h2)
  subst h3
  exact kk q H1 ⟨hP, hD, hS⟩
/-- a new table of N rows of K ints -/
def grd (t : Nat → ClassId) (N K q : Nat) : Nat → va_E := fun i => if i = 0 then .inl (t 3, N, .inr (.inr (.inr (.inr (fun j => some (q + 1 + j)))))) else .inl (t 0, K, .inl (fun _ => 0))
theorem newG (cx : Cx E D t p s m args meth c cc own nm nL A) (hw : Wd D A s ws H locs) {index N K : Nat} {n k : Int32} (L : Nat → va_W) (hL : ∀ q, nws q (grd t N K q) (N + 1) = L q) (hcl : Cond.classLink own index "[[I" ∈ tw) (hn : ¬ n < 0) (hk : ¬ k < 0) (hN : n.toNatClampNeg = N) (hM : k.toNatClampNeg = K) (hb : N ≤ 100000) (hb2 : K ≤ 100000)
    (hcells : cells + (1 + N) ≤ R.cells) (hslots : slots + (N + N * K) ≤ R.slots) (hdg : decode cc pc = .ok (.multianewarray index 2, 4))
    (kk : ∀ (q : Nat) (H : Heap), Wd D A s (ws ++ L q) H locs → W p l e R s m args below meth c H locs (cells + 1 + N) (slots + N + N * K) Q (F0 m (pc + 4) ls (.ref q :: rest))) : W p l e R s m args below meth c H locs cells slots Q (F0 m pc ls (.int k :: .int n :: rest)) := by
  subst hN
  subst hM
  obtain ⟨hP, hD, hS⟩ := hw
  intro T hT Xs
  obtain ⟨vm₁, cA, cR, fA, fR, X', step⟩ := tb_step (pc := pc) (ls := ls) (rest := rest) Xs cx.1 cx.2.2.2.1 (cx.2.2.2.2.1 _ hcl) (over_moved (Vm.Alike.refl s.vm) cx.2.2.2.2.2.1.2.2.2.1) (cx.2.2.2.2.1 _ q_71) (by rw [cx.2.1]; exact hdg) hn hk hb hb2 hcells hslots
  have ec : cR = t 0 := Option.some.inj (fR.symm.trans (cx.2.2.2.2.2.1.1.2 0 _ rfl).2)
  have eA : cA = t 3 := Option.some.inj (fA.symm.trans (cx.2.2.2.2.2.1.1.2 3 _ rfl).2)
  subst ec
  subst eA
  have hTh : (T.setVm vm₁).heap = H := hT
  have f1 := tb_size (cA := t 3) (cR := t 0) (N := n.toNatClampNeg) (M := k.toNatClampNeg) (S := T.setVm vm₁) n.toNatClampNeg
  have f2 := tb_it (cA := t 3) (cR := t 0) (N := n.toNatClampNeg) (M := k.toNatClampNeg) (S := T.setVm vm₁) n.toNatClampNeg
  have hold : ∀ x : Nat, x < H.size → (tb_s (t 3) (t 0) n.toNatClampNeg k.toNatClampNeg (T.setVm vm₁) n.toNatClampNeg).heap[x]? = H[x]? := fun x hx => by
    rw [tb_old (by rw [hTh]; exact hx), hTh]
  have hrow : ∀ j : Nat, j < n.toNatClampNeg → (tb_s (t 3) (t 0) n.toNatClampNeg k.toNatClampNeg (T.setVm vm₁) n.toNatClampNeg).heap[H.size + 1 + j]? = some (vp_cell (t 0) (k.toNatClampNeg, .inl (fun _ => 0))) := fun j hj => by
    have := tb_row (cA := t 3) (cR := t 0) (N := n.toNatClampNeg) (M := k.toNatClampNeg) (S := T.setVm vm₁) n.toNatClampNeg hj
    rw [hTh] at this
    exact this
  rw [hTh] at f1 f2
  generalize tb_s (t 3) (t 0) n.toNatClampNeg k.toNatClampNeg (T.setVm vm₁) n.toNatClampNeg = F at X' step f1 f2 hold hrow
  have hout : F.heap[H.size]? = some (vp_cell (t 3) (n.toNatClampNeg, .inr (.inr (.inr (.inr (fun j => some (H.size + 1 + j))))))) := by
    rw [f2, vp_cell_q]
    exact congrArg some (arrV_ext (fun j hj => by rw [if_pos hj]))
  have hP2 : va_P D cls (ws ++ nws H.size (grd t n.toNatClampNeg k.toNatClampNeg H.size) (n.toNatClampNeg + 1)) F.heap := (hP.kept (fun k9 x hx => hold x.1 ((hP k9 x hx).lt))).app (fun k9 x hx => by
    obtain ⟨h9, rfl⟩ := nws_at hx
    by_cases h0 : k9 = 0
    · subst h0
      exact hout
    · have e9 : H.size + k9 = H.size + 1 + (k9 - 1) := by omega
      unfold grd
      rw [if_neg h0, e9]
      exact hrow (k9 - 1) (by omega))
  have hD2 := nws_D hD hP (fun q hq => cx.2.2.2.2.2.2.1 q (Nat.le_trans hS.1 hq)) (grd t n.toNatClampNeg k.toNatClampNeg H.size) (n.toNatClampNeg + 1)
  rw [hL] at hP2 hD2
  obtain ⟨t9, a1, b1⟩ := kk H.size F.heap ⟨hP2, hD2, ⟨by rw [f1]; have := hS.1; omega, fun x h1 h2 => (hold x (Nat.lt_of_lt_of_le h1 hS.1)).trans (hS.2.1 x h1 h2), hS.2.2⟩⟩ F rfl X'
  refine ⟨t9, step t9 ?_, b1⟩
  have e : T.heap.size = H.size := by rw [hT]
  rw [e]
  exact a1
end MAKE2
/-- a world with one object (place k0) at hand, and what was made since -/
def cs (ws L : va_W) (k0 : Nat) (v : Nat × va_E) : va_W := ws.set k0 v ++ L
section CS
variable {ws L L2 : va_W} {k0 j : Nat} {v w : Nat × va_E}
theorem cs_of (h : ws[k0]? = some v) : cs ws [] k0 v = ws := by
  unfold cs
  rw [List.append_nil]
  refine List.ext_getElem? (fun i => ?_)
  by_cases hi : k0 = i
  · subst hi
    rw [List.getElem?_set_self (List.getElem?_eq_some_iff.mp h).1, h]
  · rw [List.getElem?_set_ne hi]
theorem cs_0 (h : k0 < ws.length) : (cs ws L k0 v)[k0]? = some v := by
  unfold cs
  rw [List.getElem?_append_left (by rw [List.length_set]; exact h), List.getElem?_set_self h]
theorem cs_L {x : Nat × va_E} (h : L[j]? = some x) : (cs ws L k0 v)[ws.length + j]? = some x := by
  unfold cs
  rw [List.getElem?_append_right (by rw [List.length_set]; omega), List.length_set, Nat.add_sub_cancel_left]
  exact h
theorem cs_ws {k : Nat} {x : Nat × va_E} (h : ws[k]? = some x) (hk : k0 ≠ k) : (cs ws L k0 v)[k]? = some x := by
  have hl := (List.getElem?_eq_some_iff.mp h).1
  unfold cs
  rw [List.getElem?_append_left (by rw [List.length_set]; exact hl), List.getElem?_set_ne hk, h]
theorem cs_app : cs ws L k0 v ++ L2 = cs ws (L ++ L2) k0 v := by
  unfold cs
  rw [List.append_assoc]
theorem cs_set0 (h : k0 < ws.length) : (cs ws L k0 v).set k0 w = cs ws L k0 w := by
  unfold cs
  rw [List.set_append_left _ _ (by rw [List.length_set]; exact h), List.set_set]
theorem cs_setL : (cs ws L k0 v).set (ws.length + j) w = cs ws (L.set j w) k0 v := by
  unfold cs
  rw [List.set_append_right _ _ (by rw [List.length_set]; omega), List.length_set, Nat.add_sub_cancel_left]
theorem cs_len : (cs ws L k0 v).length = ws.length + L.length := by
  unfold cs
  rw [List.length_append, List.length_set]
end CS
