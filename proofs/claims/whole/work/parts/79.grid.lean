/-! A new table, by a walk of one's own: what the machine makes of `new int[n][k]`: the table's cell, then row after row, each put into it. -/
/-- the table's cell, h the place that it stands at, when i rows stand -/
def tb_t (cA : ClassId) (N h i : Nat) : Cell := arrV cA N (fun j => va_rf (if j < i then some (h + 1 + j) else none))
def tb_r (cR : ClassId) (M : Nat) : Cell := arrV cR M (fun _ => .int 0)
/-- the state when i rows stand -/
def tb_s (cA cR : ClassId) (N M : Nat) (S : State) : Nat → State
  | 0 => S.pushCell (tb_t cA N S.heap.size 0)
  | i + 1 => ((tb_s cA cR N M S i).pushCell (tb_r cR M)).setCell S.heap.size (tb_t cA N S.heap.size (i + 1))
theorem tb_tsize (cA : ClassId) (N h i : Nat) : (tb_t cA N h i).slots.size = N := arrV_size _ _ _
theorem tb_rsize (cR : ClassId) (M : Nat) : (tb_r cR M).slots.size = M := arrV_size _ _ _
theorem tb_next (cA : ClassId) (N h i : Nat) : (tb_t cA N h i).setSlot i (.ref (h + 1 + i)) = tb_t cA N h (i + 1) := by
  unfold tb_t
  rw [arrV_store]
  congr 1
  funext j
  unfold updV
  by_cases e : j = i
  · subst e
    rw [if_pos rfl, if_pos (Nat.lt_succ_self j)]
    rfl
  · rw [if_neg e]
    show va_rf (if j < i then _ else _) = _
    by_cases h1 : j < i
    · rw [if_pos h1, if_pos (Nat.lt_succ_of_lt h1)]
    · rw [if_neg h1, if_neg (show ¬ j < i + 1 by omega)]
theorem tb_empty (cA : ClassId) (N h : Nat) : ({ cls := cA, slots := Array.replicate N .null, vm := .none } : Cell) = tb_t cA N h 0 := by
  rw [arrV_new]
  unfold tb_t
  congr 1
section TB
variable {cA cR cI : ClassId} {N M : Nat} {S : State}
theorem tb_vm : ∀ i : Nat, (tb_s cA cR N M S i).vm = S.vm
  | 0 => rfl
  | i + 1 => tb_vm i
theorem tb_top (f : JFrame) : ∀ i : Nat, tb_s cA cR N M (S.setTop f) i = (tb_s cA cR N M S i).setTop f
  | 0 => rfl
  | i + 1 => by
    show ((tb_s cA cR N M (S.setTop f) i).pushCell _).setCell _ _ = _
    rw [tb_top f i]
    rfl
theorem tb_size : ∀ i : Nat, (tb_s cA cR N M S i).heap.size = S.heap.size + (1 + i)
  | 0 => by
    show (S.heap.push _).size = _
    rw [Array.size_push]
  | i + 1 => by
    show (((tb_s cA cR N M S i).heap.push _).setIfInBounds _ _).size = _
    rw [Array.size_setIfInBounds, Array.size_push, tb_size i]
    omega
theorem tb_at (x : Nat) : ∀ i : Nat, (tb_s cA cR N M S (i + 1)).heap[x]? = if x = S.heap.size then some (tb_t cA N S.heap.size (i + 1)) else if x = S.heap.size + (1 + i) then some (tb_r cR M) else (tb_s cA cR N M S i).heap[x]? := fun i => by
  have z := tb_size (cA := cA) (cR := cR) (N := N) (M := M) (S := S) i
  show (((tb_s cA cR N M S i).heap.push (tb_r cR M)).setIfInBounds S.heap.size (tb_t cA N S.heap.size (i + 1)))[x]? = _
  rw [Array.getElem?_setIfInBounds, Array.getElem?_push, Array.size_push, z]
  by_cases e : x = S.heap.size
  · subst e
    rw [if_pos rfl, if_pos rfl, if_pos (by omega)]
  · rw [if_neg (fun h => e h.symm), if_neg e]
theorem tb_it : ∀ i : Nat, (tb_s cA cR N M S i).heap[S.heap.size]? = some (tb_t cA N S.heap.size i)
  | 0 => by
    show (S.heap.push _)[S.heap.size]? = _
    rw [Array.getElem?_push, if_pos rfl]
  | i + 1 => by rw [tb_at, if_pos rfl]
theorem tb_old {x : Nat} (hx : x < S.heap.size) : ∀ i : Nat, (tb_s cA cR N M S i).heap[x]? = S.heap[x]?
  | 0 => by
    show (S.heap.push _)[x]? = _
    rw [Array.getElem?_push, if_neg (Nat.ne_of_lt hx)]
  | i + 1 => by rw [tb_at, if_neg (Nat.ne_of_lt hx), if_neg (by omega), tb_old hx i]
theorem tb_row {j : Nat} : ∀ i : Nat, j < i → (tb_s cA cR N M S i).heap[S.heap.size + 1 + j]? = some (tb_r cR M)
  | 0, h => absurd h (Nat.not_lt_zero j)
  | i + 1, h => by
    rw [tb_at, if_neg (by omega)]
    by_cases e : j = i
    · rw [if_pos (by omega)]
    · rw [if_neg (by omega), tb_row i (by omega)]
theorem tb_used : ∀ i : Nat, (tb_s cA cR N M S i).slotsUsed = S.slotsUsed + (N + i * M)
  | 0 => by
    show S.slotsUsed + (tb_t cA N S.heap.size 0).slots.size = _
    rw [tb_tsize, Nat.zero_mul, Nat.add_zero]
  | i + 1 => by
    show (tb_s cA cR N M S i).slotsUsed + (tb_r cR M).slots.size = _
    rw [tb_rsize, tb_used i, Nat.succ_mul]
    omega
end TB
section TB2
variable {p : Program} {l : Launch} {e : Env} {R : Room} {s : State} {m : MethodId} {args : Array Value} {below : List Frame} {meth : Method} {c : Code} {T : State} {locs : List Loc} {cells slots : Nat}
theorem tb_stand (X : Stand p l e R s m args below meth c T locs cells slots) (cA cR : ClassId) (N M : Nat) : ∀ i : Nat, Stand p l e R s m args below meth c (tb_s cA cR N M T i) locs (cells + 1 + i) (slots + N + i * M)
  | 0 => by
    have h := X.pushed (tb_t cA N T.heap.size 0)
    rw [tb_tsize] at h
    rw [Nat.zero_mul]
    exact h
  | i + 1 => by
    have hlt : T.heap.size < (tb_s cA cR N M T i).heap.size := by rw [tb_size]; omega
    have h := ((tb_stand X cA cR N M i).pushed (tb_r cR M)).stored (a := T.heap.size) (cell := tb_t cA N T.heap.size i) ((State.heap_pushCell_of_lt _ _ hlt).trans (tb_it i)) i (.ref (T.heap.size + 1 + i))
    rw [tb_next, tb_rsize] at h
    have h2 := h.dropFresh (fun x hx => by
      cases List.mem_singleton.mp hx
      exact X.heapGrown)
    rw [Nat.succ_mul, ← Nat.add_assoc (slots + N)]
    exact h2
end TB2
/-- what the tables say of the class of int[][] -/
theorem tb_over {args : Array Value} {s : State} (h : (Cond.arrayOver (.array .int)).before args s = true) : ∃ (cR cA : ClassId) (kA : Class), s.vm.findClass "[I" = some cR ∧ s.vm.findClass "[[I" = some cA ∧ s.vm.classes[cA]? = some kA ∧ kA.kind = .array cR (.array .int) := by
  have e1 : (FieldType.array .int).toString = "[I" := rfl
  have e2 : "[" ++ (FieldType.array .int).toString = "[[I" := rfl
  simp only [Cond.before, Cond.holds, Cond.value, beq_iff_eq, Option.bind_eq_some_iff, Option.map_eq_some_iff, e2] at h
  obtain ⟨cR, hR, cA, hi, kA, hk, hb⟩ := h
  rw [e1] at hR
  have hp := (Array.findIdx?_eq_some_iff_getElem.mp hi).2.1
  rw [(Array.getElem?_eq_some_iff.mp hk).2] at hp
  refine ⟨cR, cA, kA, hR, ?_, hk, ?_⟩ <;> cases hd : kA.kind <;> rw [hd] at hb hp <;> simp at hb hp
  · exact hb.2
  · rw [hp, hb.1]
section TB3
variable {E : CtlPost} {e : Env} {d : Bool} {acts : List Action} {S : State} {cA cR cI : ClassId} {kA kR : Class} {n k : Int32} {Q : Addr → Pre}
theorem tb_make1 (h3 : S.vm.classes[cR]? = some kR) (h4 : kR.kind = .array cI .int) (hk : ¬ k < 0) (l2 : ¬ k.toNatClampNeg > e.platform.arrayLengthLimit) (b2 : ¬ k.toNatClampNeg * componentBytes .int > e.platform.maxHeapBytes)
    (r1 : S.heap.size + 1 ≤ e.platform.maxCells) (r2 : S.slotsUsed + k.toNatClampNeg ≤ e.platform.maxSlots) (hq : ∀ acts', Q S.heap.size d acts' (S.pushCell (tb_r cR k.toNatClampNeg))) : wp (multianewarray.make cR [k]) Q E e d acts S := by
  rw [multianewarray.make]
  simp only [wp_bind', W.ite, hk, if_false, wp_pure', W.theClass, h3, h4, Option.some.injEq, exists_eq_left']
  exact W.newArray_of h3 h4 l2 b2 r1 r2 rfl (fun acts' => by
    have := hq acts'
    unfold tb_r at this
    rw [← arrV_new] at this
    exact this)
theorem tb_make (h1 : S.vm.classes[cA]? = some kA) (h2 : kA.kind = .array cR (.array .int)) (h3 : S.vm.classes[cR]? = some kR) (h4 : kR.kind = .array cI .int) (hn : ¬ n < 0) (hk : ¬ k < 0)
    (l1 : ¬ n.toNatClampNeg > e.platform.arrayLengthLimit) (b1 : ¬ n.toNatClampNeg * componentBytes (.array .int) > e.platform.maxHeapBytes) (l2 : ¬ k.toNatClampNeg > e.platform.arrayLengthLimit) (b2 : ¬ k.toNatClampNeg * componentBytes .int > e.platform.maxHeapBytes)
    (r1 : S.heap.size + (1 + n.toNatClampNeg) ≤ e.platform.maxCells) (r2 : S.slotsUsed + (n.toNatClampNeg + n.toNatClampNeg * k.toNatClampNeg) ≤ e.platform.maxSlots)
    (hq : ∀ d' acts', Q S.heap.size d' acts' (tb_s cA cR n.toNatClampNeg k.toNatClampNeg S n.toNatClampNeg)) : wp (multianewarray.make cA [n, k]) Q E e d acts S := by
  have hf : [k].find? (· < 0) = none := by simp [hk]
  rw [multianewarray.make]
  simp only [wp_bind', W.ite, hn, if_false, wp_pure', W.theClass, h1, h2, Option.some.injEq, exists_eq_left', hf]
  refine W.newArray_of h1 h2 l1 b1 (by omega) (by omega) rfl (fun acts1 => ?_)
  rw [tb_empty cA n.toNatClampNeg S.heap.size]
  simp only [ite_self, wp_bind', wp_pure']
  rw [Std.Legacy.Range.forIn_eq_forIn_range']
  refine wp_forIn_inv (fun todo U => todo = List.range' (n.toNatClampNeg - todo.length) todo.length ∧ todo.length ≤ n.toNatClampNeg ∧ U = tb_s cA cR n.toNatClampNeg k.toNatClampNeg S (n.toNatClampNeg - todo.length)) _ _ ?_ ?_ ?_
  · simp [Std.Legacy.Range.size, tb_s]
  · rintro x todo U d1 acts2 Q' ⟨hl, hle, rfl⟩ go
    have hlen : (x :: todo).length = todo.length + 1 := rfl
    rw [hlen] at hl hle
    obtain ⟨i, hi⟩ : ∃ i, n.toNatClampNeg = i + 1 + todo.length := ⟨n.toNatClampNeg - (todo.length + 1), by omega⟩
    have z1 : n.toNatClampNeg - (x :: todo).length = i := by rw [hlen]; omega
    have z2 : n.toNatClampNeg - todo.length = i + 1 := by omega
    rw [hlen] at z1
    rw [z1, List.range'_succ] at hl
    obtain ⟨rfl, ht⟩ := List.cons.inj hl
    have hm : x * k.toNatClampNeg + k.toNatClampNeg ≤ n.toNatClampNeg * k.toNatClampNeg := by
      have := Nat.mul_le_mul_right k.toNatClampNeg (show x + 1 ≤ n.toNatClampNeg by omega)
      rwa [Nat.succ_mul] at this
    have hv := tb_vm (cA := cA) (cR := cR) (N := n.toNatClampNeg) (M := k.toNatClampNeg) (S := S) x
    rw [hlen, z1]
    simp only [wp_bind']
    refine tb_make1 (by rw [hv]; exact h3) h4 hk l2 b2 (by rw [tb_size]; omega) (by rw [tb_used]; omega) (fun acts3 => ?_)
    simp only [wp_bind', W.writeLoc, wp_pure']
    have hlt : S.heap.size < (tb_s cA cR n.toNatClampNeg k.toNatClampNeg S x).heap.size := by rw [tb_size]; omega
    refine ⟨tb_t cA n.toNatClampNeg S.heap.size x, (State.heap_pushCell_of_lt _ _ hlt).trans (tb_it x), VmData.noConfusion, by rw [tb_tsize]; omega, ?_, go _ _ _ ⟨?_, by omega, ?_⟩⟩
    · simp [State.fitsSlot, State.slotType?, hv, tb_t, arrV, h1, h2, fits]
    · rw [z2]
      exact ht
    · rw [z2, tb_size, ← Nat.add_assoc, tb_next]
      rfl
  · rintro U d1 acts2 ⟨-, -, rfl⟩
    exact hq _ _
end TB3
section TB4
variable {p : Program} {l : Launch} {e : Env} {R : Room} {s : State} {m : MethodId} {args : Array Value} {below : List Frame} {meth : Method} {c : Code} {T : State} {locs : List Loc} {cells slots : Nat}
theorem tb_step (X : Stand p l e R s m args below meth c T locs cells slots) (hexec : p.tables.exec = Jvm.exec) {own : String} {index pc : Nat} {ls : Array Slot} {rest : List Value} {n k : Int32} (hown : s.vm.findClass own = some m.cls)
    (hcl : (Cond.classLink own index "[[I").before args s = true) (hov : (Cond.arrayOver (.array .int)).before args s = true) (har : (Cond.arrayClass .int).before args s = true) (hdg : decode c.code pc = .ok (.multianewarray index 2, 4)) (hn : ¬ n < 0) (hk : ¬ k < 0) (bn : n.toNatClampNeg ≤ 100000) (bk : k.toNatClampNeg ≤ 100000)
    (hcells : cells + (1 + n.toNatClampNeg) ≤ R.cells) (hslots : slots + (n.toNatClampNeg + n.toNatClampNeg * k.toNatClampNeg) ≤ R.slots) :
    ∃ (vm₁ : Vm) (cA cR : ClassId), s.vm.findClass "[[I" = some cA ∧ s.vm.findClass "[I" = some cR ∧ Stand p l e R s m args below meth c (tb_s cA cR n.toNatClampNeg k.toNatClampNeg (T.setVm vm₁) n.toNatClampNeg) locs (cells + 1 + n.toNatClampNeg) (slots + n.toNatClampNeg + n.toNatClampNeg * k.toNatClampNeg) ∧
      ∀ t, Steps p.tables e below ((tb_s cA cR n.toNatClampNeg k.toNatClampNeg (T.setVm vm₁) n.toNatClampNeg).setTop (F0 m (pc + 4) ls (.ref T.heap.size :: rest))) t → Steps p.tables e below (T.setTop (F0 m pc ls (.int k :: .int n :: rest))) t := by
  obtain ⟨cR, cA, kA, hR, hA, hkA, hkd⟩ := tb_over hov
  obtain ⟨cR', kR, cI, hR', hkR, hkdR⟩ := Cond.arrayClass_spec har
  have eR : cR' = cR := Option.some.inj (hR'.symm.trans hR)
  subst eR
  obtain ⟨cA', hA', hlk⟩ := Cond.classLink_spec hown hcl e.platform (by rw [X.admits.platform])
  have eA : cA' = cA := Option.some.inj (hA'.symm.trans hA)
  subst eA
  obtain ⟨hres, hwarm, -⟩ := State.classEntry (e := e) X.warmed hlk
  generalize T.vm.noted m.cls index (.cls cA') = vm₁ at hres hwarm
  obtain ⟨kA1, a1, a2⟩ := hwarm.alike.2.2 _ _ hkA
  obtain ⟨kR1, c1, c2⟩ := hwarm.alike.2.2 _ _ hkR
  have dA : kA1.kind = .array cR' (.array .int) := by rw [a2]; exact hkd
  have dR : kR1.kind = .array cI .int := by rw [c2]; exact hkdR
  have XF := tb_stand (X.noted hwarm) cA' cR' n.toNatClampNeg k.toNatClampNeg n.toNatClampNeg
  refine ⟨vm₁, cA', cR', hA, hR, XF, fun t ht => ?_⟩
  obtain ⟨r1, r2⟩ := X.roomAbove hcells hslots
  jvm_step X.here [hexec, hdg]
  simp only [multianewarray.sem, wp_bind', W.resolveClassAt_links (State.method?_setTop (F0 m pc ls (.int k :: .int n :: rest)) X.here.top) hres]
  rw [W.popN, if_neg (by decide)]
  refine ⟨F0 m pc ls (.int k :: .int n :: rest), State.topJava?_setTop' (s := T.setVm vm₁) _ X.here.top, [.int n, .int k], rest, rfl, rfl, ?_⟩
  simp only [List.mapM_cons, List.mapM_nil, wp_bind', wp_pure']
  have lA := Launch.admits_arrayLengthLimit X.admits
  have lH := Launch.admits_maxHeapBytes X.admits
  refine tb_make (kA := kA1) (kR := kR1) (cR := cR') (cI := cI) a1 dA c1 dR hn hk (by rw [lA]; omega) (by rw [lH]; show ¬ _ * 4 > _; omega) (by rw [lA]; omega) (by rw [lH]; show ¬ _ * 4 > _; omega) r1 r2 (fun d' acts' => ?_)
  have eS : ∀ f : JFrame, ((T.setTop (F0 m pc ls (.int k :: .int n :: rest))).setVm vm₁).setTop f = (T.setVm vm₁).setTop f := fun f => State.setTop_setTop (T.setVm vm₁) _ f
  rw [eS, tb_top]
  simp only [wp_bind', W.mark, W.pushRef, State.topJava?_setTop' _ XF.here.top, Option.some.injEq, exists_eq_left', State.setTop_setTop]
  intro acts2
  rw [afterInstr_ok]
  exact ht
end TB4
