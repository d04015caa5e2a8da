/-! More calls: a method chosen by the receiver's class, a superclass's, a nest mate's static one; an answer that is a cell. -/
section CLIB
variable {p : Program} {l : Launch} {e : Env} {R : Room} {s : State} {m : MethodId} {args : Array Value} {below : List Frame} {meth : Method} {c : Code} {H : Heap} {locs : List Loc} {cells slots : Nat} {Q : State → Prop}
variable {E : EX} {D : va_G} {t : Nat → ClassId} {cc : ByteArray} {own nm : String} {nL pc : Nat} {A : Nat → Prop} {ws w1 : va_W} {ls : Array Slot} {rest st : List Value} {r : Int32}
theorem goodL {ws : List Cond} (h : ∀ w ∈ ws, w ∈ tw) : GoodIn tw ws := fun w hw => ⟨h w hw, good_of_word (tw_good (h w hw))⟩
theorem calU {x y : MethodName} {bytes b0 : ByteArray} {maxL m0 n : Nat} {ret r0 : Option FieldType} {lev mc ms index : Nat} {b k : Nat} {As : List Value} {Qv : Option Value → va_W → Prop} {ci N : Nat} {T : u_T} {fs : List Value} {C owner : String}
    (cx : Cx E D t p s m args meth c cc own nm nL A) (hw : Wd D A s ws H locs) (hl : ls.size = nL) (hM : MC l E0 D t y bytes maxL ret lev mc ms (.ref b :: As) ws Qv)
    (qu : ∀ w ∈ ([.methodLink own index x, .sameMethod x.cls owner x.name x.desc, .instanceMethod ⟨owner, x.name, x.desc⟩, .selects C x y, .instanceMethod y, .initialized y.cls] : List Cond), w ∈ tw) (q5 : Cond.code y bytes maxL ret ∈ tw) (q0 : Cond.code ⟨owner, x.name, x.desc⟩ b0 m0 r0 ∈ tw)
    (hd : owner ≠ "java/lang/invoke/MethodHandle" ∧ owner ≠ "java/lang/invoke/VarHandle" ∧ (parseMethodDescriptor x.desc).map (fun d => d.parameters.length) = some n) (hn : As.length = n)
    (hrc : ws[k]? = some (b, .inr (ci, fs))) (hcl : cls[ci]? = some (C, T, N)) (hdg : decode cc pc = .ok (.invokevirtual index, 3)) (hst : st = As.reverse ++ .ref b :: rest) (hcat : (rest.map fun v => v.category).sum ≤ 8)
    (hR : lev + 1 ≤ R.frames ∧ 8 + (maxL + 11) + 64 * lev ≤ R.locals) (hf : cells + mc ≤ R.cells ∧ slots + ms ≤ R.slots)
    (kk : ∀ (v : Option Value) (ws' : va_W) (H' : Heap) (locs' : List Loc), Qv v ws' → Wd D A s ws' H' locs' → W p l e R s m args below meth c H' locs' (cells + mc) (slots + ms) Q (F0 m (pc + 3) ls (v.toList ++ rest))) :
    W p l e R s m args below meth c H locs cells slots Q (F0 m pc ls st) := by
  have hts := cx.2.2.2.2.1
  subst hst
  have hG : GoodIn tw (va_wsO own index C owner x y (Cond.code y bytes maxL ret :: tw)) := goodL (fun w hw => by
    rcases List.mem_append.mp hw with h | h
    · exact qu w h
    · rcases List.mem_cons.mp h with rfl | h
      · exact q5
      · exact h)
  exact backZ cx hw rfl (va_runU (As := As) (rest := rest) (g := F0 m pc ls (As.reverse ++ .ref b :: rest)) ⟨cx.1, cx.2.1, cx.2.2.1, cx.2.2.2.1, hts⟩ (hM H.size) (va_cwO n hts hG rfl rfl rfl q0 hd hR) ⟨blindZ nE0, va_recv cx.2.2.2.2.2.1.1 hw.1 hcl hrc, preZ cx hw (fun _ _ _ => trivial)⟩ rfl hn hl rfl (lv_room hcat) hdg hf) kk
theorem calUi {x y : MethodName} {bytes b0 : ByteArray} {maxL m0 n : Nat} {ret r0 : Option FieldType} {lev index : Nat} {b k : Nat} {As : List Value} {ci N : Nat} {T : u_T} {fs : List Value} {C owner : String}
    (cx : Cx E D t p s m args meth c cc own nm nL A) (hw : Wd D A s ws H locs) (hl : ls.size = nL) (hM : MC l E0 D t y bytes maxL ret lev 0 0 (.ref b :: As) ws (Qi r w1))
    (qu : ∀ w ∈ ([.methodLink own index x, .sameMethod x.cls owner x.name x.desc, .instanceMethod ⟨owner, x.name, x.desc⟩, .selects C x y, .instanceMethod y, .initialized y.cls] : List Cond), w ∈ tw) (q5 : Cond.code y bytes maxL ret ∈ tw) (q0 : Cond.code ⟨owner, x.name, x.desc⟩ b0 m0 r0 ∈ tw)
    (hd : owner ≠ "java/lang/invoke/MethodHandle" ∧ owner ≠ "java/lang/invoke/VarHandle" ∧ (parseMethodDescriptor x.desc).map (fun d => d.parameters.length) = some n) (hn : As.length = n)
    (hrc : ws[k]? = some (b, .inr (ci, fs))) (hcl : cls[ci]? = some (C, T, N)) (hdg : decode cc pc = .ok (.invokevirtual index, 3)) (hst : st = As.reverse ++ .ref b :: rest) (hcat : (rest.map fun v => v.category).sum ≤ 8)
    (hR : lev + 1 ≤ R.frames ∧ 8 + (maxL + 11) + 64 * lev ≤ R.locals) (hf : cells ≤ R.cells ∧ slots ≤ R.slots)
    (kk : ∀ (H' : Heap) (locs' : List Loc), Wd D A s w1 H' locs' → W p l e R s m args below meth c H' locs' cells slots Q (F0 m (pc + 3) ls (.int r :: rest))) :
    W p l e R s m args below meth c H locs cells slots Q (F0 m pc ls st) :=
  calU cx hw hl hM qu q5 q0 hd hn hrc hcl hdg hst hcat hR hf (fun v ws' H' locs' hq hw' => by obtain ⟨rfl, rfl⟩ := hq; exact kk H' locs' hw')
theorem calSUi {y : MethodName} {bytes : ByteArray} {maxL n : Nat} {ret : Option FieldType} {lev index : Nat} {b k : Nat} {As : List Value} {ci N : Nat} {T : u_T} {fs : List Value} {C : String}
    (cx : Cx E D t p s m args meth c cc own nm nL A) (hw : Wd D A s ws H locs) (hl : ls.size = nL) (hM : MC l E0 D t y bytes maxL ret lev 0 0 (.ref b :: As) ws (Qi r w1))
    (qu : ∀ w ∈ ([.methodLink own index y, .sameMethod y.cls y.cls y.name y.desc, .superclass own y.cls, .instanceMethod y, .initialized y.cls] : List Cond), w ∈ tw) (q5 : Cond.code y bytes maxL ret ∈ tw)
    (hd : y.name ≠ "<init>" ∧ (parseMethodDescriptor y.desc).map (fun d => d.parameters.length) = some n) (hn : As.length = n)
    (hrc : ws[k]? = some (b, .inr (ci, fs))) (hcl : cls[ci]? = some (C, T, N)) (hdg : decode cc pc = .ok (.invokespecial index, 3)) (hst : st = As.reverse ++ .ref b :: rest) (hcat : (rest.map fun v => v.category).sum ≤ 8)
    (hR : lev + 1 ≤ R.frames ∧ 8 + (maxL + 11) + 64 * lev ≤ R.locals) (hf : cells ≤ R.cells ∧ slots ≤ R.slots)
    (kk : ∀ (H' : Heap) (locs' : List Loc), Wd D A s w1 H' locs' → W p l e R s m args below meth c H' locs' cells slots Q (F0 m (pc + 3) ls (.int r :: rest))) :
    W p l e R s m args below meth c H locs cells slots Q (F0 m pc ls st) := by
  have hts := cx.2.2.2.2.1
  subst hst
  have hG : GoodIn tw (va_wsSU own index y (Cond.code y bytes maxL ret :: tw)) := goodL (fun w hw => by
    rcases List.mem_append.mp hw with h | h
    · exact qu w h
    · rcases List.mem_cons.mp h with rfl | h
      · exact q5
      · exact h)
  exact backZ cx hw rfl (va_runSU (As := As) (rest := rest) (g := F0 m pc ls (As.reverse ++ .ref b :: rest)) (cx.2.2.2.2.2.1.1.1 ci _ hcl).2 ⟨cx.1, cx.2.1, cx.2.2.1, cx.2.2.2.1, hts⟩ (hM H.size) (va_cwSU n hts hG rfl rfl rfl hd hR) ⟨blindZ nE0, va_recv cx.2.2.2.2.2.1.1 hw.1 hcl hrc, preZ cx hw (fun _ _ _ => trivial)⟩ rfl hn hl rfl (lv_room hcat) hdg hf)
    (fun v ws' H' locs' hq hw' => by obtain ⟨rfl, rfl⟩ := hq; exact kk H' locs' hw')
theorem calSNi {y : MethodName} {bytes : ByteArray} {maxL n : Nat} {ret : Option FieldType} {lev index : Nat} {As : List Value} {host : String}
    (cx : Cx E D t p s m args meth c cc own nm nL A) (hw : Wd D A s ws H locs) (hl : ls.size = nL) (hM : MC l E0 D t y bytes maxL ret lev 0 0 As ws (Qi r w1)) (q1 : (own, index, y, host) ∈ nml) (q2 : MS y bytes maxL ret n) (hn : As.length = n)
    (hdg : decode cc pc = .ok (.invokestatic index, 3)) (hst : st = As.reverse ++ rest) (hcat : (rest.map fun v => v.category).sum ≤ 8)
    (hR : lev + 1 ≤ R.frames ∧ 8 + (maxL + 11) + 64 * lev ≤ R.locals) (hf : cells ≤ R.cells ∧ slots ≤ R.slots)
    (kk : ∀ (H' : Heap) (locs' : List Loc), Wd D A s w1 H' locs' → W p l e R s m args below meth c H' locs' cells slots Q (F0 m (pc + 3) ls (.int r :: rest))) :
    W p l e R s m args below meth c H locs cells slots Q (F0 m pc ls st) := by
  have hts := cx.2.2.2.2.1
  subst hst
  exact backZ cx hw rfl (va_runSN (As := As) (rest := rest) (g := F0 m pc ls (As.reverse ++ rest)) ⟨cx.1, cx.2.1, cx.2.2.1, cx.2.2.2.1, hts⟩ (hM H.size) ⟨va_cnB n hts (goodZ q2.2.2.1) rfl rfl rfl (cx.2.2.2.2.2.1.2.1 _ q1) (hts _ q2.2.1) q2.2.2.2 hR, hts _ q2.1, trivial⟩ ⟨blindZ nE0, preZ cx hw (fun _ _ _ => trivial)⟩ rfl hn hl rfl (lv_room hcat) hdg hf)
    (fun v ws' H' locs' hq hw' => by obtain ⟨rfl, rfl⟩ := hq; exact kk H' locs' hw')
theorem calVa {y : MethodName} {bytes : ByteArray} {maxL n : Nat} {ret : Option FieldType} {lev index : Nat} {b k q : Nat} {As : List Value} {ci N : Nat} {T : u_T} {fs : List Value}
    (cx : Cx E D t p s m args meth c cc own nm nL A) (hw : Wd D A s ws H locs) (hl : ls.size = nL) (hM : MC l E0 D t y bytes maxL ret lev 0 0 (.ref b :: As) ws (Qa q w1)) (q1 : Cond.methodLink own index y ∈ tw) (q2 : MV y bytes maxL ret n) (hn : As.length = n)
    (hrc : ws[k]? = some (b, .inr (ci, fs))) (hcl : cls[ci]? = some (y.cls, T, N)) (hdg : decode cc pc = .ok (.invokevirtual index, 3)) (hst : st = As.reverse ++ .ref b :: rest) (hcat : (rest.map fun v => v.category).sum ≤ 8)
    (hR : lev + 1 ≤ R.frames ∧ 8 + (maxL + 11) + 64 * lev ≤ R.locals) (hf : cells ≤ R.cells ∧ slots ≤ R.slots)
    (kk : ∀ (H' : Heap) (locs' : List Loc), Wd D A s w1 H' locs' → W p l e R s m args below meth c H' locs' cells slots Q (F0 m (pc + 3) ls (.ref q :: rest))) :
    W p l e R s m args below meth c H locs cells slots Q (F0 m pc ls st) :=
  calV cx hw hl hM q1 q2.1 q2.2.1 q2.2.2.1 q2.2.2.2.1 q2.2.2.2.2 hn hrc hcl hdg hst hcat hR hf (fun v ws' H' locs' hq hw' => by obtain ⟨rfl, rfl⟩ := hq; exact kk H' locs' hw')
theorem calSv {y : MethodName} {bytes : ByteArray} {maxL n : Nat} {ret : Option FieldType} {lev index : Nat} {As : List Value}
    (cx : Cx E D t p s m args meth c cc own nm nL A) (hw : Wd D A s ws H locs) (hl : ls.size = nL) (hM : MC l E0 D t y bytes maxL ret lev 0 0 As ws (Qn w1)) (q1 : Cond.methodLink own index y ∈ tw) (q2 : MS y bytes maxL ret n) (hn : As.length = n)
    (hdg : decode cc pc = .ok (.invokestatic index, 3)) (hst : st = As.reverse ++ rest) (hcat : (rest.map fun v => v.category).sum ≤ 8)
    (hR : lev + 1 ≤ R.frames ∧ 8 + (maxL + 11) + 64 * lev ≤ R.locals) (hf : cells ≤ R.cells ∧ slots ≤ R.slots)
    (kk : ∀ (H' : Heap) (locs' : List Loc), Wd D A s w1 H' locs' → W p l e R s m args below meth c H' locs' cells slots Q (F0 m (pc + 3) ls rest)) :
    W p l e R s m args below meth c H locs cells slots Q (F0 m pc ls st) :=
  calS cx hw hl hM q1 q2.1 q2.2.1 q2.2.2.1 q2.2.2.2 hn hdg hst hcat hR hf (fun v ws' H' locs' hq hw' => by obtain ⟨rfl, rfl⟩ := hq; exact kk H' locs' hw')
/-- entry of a method that answers with a cell -/
theorem MC.ofA {y : MethodName} {rt : FieldType} {lev mc ms : Nat} {av : List Value} {Qv : Option Value → va_W → Prop} (hrt : (∃ n, rt = .object n) ∨ ∃ t, rt = .array t) (hy : plainName y.cls = true) (hlen : (lg_sl av).length ≤ nL)
    (body : ∀ (p : Program) (e : Env) (s : State) (m : MethodId) (args : Array Value) (below : List Frame) (meth : Method) (c : Code) (A : Nat → Prop) (Q : State → Prop) (ls : Array Slot), Cx E D t p s m args meth c cc y.cls y.name nL A →
      (∀ (H : Heap) (locs : List Loc) (ws' : va_W) (pc : Nat) (ls : Array Slot) (v : Nat), Wd D A s ws' H locs → Qv (some (.ref v)) ws' → decode cc pc = .ok (.areturn, 1) → W p l e (rmz lev mc ms) s m args below meth c H locs mc ms Q (F0 m pc ls [.ref v])) →
      Wd D A s ws s.heap [] → lv_has ls nL (lv_args 0 av) → W p l e (rmz lev mc ms) s m args below meth c s.heap [] 0 0 Q (F0 m 0 ls [])) :
    MC l E D t y cc nL (some rt) lev mc ms av ws Qv :=
  MC.ofR hy hlen (fun p e s m args below meth c sz ls hr cx hw hl => body p e s m args below meth c _ _ ls cx (fun H locs ws' pc ls v hw hq hdg => retA hr hrt cx hw hq hdg) hw hl)
end CLIB
theorem ib_lt {i : Int32} {n : Nat} (h : ib i n = true) : i.toNatClampNeg < n := by
  unfold ib at h
  simp at h
  omega
def absi (x : Int32) : Int32 := if 0 ≤ x then x else 0 - x
def mini (x y : Int32) : Int32 := if y < x then y else x
theorem dc {c : Prop} [Decidable c] (h : decide c = true) : c := of_decide_eq_true h
/-! super.m(..), where the superclass has m from its own superclass. -/
section CLIB2
variable {p : Program} {l : Launch} {e : Env} {R : Room} {s : State} {m : MethodId} {args : Array Value} {below : List Frame} {meth : Method} {c : Code} {H : Heap} {locs : List Loc} {cells slots : Nat} {Q : State → Prop}
variable {E : EX} {D : va_G} {t : Nat → ClassId} {cc : ByteArray} {own nm : String} {nL pc : Nat} {A : Nat → Prop} {ws w1 : va_W} {ls : Array Slot} {rest st : List Value} {r : Int32}
theorem calSWi {x y : MethodName} {bytes : ByteArray} {maxL n : Nat} {ret : Option FieldType} {lev index : Nat} {b k : Nat} {As : List Value} {ci N : Nat} {T : u_T} {fs : List Value} {C : String}
    (cx : Cx E D t p s m args meth c cc own nm nL A) (hw : Wd D A s ws H locs) (hl : ls.size = nL) (hM : MC l E0 D t y bytes maxL ret lev 0 0 (.ref b :: As) ws (Qi r w1))
    (qu : ∀ w ∈ ([.methodLink own index x, .sameMethod x.cls y.cls x.name x.desc, .superclass own x.cls, .superclass x.cls y.cls, .instanceMethod y, .initialized y.cls] : List Cond), w ∈ tw) (q5 : Cond.code y bytes maxL ret ∈ tw)
    (hxy : y = ⟨y.cls, x.name, x.desc⟩) (hd : y.name ≠ "<init>" ∧ (parseMethodDescriptor y.desc).map (fun d => d.parameters.length) = some n) (hn : As.length = n)
    (hrc : ws[k]? = some (b, .inr (ci, fs))) (hcl : cls[ci]? = some (C, T, N)) (hdg : decode cc pc = .ok (.invokespecial index, 3)) (hst : st = As.reverse ++ .ref b :: rest) (hcat : (rest.map fun v => v.category).sum ≤ 8)
    (hR : lev + 1 ≤ R.frames ∧ 8 + (maxL + 11) + 64 * lev ≤ R.locals) (hf : cells ≤ R.cells ∧ slots ≤ R.slots)
    (kk : ∀ (H' : Heap) (locs' : List Loc), Wd D A s w1 H' locs' → W p l e R s m args below meth c H' locs' cells slots Q (F0 m (pc + 3) ls (.int r :: rest))) :
    W p l e R s m args below meth c H locs cells slots Q (F0 m pc ls st) := by
  have hts := cx.2.2.2.2.1
  have hqs : ∀ w ∈ ([.methodLink own index x, .sameMethod x.cls y.cls x.name x.desc, .superclass own x.cls, .superclass x.cls y.cls, .instanceMethod y, .initialized y.cls] : List Cond), w.before args s = true := fun w h => hts w (qu w h)
  have h1 := hqs (.methodLink own index x) (by simp)
  have h2 := hqs (.sameMethod x.cls y.cls x.name x.desc) (by simp)
  have h3 := hqs (.superclass own x.cls) (by simp)
  have h4 := hqs (.superclass x.cls y.cls) (by simp)
  have h5 := hqs (.instanceMethod y) (by simp)
  have h6 := hqs (.initialized y.cls) (by simp)
  have h7 := hts _ q5
  subst hst
  have hX : y.name = x.name ∧ y.desc = x.desc := by rw [hxy]; exact ⟨rfl, rfl⟩
  refine backZ (g := F0 m pc ls (As.reverse ++ .ref b :: rest)) (mc := 0) (ms := 0) (av := (Value.ref b :: As).toArray) (Qv := Qi r w1) cx hw rfl ?_ (fun v ws' H' locs' hq hw' => by obtain ⟨rfl, rfl⟩ := hq; exact kk H' locs' hw')
  have hp : PreV s H C b (Pz E0 D t (.ref b :: As) ws H.size) As := ⟨blindZ nE0, va_recv cx.2.2.2.2.2.1.1 hw.1 hcl hrc, preZ cx hw (fun _ _ _ => trivial)⟩
  have hK : Back l R p e below s args y 3 8 (PreOf R 0 0 (Pz E0 D t (.ref b :: As) ws H.size)) (PostOf (Qz D ws H.size (Qi r w1)) 0 0 (va_A ws H.size)) :=
    back_of (bytes := bytes) (maxL := maxL) (ret := ret) (hM H.size) hp.1 rfl rfl hR.1 hR.2 (pay_in hts (goodZ q5)) List.mem_cons_self (fun a' U hW => word_at hW (Or.inl (by first | rfl | simp [Cond.onTables, Cond.keeps, Cond.steady])) h6)
  obtain ⟨-, ⟨cellB, hcB, hoB, hclB⟩, hPc⟩ := hp
  obtain ⟨hfc, kB, hkB, -⟩ := (cx.2.2.2.2.2.1.1.1 ci _ hcl).2
  rw [Option.some.inj (hfc.symm.trans hclB)] at hkB
  intro T hT X
  obtain ⟨mk, methM, hnamed, hmethM, hstM, habM⟩ := Cond.instanceMethod_spec h5
  obtain ⟨methM', cM, hmethM', -, -, -, -, -, -, hsigM⟩ := Cond.code_spec hnamed h7
  cases hmethM.symm.trans hmethM'
  obtain ⟨ps, dk, kp, hps, hdk, hkp, hsuper, -, -, hnid⟩ := Cond.superclass_spec cx.2.2.2.1 h3
  obtain ⟨pq, dq, kq, hpq, hdq, hkq, hsuper2, -, -, -⟩ := Cond.superclass_spec hps h4
  have hnm : s.methodNamed? ⟨y.cls, x.name, x.desc⟩ = some mk := by rw [← hxy]; exact hnamed
  have hpm : pq = mk.cls := Option.some.inj (hpq.symm.trans (findClass_of_methodNamed hnamed))
  have hsub : s.vm.isSubclass ps mk.cls = true := by
    rw [← hpm]
    have hsz : 0 < s.vm.classes.size := Nat.lt_of_le_of_lt (Nat.zero_le _) (Array.getElem?_eq_some_iff.mp hdq).1
    unfold Vm.isSubclass
    obtain ⟨z, hz⟩ := Nat.exists_eq_succ_of_ne_zero (Nat.pos_iff_ne_zero.mp hsz)
    rw [hz]
    simp [Vm.isSubclassAux, hdq, hsuper2]
  have hlen : ∀ sig, parseMethodDescriptor y.desc = some sig → As.length = sig.parameters.length := fun sig h => by
    have h8 := hd.2
    rw [h] at h8
    exact hn.trans (Option.some.inj h8).symm
  obtain ⟨vm₁, X₁, hstep₁⟩ := X.invokespecialUp cx.1 cx.2.2.2.1 h1 h2 hnm hmethM hstM habM (by rw [← hX.1]; exact hd.1) hdk hnid hps hsuper hsub (a := b) (cell := cellB) (by rw [hT]; exact hcB)
    (fun z h => by rw [h] at hoB; cases hoB) hkB (g := F0 m pc ls (As.reverse ++ .ref b :: rest)) rfl (argsL := As) (rest := rest) (hlen _ hsigM) rfl (by rw [cx.2.1]; exact hdg)
  obtain ⟨v, B, X', hpost, hsteps⟩ := hK m meth c ⟨T.setVm vm₁, locs, cells, slots⟩ { F0 m pc ls (As.reverse ++ .ref b :: rest) with stack := rest } (.invokespecial index) mk (Value.ref b :: As).toArray X₁ rfl (hl.trans cx.2.2.1.symm) (by rw [cx.2.1]; exact hdg) (lv_room hcat) (X₁.named hnamed) ⟨hf.1, hf.2, hPc (T.setVm vm₁) hT X₁.warmed⟩
  obtain ⟨g', mk', t', L, e1, e2, hq, g1, hL, g2, g3⟩ := hpost
  obtain ⟨U', l2, c2, s2⟩ := B
  dsimp only [Pt.U, Pt.locs, Pt.cells, Pt.slots] at X' e1 e2 g1 g2 g3 hsteps
  subst g1; subst g2; subst g3
  exact ⟨v, (T.setVm vm₁).calling g' mk' (Value.ref b :: As).toArray, t', U', L, hT, X', hL, e1, e2, hq, fun target h => hstep₁ _ (by rw [doInvoke_state]; exact hsteps.trans h)⟩
end CLIB2
