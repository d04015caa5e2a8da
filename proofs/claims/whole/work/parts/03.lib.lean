/-! Contexts and contracts over whole worlds: a world is one list, given whole to every callee. -/
abbrev cls : List vw_C := [(RX0, TX0, 0), (RX1, TX1, 0), (RX2, TX2, 11), (RX3, TX3, 0), (RX4, TX4, 0), (RX5, TX5, 14), (RX6, TX6, 11), (RX7, TX7, 6), (RX8, TX8, 0), (RX9, TX9, 14), (RX10, TX10, 0), (RX11, TX11, 8), (RX12, TX12, 37)]
def nml : List (String × Nat × MethodName × String) := [("DialSquare", 15, ⟨"DialSquare$RuleText", "<init>", "()V"⟩, "DialSquare"), ("DialSquare", 22, ⟨"DialSquare$Host", "<init>", "()V"⟩, "DialSquare"), ("DialSquare", 29, ⟨"DialSquare$Dial", "<init>", "()V"⟩, "DialSquare"), ("DialSquare", 32, ⟨"DialSquare$Noon", "<init>", "()V"⟩, "DialSquare"), ("DialSquare$Noon", 1, ⟨"DialSquare$Dial", "<init>", "()V"⟩, "DialSquare"), ("DialSquare", 35, ⟨"DialSquare$Tall", "<init>", "()V"⟩, "DialSquare"), ("DialSquare$Tall", 1, ⟨"DialSquare$Dial", "<init>", "()V"⟩, "DialSquare"), ("DialSquare", 38, ⟨"DialSquare$Guild", "<init>", "()V"⟩, "DialSquare"), ("DialSquare$Guild", 1, ⟨"DialSquare$Tall", "<init>", "()V"⟩, "DialSquare"), ("DialSquare", 41, ⟨"DialSquare$Low", "<init>", "()V"⟩, "DialSquare"), ("DialSquare$Low", 1, ⟨"DialSquare$Dial", "<init>", "()V"⟩, "DialSquare"), ("DialSquare", 44, ⟨"DialSquare$Slit", "<init>", "()V"⟩, "DialSquare"), ("DialSquare$Slit", 1, ⟨"DialSquare$Low", "<init>", "()V"⟩, "DialSquare"), ("DialSquare$Rules", 31, ⟨"DialSquare", "isUnder", "(II)Z"⟩, "DialSquare"), ("DialSquare$RuleText", 94, ⟨"DialSquare", "isIn", "(III)Z"⟩, "DialSquare")]
def ncl : List (String × String) := [("DialSquare$Noon", "DialSquare$Dial"), ("DialSquare$Tall", "DialSquare$Dial"), ("DialSquare$Guild", "DialSquare$Dial"), ("DialSquare$Low", "DialSquare$Dial"), ("DialSquare$Slit", "DialSquare$Dial"), ("[I", "java/lang/Cloneable")]
/-- the classes of arrays: int, byte, char, int[], Dial -/
abbrev tyl (t : Nat → ClassId) : List (ClassId × FieldType) := [(t 0, .int), (t 1, .byte), (t 2, .char), (t 3, .array .int), (t 4, .object "DialSquare$Dial")]
def KX (D : va_G) (t : Nat → ClassId) (U : State) : Prop := va_K D cls (tyl t) U ∧ (∀ q ∈ nml, va_Nw (.methodLinkNest q.1 q.2.1 q.2.2.1 q.2.2.2) U) ∧ (∀ q ∈ ncl, va_Nw (.castable q.1 q.2) U) ∧ (Cond.arrayOver (.array .int)).before #[] U = true ∧ va_AO "DialSquare$Dial" U
theorem KX.warm {D : va_G} {t : Nat → ClassId} {s U : State} (h : KX D t s) (hW : s.WarmedH U.vm) : KX D t U := ⟨va_K.moved hW.alike h.1, fun q hq => va_Nw.warmM hW (h.2.1 q hq), fun q hq => va_Nw.warmC hW (h.2.2.1 q hq), over_moved hW.alike h.2.2.2.1, va_AO.moved hW.alike h.2.2.2.2⟩
theorem KX.calling {D : va_G} {t : Nat → ClassId} {U : State} (g : JFrame) (mk : MethodId) (a : Array Value) (h : KX D t U) : KX D t (U.calling g mk a) := ⟨va_K.moved (u := U) (U := U.calling g mk a) (Vm.Alike.refl U.vm) h.1, fun q hq => va_Nw.same rfl (u := U) rfl (h.2.1 q hq), fun q hq => va_Nw.same rfl (u := U) rfl (h.2.2.1 q hq), over_moved (u := U) (E := U.calling g mk a) (Vm.Alike.refl U.vm) h.2.2.2.1, va_AO.moved (u := U) (U := U.calling g mk a) (Vm.Alike.refl U.vm) h.2.2.2.2⟩
/-- what stays outside of the worlds (texts, statics): kept by all that keeps what isn't A's -/
abbrev EX : Type := (Nat → Prop) → State → Heap → Prop
def E0 : EX := fun _ _ _ => True
def Cx (E : EX) (D : va_G) (t : Nat → ClassId) (p : Program) (s : State) (m : MethodId) (args : Array Value) (meth : Method) (c : Code) (cc : ByteArray) (own : String) (nm : String) (nL : Nat) (A : Nat → Prop) : Prop :=
  p.tables.exec = Jvm.exec ∧ c.code = cc ∧ c.maxLocals = nL ∧ s.vm.findClass own = some m.cls ∧ (∀ w ∈ tw, w.before args s = true) ∧ KX D t s ∧ (∀ q : Nat, s.heap.size ≤ q → A q) ∧ E A s s.heap ∧ meth.locks = false ∧ meth.name = nm
def Wd (D : va_G) (A : Nat → Prop) (s : State) (ws : va_W) (H : Heap) (locs : List Loc) : Prop := va_P D cls ws H ∧ va_D A ws ∧ va_S A s.heap H locs
def Qz (D : va_G) (ws : va_W) (sz : Nat) (Qv : Option Value → va_W → Prop) : Array Value → State → Outcome → State → Prop := fun _ st oc t => (∃ (v : Option Value) (ws' : va_W), oc = .returned v ∧ Qv v ws' ∧ va_P D cls ws' t.heap ∧ va_D (va_A ws sz) ws') ∧ va_F (va_A ws sz) st t
def Pz (E : EX) (D : va_G) (t : Nat → ClassId) (av : List Value) (ws : va_W) (sz : Nat) : Array Value → State → Prop := va_Pc av (fun U => U.heap.size = sz ∧ va_P D cls ws U.heap ∧ KX D t U ∧ va_D (fun _ => True) ws ∧ E (va_A ws sz) U U.heap)
abbrev rmz (lev mc ms : Nat) : Room := { frames := lev, cells := mc, slots := ms, locals := 64 * lev }
/-- a method's contract: from the world ws, with the arguments av, it comes to an answer and a world with Qv -/
def MC (l : Launch) (E : EX) (D : va_G) (t : Nat → ClassId) (y : MethodName) (cc : ByteArray) (nL : Nat) (ret : Option FieldType) (lev mc ms : Nat) (av : List Value) (ws : va_W) (Qv : Option Value → va_W → Prop) : Prop :=
  ∀ sz : Nat, Met l y (Cond.code y cc nL ret :: tw) (rmz lev mc ms) (Pz E D t av ws sz) (Qz D ws sz Qv) mc ms (va_A ws sz)
section LIB
variable {p : Program} {l : Launch} {e : Env} {R : Room} {s : State} {m : MethodId} {args : Array Value} {below : List Frame} {meth : Method} {c : Code} {H : Heap} {locs : List Loc} {cells slots : Nat} {Q : State → Prop}
variable {E : EX} {D : va_G} {t : Nat → ClassId} {cc : ByteArray} {own nm : String} {nL pc : Nat} {A : Nat → Prop} {ws : va_W} {ls : Array Slot} {rest st : List Value}
theorem MC.ofR {y : MethodName} {ret : Option FieldType} {lev mc ms : Nat} {av : List Value} {Qv : Option Value → va_W → Prop} (hy : plainName y.cls = true) (hlen : (lg_sl av).length ≤ nL)
    (body : ∀ (p : Program) (e : Env) (s : State) (m : MethodId) (args : Array Value) (below : List Frame) (meth : Method) (c : Code) (sz : Nat) (ls : Array Slot), meth.sig.returnType = ret → Cx E D t p s m args meth c cc y.cls y.name nL (va_A ws sz) → Wd D (va_A ws sz) s ws s.heap [] → lv_has ls nL (lv_args 0 av) →
      W p l e (rmz lev mc ms) s m args below meth c s.heap [] 0 0 (MQ below (Qz D ws sz Qv) args s mc ms (va_A ws sz)) (F0 m 0 ls [])) :
    MC l E D t y cc nL ret lev mc ms av ws Qv := by
  intro sz
  refine Met.ofW (cc := cc) (maxL := nL) (ret := ret) hy rfl ?_
  intro p e s m args below meth c s₁ B hml hv
  obtain ⟨rfl, hsz, hP, hK, hD0, hE⟩ := hv
  have hts := atoms_spec (ws := Cond.code y cc nL ret :: tw) B.pre
  have hl := lv_entry av (n := nL) hlen
  rw [lg_entry_eq]
  refine body p e s m _ below meth c sz _ B.returns ⟨B.exec, B.bytes, hml, findClass_of_methodNamed B.named, fun w hw => hts w (List.mem_cons_of_mem _ hw), hK, fun q hq => Or.inr (by rw [← hsz]; exact hq), hE, B.notSynchronized, (name_of_methodNamed B.named B.method).1⟩ ⟨hP, hD0.self, va_S.rf⟩ hl
/-- the end, with an int -/
theorem retI {sz mc ms : Nat} {ws0 : va_W} {Qv : Option Value → va_W → Prop} {v : Int32} {ty : FieldType} (hr : meth.sig.returnType = some ty) (cx : Cx E D t p s m args meth c cc own nm nL (va_A ws0 sz)) (hw : Wd D (va_A ws0 sz) s ws H locs) (hn : narrow ty (.int v) = .int v) (hq : Qv (some (.int v)) ws) (hdg : decode cc pc = .ok (.ireturn, 1)) :
    W p l e R s m args below meth c H locs mc ms (MQ below (Qz D ws0 sz Qv) args s mc ms (va_A ws0 sz)) (F0 m pc ls [.int v]) := by
  have hlocks : meth.locks = false := cx.2.2.2.2.2.2.2.2.1
  exact W.zret cx.1 cx.2.1 hr hn (fun t' ht hW => ⟨⟨_, ws, rfl, hq, by rw [ht]; exact hw.1, hw.2.1⟩, hw.2.2.F ht⟩) hw.2.2.2.2 hdg
theorem retV {sz mc ms : Nat} {ws0 : va_W} {Qv : Option Value → va_W → Prop} (hr : meth.sig.returnType = none) (cx : Cx E D t p s m args meth c cc own nm nL (va_A ws0 sz)) (hw : Wd D (va_A ws0 sz) s ws H locs) (hq : Qv none ws) (hdg : decode cc pc = .ok (.return_, 1)) :
    W p l e R s m args below meth c H locs mc ms (MQ below (Qz D ws0 sz Qv) args s mc ms (va_A ws0 sz)) (F0 m pc ls []) := by
  have hlocks : meth.locks = false := cx.2.2.2.2.2.2.2.2.1
  exact W.vret cx.1 cx.2.1 hr (fun t' ht hW => ⟨⟨_, ws, rfl, hq, by rw [ht]; exact hw.1, hw.2.1⟩, hw.2.2.F ht⟩) hw.2.2.2.2 hdg
theorem retA {sz mc ms : Nat} {ws0 : va_W} {Qv : Option Value → va_W → Prop} {a : Nat} {rt : FieldType} (hr : meth.sig.returnType = some rt) (hrt : (∃ n, rt = .object n) ∨ ∃ t, rt = .array t) (cx : Cx E D t p s m args meth c cc own nm nL (va_A ws0 sz)) (hw : Wd D (va_A ws0 sz) s ws H locs) (hq : Qv (some (.ref a)) ws) (hdg : decode cc pc = .ok (.areturn, 1)) :
    W p l e R s m args below meth c H locs mc ms (MQ below (Qz D ws0 sz Qv) args s mc ms (va_A ws0 sz)) (F0 m pc ls [.ref a]) := by
  have hlocks : meth.locks = false := cx.2.2.2.2.2.2.2.2.1
  exact W.aret cx.1 cx.2.1 hr hrt (Or.inr ⟨_, rfl⟩) (fun t' ht hW => ⟨⟨_, ws, rfl, hq, by rw [ht]; exact hw.1, hw.2.1⟩, hw.2.2.F ht⟩) hw.2.2.2.2 hdg
/-- what a callee asks of the world: all of the caller's -/
theorem preZ {E2 : EX} {av : List Value} (cx : Cx E D t p s m args meth c cc own nm nL A) (hw : Wd D A s ws H locs) (hE : ∀ U : State, U.heap = H → s.WarmedH U.vm → E2 (va_A ws H.size) U U.heap) (U : State) (hU : U.heap = H) (hW : s.WarmedH U.vm) : Pz E2 D t av ws H.size av.toArray U :=
  ⟨rfl, by rw [hU], by rw [hU]; exact hw.1, cx.2.2.2.2.2.1.warm hW, hw.2.1.weaken (fun _ _ _ _ => trivial), hE U hU hW⟩
theorem blindZ {E2 : EX} {av : List Value} {sz : Nat} (hEb : ∀ (A : Nat → Prop) (U : State) (g : JFrame) (mk : MethodId) (a : Array Value), E2 A U U.heap → E2 A (U.calling g mk a) (U.calling g mk a).heap) : FrameBlind (Pz E2 D t av ws sz) := by
  rintro a U g mk ⟨h0, h1, h2, h3, h4, h5⟩
  exact ⟨h0, h1, h2, KX.calling g mk a h3, h4, hEb _ _ _ _ _ h5⟩
/-- behind a call -/
theorem backZ {mc ms : Nat} {g : JFrame} {Qv : Option Value → va_W → Prop} {av : Array Value} (cx : Cx E D t p s m args meth c cc own nm nL A) (hw : Wd D A s ws H locs) (hg : g = F0 m pc ls st)
    (hr : va_Run p l e R s m args below meth c H locs cells slots mc ms g rest (Qz D ws H.size Qv av) (va_A ws H.size))
    (kk : ∀ (v : Option Value) (ws' : va_W) (H' : Heap) (locs' : List Loc), Qv v ws' → Wd D A s ws' H' locs' → W p l e R s m args below meth c H' locs' (cells + mc) (slots + ms) Q (F0 m (pc + 3) ls (v.toList ++ rest))) :
    W p l e R s m args below meth c H locs cells slots Q g := by
  subst hg
  have hA : ∀ q, va_A ws H.size q → A q := by
    intro q h
    rcases h with ⟨k, x, h⟩ | h
    · exact hw.2.1.2 k (q, x) h
    · exact cx.2.2.2.2.2.2.1 q (Nat.le_trans hw.2.2.1 h)
  intro T hT X
  obtain ⟨v, st₀, t1, T', L, h0, X', hL, e1, e2, ⟨⟨v', ws', hv, hq, hP', hD'⟩, hz, hk⟩, stp⟩ := hr T hT X
  cases hv
  rw [h0] at hz hk
  have hS := hw.2.2
  obtain ⟨t2, a1, b1⟩ := kk v ws' T'.heap (locs ++ L) hq ⟨by rw [e1]; exact hP', hD'.weaken (fun k q _ h => hA _ h), ⟨Nat.le_trans hS.1 (by rw [e1]; exact hz), fun q h1 h2 => by rw [e1, hk q (Nat.lt_of_lt_of_le h1 hS.1) (fun z => h2 (hA q z))]; exact hS.2.1 q h1 h2, fun q hq => by
      rcases List.mem_append.mp hq with h | h
      · exact hS.2.2 q h
      · exact hA _ (hL q h)⟩⟩ T' rfl X'
  exact ⟨t2, stp t2 a1, b1⟩
theorem goodZ {y : MethodName} {cc : ByteArray} {nL : Nat} {ret : Option FieldType} (h : Cond.code y cc nL ret ∈ tw) : GoodIn tw (Cond.code y cc nL ret :: tw) := by
  intro w hw
  have hm : w ∈ tw := by
    rcases List.mem_cons.mp hw with rfl | hw
    · exact h
    · exact hw
  exact ⟨hm, good_of_word (tw_good hm)⟩
theorem nE0 : ∀ (A : Nat → Prop) (U : State) (g : JFrame) (mk : MethodId) (a : Array Value), E0 A U U.heap → E0 A (U.calling g mk a) (U.calling g mk a).heap := fun _ _ _ _ _ _ => trivial
/-- invokevirtual of a method that its own class has -/
theorem calV {y : MethodName} {bytes : ByteArray} {maxL n : Nat} {ret : Option FieldType} {lev mc ms index : Nat} {b k : Nat} {As : List Value} {Qv : Option Value → va_W → Prop} {ci N : Nat} {T : u_T} {fs : List Value}
    (cx : Cx E D t p s m args meth c cc own nm nL A) (hw : Wd D A s ws H locs) (hl : ls.size = nL) (hM : MC l E0 D t y bytes maxL ret lev mc ms (.ref b :: As) ws Qv)
    (q1 : Cond.methodLink own index y ∈ tw) (q2 : Cond.instanceMethod y ∈ tw) (q3 : Cond.selects y.cls y y ∈ tw) (q4 : Cond.initialized y.cls ∈ tw) (q5 : Cond.code y bytes maxL ret ∈ tw)
    (hd : y.cls ≠ "java/lang/invoke/MethodHandle" ∧ y.cls ≠ "java/lang/invoke/VarHandle" ∧ (parseMethodDescriptor y.desc).map (fun d => d.parameters.length) = some n) (hn : As.length = n)
    (hrc : ws[k]? = some (b, .inr (ci, fs))) (hcl : cls[ci]? = some (y.cls, T, N)) (hdg : decode cc pc = .ok (.invokevirtual index, 3)) (hst : st = As.reverse ++ .ref b :: rest) (hcat : (rest.map fun v => v.category).sum ≤ 8)
    (hR : lev + 1 ≤ R.frames ∧ 8 + (maxL + 11) + 64 * lev ≤ R.locals) (hf : cells + mc ≤ R.cells ∧ slots + ms ≤ R.slots)
    (kk : ∀ (v : Option Value) (ws' : va_W) (H' : Heap) (locs' : List Loc), Qv v ws' → Wd D A s ws' H' locs' → W p l e R s m args below meth c H' locs' (cells + mc) (slots + ms) Q (F0 m (pc + 3) ls (v.toList ++ rest))) :
    W p l e R s m args below meth c H locs cells slots Q (F0 m pc ls st) := by
  have hts := cx.2.2.2.2.1
  subst hst
  exact backZ cx hw rfl (va_runV (As := As) (rest := rest) (g := F0 m pc ls (As.reverse ++ .ref b :: rest)) ⟨cx.1, cx.2.1, cx.2.2.1, cx.2.2.2.1, hts⟩ (hM H.size) ⟨callB_of n hts (goodZ q5) rfl rfl rfl (hts _ q4) (hts _ q1) hd hR, hts _ q2, hts _ q3⟩ ⟨blindZ nE0, va_recv cx.2.2.2.2.2.1.1 hw.1 hcl hrc, preZ cx hw (fun _ _ _ => trivial)⟩ rfl hn hl rfl (lv_room hcat) hdg hf) kk
theorem calS {y : MethodName} {bytes : ByteArray} {maxL n : Nat} {ret : Option FieldType} {lev mc ms index : Nat} {As : List Value} {Qv : Option Value → va_W → Prop}
    (cx : Cx E D t p s m args meth c cc own nm nL A) (hw : Wd D A s ws H locs) (hl : ls.size = nL) (hM : MC l E0 D t y bytes maxL ret lev mc ms As ws Qv)
    (q1 : Cond.methodLink own index y ∈ tw) (q2 : Cond.static y ∈ tw) (q4 : Cond.initialized y.cls ∈ tw) (q5 : Cond.code y bytes maxL ret ∈ tw)
    (hd : y.cls ≠ "java/lang/invoke/MethodHandle" ∧ y.cls ≠ "java/lang/invoke/VarHandle" ∧ (parseMethodDescriptor y.desc).map (fun d => d.parameters.length) = some n) (hn : As.length = n)
    (hdg : decode cc pc = .ok (.invokestatic index, 3)) (hst : st = As.reverse ++ rest) (hcat : (rest.map fun v => v.category).sum ≤ 8)
    (hR : lev + 1 ≤ R.frames ∧ 8 + (maxL + 11) + 64 * lev ≤ R.locals) (hf : cells + mc ≤ R.cells ∧ slots + ms ≤ R.slots)
    (kk : ∀ (v : Option Value) (ws' : va_W) (H' : Heap) (locs' : List Loc), Qv v ws' → Wd D A s ws' H' locs' → W p l e R s m args below meth c H' locs' (cells + mc) (slots + ms) Q (F0 m (pc + 3) ls (v.toList ++ rest))) :
    W p l e R s m args below meth c H locs cells slots Q (F0 m pc ls st) := by
  have hts := cx.2.2.2.2.1
  subst hst
  exact backZ cx hw rfl (va_runS (As := As) (rest := rest) (g := F0 m pc ls (As.reverse ++ rest)) ⟨cx.1, cx.2.1, cx.2.2.1, cx.2.2.2.1, hts⟩ (hM H.size) ⟨callB_of n hts (goodZ q5) rfl rfl rfl (hts _ q4) (hts _ q1) hd hR, hts _ q2⟩ ⟨blindZ nE0, preZ cx hw (fun _ _ _ => trivial)⟩ rfl hn hl rfl (lv_room hcat) hdg hf) kk
end LIB
/-! Methods that make nothing: entry and end; calls by the kind of their answer. -/
def Qi (r : Int32) (w1 : va_W) : Option Value → va_W → Prop := fun v w => v = some (.int r) ∧ w = w1
def Qn (w1 : va_W) : Option Value → va_W → Prop := fun v w => v = none ∧ w = w1
def Qa (r : Nat) (w1 : va_W) : Option Value → va_W → Prop := fun v w => v = some (.ref r) ∧ w = w1
section LIB2
variable {p : Program} {l : Launch} {e : Env} {R : Room} {s : State} {m : MethodId} {args : Array Value} {below : List Frame} {meth : Method} {c : Code} {H : Heap} {locs : List Loc} {cells slots : Nat} {Q : State → Prop}
variable {E : EX} {D : va_G} {t : Nat → ClassId} {cc : ByteArray} {own nm : String} {nL pc : Nat} {A : Nat → Prop} {ws w1 : va_W} {ls : Array Slot} {rest st : List Value} {r : Int32}
theorem MC.ofI {y : MethodName} {ty : FieldType} {lev mc ms : Nat} {av : List Value} {Qv : Option Value → va_W → Prop} (hy : plainName y.cls = true) (hlen : (lg_sl av).length ≤ nL)
    (body : ∀ (p : Program) (e : Env) (s : State) (m : MethodId) (args : Array Value) (below : List Frame) (meth : Method) (c : Code) (A : Nat → Prop) (Q : State → Prop) (ls : Array Slot), Cx E D t p s m args meth c cc y.cls y.name nL A →
      (∀ (H : Heap) (locs : List Loc) (ws' : va_W) (pc : Nat) (ls : Array Slot) (v : Int32), Wd D A s ws' H locs → narrow ty (.int v) = .int v → Qv (some (.int v)) ws' → decode cc pc = .ok (.ireturn, 1) → W p l e (rmz lev mc ms) s m args below meth c H locs mc ms Q (F0 m pc ls [.int v])) →
      Wd D A s ws s.heap [] → lv_has ls nL (lv_args 0 av) → W p l e (rmz lev mc ms) s m args below meth c s.heap [] 0 0 Q (F0 m 0 ls [])) :
    MC l E D t y cc nL (some ty) lev mc ms av ws Qv :=
  MC.ofR hy hlen (fun p e s m args below meth c sz ls hr cx hw hl => body p e s m args below meth c _ _ ls cx (fun H locs ws' pc ls v hw hn hq hdg => retI hr cx hw hn hq hdg) hw hl)
theorem MC.ofV {y : MethodName} {lev mc ms : Nat} {av : List Value} {Qv : Option Value → va_W → Prop} (hy : plainName y.cls = true) (hlen : (lg_sl av).length ≤ nL)
    (body : ∀ (p : Program) (e : Env) (s : State) (m : MethodId) (args : Array Value) (below : List Frame) (meth : Method) (c : Code) (A : Nat → Prop) (Q : State → Prop) (ls : Array Slot), Cx E D t p s m args meth c cc y.cls y.name nL A →
      (∀ (H : Heap) (locs : List Loc) (ws' : va_W) (pc : Nat) (ls : Array Slot), Wd D A s ws' H locs → Qv none ws' → decode cc pc = .ok (.return_, 1) → W p l e (rmz lev mc ms) s m args below meth c H locs mc ms Q (F0 m pc ls [])) →
      Wd D A s ws s.heap [] → lv_has ls nL (lv_args 0 av) → W p l e (rmz lev mc ms) s m args below meth c s.heap [] 0 0 Q (F0 m 0 ls [])) :
    MC l E D t y cc nL none lev mc ms av ws Qv :=
  MC.ofR hy hlen (fun p e s m args below meth c sz ls hr cx hw hl => body p e s m args below meth c _ _ ls cx (fun H locs ws' pc ls hw hq hdg => retV hr cx hw hq hdg) hw hl)
/-- what the tables say of a method that its own class has -/
def MV (y : MethodName) (bytes : ByteArray) (maxL : Nat) (ret : Option FieldType) (n : Nat) : Prop := Cond.instanceMethod y ∈ tw ∧ Cond.selects y.cls y y ∈ tw ∧ Cond.initialized y.cls ∈ tw ∧ Cond.code y bytes maxL ret ∈ tw ∧ (y.cls ≠ "java/lang/invoke/MethodHandle" ∧ y.cls ≠ "java/lang/invoke/VarHandle" ∧ (parseMethodDescriptor y.desc).map (fun d => d.parameters.length) = some n)
def MS (y : MethodName) (bytes : ByteArray) (maxL : Nat) (ret : Option FieldType) (n : Nat) : Prop := Cond.static y ∈ tw ∧ Cond.initialized y.cls ∈ tw ∧ Cond.code y bytes maxL ret ∈ tw ∧ (y.cls ≠ "java/lang/invoke/MethodHandle" ∧ y.cls ≠ "java/lang/invoke/VarHandle" ∧ (parseMethodDescriptor y.desc).map (fun d => d.parameters.length) = some n)
theorem calVi {y : MethodName} {bytes : ByteArray} {maxL n : Nat} {ret : Option FieldType} {lev index : Nat} {b k : Nat} {As : List Value} {ci N : Nat} {T : u_T} {fs : List Value}
    (cx : Cx E D t p s m args meth c cc own nm nL A) (hw : Wd D A s ws H locs) (hl : ls.size = nL) (hM : MC l E0 D t y bytes maxL ret lev 0 0 (.ref b :: As) ws (Qi r w1)) (q1 : Cond.methodLink own index y ∈ tw) (q2 : MV y bytes maxL ret n) (hn : As.length = n)
    (hrc : ws[k]? = some (b, .inr (ci, fs))) (hcl : cls[ci]? = some (y.cls, T, N)) (hdg : decode cc pc = .ok (.invokevirtual index, 3)) (hst : st = As.reverse ++ .ref b :: rest) (hcat : (rest.map fun v => v.category).sum ≤ 8)
    (hR : lev + 1 ≤ R.frames ∧ 8 + (maxL + 11) + 64 * lev ≤ R.locals) (hf : cells ≤ R.cells ∧ slots ≤ R.slots)
    (kk : ∀ (H' : Heap) (locs' : List Loc), Wd D A s w1 H' locs' → W p l e R s m args below meth c H' locs' cells slots Q (F0 m (pc + 3) ls (.int r :: rest))) :
    W p l e R s m args below meth c H locs cells slots Q (F0 m pc ls st) :=
  calV cx hw hl hM q1 q2.1 q2.2.1 q2.2.2.1 q2.2.2.2.1 q2.2.2.2.2 hn hrc hcl hdg hst hcat hR hf (fun v ws' H' locs' hq hw' => by obtain ⟨rfl, rfl⟩ := hq; exact kk H' locs' hw')
theorem calVv {y : MethodName} {bytes : ByteArray} {maxL n : Nat} {ret : Option FieldType} {lev index : Nat} {b k : Nat} {As : List Value} {ci N : Nat} {T : u_T} {fs : List Value}
    (cx : Cx E D t p s m args meth c cc own nm nL A) (hw : Wd D A s ws H locs) (hl : ls.size = nL) (hM : MC l E0 D t y bytes maxL ret lev 0 0 (.ref b :: As) ws (Qn w1)) (q1 : Cond.methodLink own index y ∈ tw) (q2 : MV y bytes maxL ret n) (hn : As.length = n)
    (hrc : ws[k]? = some (b, .inr (ci, fs))) (hcl : cls[ci]? = some (y.cls, T, N)) (hdg : decode cc pc = .ok (.invokevirtual index, 3)) (hst : st = As.reverse ++ .ref b :: rest) (hcat : (rest.map fun v => v.category).sum ≤ 8)
    (hR : lev + 1 ≤ R.frames ∧ 8 + (maxL + 11) + 64 * lev ≤ R.locals) (hf : cells ≤ R.cells ∧ slots ≤ R.slots)
    (kk : ∀ (H' : Heap) (locs' : List Loc), Wd D A s w1 H' locs' → W p l e R s m args below meth c H' locs' cells slots Q (F0 m (pc + 3) ls rest)) :
    W p l e R s m args below meth c H locs cells slots Q (F0 m pc ls st) :=
  calV cx hw hl hM q1 q2.1 q2.2.1 q2.2.2.1 q2.2.2.2.1 q2.2.2.2.2 hn hrc hcl hdg hst hcat hR hf (fun v ws' H' locs' hq hw' => by obtain ⟨rfl, rfl⟩ := hq; exact kk H' locs' hw')
theorem calSi {y : MethodName} {bytes : ByteArray} {maxL n : Nat} {ret : Option FieldType} {lev index : Nat} {As : List Value}
    (cx : Cx E D t p s m args meth c cc own nm nL A) (hw : Wd D A s ws H locs) (hl : ls.size = nL) (hM : MC l E0 D t y bytes maxL ret lev 0 0 As ws (Qi r w1)) (q1 : Cond.methodLink own index y ∈ tw) (q2 : MS y bytes maxL ret n) (hn : As.length = n)
    (hdg : decode cc pc = .ok (.invokestatic index, 3)) (hst : st = As.reverse ++ rest) (hcat : (rest.map fun v => v.category).sum ≤ 8)
    (hR : lev + 1 ≤ R.frames ∧ 8 + (maxL + 11) + 64 * lev ≤ R.locals) (hf : cells ≤ R.cells ∧ slots ≤ R.slots)
    (kk : ∀ (H' : Heap) (locs' : List Loc), Wd D A s w1 H' locs' → W p l e R s m args below meth c H' locs' cells slots Q (F0 m (pc + 3) ls (.int r :: rest))) :
    W p l e R s m args below meth c H locs cells slots Q (F0 m pc ls st) :=
  calS cx hw hl hM q1 q2.1 q2.2.1 q2.2.2.1 q2.2.2.2 hn hdg hst hcat hR hf (fun v ws' H' locs' hq hw' => by obtain ⟨rfl, rfl⟩ := hq; exact kk H' locs' hw')
end LIB2
/-! What a method's function is made of. -/
def ib (i : Int32) (n : Nat) : Bool := !(decide (i < 0) || decide (n ≤ i.toNatClampNeg))
theorem ib_in {i : Int32} {n : Nat} (h : ib i n = true) : vp_in i n := by
  unfold ib at h
  unfold vp_in
  simpa using h
def irm (x y : Int32) : Int32 := x - x / y * y
def pb {α β : Type} (x : α) (f : α → β) : β := f x
def jn {α β : Type} (body : (α → Option β) → Option β) (rest : α → Option β) : Option β := body rest
theorem ckS {α : Type} {c : Bool} {x : Option α} {r : α} (h : (if c = true then x else none) = some r) : c = true ∧ x = some r := by
  by_cases hc : c = true
  · rw [if_pos hc] at h; exact ⟨hc, h⟩
  · rw [if_neg hc] at h; cases h
theorem bnS {α β : Type} {x : Option α} {f : α → Option β} {r : β} (h : x.bind f = some r) : ∃ a, x = some a ∧ f a = some r := Option.bind_eq_some_iff.mp h
theorem ifT {c : Prop} {d : Decidable c} {α : Type} {A B r : α} (h : (@ite α c d A B) = r) (hc : c) : A = r := by rw [if_pos hc] at h; exact h
theorem ifF {c : Prop} {d : Decidable c} {α : Type} {A B r : α} (h : (@ite α c d A B) = r) (hc : ¬ c) : B = r := by rw [if_neg hc] at h; exact h
theorem jnS {α β : Type} {body : (α → Option β) → Option β} {rest : α → Option β} {r : β} (h : jn body rest = some r) : ∃ J, (∀ x, J x = some r → rest x = some r) ∧ body J = some r := ⟨rest, fun _ h => h, h⟩
theorem pbS {α β : Type} {x : α} {f : α → β} {r : β} (h : pb x f = r) : ∃ a, x = a ∧ f a = r := ⟨x, rfl, h⟩
theorem nb {v : Int32} (h : v = 0 ∨ v = 1) : narrow .boolean (.int v) = .int v := by rcases h with rfl | rfl <;> rfl
def bk (v : Int32) : Bool := decide (v = 0) || decide (v = 1)
theorem bkS {v : Int32} (h : bk v = true) : v = 0 ∨ v = 1 := by simpa [bk] using h
theorem fb {v : Int32} (h : v = 0 ∨ v = 1) : fits .boolean (.int v) = true := by rcases h with rfl | rfl <;> rfl
