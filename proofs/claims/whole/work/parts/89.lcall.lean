/-! Calls out of the law: two worlds side by side, the callee has one of them. -/
section FRAME
variable {p : Program} {l : Launch} {e : Env} {R : Room} {s : State} {m : MethodId} {args : Array Value} {below : List Frame} {meth : Method} {c : Code} {H : Heap} {locs : List Loc} {cells slots : Nat} {Q : State → Prop}
variable {E : EX} {D : va_G} {t : Nat → ClassId} {cc : ByteArray} {own nm : String} {nL pc : Nat} {A : Nat → Prop} {wa wb : va_W} {ls : Array Slot} {rest st : List Value} {r : Int32}
theorem Wd.left (hw : Wd D A s (wa ++ wb) H locs) : Wd D A s wa H locs := by
  obtain ⟨hP, hD, hS⟩ := hw
  have g : ∀ (k : Nat) (x : Nat × va_E), wa[k]? = some x → (wa ++ wb)[k]? = some x := fun k x h => apT h
  exact ⟨fun k x h => hP k x (g k x h), ⟨fun i j x y hi hj => hD.1 i j x y (g i x hi) (g j y hj), fun k x h => hD.2 k x (g k x h)⟩, hS⟩
theorem apR {X L : va_W} {k : Nat} {v : Nat × va_E} (h : L[k]? = some v) : (X ++ L)[X.length + k]? = some v := by
  rw [List.getElem?_append_right (by omega), Nat.add_sub_cancel_left]
  exact h
theorem ap_cases {X L : va_W} {k : Nat} {v : Nat × va_E} (h : (X ++ L)[k]? = some v) : (k < X.length ∧ X[k]? = some v) ∨ (X.length ≤ k ∧ L[k - X.length]? = some v) := by
  by_cases hk : k < X.length
  · rw [List.getElem?_append_left hk] at h
    exact Or.inl ⟨hk, h⟩
  · rw [List.getElem?_append_right (by omega)] at h
    exact Or.inr ⟨by omega, h⟩
theorem Wd.comm (hw : Wd D A s (wa ++ wb) H locs) : Wd D A s (wb ++ wa) H locs := by
  obtain ⟨hP, hD, hS⟩ := hw
  refine ⟨fun k x h => ?_, ⟨fun i j x y hi hj hxy => ?_, fun k x h => ?_⟩, hS⟩
  · rcases ap_cases h with ⟨-, h⟩ | ⟨-, h⟩
    · exact hP _ x (apR h)
    · exact hP _ x (apT h)
  · rcases ap_cases hi with ⟨a1, a2⟩ | ⟨a1, a2⟩ <;> rcases ap_cases hj with ⟨b1, b2⟩ | ⟨b1, b2⟩
    · have := hD.1 _ _ x y (apR (X := wa) a2) (apR (X := wa) b2) hxy
      omega
    · have := hD.1 _ _ x y (apR (X := wa) a2) (apT (L := wb) b2) hxy
      have hl := (List.getElem?_eq_some_iff.mp b2).1
      omega
    · have := hD.1 _ _ x y (apT (L := wb) a2) (apR (X := wa) b2) hxy
      have hl := (List.getElem?_eq_some_iff.mp a2).1
      omega
    · have := hD.1 _ _ x y (apT (L := wb) a2) (apT (L := wb) b2) hxy
      omega
  · rcases ap_cases h with ⟨-, h⟩ | ⟨-, h⟩
    · exact hD.2 _ x (apR h)
    · exact hD.2 _ x (apT h)
theorem backF {mc ms : Nat} {g : JFrame} {Qv : Option Value → va_W → Prop} {av : Array Value} (cx : Cx E D t p s m args meth c cc own nm nL A) (hw : Wd D A s (wa ++ wb) H locs) (hg : g = F0 m pc ls st)
    (hr : va_Run p l e R s m args below meth c H locs cells slots mc ms g rest (Qz D wa H.size Qv av) (va_A wa H.size))
    (kk : ∀ (v : Option Value) (ws' : va_W) (H' : Heap) (locs' : List Loc), Qv v ws' → Wd D A s (ws' ++ wb) H' locs' → W p l e R s m args below meth c H' locs' (cells + mc) (slots + ms) Q (F0 m (pc + 3) ls (v.toList ++ rest))) :
    W p l e R s m args below meth c H locs cells slots Q g := by
  subst hg
  have hA : ∀ q, va_A wa H.size q → A q := by
    intro q h
    rcases h with ⟨k, x, h⟩ | h
    · exact hw.2.1.2 k (q, x) (apT h)
    · exact cx.2.2.2.2.2.2.1 q (Nat.le_trans hw.2.2.1 h)
  intro T hT X
  obtain ⟨v, st₀, t1, T', L, h0, X', hL, e1, e2, ⟨⟨v', ws', hv, hq, hP', hD'⟩, hz, hk⟩, stp⟩ := hr T hT X
  cases hv
  rw [h0] at hz hk
  have hS := hw.2.2
  have hout : ∀ (k : Nat) (x : Nat × va_E), wb[k]? = some x → x.1 < H.size ∧ ¬ va_A wa H.size x.1 := fun k x hx => by
    have hlt := (hw.1 _ x (apR (X := wa) hx)).lt
    refine ⟨hlt, fun h => ?_⟩
    rcases h with ⟨j, y, h⟩ | h
    · have := hw.2.1.1 _ _ x (x.1, y) (apR (X := wa) hx) (apT h) rfl
      have hl := (List.getElem?_eq_some_iff.mp h).1
      omega
    · omega
  have hPb : va_P D cls wb t1.heap := by
    have h1 : va_P D cls wb H := fun k x hx => hw.1 _ x (apR (X := wa) hx)
    exact h1.kept (fun k x hx => hk x.1 (hout k x hx).1 (hout k x hx).2)
  obtain ⟨t2, a1, b1⟩ := kk v ws' T'.heap (locs ++ L) hq ⟨by rw [e1]; exact hP'.app hPb, ⟨fun i j x y hi hj hxy => by
      rcases ap_cases hi with ⟨a1, a2⟩ | ⟨a1, a2⟩ <;> rcases ap_cases hj with ⟨b1, b2⟩ | ⟨b1, b2⟩
      · exact hD'.1 i j x y a2 b2 hxy
      · exact absurd (hxy ▸ hD'.2 i x a2) (hout _ y b2).2
      · exact absurd (hxy.symm ▸ hD'.2 j y b2) (hout _ x a2).2
      · have := hw.2.1.1 _ _ x y (apR (X := wa) a2) (apR (X := wa) b2) hxy
        omega, fun k x h => by
      rcases ap_cases h with ⟨-, h⟩ | ⟨-, h⟩
      · exact hA _ (hD'.2 k x h)
      · exact hw.2.1.2 _ x (apR (X := wa) h)⟩, ⟨Nat.le_trans hS.1 (by rw [e1]; exact hz), fun q h1 h2 => by rw [e1, hk q (Nat.lt_of_lt_of_le h1 hS.1) (fun z => h2 (hA q z))]; exact hS.2.1 q h1 h2, fun q hq => by
      rcases List.mem_append.mp hq with h | h
      · exact hS.2.2 q h
      · exact hA _ (hL q h)⟩⟩ T' rfl X'
  exact ⟨t2, stp t2 a1, b1⟩
/-- a call over the left world -/
theorem calL {E2 : EX} {y : MethodName} {bytes : ByteArray} {maxL n : Nat} {ret : Option FieldType} {lev mc ms index : Nat} {b k : Nat} {As : List Value} {Qv : Option Value → va_W → Prop} {ci N : Nat} {T : u_T} {fs : List Value}
    (cx : Cx E D t p s m args meth c cc own nm nL A) (hw : Wd D A s (wa ++ wb) H locs) (hl : ls.size = nL) (hM : MC l E2 D t y bytes maxL ret lev mc ms (.ref b :: As) wa Qv)
    (hEb : ∀ (A : Nat → Prop) (U : State) (g : JFrame) (mk : MethodId) (a : Array Value), E2 A U U.heap → E2 A (U.calling g mk a) (U.calling g mk a).heap) (hE : ∀ U : State, U.heap = H → s.WarmedH U.vm → E2 (va_A wa H.size) U U.heap)
    (q1 : Cond.methodLink own index y ∈ tw) (q2 : MV y bytes maxL ret n) (hn : As.length = n)
    (hrc : wa[k]? = some (b, .inr (ci, fs))) (hcl : cls[ci]? = some (y.cls, T, N)) (hdg : decode cc pc = .ok (.invokevirtual index, 3)) (hst : st = As.reverse ++ .ref b :: rest) (hcat : (rest.map fun v => v.category).sum ≤ 8)
    (hR : lev + 1 ≤ R.frames ∧ 8 + (maxL + 11) + 64 * lev ≤ R.locals) (hf : cells + mc ≤ R.cells ∧ slots + ms ≤ R.slots)
    (kk : ∀ (v : Option Value) (ws' : va_W) (H' : Heap) (locs' : List Loc), Qv v ws' → Wd D A s (ws' ++ wb) H' locs' → W p l e R s m args below meth c H' locs' (cells + mc) (slots + ms) Q (F0 m (pc + 3) ls (v.toList ++ rest))) :
    W p l e R s m args below meth c H locs cells slots Q (F0 m pc ls st) := by
  have hts := cx.2.2.2.2.1
  subst hst
  exact backF cx hw rfl (va_runV (As := As) (rest := rest) (g := F0 m pc ls (As.reverse ++ .ref b :: rest)) ⟨cx.1, cx.2.1, cx.2.2.1, cx.2.2.2.1, hts⟩ (hM H.size) ⟨callB_of n hts (goodZ q2.2.2.2.1) rfl rfl rfl (hts _ q2.2.2.1) (hts _ q1) q2.2.2.2.2 hR, hts _ q2.1, hts _ q2.2.1⟩ ⟨blindZ hEb, va_recv cx.2.2.2.2.2.1.1 hw.left.1 hcl hrc, preZ cx hw.left hE⟩ rfl hn hl rfl (lv_room hcat) hdg hf) kk
/-- a call over the right world, of a method that makes nothing and answers an int -/
theorem calR {y : MethodName} {bytes : ByteArray} {maxL n : Nat} {ret : Option FieldType} {lev index : Nat} {b k : Nat} {As : List Value} {w1 : va_W} {ci N : Nat} {T : u_T} {fs : List Value}
    (cx : Cx E D t p s m args meth c cc own nm nL A) (hw : Wd D A s (wa ++ wb) H locs) (hl : ls.size = nL) (hM : MC l E0 D t y bytes maxL ret lev 0 0 (.ref b :: As) wb (Qi r w1))
    (q1 : Cond.methodLink own index y ∈ tw) (q2 : MV y bytes maxL ret n) (hn : As.length = n)
    (hrc : wb[k]? = some (b, .inr (ci, fs))) (hcl : cls[ci]? = some (y.cls, T, N)) (hdg : decode cc pc = .ok (.invokevirtual index, 3)) (hst : st = As.reverse ++ .ref b :: rest) (hcat : (rest.map fun v => v.category).sum ≤ 8)
    (hR : lev + 1 ≤ R.frames ∧ 8 + (maxL + 11) + 64 * lev ≤ R.locals) (hf : cells ≤ R.cells ∧ slots ≤ R.slots)
    (kk : ∀ (H' : Heap) (locs' : List Loc), Wd D A s (wa ++ w1) H' locs' → W p l e R s m args below meth c H' locs' cells slots Q (F0 m (pc + 3) ls (.int r :: rest))) :
    W p l e R s m args below meth c H locs cells slots Q (F0 m pc ls st) :=
  calL cx hw.comm hl hM nE0 (fun _ _ _ => trivial) q1 q2 hn hrc hcl hdg hst hcat hR hf (fun v ws' H' locs' hq hw' => by obtain ⟨rfl, rfl⟩ := hq; exact kk H' locs' hw'.comm)
/-- a constructor's call over the right world -/
theorem calRI {y : MethodName} {bytes : ByteArray} {maxL n : Nat} {lev mc ms index : Nat} {b : Nat} {As : List Value} {Qv : Option Value → va_W → Prop}
    (cx : Cx E D t p s m args meth c cc own nm nL A) (hw : Wd D A s (wa ++ wb) H locs) (hl : ls.size = nL) (hM : MC l E0 D t y bytes maxL none lev mc ms (.ref b :: As) wb Qv) (q1 : Cond.methodLink own index y ∈ tw) (q2 : MI y bytes maxL n) (hn : As.length = n)
    (hdg : decode cc pc = .ok (.invokespecial index, 3)) (hst : st = As.reverse ++ .ref b :: rest) (hcat : (rest.map fun v => v.category).sum ≤ 8)
    (hR : lev + 1 ≤ R.frames ∧ 8 + (maxL + 11) + 64 * lev ≤ R.locals) (hf : cells + mc ≤ R.cells ∧ slots + ms ≤ R.slots)
    (kk : ∀ (v : Option Value) (ws' : va_W) (H' : Heap) (locs' : List Loc), Qv v ws' → Wd D A s (wa ++ ws') H' locs' → W p l e R s m args below meth c H' locs' (cells + mc) (slots + ms) Q (F0 m (pc + 3) ls (v.toList ++ rest))) :
    W p l e R s m args below meth c H locs cells slots Q (F0 m pc ls st) := by
  have hts := cx.2.2.2.2.1
  subst hst
  exact backF cx hw.comm rfl (va_runI (As := As) (rest := rest) (g := F0 m pc ls (As.reverse ++ .ref b :: rest)) ⟨cx.1, cx.2.1, cx.2.2.1, cx.2.2.2.1, hts⟩ (hM H.size) (cwI n hts (goodZ q2.2.2.1) rfl rfl rfl (hts _ q2.2.1) (hts _ q1) (hts _ q2.1) q2.2.2.2.1 q2.2.2.2.2 hR) ⟨blindZ nE0, preZ cx hw.comm.left (fun _ _ _ => trivial)⟩ rfl hn hl rfl (lv_room hcat) hdg hf) (fun v ws' H' locs' hq hw' => kk v ws' H' locs' hq hw'.comm)
/-- the law's script, at place i + j -/
theorem pushA {b L i j r1 r2 : Nat} {xs : Nat → Int32} (cx : Cx E D t p s m args meth c cc own nm nL A) (hX : va_X b L xs s s.heap) (hbl : b < s.heap.size) (hbA : ¬ A b) (hS : va_S A s.heap H locs) (hl : lv_has ls 4 [(0, .ref b), (1, .ref r1), (2, .ref r2), (3, .int (jN i))]) (hL : L ≤ 2560) (hi : i + j < L) (hj : j < 5) {n : Int} (hn : Int32.ofInt n = jN j)
    (d0 : decode cc pc = .ok (.aload_n 0, 1)) (d1 : decode cc (pc + 1) = .ok (.iload_n 3, 1)) (d2 : decode cc (pc + 2) = .ok (.iconst n, 1)) (d3 : decode cc (pc + 3) = .ok (.iadd, 1)) (d4 : decode cc (pc + 4) = .ok (.iaload, 1))
    (kk : W p l e R s m args below meth c H locs cells slots Q (F0 m (pc + 5) ls (.int (xs (i + j)) :: st))) : W p l e R s m args below meth c H locs cells slots Q (F0 m pc ls st) := by
  have hx := cx.1
  have hb := cx.2.1
  refine lv_aload_n hx hb d0 rfl (lv_at hl 0 rfl) ?_
  refine lv_iload_n hx hb d1 rfl (lv_at hl 3 rfl) ?_
  refine lv_iconst (v := jN j) hx hb d2 hn ?_
  refine lv_iadd hx hb d3 ?_
  rw [jN_add]
  have e1 : (jN (i + j)).toNatClampNeg = i + j := jN_nat (by omega)
  refine va_sld hx hb hX hbl hbA hS (ib_in (ib_T hi (by omega))) d4 ?_
  rw [e1]
  exact kk
end FRAME
theorem and63 (x : Int32) : ∃ k, k < 64 ∧ x &&& 63 = jN k := by
  refine ⟨(x.toBitVec &&& 63#32).toNat, ?_, ?_⟩
  · rw [BitVec.toNat_and]
    exact Nat.lt_succ_of_le Nat.and_le_right
  · apply Int32.toBitVec_inj.mp
    show (x &&& 63).toBitVec = (Int32.ofNat _).toBitVec
    rw [Int32.toBitVec_and]
    show _ = BitVec.ofNat 32 _
    rw [BitVec.ofNat_toNat, BitVec.setWidth_eq]
    rfl
