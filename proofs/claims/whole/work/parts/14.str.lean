theorem dJ0_length_8abf5_0 : decode cJ0_length_8abf5 0 = .ok (.aload_n 0, 1) := by decide +kernel
theorem dJ0_length_8abf5_1 : decode cJ0_length_8abf5 1 = .ok (.getfield 9, 3) := by decide +kernel
theorem dJ0_length_8abf5_4 : decode cJ0_length_8abf5 4 = .ok (.arraylength, 1) := by decide +kernel
theorem dJ0_length_8abf5_5 : decode cJ0_length_8abf5 5 = .ok (.aload_n 0, 1) := by decide +kernel
theorem dJ0_length_8abf5_6 : decode cJ0_length_8abf5 6 = .ok (.invokevirtual 335, 3) := by decide +kernel
theorem dJ0_length_8abf5_9 : decode cJ0_length_8abf5 9 = .ok (.ishr, 1) := by decide +kernel
theorem dJ0_length_8abf5_10 : decode cJ0_length_8abf5 10 = .ok (.ireturn, 1) := by decide +kernel
theorem dJ0_charAt_5068e_0 : decode cJ0_charAt_5068e 0 = .ok (.aload_n 0, 1) := by decide +kernel
theorem dJ0_charAt_5068e_1 : decode cJ0_charAt_5068e 1 = .ok (.invokevirtual 492, 3) := by decide +kernel
theorem dJ0_charAt_5068e_4 : decode cJ0_charAt_5068e 4 = .ok (.ifCond .eq 12, 3) := by decide +kernel
theorem dJ0_charAt_5068e_7 : decode cJ0_charAt_5068e 7 = .ok (.aload_n 0, 1) := by decide +kernel
theorem dJ0_charAt_5068e_8 : decode cJ0_charAt_5068e 8 = .ok (.getfield 9, 3) := by decide +kernel
theorem dJ0_charAt_5068e_11 : decode cJ0_charAt_5068e 11 = .ok (.iload_n 1, 1) := by decide +kernel
theorem dJ0_charAt_5068e_12 : decode cJ0_charAt_5068e 12 = .ok (.invokestatic 495, 3) := by decide +kernel
theorem dJ0_charAt_5068e_15 : decode cJ0_charAt_5068e 15 = .ok (.ireturn, 1) := by decide +kernel
theorem dJ0_charAt_5068e_16 : decode cJ0_charAt_5068e 16 = .ok (.aload_n 0, 1) := by decide +kernel
theorem dJ0_charAt_5068e_17 : decode cJ0_charAt_5068e 17 = .ok (.getfield 9, 3) := by decide +kernel
theorem dJ0_charAt_5068e_20 : decode cJ0_charAt_5068e 20 = .ok (.iload_n 1, 1) := by decide +kernel
theorem dJ0_charAt_5068e_21 : decode cJ0_charAt_5068e 21 = .ok (.invokestatic 498, 3) := by decide +kernel
theorem dJ0_charAt_5068e_24 : decode cJ0_charAt_5068e 24 = .ok (.ireturn, 1) := by decide +kernel
theorem dJ0_coder_7d493_0 : decode cJ0_coder_7d493 0 = .ok (.getstatic 38, 3) := by decide +kernel
theorem dJ0_coder_7d493_3 : decode cJ0_coder_7d493 3 = .ok (.ifCond .eq 10, 3) := by decide +kernel
theorem dJ0_coder_7d493_6 : decode cJ0_coder_7d493 6 = .ok (.aload_n 0, 1) := by decide +kernel
theorem dJ0_coder_7d493_7 : decode cJ0_coder_7d493 7 = .ok (.getfield 15, 3) := by decide +kernel
theorem dJ0_coder_7d493_10 : decode cJ0_coder_7d493 10 = .ok (.goto 4, 3) := by decide +kernel
theorem dJ0_coder_7d493_13 : decode cJ0_coder_7d493 13 = .ok (.iconst 1, 1) := by decide +kernel
theorem dJ0_coder_7d493_14 : decode cJ0_coder_7d493 14 = .ok (.ireturn, 1) := by decide +kernel
theorem dJ0_isLatin1_aae02_0 : decode cJ0_isLatin1_aae02 0 = .ok (.getstatic 38, 3) := by decide +kernel
theorem dJ0_isLatin1_aae02_3 : decode cJ0_isLatin1_aae02 3 = .ok (.ifCond .eq 14, 3) := by decide +kernel
theorem dJ0_isLatin1_aae02_6 : decode cJ0_isLatin1_aae02 6 = .ok (.aload_n 0, 1) := by decide +kernel
theorem dJ0_isLatin1_aae02_7 : decode cJ0_isLatin1_aae02 7 = .ok (.getfield 15, 3) := by decide +kernel
theorem dJ0_isLatin1_aae02_10 : decode cJ0_isLatin1_aae02 10 = .ok (.ifCond .ne 7, 3) := by decide +kernel
theorem dJ0_isLatin1_aae02_13 : decode cJ0_isLatin1_aae02 13 = .ok (.iconst 1, 1) := by decide +kernel
theorem dJ0_isLatin1_aae02_14 : decode cJ0_isLatin1_aae02 14 = .ok (.goto 4, 3) := by decide +kernel
theorem dJ0_isLatin1_aae02_17 : decode cJ0_isLatin1_aae02 17 = .ok (.iconst 0, 1) := by decide +kernel
theorem dJ0_isLatin1_aae02_18 : decode cJ0_isLatin1_aae02 18 = .ok (.ireturn, 1) := by decide +kernel
theorem dJ0_checkIndex_df160_0 : decode cJ0_checkIndex_df160 0 = .ok (.iload_n 0, 1) := by decide +kernel
theorem dJ0_checkIndex_df160_1 : decode cJ0_checkIndex_df160 1 = .ok (.iload_n 1, 1) := by decide +kernel
theorem dJ0_checkIndex_df160_2 : decode cJ0_checkIndex_df160 2 = .ok (.getstatic 1053, 3) := by decide +kernel
theorem dJ0_checkIndex_df160_5 : decode cJ0_checkIndex_df160 5 = .ok (.invokestatic 1059, 3) := by decide +kernel
theorem dJ0_checkIndex_df160_8 : decode cJ0_checkIndex_df160 8 = .ok (.pop, 1) := by decide +kernel
theorem dJ0_checkIndex_df160_9 : decode cJ0_checkIndex_df160 9 = .ok (.return_, 1) := by decide +kernel
theorem dJ1_charAt_3b067_0 : decode cJ1_charAt_3b067 0 = .ok (.iload_n 1, 1) := by decide +kernel
theorem dJ1_charAt_3b067_1 : decode cJ1_charAt_3b067 1 = .ok (.aload_n 0, 1) := by decide +kernel
theorem dJ1_charAt_3b067_2 : decode cJ1_charAt_3b067 2 = .ok (.arraylength, 1) := by decide +kernel
theorem dJ1_charAt_3b067_3 : decode cJ1_charAt_3b067 3 = .ok (.invokestatic 9, 3) := by decide +kernel
theorem dJ1_charAt_3b067_6 : decode cJ1_charAt_3b067 6 = .ok (.aload_n 0, 1) := by decide +kernel
theorem dJ1_charAt_3b067_7 : decode cJ1_charAt_3b067 7 = .ok (.iload_n 1, 1) := by decide +kernel
theorem dJ1_charAt_3b067_8 : decode cJ1_charAt_3b067 8 = .ok (.baload, 1) := by decide +kernel
theorem dJ1_charAt_3b067_9 : decode cJ1_charAt_3b067 9 = .ok (.sipush 255, 3) := by decide +kernel
theorem dJ1_charAt_3b067_12 : decode cJ1_charAt_3b067 12 = .ok (.iand, 1) := by decide +kernel
theorem dJ1_charAt_3b067_13 : decode cJ1_charAt_3b067 13 = .ok (.i2c, 1) := by decide +kernel
theorem dJ1_charAt_3b067_14 : decode cJ1_charAt_3b067 14 = .ok (.ireturn, 1) := by decide +kernel
theorem dJ3_checkIndex_8e157_0 : decode cJ3_checkIndex_8e157 0 = .ok (.iload_n 0, 1) := by decide +kernel
theorem dJ3_checkIndex_8e157_1 : decode cJ3_checkIndex_8e157 1 = .ok (.ifCond .lt 8, 3) := by decide +kernel
theorem dJ3_checkIndex_8e157_4 : decode cJ3_checkIndex_8e157 4 = .ok (.iload_n 0, 1) := by decide +kernel
theorem dJ3_checkIndex_8e157_5 : decode cJ3_checkIndex_8e157 5 = .ok (.iload_n 1, 1) := by decide +kernel
theorem dJ3_checkIndex_8e157_6 : decode cJ3_checkIndex_8e157 6 = .ok (.if_icmp .lt 10, 3) := by decide +kernel
theorem dJ3_checkIndex_8e157_9 : decode cJ3_checkIndex_8e157 9 = .ok (.aload_n 2, 1) := by decide +kernel
theorem dJ3_checkIndex_8e157_10 : decode cJ3_checkIndex_8e157 10 = .ok (.iload_n 0, 1) := by decide +kernel
theorem dJ3_checkIndex_8e157_11 : decode cJ3_checkIndex_8e157 11 = .ok (.iload_n 1, 1) := by decide +kernel
theorem dJ3_checkIndex_8e157_12 : decode cJ3_checkIndex_8e157 12 = .ok (.invokestatic 95, 3) := by decide +kernel
theorem dJ3_checkIndex_8e157_15 : decode cJ3_checkIndex_8e157 15 = .ok (.athrow, 1) := by decide +kernel
theorem dJ3_checkIndex_8e157_16 : decode cJ3_checkIndex_8e157 16 = .ok (.iload_n 0, 1) := by decide +kernel
theorem dJ3_checkIndex_8e157_17 : decode cJ3_checkIndex_8e157 17 = .ok (.ireturn, 1) := by decide +kernel
theorem k_J0_length_8abf5 : MV yJ0_length_8abf5 cJ0_length_8abf5 1 (some .int) 0 := ⟨q_557, q_558, q_16, q_559, ⟨by decide, by decide, by decide +kernel⟩⟩
theorem k_J0_charAt_5068e : MV yJ0_charAt_5068e cJ0_charAt_5068e 2 (some .char) 1 := ⟨q_567, q_568, q_16, q_569, ⟨by decide, by decide, by decide +kernel⟩⟩
theorem k_J0_coder_7d493 : MV yJ0_coder_7d493 cJ0_coder_7d493 1 (some .byte) 0 := ⟨q_561, q_562, q_16, q_563, ⟨by decide, by decide, by decide +kernel⟩⟩
theorem k_J0_isLatin1_aae02 : MV yJ0_isLatin1_aae02 cJ0_isLatin1_aae02 1 (some .boolean) 0 := ⟨q_571, q_572, q_16, q_573, ⟨by decide, by decide, by decide +kernel⟩⟩
theorem k_J0_checkIndex_df160 : MS yJ0_checkIndex_df160 cJ0_checkIndex_df160 2 none 2 := ⟨q_578, q_16, q_579, ⟨by decide, by decide, by decide +kernel⟩⟩
theorem k_J1_charAt_3b067 : MS yJ1_charAt_3b067 cJ1_charAt_3b067 2 (some .char) 2 := ⟨q_575, q_17, q_576, ⟨by decide, by decide, by decide +kernel⟩⟩
theorem k_J3_checkIndex_8e157 : MS yJ3_checkIndex_8e157 cJ3_checkIndex_8e157 3 (some .int) 3 := ⟨q_583, q_18, q_584, ⟨by decide, by decide, by decide +kernel⟩⟩
def wtb : List Int32 := [99, 104, 105, 109, 101, 32, 108, 97, 103, 32, 112, 114, 105, 100, 101, 32, 115, 117, 110, 32, 110, 117, 109, 98, 101, 114, 32, 60, 32, 61, 32, 62, 32, 110, 111, 116, 32, 97, 110, 100, 32, 111, 114, 32, 105, 102, 32, 40, 32, 41, 32, 59, 32, 115, 101, 116, 32, 107, 101, 101, 112, 32, 97, 114, 103, 117, 101, 32, 100, 105, 97, 108, 32, 110, 111, 111, 110, 32, 116, 97, 108, 108, 32, 103, 117, 105, 108, 100, 32, 108, 111, 119, 32, 115, 108, 105, 116]
def wch (i : Nat) : Int32 := wtb.getD i 0
def wtx : String := "chime lag pride sun number < = > not and or if ( ) ; set keep argue dial noon tall guild low slit"
theorem wch_all {P : Int32 → Prop} (h0 : P 0) (h : ∀ b ∈ wtb, P b) (i : Nat) : P (wch i) := by
  unfold wch
  rw [List.getD_eq_getElem?_getD]
  cases hi : wtb[i]? with
  | none => exact h0
  | some b => exact h b (List.mem_of_getElem? hi)
theorem wch_c (i : Nat) : ((wch i &&& 255).toUInt32 % 65536).toInt32 = wch i := wch_all (P := fun b => ((b &&& 255).toUInt32 % 65536).toInt32 = b) (by decide) (by decide +kernel) i
theorem wch_n (i : Nat) : narrow .char (.int (wch i)) = .int (wch i) := wch_all (P := fun b => narrow .char (.int b) = .int b) rfl (by
  have h : ∀ b ∈ wtb, (b.toUInt32.toUInt16.toUInt32.toInt32) = b := by decide +kernel
  intro b hb
  exact congrArg Value.int (h b hb)) i
def EW (sa sv : Nat) : EX := fun A U H => va_O "java/lang/String" sa A U H ∧ va_OF "java/lang/String" "coder" "B" (.int 0) sa A U H ∧ va_OF "java/lang/String" "value" "[B" (.ref sv) sa A U H ∧ va_T .byte sv 97 (fun j => .int (wch j)) A U H ∧ va_Z "java/lang/String" "COMPACT_STRINGS" "Z" (.int 1) A U H ∧ va_Zq "jdk/internal/util/Preconditions" "SIOOBE_FORMATTER" "Ljava/util/function/BiFunction;" A U H ∧ vk_R "DialSquare$RuleText" 79 wtx sa U
theorem EW.to {sa sv : Nat} {A B : Nat → Prop} {s U : State} {H : Heap} {locs : List Loc} (h : EW sa sv A s s.heap) (hS : va_S A s.heap H locs) (hB : ∀ q, B q → A q) (hU : U.heap = H) (hW : s.WarmedH U.vm) : EW sa sv B U U.heap := by
  obtain ⟨h1, h2, h3, h4, h5, h6, h7⟩ := h
  rw [hU]
  exact ⟨((h1.kept hS.2.1).moved hW.alike).narrow hB, ((h2.kept hS.2.1).moved hW.alike).narrow hB, ((h3.kept hS.2.1).moved hW.alike).narrow hB, ((h4.kept hS.2.1).moved hW.alike).narrow hB, ((h5.kept hS.2.1).moved hW.alike).narrow hB, ((h6.kept hS.2.1).moved hW.alike).narrow hB, vk_R.warm hW h7⟩
theorem nEW {sa sv : Nat} : ∀ (A : Nat → Prop) (U : State) (g : JFrame) (mk : MethodId) (a : Array Value), EW sa sv A U U.heap → EW sa sv A (U.calling g mk a) (U.calling g mk a).heap := by
  rintro A U g mk a ⟨h1, h2, h3, h4, h5, h6, h7⟩
  exact ⟨h1.moved (u := U) (Vm.Alike.refl U.vm), h2.moved (u := U) (Vm.Alike.refl U.vm), h3.moved (u := U) (Vm.Alike.refl U.vm), h4.moved (u := U) (Vm.Alike.refl U.vm), h5.moved (u := U) (Vm.Alike.refl U.vm), h6.moved (u := U) (Vm.Alike.refl U.vm), vk_R.same (u := U) rfl h7⟩
section ELIB
variable {p : Program} {l : Launch} {e : Env} {R : Room} {s : State} {m : MethodId} {args : Array Value} {below : List Frame} {meth : Method} {c : Code} {H : Heap} {locs : List Loc} {cells slots : Nat} {Q : State → Prop}
variable {E : EX} {D : va_G} {t : Nat → ClassId} {cc : ByteArray} {own nm : String} {nL pc : Nat} {A : Nat → Prop} {ws w1 : va_W} {ls : Array Slot} {rest st : List Value} {r : Int32} {sa sv : Nat}
theorem freeZ (cx : Cx E D t p s m args meth c cc own nm nL A) (hw : Wd D A s ws H locs) : ∀ q, va_A ws H.size q → A q := by
  intro q h
  rcases h with ⟨k, x, h⟩ | h
  · exact hw.2.1.2 k (q, x) h
  · exact cx.2.2.2.2.2.2.1 q (Nat.le_trans hw.2.2.1 h)
theorem calE {y : MethodName} {bytes : ByteArray} {maxL n : Nat} {ret : Option FieldType} {lev mc ms index : Nat} {b : Nat} {As : List Value} {Qv : Option Value → va_W → Prop}
    (cx : Cx (EW sa sv) D t p s m args meth c cc own nm nL A) (hw : Wd D A s ws H locs) (hl : ls.size = nL) (hM : MC l (EW sa sv) D t y bytes maxL ret lev mc ms (.ref b :: As) ws Qv) (q1 : Cond.methodLink own index y ∈ tw) (q2 : MV y bytes maxL ret n) (hn : As.length = n)
    (hrc : ∃ cellB : Cell, H[b]? = some cellB ∧ cellB.vm.isStatics = false ∧ s.vm.findClass y.cls = some cellB.cls) (hdg : decode cc pc = .ok (.invokevirtual index, 3)) (hst : st = As.reverse ++ .ref b :: rest) (hcat : (rest.map fun v => v.category).sum ≤ 8)
    (hR : lev + 1 ≤ R.frames ∧ 8 + (maxL + 11) + 64 * lev ≤ R.locals) (hf : cells + mc ≤ R.cells ∧ slots + ms ≤ R.slots)
    (kk : ∀ (v : Option Value) (ws' : va_W) (H' : Heap) (locs' : List Loc), Qv v ws' → Wd D A s ws' H' locs' → W p l e R s m args below meth c H' locs' (cells + mc) (slots + ms) Q (F0 m (pc + 3) ls (v.toList ++ rest))) :
    W p l e R s m args below meth c H locs cells slots Q (F0 m pc ls st) := by
  have hts := cx.2.2.2.2.1
  subst hst
  exact backZ cx hw rfl (va_runV (As := As) (rest := rest) (g := F0 m pc ls (As.reverse ++ .ref b :: rest)) ⟨cx.1, cx.2.1, cx.2.2.1, cx.2.2.2.1, hts⟩ (hM H.size) ⟨callB_of n hts (goodZ q2.2.2.2.1) rfl rfl rfl (hts _ q2.2.2.1) (hts _ q1) q2.2.2.2.2 hR, hts _ q2.1, hts _ q2.2.1⟩ ⟨blindZ nEW, hrc, preZ cx hw (fun U hU hW => EW.to cx.2.2.2.2.2.2.2.1 hw.2.2 (freeZ cx hw) hU hW)⟩ rfl hn hl rfl (lv_room hcat) hdg hf) kk
theorem calEi {y : MethodName} {bytes : ByteArray} {maxL n : Nat} {ret : Option FieldType} {lev index : Nat} {b : Nat} {As : List Value}
    (cx : Cx (EW sa sv) D t p s m args meth c cc own nm nL A) (hw : Wd D A s ws H locs) (hl : ls.size = nL) (hM : MC l (EW sa sv) D t y bytes maxL ret lev 0 0 (.ref b :: As) ws (Qi r w1)) (q1 : Cond.methodLink own index y ∈ tw) (q2 : MV y bytes maxL ret n) (hn : As.length = n)
    (hrc : ∃ cellB : Cell, H[b]? = some cellB ∧ cellB.vm.isStatics = false ∧ s.vm.findClass y.cls = some cellB.cls) (hdg : decode cc pc = .ok (.invokevirtual index, 3)) (hst : st = As.reverse ++ .ref b :: rest) (hcat : (rest.map fun v => v.category).sum ≤ 8)
    (hR : lev + 1 ≤ R.frames ∧ 8 + (maxL + 11) + 64 * lev ≤ R.locals) (hf : cells ≤ R.cells ∧ slots ≤ R.slots)
    (kk : ∀ (H' : Heap) (locs' : List Loc), Wd D A s w1 H' locs' → W p l e R s m args below meth c H' locs' cells slots Q (F0 m (pc + 3) ls (.int r :: rest))) :
    W p l e R s m args below meth c H locs cells slots Q (F0 m pc ls st) :=
  calE cx hw hl hM q1 q2 hn hrc hdg hst hcat hR hf (fun v ws' H' locs' hq hw' => by obtain ⟨rfl, rfl⟩ := hq; exact kk H' locs' hw')
theorem calEv {y : MethodName} {bytes : ByteArray} {maxL n : Nat} {ret : Option FieldType} {lev index : Nat} {b : Nat} {As : List Value}
    (cx : Cx (EW sa sv) D t p s m args meth c cc own nm nL A) (hw : Wd D A s ws H locs) (hl : ls.size = nL) (hM : MC l (EW sa sv) D t y bytes maxL ret lev 0 0 (.ref b :: As) ws (Qn w1)) (q1 : Cond.methodLink own index y ∈ tw) (q2 : MV y bytes maxL ret n) (hn : As.length = n)
    (hrc : ∃ cellB : Cell, H[b]? = some cellB ∧ cellB.vm.isStatics = false ∧ s.vm.findClass y.cls = some cellB.cls) (hdg : decode cc pc = .ok (.invokevirtual index, 3)) (hst : st = As.reverse ++ .ref b :: rest) (hcat : (rest.map fun v => v.category).sum ≤ 8)
    (hR : lev + 1 ≤ R.frames ∧ 8 + (maxL + 11) + 64 * lev ≤ R.locals) (hf : cells ≤ R.cells ∧ slots ≤ R.slots)
    (kk : ∀ (H' : Heap) (locs' : List Loc), Wd D A s w1 H' locs' → W p l e R s m args below meth c H' locs' cells slots Q (F0 m (pc + 3) ls rest)) :
    W p l e R s m args below meth c H locs cells slots Q (F0 m pc ls st) :=
  calE cx hw hl hM q1 q2 hn hrc hdg hst hcat hR hf (fun v ws' H' locs' hq hw' => by obtain ⟨rfl, rfl⟩ := hq; exact kk H' locs' hw')
theorem calSE {y : MethodName} {bytes : ByteArray} {maxL n : Nat} {ret : Option FieldType} {lev index : Nat} {As : List Value} {Qv : Option Value → va_W → Prop}
    (cx : Cx (EW sa sv) D t p s m args meth c cc own nm nL A) (hw : Wd D A s ws H locs) (hl : ls.size = nL) (hM : MC l (EW sa sv) D t y bytes maxL ret lev 0 0 As ws Qv) (q1 : Cond.methodLink own index y ∈ tw) (q2 : MS y bytes maxL ret n) (hn : As.length = n)
    (hdg : decode cc pc = .ok (.invokestatic index, 3)) (hst : st = As.reverse ++ rest) (hcat : (rest.map fun v => v.category).sum ≤ 8)
    (hR : lev + 1 ≤ R.frames ∧ 8 + (maxL + 11) + 64 * lev ≤ R.locals) (hf : cells ≤ R.cells ∧ slots ≤ R.slots)
    (kk : ∀ (v : Option Value) (ws' : va_W) (H' : Heap) (locs' : List Loc), Qv v ws' → Wd D A s ws' H' locs' → W p l e R s m args below meth c H' locs' cells slots Q (F0 m (pc + 3) ls (v.toList ++ rest))) :
    W p l e R s m args below meth c H locs cells slots Q (F0 m pc ls st) := by
  have hts := cx.2.2.2.2.1
  subst hst
  exact backZ cx hw rfl (va_runS (As := As) (rest := rest) (g := F0 m pc ls (As.reverse ++ rest)) ⟨cx.1, cx.2.1, cx.2.2.1, cx.2.2.2.1, hts⟩ (hM H.size) ⟨callB_of n hts (goodZ q2.2.2.1) rfl rfl rfl (hts _ q2.2.1) (hts _ q1) q2.2.2.2 hR, hts _ q2.1⟩ ⟨blindZ nEW, preZ cx hw (fun U hU hW => EW.to cx.2.2.2.2.2.2.2.1 hw.2.2 (freeZ cx hw) hU hW)⟩ rfl hn hl rfl (lv_room hcat) hdg hf) kk
theorem calSEi {y : MethodName} {bytes : ByteArray} {maxL n : Nat} {ret : Option FieldType} {lev index : Nat} {As : List Value}
    (cx : Cx (EW sa sv) D t p s m args meth c cc own nm nL A) (hw : Wd D A s ws H locs) (hl : ls.size = nL) (hM : MC l (EW sa sv) D t y bytes maxL ret lev 0 0 As ws (Qi r w1)) (q1 : Cond.methodLink own index y ∈ tw) (q2 : MS y bytes maxL ret n) (hn : As.length = n)
    (hdg : decode cc pc = .ok (.invokestatic index, 3)) (hst : st = As.reverse ++ rest) (hcat : (rest.map fun v => v.category).sum ≤ 8)
    (hR : lev + 1 ≤ R.frames ∧ 8 + (maxL + 11) + 64 * lev ≤ R.locals) (hf : cells ≤ R.cells ∧ slots ≤ R.slots)
    (kk : ∀ (H' : Heap) (locs' : List Loc), Wd D A s w1 H' locs' → W p l e R s m args below meth c H' locs' cells slots Q (F0 m (pc + 3) ls (.int r :: rest))) :
    W p l e R s m args below meth c H locs cells slots Q (F0 m pc ls st) :=
  calSE cx hw hl hM q1 q2 hn hdg hst hcat hR hf (fun v ws' H' locs' hq hw' => by obtain ⟨rfl, rfl⟩ := hq; exact kk H' locs' hw')
theorem calSEv {y : MethodName} {bytes : ByteArray} {maxL n : Nat} {ret : Option FieldType} {lev index : Nat} {As : List Value}
    (cx : Cx (EW sa sv) D t p s m args meth c cc own nm nL A) (hw : Wd D A s ws H locs) (hl : ls.size = nL) (hM : MC l (EW sa sv) D t y bytes maxL ret lev 0 0 As ws (Qn w1)) (q1 : Cond.methodLink own index y ∈ tw) (q2 : MS y bytes maxL ret n) (hn : As.length = n)
    (hdg : decode cc pc = .ok (.invokestatic index, 3)) (hst : st = As.reverse ++ rest) (hcat : (rest.map fun v => v.category).sum ≤ 8)
    (hR : lev + 1 ≤ R.frames ∧ 8 + (maxL + 11) + 64 * lev ≤ R.locals) (hf : cells ≤ R.cells ∧ slots ≤ R.slots)
    (kk : ∀ (H' : Heap) (locs' : List Loc), Wd D A s w1 H' locs' → W p l e R s m args below meth c H' locs' cells slots Q (F0 m (pc + 3) ls rest)) :
    W p l e R s m args below meth c H locs cells slots Q (F0 m pc ls st) :=
  calSE cx hw hl hM q1 q2 hn hdg hst hcat hR hf (fun v ws' H' locs' hq hw' => by obtain ⟨rfl, rfl⟩ := hq; exact kk H' locs' hw')
theorem recE (cx : Cx (EW sa sv) D t p s m args meth c cc own nm nL A) (hw : Wd D A s ws H locs) : ∃ cellB : Cell, H[sa]? = some cellB ∧ cellB.vm.isStatics = false ∧ s.vm.findClass "java/lang/String" = some cellB.cls := by
  obtain ⟨cell, h1, h2, h3, h4⟩ := cx.2.2.2.2.2.2.2.1.1.kept hw.2.2.2.1
  exact ⟨cell, h1, h2, h3⟩
end ELIB
theorem vp_lt {i : Int32} {n : Nat} (h : vp_in i n) (hn : n < 2 ^ 31) : ¬ i < 0 ∧ i < Int32.ofNat n := by
  have h0 : ¬ i < 0 := fun z => h (Or.inl z)
  obtain ⟨j, hj, rfl⟩ := vp_in_of h hn
  exact ⟨h0, (nI_ltI (by omega) (by omega)).mpr hj⟩
section STR
variable {l : Launch} {D : va_G} {t : Nat → ClassId} {ws : va_W} {sa sv : Nat}
theorem pn_J0 : plainName RJ0 = true := by decide
theorem pn_J1 : plainName RJ1 = true := by decide
theorem pn_J3 : plainName RJ3 = true := by decide
theorem c_coder : MC l (EW sa sv) D t yJ0_coder_7d493 cJ0_coder_7d493 1 (some .byte) 1 0 0 [.ref sa] ws (Qi 0 ws) := by
  refine MC.ofI pn_J0 (Nat.le_of_ble_eq_true rfl) ?_
  intro p e s m args below meth c A Q ls cx hR hw hl
  have hx := cx.1
  have hb := cx.2.1
  have hl : lv_has ls 1 [(0, .ref sa)] := hl
  obtain ⟨e1, e2, e3, e4, e5, e6, e7⟩ := cx.2.2.2.2.2.2.2.1
  refine va_gets hx hb e5 hw.2.2 cx.2.2.2.1 (cx.2.2.2.2.1 _ q_564) (fun _ h => h) dJ0_coder_7d493_0 ?_
  refine lv_if_eq (tgt := 13) hx hb dJ0_coder_7d493_3 (by decide) (fun hc => absurd hc (by decide)) (fun hc => ?_)
  refine lv_aload_n hx hb dJ0_coder_7d493_6 rfl (lv_at hl 0 rfl) ?_
  refine vk_getf hx hb e2 hw.2.2 cx.2.2.2.1 (cx.2.2.2.2.1 _ q_1730) (fun _ h => h) dJ0_coder_7d493_7 ?_
  refine lv_goto (tgt := 14) hx hb dJ0_coder_7d493_10 (by decide) ?_
  exact hR _ _ _ _ _ _ hw rfl ⟨rfl, rfl⟩ dJ0_coder_7d493_14
theorem c_isLatin1 : MC l (EW sa sv) D t yJ0_isLatin1_aae02 cJ0_isLatin1_aae02 1 (some .boolean) 1 0 0 [.ref sa] ws (Qi 1 ws) := by
  refine MC.ofI pn_J0 (Nat.le_of_ble_eq_true rfl) ?_
  intro p e s m args below meth c A Q ls cx hR hw hl
  have hx := cx.1
  have hb := cx.2.1
  have hl : lv_has ls 1 [(0, .ref sa)] := hl
  obtain ⟨e1, e2, e3, e4, e5, e6, e7⟩ := cx.2.2.2.2.2.2.2.1
  refine va_gets hx hb e5 hw.2.2 cx.2.2.2.1 (cx.2.2.2.2.1 _ q_564) (fun _ h => h) dJ0_isLatin1_aae02_0 ?_
  refine lv_if_eq (tgt := 17) hx hb dJ0_isLatin1_aae02_3 (by decide) (fun hc => absurd hc (by decide)) (fun hc => ?_)
  refine lv_aload_n hx hb dJ0_isLatin1_aae02_6 rfl (lv_at hl 0 rfl) ?_
  refine vk_getf hx hb e2 hw.2.2 cx.2.2.2.1 (cx.2.2.2.2.1 _ q_1730) (fun _ h => h) dJ0_isLatin1_aae02_7 ?_
  refine lv_if_ne (tgt := 17) hx hb dJ0_isLatin1_aae02_10 (by decide) (fun hc => absurd rfl hc) (fun hc => ?_)
  refine lv_iconst (v := 1) hx hb dJ0_isLatin1_aae02_13 (by decide) ?_
  refine lv_goto (tgt := 18) hx hb dJ0_isLatin1_aae02_14 (by decide) ?_
  exact hR _ _ _ _ _ _ hw rfl ⟨rfl, rfl⟩ dJ0_isLatin1_aae02_18
theorem c_length : MC l (EW sa sv) D t yJ0_length_8abf5 cJ0_length_8abf5 1 (some .int) 2 0 0 [.ref sa] ws (Qi 97 ws) := by
  refine MC.ofI pn_J0 (Nat.le_of_ble_eq_true rfl) ?_
  intro p e s m args below meth c A Q ls cx hR hw hl
  have hx := cx.1
  have hb := cx.2.1
  have hl : lv_has ls 1 [(0, .ref sa)] := hl
  obtain ⟨e1, e2, e3, e4, e5, e6, e7⟩ := cx.2.2.2.2.2.2.2.1
  refine lv_aload_n hx hb dJ0_length_8abf5_0 rfl (lv_at hl 0 rfl) ?_
  refine vk_getf hx hb e3 hw.2.2 cx.2.2.2.1 (cx.2.2.2.2.1 _ q_1729) (fun _ h => h) dJ0_length_8abf5_1 ?_
  refine va_tlen hx hb e4 hw.2.2 (v := 97) rfl dJ0_length_8abf5_4 ?_
  refine lv_aload_n hx hb dJ0_length_8abf5_5 rfl (lv_at hl 0 rfl) ?_
  refine calEi cx hw hl.1 c_coder q_560 k_J0_coder_7d493 rfl (recE cx hw) dJ0_length_8abf5_6 rfl (Nat.le_of_ble_eq_true rfl) ⟨Nat.le_of_ble_eq_true rfl, Nat.le_of_ble_eq_true rfl⟩ ⟨Nat.le_refl _, Nat.le_refl _⟩ (fun H locs hw => ?_)
  refine lv_ishr hx hb dJ0_length_8abf5_9 ?_
  exact hR _ _ _ _ _ _ hw rfl ⟨rfl, rfl⟩ dJ0_length_8abf5_10
theorem c_check3 {i k : Int32} {fv : Value} (hf : fv = .null ∨ ∃ q, fv = .ref q) (h0 : ¬ i < 0) (h1 : i < k) : MC l (EW sa sv) D t yJ3_checkIndex_8e157 cJ3_checkIndex_8e157 3 (some .int) 1 0 0 [.int i, .int k, fv] ws (Qi i ws) := by
  have hcat : fv.category = 1 := by rcases hf with rfl | ⟨q, rfl⟩ <;> rfl
  refine MC.ofI pn_J3 (by rcases hf with rfl | ⟨q, rfl⟩ <;> exact Nat.le_of_ble_eq_true rfl) ?_
  intro p e s m args below meth c A Q ls cx hR hw hl
  have hx := cx.1
  have hb := cx.2.1
  have hl : lv_has ls 3 [(0, .int i), (1, .int k), (2, fv)] := hl
  refine lv_iload_n hx hb dJ3_checkIndex_8e157_0 rfl (lv_at hl 0 rfl) ?_
  refine lv_if_lt (tgt := 9) hx hb dJ3_checkIndex_8e157_1 (by decide) (fun hc => absurd hc h0) (fun hc => ?_)
  refine lv_iload_n hx hb dJ3_checkIndex_8e157_4 rfl (lv_at hl 0 rfl) ?_
  refine lv_iload_n hx hb dJ3_checkIndex_8e157_5 rfl (lv_at hl 1 rfl) ?_
  refine lv_icmp_lt (tgt := 16) hx hb dJ3_checkIndex_8e157_6 (by decide) (fun hc => ?_) (fun hc => absurd h1 hc)
  refine lv_iload_n hx hb dJ3_checkIndex_8e157_16 rfl (lv_at hl 0 rfl) ?_
  exact hR _ _ _ _ _ _ hw rfl ⟨rfl, rfl⟩ dJ3_checkIndex_8e157_17
theorem c_check0 {i k : Int32} (h0 : ¬ i < 0) (h1 : i < k) : MC l (EW sa sv) D t yJ0_checkIndex_df160 cJ0_checkIndex_df160 2 none 2 0 0 [.int i, .int k] ws (Qn ws) := by
  refine MC.ofV pn_J0 (Nat.le_of_ble_eq_true rfl) ?_
  intro p e s m args below meth c A Q ls cx hR hw hl
  have hx := cx.1
  have hb := cx.2.1
  have hl : lv_has ls 2 [(0, .int i), (1, .int k)] := hl
  obtain ⟨e1, e2, e3, e4, e5, e6, e7⟩ := cx.2.2.2.2.2.2.2.1
  refine lv_iload_n hx hb dJ0_checkIndex_df160_0 rfl (lv_at hl 0 rfl) ?_
  refine lv_iload_n hx hb dJ0_checkIndex_df160_1 rfl (lv_at hl 1 rfl) ?_
  obtain ⟨fv, hfv, hz⟩ : ∃ fv : Value, (fv = .null ∨ ∃ q, fv = .ref q) ∧ va_Z "jdk/internal/util/Preconditions" "SIOOBE_FORMATTER" "Ljava/util/function/BiFunction;" fv A s s.heap := by
    rcases e6 with h | ⟨q, h⟩
    · exact ⟨_, Or.inl rfl, h⟩
    · exact ⟨_, Or.inr ⟨q, rfl⟩, h⟩
  refine va_gets hx hb hz hw.2.2 cx.2.2.2.1 (cx.2.2.2.2.1 _ q_580) (fun _ h => h) dJ0_checkIndex_df160_2 ?_
  refine calSEi (As := [.int i, .int k, fv]) (rest := []) cx hw hl.1 (c_check3 hfv h0 h1) q_582 k_J3_checkIndex_8e157 rfl dJ0_checkIndex_df160_5 rfl (Nat.le_of_ble_eq_true rfl) ⟨Nat.le_of_ble_eq_true rfl, Nat.le_of_ble_eq_true rfl⟩ ⟨Nat.le_refl _, Nat.le_refl _⟩ (fun H locs hw => ?_)
  refine lv_pop hx hb dJ0_checkIndex_df160_8 rfl ?_
  exact hR _ _ _ _ _ hw ⟨rfl, rfl⟩ dJ0_checkIndex_df160_9
theorem c_charAt1 {i : Int32} (hin : vp_in i 97) : MC l (EW sa sv) D t yJ1_charAt_3b067 cJ1_charAt_3b067 2 (some .char) 3 0 0 [.ref sv, .int i] ws (Qi (wch i.toNatClampNeg) ws) := by
  refine MC.ofI pn_J1 (Nat.le_of_ble_eq_true rfl) ?_
  intro p e s m args below meth c A Q ls cx hR hw hl
  have hx := cx.1
  have hb := cx.2.1
  have hl : lv_has ls 2 [(0, .ref sv), (1, .int i)] := hl
  obtain ⟨e1, e2, e3, e4, e5, e6, e7⟩ := cx.2.2.2.2.2.2.2.1
  refine lv_iload_n hx hb dJ1_charAt_3b067_0 rfl (lv_at hl 1 rfl) ?_
  refine lv_aload_n hx hb dJ1_charAt_3b067_1 rfl (lv_at hl 0 rfl) ?_
  refine va_tlen hx hb e4 hw.2.2 (v := 97) rfl dJ1_charAt_3b067_2 ?_
  refine calSEv (As := [.int i, .int 97]) (rest := []) cx hw hl.1 (c_check0 (vp_lt hin (by decide)).1 (vp_lt hin (by decide)).2) q_577 k_J0_checkIndex_df160 rfl dJ1_charAt_3b067_3 rfl (Nat.le_of_ble_eq_true rfl) ⟨Nat.le_of_ble_eq_true rfl, Nat.le_of_ble_eq_true rfl⟩ ⟨Nat.le_refl _, Nat.le_refl _⟩ (fun H locs hw => ?_)
  refine lv_aload_n hx hb dJ1_charAt_3b067_6 rfl (lv_at hl 0 rfl) ?_
  refine lv_iload_n hx hb dJ1_charAt_3b067_7 rfl (lv_at hl 1 rfl) ?_
  refine va_tb hx hb e4 hw.2.2 hin rfl dJ1_charAt_3b067_8 ?_
  refine lv_sipush (v := 255) hx hb dJ1_charAt_3b067_9 (by decide) ?_
  refine lv_iand hx hb dJ1_charAt_3b067_12 ?_
  refine lv_i2c hx hb dJ1_charAt_3b067_13 (wch_c _) ?_
  exact hR _ _ _ _ _ _ hw (wch_n _) ⟨rfl, rfl⟩ dJ1_charAt_3b067_14
theorem c_charAt {i : Int32} (hin : vp_in i 97) : MC l (EW sa sv) D t yJ0_charAt_5068e cJ0_charAt_5068e 2 (some .char) 4 0 0 [.ref sa, .int i] ws (Qi (wch i.toNatClampNeg) ws) := by
  refine MC.ofI pn_J0 (Nat.le_of_ble_eq_true rfl) ?_
  intro p e s m args below meth c A Q ls cx hR hw hl
  have hx := cx.1
  have hb := cx.2.1
  have hl : lv_has ls 2 [(0, .ref sa), (1, .int i)] := hl
  obtain ⟨e1, e2, e3, e4, e5, e6, e7⟩ := cx.2.2.2.2.2.2.2.1
  refine lv_aload_n hx hb dJ0_charAt_5068e_0 rfl (lv_at hl 0 rfl) ?_
  refine calEi cx hw hl.1 c_isLatin1 q_570 k_J0_isLatin1_aae02 rfl (recE cx hw) dJ0_charAt_5068e_1 rfl (Nat.le_of_ble_eq_true rfl) ⟨Nat.le_of_ble_eq_true rfl, Nat.le_of_ble_eq_true rfl⟩ ⟨Nat.le_refl _, Nat.le_refl _⟩ (fun H locs hw => ?_)
  refine lv_if_eq (tgt := 16) hx hb dJ0_charAt_5068e_4 (by decide) (fun hc => absurd hc (by decide)) (fun hc => ?_)
  refine lv_aload_n hx hb dJ0_charAt_5068e_7 rfl (lv_at hl 0 rfl) ?_
  refine vk_getf hx hb e3 hw.2.2 cx.2.2.2.1 (cx.2.2.2.2.1 _ q_1729) (fun _ h => h) dJ0_charAt_5068e_8 ?_
  refine lv_iload_n hx hb dJ0_charAt_5068e_11 rfl (lv_at hl 1 rfl) ?_
  refine calSEi (As := [.ref sv, .int i]) (rest := []) cx hw hl.1 (c_charAt1 hin) q_574 k_J1_charAt_3b067 rfl dJ0_charAt_5068e_12 rfl (Nat.le_of_ble_eq_true rfl) ⟨Nat.le_of_ble_eq_true rfl, Nat.le_of_ble_eq_true rfl⟩ ⟨Nat.le_refl _, Nat.le_refl _⟩ (fun H locs hw => ?_)
  exact hR _ _ _ _ _ _ hw (wch_n _) ⟨rfl, rfl⟩ dJ0_charAt_5068e_15
end STR
