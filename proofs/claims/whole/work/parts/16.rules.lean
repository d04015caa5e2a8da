theorem dJ7_copyOf_59c91_0 : decode cJ7_copyOf_59c91 0 = .ok (.iload_n 1, 1) := by decide +kernel
theorem dJ7_copyOf_59c91_1 : decode cJ7_copyOf_59c91 1 = .ok (.aload_n 0, 1) := by decide +kernel
theorem dJ7_copyOf_59c91_2 : decode cJ7_copyOf_59c91 2 = .ok (.arraylength, 1) := by decide +kernel
theorem dJ7_copyOf_59c91_3 : decode cJ7_copyOf_59c91 3 = .ok (.if_icmp .ne 11, 3) := by decide +kernel
theorem dJ7_copyOf_59c91_6 : decode cJ7_copyOf_59c91 6 = .ok (.aload_n 0, 1) := by decide +kernel
theorem dJ7_copyOf_59c91_7 : decode cJ7_copyOf_59c91 7 = .ok (.invokevirtual 316, 3) := by decide +kernel
theorem dJ7_copyOf_59c91_10 : decode cJ7_copyOf_59c91 10 = .ok (.checkcast 317, 3) := by decide +kernel
theorem dJ7_copyOf_59c91_13 : decode cJ7_copyOf_59c91 13 = .ok (.areturn, 1) := by decide +kernel
theorem dJ7_copyOf_59c91_14 : decode cJ7_copyOf_59c91 14 = .ok (.iload_n 1, 1) := by decide +kernel
theorem dJ7_copyOf_59c91_15 : decode cJ7_copyOf_59c91 15 = .ok (.newarray .int, 2) := by decide +kernel
theorem dJ7_copyOf_59c91_17 : decode cJ7_copyOf_59c91 17 = .ok (.astore_n 2, 1) := by decide +kernel
theorem dJ7_copyOf_59c91_18 : decode cJ7_copyOf_59c91 18 = .ok (.aload_n 0, 1) := by decide +kernel
theorem dJ7_copyOf_59c91_19 : decode cJ7_copyOf_59c91 19 = .ok (.iconst 0, 1) := by decide +kernel
theorem dJ7_copyOf_59c91_20 : decode cJ7_copyOf_59c91 20 = .ok (.aload_n 2, 1) := by decide +kernel
theorem dJ7_copyOf_59c91_21 : decode cJ7_copyOf_59c91 21 = .ok (.iconst 0, 1) := by decide +kernel
theorem dJ7_copyOf_59c91_22 : decode cJ7_copyOf_59c91 22 = .ok (.aload_n 0, 1) := by decide +kernel
theorem dJ7_copyOf_59c91_23 : decode cJ7_copyOf_59c91 23 = .ok (.arraylength, 1) := by decide +kernel
theorem dJ7_copyOf_59c91_24 : decode cJ7_copyOf_59c91 24 = .ok (.iload_n 1, 1) := by decide +kernel
theorem dJ7_copyOf_59c91_25 : decode cJ7_copyOf_59c91 25 = .ok (.invokestatic 304, 3) := by decide +kernel
theorem dJ7_copyOf_59c91_28 : decode cJ7_copyOf_59c91 28 = .ok (.invokestatic 150, 3) := by decide +kernel
theorem dJ7_copyOf_59c91_31 : decode cJ7_copyOf_59c91 31 = .ok (.aload_n 2, 1) := by decide +kernel
theorem dJ7_copyOf_59c91_32 : decode cJ7_copyOf_59c91 32 = .ok (.areturn, 1) := by decide +kernel
theorem dX7_init_0 : decode cX7_init 0 = .ok (.aload_n 0, 1) := by decide +kernel
theorem dX7_init_1 : decode cX7_init 1 = .ok (.invokespecial 3, 3) := by decide +kernel
theorem dX7_init_4 : decode cX7_init 4 = .ok (.aload_n 0, 1) := by decide +kernel
theorem dX7_init_5 : decode cX7_init 5 = .ok (.bipush 16, 2) := by decide +kernel
theorem dX7_init_7 : decode cX7_init 7 = .ok (.newarray .int, 2) := by decide +kernel
theorem dX7_init_9 : decode cX7_init 9 = .ok (.putfield 9, 3) := by decide +kernel
theorem dX7_init_12 : decode cX7_init 12 = .ok (.aload_n 0, 1) := by decide +kernel
theorem dX7_init_13 : decode cX7_init 13 = .ok (.iload_n 1, 1) := by decide +kernel
theorem dX7_init_14 : decode cX7_init 14 = .ok (.putfield 15, 3) := by decide +kernel
theorem dX7_init_17 : decode cX7_init 17 = .ok (.aload_n 0, 1) := by decide +kernel
theorem dX7_init_18 : decode cX7_init 18 = .ok (.aload_n 2, 1) := by decide +kernel
theorem dX7_init_19 : decode cX7_init 19 = .ok (.putfield 19, 3) := by decide +kernel
theorem dX7_init_22 : decode cX7_init 22 = .ok (.aload_n 0, 1) := by decide +kernel
theorem dX7_init_23 : decode cX7_init 23 = .ok (.aload_n 3, 1) := by decide +kernel
theorem dX7_init_24 : decode cX7_init 24 = .ok (.putfield 22, 3) := by decide +kernel
theorem dX7_init_27 : decode cX7_init 27 = .ok (.aload_n 0, 1) := by decide +kernel
theorem dX7_init_28 : decode cX7_init 28 = .ok (.aload 4, 2) := by decide +kernel
theorem dX7_init_30 : decode cX7_init 30 = .ok (.putfield 25, 3) := by decide +kernel
theorem dX7_init_33 : decode cX7_init 33 = .ok (.aload_n 0, 1) := by decide +kernel
theorem dX7_init_34 : decode cX7_init 34 = .ok (.aload 5, 2) := by decide +kernel
theorem dX7_init_36 : decode cX7_init 36 = .ok (.putfield 28, 3) := by decide +kernel
theorem dX7_init_39 : decode cX7_init 39 = .ok (.return_, 1) := by decide +kernel
theorem dX6_told_0 : decode cX6_told 0 = .ok (.aload_n 0, 1) := by decide +kernel
theorem dX6_told_1 : decode cX6_told 1 = .ok (.getfield 28, 3) := by decide +kernel
theorem dX6_told_4 : decode cX6_told 4 = .ok (.aload_n 0, 1) := by decide +kernel
theorem dX6_told_5 : decode cX6_told 5 = .ok (.getfield 44, 3) := by decide +kernel
theorem dX6_told_8 : decode cX6_told 8 = .ok (.aload_n 0, 1) := by decide +kernel
theorem dX6_told_9 : decode cX6_told 9 = .ok (.getfield 47, 3) := by decide +kernel
theorem dX6_told_12 : decode cX6_told 12 = .ok (.iastore, 1) := by decide +kernel
theorem dX6_told_13 : decode cX6_told 13 = .ok (.new 54, 3) := by decide +kernel
theorem dX6_told_16 : decode cX6_told 16 = .ok (.dup, 1) := by decide +kernel
theorem dX6_told_17 : decode cX6_told 17 = .ok (.aload_n 0, 1) := by decide +kernel
theorem dX6_told_18 : decode cX6_told 18 = .ok (.getfield 44, 3) := by decide +kernel
theorem dX6_told_21 : decode cX6_told 21 = .ok (.aload_n 0, 1) := by decide +kernel
theorem dX6_told_22 : decode cX6_told 22 = .ok (.getfield 22, 3) := by decide +kernel
theorem dX6_told_25 : decode cX6_told 25 = .ok (.aload_n 0, 1) := by decide +kernel
theorem dX6_told_26 : decode cX6_told 26 = .ok (.getfield 44, 3) := by decide +kernel
theorem dX6_told_29 : decode cX6_told 29 = .ok (.invokestatic 56, 3) := by decide +kernel
theorem dX6_told_32 : decode cX6_told 32 = .ok (.aload_n 0, 1) := by decide +kernel
theorem dX6_told_33 : decode cX6_told 33 = .ok (.getfield 25, 3) := by decide +kernel
theorem dX6_told_36 : decode cX6_told 36 = .ok (.aload_n 0, 1) := by decide +kernel
theorem dX6_told_37 : decode cX6_told 37 = .ok (.getfield 44, 3) := by decide +kernel
theorem dX6_told_40 : decode cX6_told 40 = .ok (.invokestatic 56, 3) := by decide +kernel
theorem dX6_told_43 : decode cX6_told 43 = .ok (.aload_n 0, 1) := by decide +kernel
theorem dX6_told_44 : decode cX6_told 44 = .ok (.getfield 28, 3) := by decide +kernel
theorem dX6_told_47 : decode cX6_told 47 = .ok (.aload_n 0, 1) := by decide +kernel
theorem dX6_told_48 : decode cX6_told 48 = .ok (.getfield 44, 3) := by decide +kernel
theorem dX6_told_51 : decode cX6_told 51 = .ok (.iconst 1, 1) := by decide +kernel
theorem dX6_told_52 : decode cX6_told 52 = .ok (.iadd, 1) := by decide +kernel
theorem dX6_told_53 : decode cX6_told 53 = .ok (.invokestatic 56, 3) := by decide +kernel
theorem dX6_told_56 : decode cX6_told 56 = .ok (.aload_n 0, 1) := by decide +kernel
theorem dX6_told_57 : decode cX6_told 57 = .ok (.getfield 31, 3) := by decide +kernel
theorem dX6_told_60 : decode cX6_told 60 = .ok (.aload_n 0, 1) := by decide +kernel
theorem dX6_told_61 : decode cX6_told 61 = .ok (.getfield 47, 3) := by decide +kernel
theorem dX6_told_64 : decode cX6_told 64 = .ok (.invokestatic 56, 3) := by decide +kernel
theorem dX6_told_67 : decode cX6_told 67 = .ok (.invokespecial 62, 3) := by decide +kernel
theorem dX6_told_70 : decode cX6_told 70 = .ok (.areturn, 1) := by decide +kernel
theorem dX11_rules_0 : decode cX11_rules 0 = .ok (.aload_n 0, 1) := by decide +kernel
theorem dX11_rules_1 : decode cX11_rules 1 = .ok (.getfield 16, 3) := by decide +kernel
theorem dX11_rules_4 : decode cX11_rules 4 = .ok (.invokevirtual 158, 3) := by decide +kernel
theorem dX11_rules_7 : decode cX11_rules 7 = .ok (.istore_n 1, 1) := by decide +kernel
theorem dX11_rules_8 : decode cX11_rules 8 = .ok (.aload_n 0, 1) := by decide +kernel
theorem dX11_rules_9 : decode cX11_rules 9 = .ok (.getfield 16, 3) := by decide +kernel
theorem dX11_rules_12 : decode cX11_rules 12 = .ok (.iconst 0, 1) := by decide +kernel
theorem dX11_rules_13 : decode cX11_rules 13 = .ok (.putfield 151, 3) := by decide +kernel
theorem dX11_rules_16 : decode cX11_rules 16 = .ok (.iload_n 1, 1) := by decide +kernel
theorem dX11_rules_17 : decode cX11_rules 17 = .ok (.ifCond .ne 14, 3) := by decide +kernel
theorem dX11_rules_20 : decode cX11_rules 20 = .ok (.bipush (-100), 2) := by decide +kernel
theorem dX11_rules_22 : decode cX11_rules 22 = .ok (.aload_n 0, 1) := by decide +kernel
theorem dX11_rules_23 : decode cX11_rules 23 = .ok (.getfield 16, 3) := by decide +kernel
theorem dX11_rules_26 : decode cX11_rules 26 = .ok (.invokevirtual 161, 3) := by decide +kernel
theorem dX11_rules_29 : decode cX11_rules 29 = .ok (.isub, 1) := by decide +kernel
theorem dX11_rules_30 : decode cX11_rules 30 = .ok (.ireturn, 1) := by decide +kernel
theorem dX11_rules_31 : decode cX11_rules 31 = .ok (.aload_n 0, 1) := by decide +kernel
theorem dX11_rules_32 : decode cX11_rules 32 = .ok (.getfield 55, 3) := by decide +kernel
theorem dX11_rules_35 : decode cX11_rules 35 = .ok (.aload_n 0, 1) := by decide +kernel
theorem dX11_rules_36 : decode cX11_rules 36 = .ok (.getfield 16, 3) := by decide +kernel
theorem dX11_rules_39 : decode cX11_rules 39 = .ok (.invokevirtual 164, 3) := by decide +kernel
theorem dX11_rules_42 : decode cX11_rules 42 = .ok (.putfield 168, 3) := by decide +kernel
theorem dX11_rules_45 : decode cX11_rules 45 = .ok (.aload_n 0, 1) := by decide +kernel
theorem dX11_rules_46 : decode cX11_rules 46 = .ok (.getfield 55, 3) := by decide +kernel
theorem dX11_rules_49 : decode cX11_rules 49 = .ok (.getfield 168, 3) := by decide +kernel
theorem dX11_rules_52 : decode cX11_rules 52 = .ok (.getfield 172, 3) := by decide +kernel
theorem dX11_rules_55 : decode cX11_rules 55 = .ok (.ireturn, 1) := by decide +kernel
theorem k_J7_copyOf_59c91 : MS yJ7_copyOf_59c91 cJ7_copyOf_59c91 3 (some (.array .int)) 2 := ⟨q_651, q_12, q_652, ⟨by decide, by decide, by decide +kernel⟩⟩
theorem k_X6_told : MV yX6_told cX6_told 1 (some (.object "DialSquare$Rules")) 0 := ⟨q_646, q_647, q_2, q_648, ⟨by decide, by decide, by decide +kernel⟩⟩
abbrev z16 (t : Nat → ClassId) (q5 : Nat) : Nat × va_E := (q5, .inl (t 0, 16, .inl (fun _ => 0)))
def MI (y : MethodName) (bytes : ByteArray) (maxL n : Nat) : Prop := Cond.instanceMethod y ∈ tw ∧ Cond.initialized y.cls ∈ tw ∧ Cond.code y bytes maxL none ∈ tw ∧ y.name = "<init>" ∧ (y.cls ≠ "java/lang/invoke/MethodHandle" ∧ y.cls ≠ "java/lang/invoke/VarHandle" ∧ (parseMethodDescriptor y.desc).map (fun d => d.parameters.length) = some n)
theorem k_X7_init : MI yX7_init cX7_init 6 5 := ⟨q_174, q_10, q_175, rfl, ⟨by decide, by decide, by decide +kernel⟩⟩
section MAKE
variable {p : Program} {l : Launch} {e : Env} {R : Room} {s : State} {m : MethodId} {args : Array Value} {below : List Frame} {meth : Method} {c : Code} {H : Heap} {locs : List Loc} {cells slots : Nat} {Q : State → Prop}
variable {E : EX} {D : va_G} {t : Nat → ClassId} {cc : ByteArray} {own nm : String} {nL pc : Nat} {A : Nat → Prop} {ws w1 : va_W} {ls : Array Slot} {rest st : List Value} {r : Int32}
/-- a new row of ints -/
theorem newI (cx : Cx E D t p s m args meth c cc own nm nL A) (hw : Wd D A s ws H locs) {n : Int32} {N : Nat} (hn : ¬ n < 0) (hN : n.toNatClampNeg = N) (hb : N ≤ 100000) (hcells : cells + 1 ≤ R.cells) (hslots : slots + N ≤ R.slots) (hdg : decode cc pc = .ok (.newarray .int, 2))
    (kk : ∀ (q : Nat) (H : Heap), Wd D A s (ws ++ [(q, .inl (t 0, N, .inl (fun _ => 0)))]) H locs → W p l e R s m args below meth c H locs (cells + 1) (slots + N) Q (F0 m (pc + 2) ls (.ref q :: rest))) : W p l e R s m args below meth c H locs cells slots Q (F0 m pc ls (.int n :: rest)) := by
  refine va_newa (atype := .int) (a0 := (N, .inl (fun _ => 0))) cx.1 cx.2.1 (cx.2.2.2.2.1 _ q_71) rfl cx.2.2.2.2.2.1.1 hw.1 hw.2.1 hw.2.2 cx.2.2.2.2.2.2.1 (fun _ => rfl) hn hN (by show N * 4 ≤ _; omega) hcells hslots hdg (fun q cA H1 hK hP hD hS => ?_)
  have h1 : s.vm.findClass ("[" ++ (FieldType.int).toString) = some cA := (hK.2 5 _ rfl).2
  have h2 : s.vm.findClass ("[" ++ (FieldType.int).toString) = some (t 0) := (hK.2 0 _ rfl).2
  have h3 : cA = t 0 := Option.some.inj (h1.symm.trans h2)
  subst h3
  exact kk q H1 ⟨hP, hD, hS⟩
theorem apT {X L : va_W} {k : Nat} {v : Nat × va_E} (h : X[k]? = some v) : (X ++ L)[k]? = some v := by rw [List.getElem?_append_left (List.getElem?_eq_some_iff.mp h).1]; exact h
theorem calIv {y : MethodName} {bytes : ByteArray} {maxL n : Nat} {lev mc ms index : Nat} {b : Nat} {As : List Value} {Qv : Option Value → va_W → Prop}
    (cx : Cx E D t p s m args meth c cc own nm nL A) (hw : Wd D A s ws H locs) (hl : ls.size = nL) (hM : MC l E0 D t y bytes maxL none lev mc ms (.ref b :: As) ws Qv) (q1 : Cond.methodLink own index y ∈ tw) (q2 : MI y bytes maxL n) (hn : As.length = n)
    (hdg : decode cc pc = .ok (.invokespecial index, 3)) (hst : st = As.reverse ++ .ref b :: rest) (hcat : (rest.map fun v => v.category).sum ≤ 8)
    (hR : lev + 1 ≤ R.frames ∧ 8 + (maxL + 11) + 64 * lev ≤ R.locals) (hf : cells + mc ≤ R.cells ∧ slots + ms ≤ R.slots)
    (kk : ∀ (v : Option Value) (ws' : va_W) (H' : Heap) (locs' : List Loc), Qv v ws' → Wd D A s ws' H' locs' → W p l e R s m args below meth c H' locs' (cells + mc) (slots + ms) Q (F0 m (pc + 3) ls (v.toList ++ rest))) :
    W p l e R s m args below meth c H locs cells slots Q (F0 m pc ls st) := by
  have hts := cx.2.2.2.2.1
  subst hst
  exact backZ cx hw rfl (va_runI (As := As) (rest := rest) (g := F0 m pc ls (As.reverse ++ .ref b :: rest)) ⟨cx.1, cx.2.1, cx.2.2.1, cx.2.2.2.1, hts⟩ (hM H.size) (cwI n hts (goodZ q2.2.2.1) rfl rfl rfl (hts _ q2.2.1) (hts _ q1) (hts _ q2.1) q2.2.2.2.1 q2.2.2.2.2 hR) ⟨blindZ nE0, preZ cx hw (fun _ _ _ => trivial)⟩ rfl hn hl rfl (lv_room hcat) hdg hf) kk
end MAKE
section RULES
variable {l : Launch} {D : va_G} {t : Nat → ClassId} {a : Nat → Nat} {ar : Nat → Nat → Nat} {n : Nat} {x_q0_dials : Nat → Nat → Int32} {x_q0_spots : Nat → Nat → Int32} {x_q0_skies : Nat → Int32} {x_q0_reports : Nat → Nat → Int32} {x_q0_count : Int32} {x_q0_chime : Int32} {x_q0_end : Int32} {x_q0_score : Int32} {x_q0_reportCount : Int32} {x_q0_z : Int32} {x_q0_rules : Nat} {x_q0_shades : Nat → Int32} {x_q0_facts : Nat → Int32} {x_q1_dials : Nat → Nat → Int32} {x_q1_spots : Nat → Nat → Int32} {x_q1_skies : Nat → Int32} {x_q1_reports : Nat → Nat → Int32} {x_q1_count : Int32} {x_q1_chime : Int32} {x_q1_end : Int32} {x_q1_score : Int32} {x_q1_reportCount : Int32} {x_q1_z : Int32} {x_q1_rules : Nat} {x_q1_shades : Nat → Int32} {x_q1_facts : Nat → Int32} {x_q2_dials : Nat → Nat → Int32} {x_q2_spots : Nat → Nat → Int32} {x_q2_skies : Nat → Int32} {x_q2_reports : Nat → Nat → Int32} {x_q2_count : Int32} {x_q2_chime : Int32} {x_q2_end : Int32} {x_q2_score : Int32} {x_q2_reportCount : Int32} {x_q2_z : Int32} {x_q2_rules : Nat} {x_q2_shades : Nat → Int32} {x_q2_facts : Nat → Int32} {x_isKept : Int32} {x_marks : Nat → Int32} {x_p_first : Nat → Int32} {x_p_steps : Int32} {x_p_most : Int32} {x_p_many : Int32} {x_p_fewest : Int32} {x_p_everRight : Int32} {x_p_opening : Int32} {x_p_rows : Nat → Nat → Int32} {x_p_rowCount : Int32} {x_p_acts : Nat → Int32} {x_p_marks : Nat → Nat → Int32} {x_p_deepest : Int32} {x_p_wanted : Int32} {x_t_length : Int32} {x_t_tape : Nat → Int32} {x_t_words : Nat → Int32} {x_t_places : Nat → Int32} {x_t_at : Int32} {x_t_kinds : Nat → Int32} {x_t_wills : Nat → Int32} {x_t_starts : Nat → Int32} {x_t_code : Nat → Int32} {x_t_count : Int32} {x_t_size : Int32} {x_h_sorts : Nat → Int32} {x_h_lengths : Nat → Int32} {x_h_items : Nat → Nat → Int32} {x_h_held : Nat → Int32} {x_h_things : Nat → Int32} {x_h_sizes : Nat → Int32} {x_h_bodies : Nat → Int32} {x_h_traced : Int32} {x_h_number : Int32} {x_h_spot : Int32} {x_h_parted : Int32} {x_g_count : Nat → Int32} {x_g_kinds : Nat → Nat → Int32} {x_g_wills : Nat → Nat → Int32} {x_g_starts : Nat → Nat → Int32} {x_g_code : Nat → Nat → Int32} {x_g_stack : Nat → Nat → Int32} {x_g_kl : Nat → Nat} {x_g_wl : Nat → Nat} {x_g_sl : Nat → Nat} {x_g_cl : Nat → Nat} {x_nr : Nat} {ws : va_W} {sa sv : Nat}
theorem pn_J7x : plainName yJ7_copyOf_59c91.cls = true := by decide
theorem c_copyOf {src k N : Nat} {f : Nat → Int32} {nn : Int32} (hs : ws[k]? = some (src, .inl (t 0, N, .inl f))) (hN : N ≤ 256) (hn : ib nn (N + 1) = true) : MC l E0 D t yJ7_copyOf_59c91 cJ7_copyOf_59c91 3 (some (.array .int)) 2 1 N [.ref src, .int nn] ws (fun v ws' => ∃ (q : Nat) (g : Nat → Int32), v = some (.ref q) ∧ ws' = ws ++ [(q, .inl (t 0, nn.toNatClampNeg, .inl g))] ∧ ∀ i, i < nn.toNatClampNeg → g i = f i) := by
  have hlt := ib_lt hn
  have hn0 : ¬ nn < 0 := fun z => (ib_in hn) (Or.inl z)
  refine MC.ofA (Or.inr ⟨_, rfl⟩) pn_J7x (Nat.le_of_ble_eq_true rfl) ?_
  intro p e s m args below meth c A Q ls cx hR hw hl
  have hx := cx.1
  have hb := cx.2.1
  have hl : lv_has ls 3 [(0, .ref src), (1, .int nn)] := hl
  refine lv_iload_n hx hb dJ7_copyOf_59c91_0 rfl (lv_at hl 1 rfl) ?_
  refine lv_aload_n hx hb dJ7_copyOf_59c91_1 rfl (lv_at hl 0 rfl) ?_
  refine va_alen hx hb cx.2.2.2.2.2.1.1 hw.1 k 0 hs rfl (v := nI N) rfl dJ7_copyOf_59c91_2 ?_
  refine lv_icmp_ne (tgt := 14) hx hb dJ7_copyOf_59c91_3 (by decide) (fun hc => ?_) (fun hc => ?_)
  · refine lv_iload_n hx hb dJ7_copyOf_59c91_14 rfl (lv_at hl 1 rfl) ?_
    refine newI cx hw hn0 rfl (by omega) (Nat.le_refl _) (by show 0 + _ ≤ N; omega) dJ7_copyOf_59c91_15 (fun q H hw => ?_)
    refine lv_astore_n (lv' := [(2, .ref q), (0, .ref src), (1, .int nn)]) hx hb dJ7_copyOf_59c91_17 rfl hl (by decide) rfl (fun ls hl => ?_)
    refine lv_aload_n hx hb dJ7_copyOf_59c91_18 rfl (lv_at hl 1 rfl) ?_
    refine lv_iconst (v := 0) hx hb dJ7_copyOf_59c91_19 (by decide) ?_
    refine lv_aload_n hx hb dJ7_copyOf_59c91_20 rfl (lv_at hl 0 rfl) ?_
    refine lv_iconst (v := 0) hx hb dJ7_copyOf_59c91_21 (by decide) ?_
    refine lv_aload_n hx hb dJ7_copyOf_59c91_22 rfl (lv_at hl 1 rfl) ?_
    refine va_alen hx hb cx.2.2.2.2.2.1.1 hw.1 k 0 (apT hs) rfl (v := nI N) rfl dJ7_copyOf_59c91_23 ?_
    refine lv_iload_n hx hb dJ7_copyOf_59c91_24 rfl (lv_at hl 2 rfl) ?_
    refine va_mmin hx hb (cx.2.2.1.trans hl.1.symm) cx.2.2.2.1 (cx.2.2.2.2.1 _ q_660) (cx.2.2.2.2.1 _ q_661) (cx.2.2.2.2.1 _ q_15) (cx.2.2.2.2.1 _ q_662) (Nat.le_of_ble_eq_true rfl) (Nat.le_of_ble_eq_true rfl) (Nat.le_refl _) (by show 0 + _ ≤ N; omega) dJ7_copyOf_59c91_25 ?_
    have hmin : (if nn < nI N then nn else nI N) = nn := by
      by_cases hz : nn < nI N
      · rw [if_pos hz]
      · obtain ⟨j, hj, rfl⟩ := nI_of hn0
        rw [nI_clamp hj] at hlt
        have : ¬ j < N := fun q => hz ((nI_ltI hj (by omega)).mpr q)
        have hjN : j = N := by omega
        subst hjN
        exact absurd rfl hc
    rw [hmin]
    refine va_copyi hx hb (cx.2.2.1.trans hl.1.symm) cx.2.2.2.1 (cx.2.2.2.2.1 _ q_663) (cx.2.2.2.2.1 _ q_665) (cx.2.2.2.2.1 _ q_664) (cx.2.2.2.2.1 _ q_20) cx.2.2.2.2.2.1.1 hw.1 hw.2.1 hw.2.2 k ws.length 0 0 (apT hs) (by rw [List.getElem?_append_right (Nat.le_refl _), Nat.sub_self]; rfl) rfl rfl rfl (by decide) (by decide) hn0 (by show 0 + _ ≤ _; omega) (by show 0 + _ ≤ _; omega) (fun i _ => rfl) (Nat.le_of_ble_eq_true rfl) (Nat.le_of_ble_eq_true rfl) dJ7_copyOf_59c91_28 (fun H1 l1 hP hD hS => ?_)
    refine lv_aload_n hx hb dJ7_copyOf_59c91_31 rfl (lv_at hl 0 rfl) ?_
    refine W.widen (Nat.le_refl _) (n := N) (by omega) ?_
    refine hR _ _ _ _ _ _ ⟨hP, hD, hS⟩ ⟨q, va_cpy f (fun _ => 0) 0 0 nn.toNatClampNeg, rfl, ?_, fun i hi => ?_⟩ dJ7_copyOf_59c91_32
    · rw [List.set_append_right _ _ (Nat.le_refl _), Nat.sub_self]
      rfl
    · simp [va_cpy, hi]
  · refine lv_aload_n hx hb dJ7_copyOf_59c91_6 rfl (lv_at hl 0 rfl) ?_
    have hnm : s.vm.findClass "[I" = some (t 0) := (cx.2.2.2.2.2.1.1.2 0 _ rfl).2
    refine va_clone hx hb (cx.2.2.1.trans hl.1.symm) cx.2.2.2.1 (cx.2.2.2.2.1 _ q_653) (cx.2.2.2.2.1 _ q_654) (cx.2.2.2.2.1 _ q_655) (cx.2.2.2.2.1 _ q_656) (cx.2.2.2.2.1 _ q_657) (cx.2.2.2.2.2.1.2.2.1 ("[I", "java/lang/Cloneable") (List.mem_of_getElem? (i := 5) rfl)) cx.2.2.2.2.2.1.1 hw.1 hw.2.1 hw.2.2 cx.2.2.2.2.2.2.1 k 0 hs rfl hnm ?_ (Nat.le_of_ble_eq_true rfl) (Nat.le_of_ble_eq_true rfl) (Nat.le_refl _) (by show 0 + N ≤ N; omega) dJ7_copyOf_59c91_7 (fun q H1 hK hP hD hS => ?_)
    · intro i v hv
      have hi : i < N := by
        have := (Array.getElem?_eq_some_iff.mp hv).1
        have hz : (vp_cell (t 0) (N, .inl f)).slots.size = N := arrV_size _ _ _
        omega
      have hv2 : (arrV (t 0) N (fun j => .int (f j))).slots[i]? = some v := hv
      rw [arrV_read _ _ hi] at hv2
      cases hv2
      rfl
    refine va_castA hx hb cx.2.2.2.1 (cx.2.2.2.2.1 _ q_659) hP ws.length (by rw [List.getElem?_append_right (Nat.le_refl _), Nat.sub_self]; rfl) hnm dJ7_copyOf_59c91_10 ?_
    have hNn : nn.toNatClampNeg = N := by rw [hc]; exact nI_clamp (by omega)
    refine W.widen (Nat.le_refl _) (n := N) (by show 0 + N ≤ N; omega) ?_
    refine hR _ _ _ _ _ _ ⟨hP, hD, hS⟩ ⟨q, f, rfl, by rw [hNn], fun i _ => rfl⟩ dJ7_copyOf_59c91_13
theorem c_X7_init {q0 q1 q2 q3 q4 k0 : Nat} {cnt : Int32} (hs : ws[k0]? = some (q0, .inr (7, [.int 0, .null, .null, .null, .null, .null]))) : MC l E0 D t yX7_init cX7_init 6 none 2 1 16 [.ref q0, .int cnt, .ref q1, .ref q2, .ref q3, .ref q4] ws (fun v ws' => ∃ q5 : Nat, v = none ∧ ws' = (ws ++ [z16 t q5]).set k0 (q0, .inr (7, [.int cnt, .ref q1, .ref q2, .ref q3, .ref q4, .ref q5]))) := by
  have hk : k0 < ws.length := (List.getElem?_eq_some_iff.mp hs).1
  refine MC.ofV pn_X7 (Nat.le_of_ble_eq_true rfl) ?_
  intro p e s m args below meth c A Q ls cx hR hw hl
  have hx := cx.1
  have hb := cx.2.1
  have hl : lv_has ls 6 [(0, .ref q0), (1, .int cnt), (2, .ref q1), (3, .ref q2), (4, .ref q3), (5, .ref q4)] := hl
  refine lv_aload_n hx hb dX7_init_0 rfl (lv_at hl 0 rfl) ?_
  refine W.objInit hx hb cx.2.2.2.1 (cx.2.2.2.2.1 _ q_176) (cx.2.2.2.2.1 _ q_28) (cx.2.2.2.2.1 _ q_29) rfl (hl.1.trans cx.2.2.1.symm) rfl dX7_init_1 (Nat.le_of_ble_eq_true rfl) (Nat.le_of_ble_eq_true rfl) ?_
  refine W.eq (g2 := F0 m 4 ls []) rfl ?_
  refine lv_aload_n hx hb dX7_init_4 rfl (lv_at hl 0 rfl) ?_
  refine lv_bipush (v := 16) hx hb dX7_init_5 (by decide) ?_
  refine newI cx hw (by decide) (N := 16) (by decide) (by omega) (Nat.le_of_ble_eq_true rfl) (Nat.le_of_ble_eq_true rfl) dX7_init_7 (fun q5 H hw => ?_)
  refine va_putF (ref := "DialSquare$Rules") (C := RX7) (T := TX7) (N := 6) (ci := 7) cx.1 cx.2.1 cx.2.2.2.2.1 lay_7 tyX7 tyX7_ok nmX7 cx.2.2.2.1 cx.2.2.2.2.2.1.1 hw.1 hw.2.1 hw.2.2 k0 (apT hs) rfl 5 (by decide) (cx.2.2.2.2.1 _ q_183) (fun _ h => h) rfl cx.2.2.2.2.2.2.2.2.2 rfl rfl rfl rfl (Nat.le_of_ble_eq_true rfl) dX7_init_9 (fun H l1 hP hD hS => ?_)
  have hw : Wd D A s ((ws ++ [z16 t q5]).set k0 (q0, .inr (7, [.int 0, .null, .null, .null, .null, .ref q5]))) H l1 := ⟨hP, hD, hS⟩
  have hget : ∀ (v : Nat × va_E), ((ws ++ [z16 t q5]).set k0 v)[k0]? = some v := fun v => List.getElem?_set_self (by simp; omega)
  refine lv_aload_n hx hb dX7_init_12 rfl (lv_at hl 0 rfl) ?_
  refine lv_iload_n hx hb dX7_init_13 rfl (lv_at hl 1 rfl) ?_
  refine va_putF (ref := "DialSquare$Rules") (C := RX7) (T := TX7) (N := 6) (ci := 7) cx.1 cx.2.1 cx.2.2.2.2.1 lay_7 tyX7 tyX7_ok nmX7 cx.2.2.2.1 cx.2.2.2.2.2.1.1 hw.1 hw.2.1 hw.2.2 k0 (fs := [.int 0, .null, .null, .null, .null, .ref q5]) (hget _) rfl 0 (by decide) (cx.2.2.2.2.1 _ q_177) (fun _ h => h) rfl cx.2.2.2.2.2.2.2.2.2 rfl rfl rfl rfl (Nat.le_of_ble_eq_true rfl) dX7_init_14 (fun H l1 hP hD hS => ?_)
  have hw : Wd D A s (((ws ++ [z16 t q5]).set k0 (q0, .inr (7, [.int cnt, .null, .null, .null, .null, .ref q5])))) H l1 := ⟨by rw [List.set_set] at hP; exact hP, by rw [List.set_set] at hD; exact hD, hS⟩
  refine lv_aload_n hx hb dX7_init_17 rfl (lv_at hl 0 rfl) ?_
  refine lv_aload_n hx hb dX7_init_18 rfl (lv_at hl 2 rfl) ?_
  refine va_putF (ref := "DialSquare$Rules") (C := RX7) (T := TX7) (N := 6) (ci := 7) cx.1 cx.2.1 cx.2.2.2.2.1 lay_7 tyX7 tyX7_ok nmX7 cx.2.2.2.1 cx.2.2.2.2.2.1.1 hw.1 hw.2.1 hw.2.2 k0 (fs := [.int cnt, .null, .null, .null, .null, .ref q5]) (hget _) rfl 1 (by decide) (cx.2.2.2.2.1 _ q_179) (fun _ h => h) rfl cx.2.2.2.2.2.2.2.2.2 rfl rfl rfl rfl (Nat.le_of_ble_eq_true rfl) dX7_init_19 (fun H l1 hP hD hS => ?_)
  have hw : Wd D A s (((ws ++ [z16 t q5]).set k0 (q0, .inr (7, [.int cnt, .ref q1, .null, .null, .null, .ref q5])))) H l1 := ⟨by rw [List.set_set] at hP; exact hP, by rw [List.set_set] at hD; exact hD, hS⟩
  refine lv_aload_n hx hb dX7_init_22 rfl (lv_at hl 0 rfl) ?_
  refine lv_aload_n hx hb dX7_init_23 rfl (lv_at hl 3 rfl) ?_
  refine va_putF (ref := "DialSquare$Rules") (C := RX7) (T := TX7) (N := 6) (ci := 7) cx.1 cx.2.1 cx.2.2.2.2.1 lay_7 tyX7 tyX7_ok nmX7 cx.2.2.2.1 cx.2.2.2.2.2.1.1 hw.1 hw.2.1 hw.2.2 k0 (fs := [.int cnt, .ref q1, .null, .null, .null, .ref q5]) (hget _) rfl 2 (by decide) (cx.2.2.2.2.1 _ q_180) (fun _ h => h) rfl cx.2.2.2.2.2.2.2.2.2 rfl rfl rfl rfl (Nat.le_of_ble_eq_true rfl) dX7_init_24 (fun H l1 hP hD hS => ?_)
  have hw : Wd D A s (((ws ++ [z16 t q5]).set k0 (q0, .inr (7, [.int cnt, .ref q1, .ref q2, .null, .null, .ref q5])))) H l1 := ⟨by rw [List.set_set] at hP; exact hP, by rw [List.set_set] at hD; exact hD, hS⟩
  refine lv_aload_n hx hb dX7_init_27 rfl (lv_at hl 0 rfl) ?_
  refine lv_aload hx hb dX7_init_28 (lv_at hl 4 rfl) ?_
  refine va_putF (ref := "DialSquare$Rules") (C := RX7) (T := TX7) (N := 6) (ci := 7) cx.1 cx.2.1 cx.2.2.2.2.1 lay_7 tyX7 tyX7_ok nmX7 cx.2.2.2.1 cx.2.2.2.2.2.1.1 hw.1 hw.2.1 hw.2.2 k0 (fs := [.int cnt, .ref q1, .ref q2, .null, .null, .ref q5]) (hget _) rfl 3 (by decide) (cx.2.2.2.2.1 _ q_181) (fun _ h => h) rfl cx.2.2.2.2.2.2.2.2.2 rfl rfl rfl rfl (Nat.le_of_ble_eq_true rfl) dX7_init_30 (fun H l1 hP hD hS => ?_)
  have hw : Wd D A s (((ws ++ [z16 t q5]).set k0 (q0, .inr (7, [.int cnt, .ref q1, .ref q2, .ref q3, .null, .ref q5])))) H l1 := ⟨by rw [List.set_set] at hP; exact hP, by rw [List.set_set] at hD; exact hD, hS⟩
  refine lv_aload_n hx hb dX7_init_33 rfl (lv_at hl 0 rfl) ?_
  refine lv_aload hx hb dX7_init_34 (lv_at hl 5 rfl) ?_
  refine va_putF (ref := "DialSquare$Rules") (C := RX7) (T := TX7) (N := 6) (ci := 7) cx.1 cx.2.1 cx.2.2.2.2.1 lay_7 tyX7 tyX7_ok nmX7 cx.2.2.2.1 cx.2.2.2.2.2.1.1 hw.1 hw.2.1 hw.2.2 k0 (fs := [.int cnt, .ref q1, .ref q2, .ref q3, .null, .ref q5]) (hget _) rfl 4 (by decide) (cx.2.2.2.2.1 _ q_182) (fun _ h => h) rfl cx.2.2.2.2.2.2.2.2.2 rfl rfl rfl rfl (Nat.le_of_ble_eq_true rfl) dX7_init_36 (fun H l1 hP hD hS => ?_)
  have hw : Wd D A s (((ws ++ [z16 t q5]).set k0 (q0, .inr (7, [.int cnt, .ref q1, .ref q2, .ref q3, .ref q4, .ref q5])))) H l1 := ⟨by rw [List.set_set] at hP; exact hP, by rw [List.set_set] at hD; exact hD, hS⟩
  exact hR _ _ _ _ _ hw ⟨q5, rfl, rfl⟩ dX7_init_39
end RULES
