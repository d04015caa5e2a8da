section MAKE3
variable {p : Program} {l : Launch} {e : Env} {R : Room} {s : State} {m : MethodId} {args : Array Value} {below : List Frame} {meth : Method} {c : Code} {H : Heap} {locs : List Loc} {cells slots : Nat} {Q : State → Prop}
variable {E : EX} {D : va_G} {t : Nat → ClassId} {cc : ByteArray} {own nm : String} {nL pc : Nat} {A : Nat → Prop} {ws w1 : va_W} {ls : Array Slot} {rest st : List Value} {r : Int32}
theorem calIN {y : MethodName} {bytes : ByteArray} {maxL n : Nat} {lev mc ms index : Nat} {b : Nat} {As : List Value} {host : String} {Qv : Option Value → va_W → Prop}
    (cx : Cx E D t p s m args meth c cc own nm nL A) (hw : Wd D A s ws H locs) (hl : ls.size = nL) (hM : MC l E0 D t y bytes maxL none lev mc ms (.ref b :: As) ws Qv) (q1 : (own, index, y, host) ∈ nml) (q2 : MI y bytes maxL n) (hn : As.length = n)
    (hdg : decode cc pc = .ok (.invokespecial index, 3)) (hst : st = As.reverse ++ .ref b :: rest) (hcat : (rest.map fun v => v.category).sum ≤ 8)
    (hR : lev + 1 ≤ R.frames ∧ 8 + (maxL + 11) + 64 * lev ≤ R.locals) (hf : cells + mc ≤ R.cells ∧ slots + ms ≤ R.slots)
    (kk : ∀ (v : Option Value) (ws' : va_W) (H' : Heap) (locs' : List Loc), Qv v ws' → Wd D A s ws' H' locs' → W p l e R s m args below meth c H' locs' (cells + mc) (slots + ms) Q (F0 m (pc + 3) ls (v.toList ++ rest))) :
    W p l e R s m args below meth c H locs cells slots Q (F0 m pc ls st) := by
  have hts := cx.2.2.2.2.1
  subst hst
  exact backZ cx hw rfl (va_runIN (As := As) (rest := rest) (g := F0 m pc ls (As.reverse ++ .ref b :: rest)) ⟨cx.1, cx.2.1, cx.2.2.1, cx.2.2.2.1, hts⟩ (hM H.size) ⟨va_cnB n hts (goodZ q2.2.2.1) rfl rfl rfl (cx.2.2.2.2.2.1.2.1 _ q1) (hts _ q2.2.1) q2.2.2.2.2 hR, q2.2.2.2.1, hts _ q2.1⟩ ⟨blindZ nE0, preZ cx hw (fun _ _ _ => trivial)⟩ rfl hn hl rfl (lv_room hcat) hdg hf) kk
theorem Wd.exch {k q N : Nat} {cA : ClassId} {f g : Nat → Option Nat} (hw : Wd D A s ws H locs) (hk : ws[k]? = some (q, .inl (cA, N, .inr (.inr (.inr (.inr f)))))) (h : ∀ i, i < N → f i = g i) : Wd D A s (ws.set k (q, .inl (cA, N, .inr (.inr (.inr (.inr g)))))) H locs := by
  refine ⟨hw.1.set hw.2.1 hk ?_ (fun _ _ => rfl), hw.2.1.set hk, hw.2.2⟩
  have h0 : H[q]? = some (vp_cell cA (N, .inr (.inr (.inr (.inr f))))) := hw.1 k _ hk
  show H[q]? = some (vp_cell cA (N, .inr (.inr (.inr (.inr g)))))
  rw [h0, vp_cell_q, vp_cell_q]
  exact congrArg some (arrV_ext (fun i hi => by rw [h i hi]))
theorem Wd.perm {ws' : va_W} (hw : Wd D A s ws H locs) (is : List Nat) (hn : va_nd is = true) (hs : is.map (fun i => ws[i]?) = ws'.map some) : Wd D A s ws' H locs := by
  refine ⟨hw.1.sub is ?_, hw.2.1.sub is hn hs, hw.2.2⟩
  have : is.filterMap (fun i => ws[i]?) = (is.map (fun i => ws[i]?)).filterMap id := by
    rw [List.filterMap_map]
    rfl
  rw [this, hs, List.filterMap_map]
  simp
end MAKE3
theorem cs_cs {ws L L2 : va_W} {k0 j : Nat} {v w : Nat × va_E} : cs (cs ws L k0 v) L2 (ws.length + j) w = cs ws (L.set j w ++ L2) k0 v := by
  show (cs ws L k0 v).set (ws.length + j) w ++ L2 = _
  rw [cs_setL, cs_app]
section KINDS
variable {l : Launch} {D : va_G} {t : Nat → ClassId} {ws : va_W}
theorem dX0_init_0 : decode cX0_init 0 = .ok (.aload_n 0, 1) := by decide +kernel
theorem dX0_init_1 : decode cX0_init 1 = .ok (.invokespecial 1, 3) := by decide +kernel
theorem dX0_init_4 : decode cX0_init 4 = .ok (.return_, 1) := by decide +kernel
theorem k_X0_init : MI yX0_init cX0_init 1 0 := ⟨q_132, q_4, q_133, rfl, ⟨by decide, by decide, by decide +kernel⟩⟩
theorem c_X0_init {q0 : Nat} : MC l E0 D t yX0_init cX0_init 1 none 1 0 0 [.ref q0] ws (fun v ws' => v = none ∧ ws' = ws) := by
  refine MC.ofV pn_X0 (Nat.le_of_ble_eq_true rfl) ?_
  intro p e s m args below meth c A Q ls cx hR hw hl
  have hx := cx.1
  have hb := cx.2.1
  have hl : lv_has ls 1 [(0, .ref q0)] := hl
  refine lv_aload_n hx hb dX0_init_0 rfl (lv_at hl 0 rfl) ?_
  refine W.objInit hx hb cx.2.2.2.1 (cx.2.2.2.2.1 _ q_134) (cx.2.2.2.2.1 _ q_28) (cx.2.2.2.2.1 _ q_29) rfl (hl.1.trans cx.2.2.1.symm) rfl dX0_init_1 (Nat.le_of_ble_eq_true rfl) (Nat.le_of_ble_eq_true rfl) ?_
  refine W.eq (g2 := F0 m 4 ls []) rfl ?_
  exact hR _ _ _ _ _ hw ⟨rfl, rfl⟩ dX0_init_4
theorem dX4_init_0 : decode cX4_init 0 = .ok (.aload_n 0, 1) := by decide +kernel
theorem dX4_init_1 : decode cX4_init 1 = .ok (.invokespecial 1, 3) := by decide +kernel
theorem dX4_init_4 : decode cX4_init 4 = .ok (.return_, 1) := by decide +kernel
theorem k_X4_init : MI yX4_init cX4_init 1 0 := ⟨q_139, q_5, q_140, rfl, ⟨by decide, by decide, by decide +kernel⟩⟩
theorem c_X4_init {q0 : Nat} : MC l E0 D t yX4_init cX4_init 1 none 2 0 0 [.ref q0] ws (fun v ws' => v = none ∧ ws' = ws) := by
  refine MC.ofV pn_X4 (Nat.le_of_ble_eq_true rfl) ?_
  intro p e s m args below meth c A Q ls cx hR hw hl
  have hx := cx.1
  have hb := cx.2.1
  have hl : lv_has ls 1 [(0, .ref q0)] := hl
  refine lv_aload_n hx hb dX4_init_0 rfl (lv_at hl 0 rfl) ?_
  refine calIN (As := []) (rest := []) cx hw hl.1 (c_X0_init (q0 := q0)) (List.mem_of_getElem? (i := 4) rfl) k_X0_init rfl dX4_init_1 rfl (Nat.le_of_ble_eq_true rfl) ⟨(Nat.le_of_ble_eq_true rfl), (Nat.le_of_ble_eq_true rfl)⟩ ⟨(Nat.le_of_ble_eq_true rfl), (Nat.le_of_ble_eq_true rfl)⟩ (fun v ws' H locs hq hw => ?_)
  obtain ⟨rfl, h9⟩ := hq
  rw [h9] at hw
  exact hR _ _ _ _ _ hw ⟨rfl, rfl⟩ dX4_init_4
theorem dX10_init_0 : decode cX10_init 0 = .ok (.aload_n 0, 1) := by decide +kernel
theorem dX10_init_1 : decode cX10_init 1 = .ok (.invokespecial 1, 3) := by decide +kernel
theorem dX10_init_4 : decode cX10_init 4 = .ok (.return_, 1) := by decide +kernel
theorem k_X10_init : MI yX10_init cX10_init 1 0 := ⟨q_146, q_6, q_147, rfl, ⟨by decide, by decide, by decide +kernel⟩⟩
theorem c_X10_init {q0 : Nat} : MC l E0 D t yX10_init cX10_init 1 none 2 0 0 [.ref q0] ws (fun v ws' => v = none ∧ ws' = ws) := by
  refine MC.ofV pn_X10 (Nat.le_of_ble_eq_true rfl) ?_
  intro p e s m args below meth c A Q ls cx hR hw hl
  have hx := cx.1
  have hb := cx.2.1
  have hl : lv_has ls 1 [(0, .ref q0)] := hl
  refine lv_aload_n hx hb dX10_init_0 rfl (lv_at hl 0 rfl) ?_
  refine calIN (As := []) (rest := []) cx hw hl.1 (c_X0_init (q0 := q0)) (List.mem_of_getElem? (i := 6) rfl) k_X0_init rfl dX10_init_1 rfl (Nat.le_of_ble_eq_true rfl) ⟨(Nat.le_of_ble_eq_true rfl), (Nat.le_of_ble_eq_true rfl)⟩ ⟨(Nat.le_of_ble_eq_true rfl), (Nat.le_of_ble_eq_true rfl)⟩ (fun v ws' H locs hq hw => ?_)
  obtain ⟨rfl, h9⟩ := hq
  rw [h9] at hw
  exact hR _ _ _ _ _ hw ⟨rfl, rfl⟩ dX10_init_4
theorem dX1_init_0 : decode cX1_init 0 = .ok (.aload_n 0, 1) := by decide +kernel
theorem dX1_init_1 : decode cX1_init 1 = .ok (.invokespecial 1, 3) := by decide +kernel
theorem dX1_init_4 : decode cX1_init 4 = .ok (.return_, 1) := by decide +kernel
theorem k_X1_init : MI yX1_init cX1_init 1 0 := ⟨q_153, q_7, q_154, rfl, ⟨by decide, by decide, by decide +kernel⟩⟩
theorem c_X1_init {q0 : Nat} : MC l E0 D t yX1_init cX1_init 1 none 3 0 0 [.ref q0] ws (fun v ws' => v = none ∧ ws' = ws) := by
  refine MC.ofV pn_X1 (Nat.le_of_ble_eq_true rfl) ?_
  intro p e s m args below meth c A Q ls cx hR hw hl
  have hx := cx.1
  have hb := cx.2.1
  have hl : lv_has ls 1 [(0, .ref q0)] := hl
  refine lv_aload_n hx hb dX1_init_0 rfl (lv_at hl 0 rfl) ?_
  refine calIN (As := []) (rest := []) cx hw hl.1 (c_X10_init (q0 := q0)) (List.mem_of_getElem? (i := 8) rfl) k_X10_init rfl dX1_init_1 rfl (Nat.le_of_ble_eq_true rfl) ⟨(Nat.le_of_ble_eq_true rfl), (Nat.le_of_ble_eq_true rfl)⟩ ⟨(Nat.le_of_ble_eq_true rfl), (Nat.le_of_ble_eq_true rfl)⟩ (fun v ws' H locs hq hw => ?_)
  obtain ⟨rfl, h9⟩ := hq
  rw [h9] at hw
  exact hR _ _ _ _ _ hw ⟨rfl, rfl⟩ dX1_init_4
theorem dX3_init_0 : decode cX3_init 0 = .ok (.aload_n 0, 1) := by decide +kernel
theorem dX3_init_1 : decode cX3_init 1 = .ok (.invokespecial 1, 3) := by decide +kernel
theorem dX3_init_4 : decode cX3_init 4 = .ok (.return_, 1) := by decide +kernel
theorem k_X3_init : MI yX3_init cX3_init 1 0 := ⟨q_160, q_8, q_161, rfl, ⟨by decide, by decide, by decide +kernel⟩⟩
theorem c_X3_init {q0 : Nat} : MC l E0 D t yX3_init cX3_init 1 none 2 0 0 [.ref q0] ws (fun v ws' => v = none ∧ ws' = ws) := by
  refine MC.ofV pn_X3 (Nat.le_of_ble_eq_true rfl) ?_
  intro p e s m args below meth c A Q ls cx hR hw hl
  have hx := cx.1
  have hb := cx.2.1
  have hl : lv_has ls 1 [(0, .ref q0)] := hl
  refine lv_aload_n hx hb dX3_init_0 rfl (lv_at hl 0 rfl) ?_
  refine calIN (As := []) (rest := []) cx hw hl.1 (c_X0_init (q0 := q0)) (List.mem_of_getElem? (i := 10) rfl) k_X0_init rfl dX3_init_1 rfl (Nat.le_of_ble_eq_true rfl) ⟨(Nat.le_of_ble_eq_true rfl), (Nat.le_of_ble_eq_true rfl)⟩ ⟨(Nat.le_of_ble_eq_true rfl), (Nat.le_of_ble_eq_true rfl)⟩ (fun v ws' H locs hq hw => ?_)
  obtain ⟨rfl, h9⟩ := hq
  rw [h9] at hw
  exact hR _ _ _ _ _ hw ⟨rfl, rfl⟩ dX3_init_4
theorem dX8_init_0 : decode cX8_init 0 = .ok (.aload_n 0, 1) := by decide +kernel
theorem dX8_init_1 : decode cX8_init 1 = .ok (.invokespecial 1, 3) := by decide +kernel
theorem dX8_init_4 : decode cX8_init 4 = .ok (.return_, 1) := by decide +kernel
theorem k_X8_init : MI yX8_init cX8_init 1 0 := ⟨q_167, q_9, q_168, rfl, ⟨by decide, by decide, by decide +kernel⟩⟩
theorem c_X8_init {q0 : Nat} : MC l E0 D t yX8_init cX8_init 1 none 3 0 0 [.ref q0] ws (fun v ws' => v = none ∧ ws' = ws) := by
  refine MC.ofV pn_X8 (Nat.le_of_ble_eq_true rfl) ?_
  intro p e s m args below meth c A Q ls cx hR hw hl
  have hx := cx.1
  have hb := cx.2.1
  have hl : lv_has ls 1 [(0, .ref q0)] := hl
  refine lv_aload_n hx hb dX8_init_0 rfl (lv_at hl 0 rfl) ?_
  refine calIN (As := []) (rest := []) cx hw hl.1 (c_X3_init (q0 := q0)) (List.mem_of_getElem? (i := 12) rfl) k_X3_init rfl dX8_init_1 rfl (Nat.le_of_ble_eq_true rfl) ⟨(Nat.le_of_ble_eq_true rfl), (Nat.le_of_ble_eq_true rfl)⟩ ⟨(Nat.le_of_ble_eq_true rfl), (Nat.le_of_ble_eq_true rfl)⟩ (fun v ws' H locs hq hw => ?_)
  obtain ⟨rfl, h9⟩ := hq
  rw [h9] at hw
  exact hR _ _ _ _ _ hw ⟨rfl, rfl⟩ dX8_init_4
end KINDS
