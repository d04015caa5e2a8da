def ltab : List Nat := [252, 305, 338, 381, 414, 447, 490, 523, 546, 559, 582, 645, 658, 671, 694, 717, 740, 763, 786, 799, 822, 855, 878, 911, 934, 967, 1000, 1023, 1046, 1099, 1112, 1135, 1148, 1171, 1184, 1217, 1240, 1273, 1316, 1329, 1372, 1415, 1458, 1501, 1544, 1587, 1620, 1663, 1686, 1709, 1722]
def loffs : Array Int := #[220, 273, 306, 349, 382, 415, 458, 491, 514, 527, 550, 613, 626, 639, 662, 685, 708, 731, 754, 767, 790, 823, 846, 879, 902, 935, 968, 991, 1014, 1067, 1080, 1103, 1116, 1139, 1152, 1185, 1208, 1241, 1284, 1297, 1340, 1383, 1426, 1469, 1512, 1555, 1588, 1631, 1654, 1677, 1690]
theorem ltab_ok : ∀ k, k < 51 → loffs[k]? = some ((ltab.getD k 0 : Int) - 32) := by decide +kernel
theorem lc_all : ∀ k, k < 51 → LC (ltab.getD k 0)
  | 0, _ => lc_dial
  | 1, _ => lc_dialOf
  | 2, _ => lc_change
  | 3, _ => lc_remake
  | 4, _ => lc_sky
  | 5, _ => lc_spot
  | 6, _ => lc_spotOf
  | 7, _ => lc_ends
  | 8, _ => lc_anew
  | 9, _ => lc_state
  | 10, _ => lc_feed
  | 11, _ => lc_rules
  | 12, _ => lc_chime
  | 13, _ => lc_on
  | 14, _ => lc_when
  | 15, _ => lc_prideFor
  | 16, _ => lc_spotFor
  | 17, _ => lc_late
  | 18, _ => lc_middle
  | 19, _ => lc_knots
  | 20, _ => lc_seats
  | 21, _ => lc_best
  | 22, _ => lc_ith
  | 23, _ => lc_ways
  | 24, _ => lc_order
  | 25, _ => lc_bars
  | 26, _ => lc_game
  | 27, _ => lc_play
  | 28, _ => lc_report
  | 29, _ => lc_forget
  | 30, _ => lc_lone
  | 31, _ => lc_liar
  | 32, _ => lc_seed
  | 33, _ => lc_lot
  | 34, _ => lc_times
  | 35, _ => lc_prove
  | 36, _ => lc_row
  | 37, _ => lc_alterRow
  | 38, _ => lc_judge
  | 39, _ => lc_sheet
  | 40, _ => lc_write
  | 41, _ => lc_item
  | 42, _ => lc_goAll
  | 43, _ => lc_wouldBe
  | 44, _ => lc_shelf
  | 45, _ => lc_taken
  | 46, _ => lc_act
  | 47, _ => lc_trace
  | 48, _ => lc_many
  | 49, _ => lc_keep
  | 50, _ => lc_again
  | k + 51, h => absurd h (by omega)
theorem dL_sw : decode code 32 = .ok (.tableswitch 1703 0 50 loffs, 220) := dL_32
theorem lim {L k : Nat} (hL : L ≤ 2560) (hk : k ≤ 3000) : jN L - (5 : Int32) < jN k ↔ L < k + 5 := by
  by_cases h : 5 ≤ L
  · rw [show (5 : Int32) = jN 5 from rfl, jN_sub h, jN_lt (by omega) (by omega)]
    omega
  · have h1 : (jN L - (5 : Int32)).toInt = (L : Int) - 5 := by
      rcases (show L = 0 ∨ L = 1 ∨ L = 2 ∨ L = 3 ∨ L = 4 by omega) with rfl | rfl | rfl | rfl | rfl <;> decide
    have h2 : (jN k).toInt = (k : Int) := Int32.toInt_ofNat_of_lt (by omega)
    rw [Int32.lt_iff_toInt_lt, h1, h2]
    omega
section LOOP
variable {p : Program} {l : Launch} {e : Env} {s : State} {m : MethodId} {below : List Frame} {meth : Method} {c : Code} {b L : Nat} {xs : Nat → Int32} {D : va_G} {t : Nat → ClassId} {sa sv : Nat} {nm : String}
theorem law_loop (cx : Cx (EW sa sv) D t p s m #[Value.ref b] meth c code RL nm 4 (fun q => s.heap.size ≤ q)) (hX : va_X b L xs s s.heap) (hbl : b < s.heap.size) (hL : L ≤ 2560) (hr : meth.sig.returnType = ret) (hlocks : meth.locks = false) :
    ∀ (n k : Nat) (a am : Nat → Nat) (wc wm : va_W) (H : Heap) (locs : List Loc) (ls : Array Slot) (cells slots : Nat), L ≤ 5 * (k + n) → 5 * k ≤ L + 4 → cells ≤ 200 + 6 * k → slots ≤ 4000 + 247 * k → INW a am t wc wm → Wd D (fun q => s.heap.size ≤ q) s (wc ++ wm) H locs → lv_has ls 4 [(0, .ref b), (1, .ref (a 0)), (2, .ref (am 0)), (3, .int (jN (5 * k)))] →
      W p l e room_1 s m #[Value.ref b] below meth c H locs cells slots (lw_Z below #[Value.ref b] s) (F0 m 18 ls []) := by
  intro n
  induction n with
  | zero =>
    intro k a am wc wm H locs ls cells slots h1 h2 h3 h4 hI hw hl
    have hx := cx.1
    have hb := cx.2.1
    refine lv_iload_n hx hb dL_18 rfl (lv_at hl 3 rfl) ?_
    refine lv_aload_n hx hb dL_19 rfl (lv_at hl 0 rfl) ?_
    refine va_slen hx hb hX hbl (Nat.not_le.mpr hbl) hw.2.2 dL_20 ?_
    refine lv_iconst (v := 5) hx hb dL_21 (by decide) ?_
    refine lv_isub hx hb dL_22 ?_
    refine lv_icmp_gt (tgt := 1741) hx hb dL_23 (by decide +kernel) (fun hc => ?_) (fun hc => absurd ((lim hL (by omega)).mpr (by omega)) hc)
    refine lv_iconst (v := 1) hx hb dL_1741 (by decide) ?_
    refine va_forget hw.2.2.2.2 ?_
    refine W.widen (k := 629818) (n := 7212793) (by omega) (by omega) ?_
    exact lw_ret hx hb hr hlocks dL_1742
  | succ n ih =>
    intro k a am wc wm H locs ls cells slots h1 h2 h3 h4 hI hw hl
    have hx := cx.1
    have hb := cx.2.1
    refine lv_iload_n hx hb dL_18 rfl (lv_at hl 3 rfl) ?_
    refine lv_aload_n hx hb dL_19 rfl (lv_at hl 0 rfl) ?_
    refine va_slen hx hb hX hbl (Nat.not_le.mpr hbl) hw.2.2 dL_20 ?_
    refine lv_iconst (v := 5) hx hb dL_21 (by decide) ?_
    refine lv_isub hx hb dL_22 ?_
    refine lv_icmp_gt (tgt := 1741) hx hb dL_23 (by decide +kernel) (fun hc => ?_) (fun hc => ?_)
    · refine lv_iconst (v := 1) hx hb dL_1741 (by decide) ?_
      refine va_forget hw.2.2.2.2 ?_
      refine W.widen (k := 629818) (n := 7212793) (by omega) (by omega) ?_
      exact lw_ret hx hb hr hlocks dL_1742
    · have h5 : 5 * k + 5 ≤ L := Nat.not_lt.mp (fun h => hc ((lim hL (by omega)).mpr h))
      refine lv_aload_n hx hb dL_26 rfl (lv_at hl 0 rfl) ?_
      refine lv_iload_n hx hb dL_27 rfl (lv_at hl 3 rfl) ?_
      refine va_sld hx hb hX hbl (Nat.not_le.mpr hbl) hw.2.2 (ib_in (ib_T (show 5 * k < L by omega) (by omega))) dL_28 ?_
      refine lv_bipush (v := 63) hx hb dL_29 (by decide) ?_
      refine lv_iand hx hb dL_31 ?_
      obtain ⟨j, hj, ej⟩ := and63 (xs (jN (5 * k)).toNatClampNeg)
      rw [ej]
      have ji : (jN j).toInt = (j : Int) := Int32.toInt_ofNat_of_lt (by omega)
      have step : ∀ (wc' wm' : va_W) (H' : Heap) (locs' : List Loc), INW a am t wc' wm' → Wd D (fun q => s.heap.size ≤ q) s (wc' ++ wm') H' locs' → W p l e room_1 s m #[Value.ref b] below meth c H' locs' (cells + 6) (slots + 247) (lw_Z below #[Value.ref b] s) (F0 m 1735 ls []) := by
        intro wc' wm' H' locs' hI' hw'
        refine lv_iinc (v := jN (5 * (k + 1))) (lv' := [(3, .int (jN (5 * (k + 1)))), (0, .ref b), (1, .ref (a 0)), (2, .ref (am 0))]) hx hb dL_1735 hl (k := 3) rfl (by show jN (5 * k) + jN 5 = _; rw [jN_add]; rfl) (by decide) rfl (fun ls hl => ?_)
        refine lv_goto (tgt := 18) hx hb dL_1738 (by decide +kernel) ?_
        exact ih (k + 1) a am wc' wm' H' locs' ls _ _ (by omega) (by omega) (by omega) (by omega) hI' hw' (lv_sub hl [1, 2, 3, 0] rfl)
      by_cases hj2 : j < 51
      · refine lv_tableIn (off := (ltab.getD j 0 : Int) - 32) (tgt := ltab.getD j 0) hx hb dL_sw (by rw [ji]; omega) (by rw [ji]; omega) (by rw [ji, show ((j : Int) - 0).toNat = j by omega]; exact ltab_ok j hj2) (by omega) ?_
        exact lc_all j hj2 p l e s m below meth c b L xs D t sa sv nm _ a am wc wm H locs ls (5 * k) cells slots cx hX hbl hL (by omega) hI hw hl (by omega) (by omega) step
      · refine lv_tableOut (tgt := 1735) hx hb dL_sw (by rw [ji]; omega) (by decide +kernel) ?_
        exact W.widen (k := cells + 6) (n := slots + 247) (by omega) (by omega) (step wc wm H locs hI hw)
end LOOP
