section SI
variable {l : Launch} {D : va_G} {t : Nat → ClassId} {a am : Nat → Nat} {sa sv : Nat} {wc wm : va_W}
theorem INW.c0 (hI : INW a am t wc wm) : ∃ fs, wc[0]? = some (a 0, .inr (11, fs)) := by
  obtain ⟨ar, bf, bg, bi, bl, bn, rfl, rfl, -⟩ := hI
  exact ⟨_, rfl⟩
theorem INW.m0 (hI : INW a am t wc wm) : ∃ fs, wm[0]? = some (am 0, .inr (12, fs)) := by
  obtain ⟨ar, bf, bg, bi, bl, bn, rfl, rfl, -⟩ := hI
  exact ⟨_, rfl⟩
theorem si_dial (hI : INW a am t wc wm) (v1 : Int32) (v2 : Int32) (v3 : Int32) (v4 : Int32) : ∃ (r : Int32) (wm' : va_W) (Qv : Option Value → va_W → Prop), MC l E0 D t yX11_dial cX11_dial 5 (some .int) 3 0 0 [.ref (a 0), .int v1, .int v2, .int v3, .int v4] wc Qv ∧ MC l E0 D t yX12_dial cX12_dial 6 (some .int) 3 0 0 [.ref (am 0), .int v1, .int v2, .int v3, .int v4] wm (Qi r wm') ∧ ∀ v w, Qv v w → v = some (.int r) ∧ INW a am t w wm' := by
  obtain ⟨ar, bf, bg, bi, bl, bn, rfl, rfl, hlt, hik, hq, h1, h2, hp, hT, hh⟩ := hI
  exact st_dial hlt hik hq h1 h2 hp hT hh v1 v2 v3 v4
theorem si_dialOf (hI : INW a am t wc wm) (v1 : Int32) (v2 : Int32) : ∃ (r : Int32) (wm' : va_W) (Qv : Option Value → va_W → Prop), MC l E0 D t yX11_dialOf cX11_dialOf 3 (some .int) 6 0 0 [.ref (a 0), .int v1, .int v2] wc Qv ∧ MC l E0 D t yX12_dialOf cX12_dialOf 3 (some .int) 6 0 0 [.ref (am 0), .int v1, .int v2] wm (Qi r wm') ∧ ∀ v w, Qv v w → v = some (.int r) ∧ INW a am t w wm' := by
  obtain ⟨ar, bf, bg, bi, bl, bn, rfl, rfl, hlt, hik, hq, h1, h2, hp, hT, hh⟩ := hI
  exact st_dialOf hlt hik hq h1 h2 hp hT hh v1 v2
theorem si_change (hI : INW a am t wc wm) (v1 : Int32) (v2 : Int32) (v3 : Int32) : ∃ (r : Int32) (wm' : va_W) (Qv : Option Value → va_W → Prop), MC l E0 D t yX11_change cX11_change 5 (some .int) 2 0 0 [.ref (a 0), .int v1, .int v2, .int v3] wc Qv ∧ MC l E0 D t yX12_change cX12_change 5 (some .int) 3 0 0 [.ref (am 0), .int v1, .int v2, .int v3] wm (Qi r wm') ∧ ∀ v w, Qv v w → v = some (.int r) ∧ INW a am t w wm' := by
  obtain ⟨ar, bf, bg, bi, bl, bn, rfl, rfl, hlt, hik, hq, h1, h2, hp, hT, hh⟩ := hI
  exact st_change hlt hik hq h1 h2 hp hT hh v1 v2 v3
theorem si_remake (hI : INW a am t wc wm) (v1 : Int32) (v2 : Int32) : ∃ (r : Int32) (wm' : va_W) (Qv : Option Value → va_W → Prop), MC l E0 D t yX11_remake cX11_remake 4 (some .int) 2 0 0 [.ref (a 0), .int v1, .int v2] wc Qv ∧ MC l E0 D t yX12_remake cX12_remake 3 (some .int) 3 0 0 [.ref (am 0), .int v1, .int v2] wm (Qi r wm') ∧ ∀ v w, Qv v w → v = some (.int r) ∧ INW a am t w wm' := by
  obtain ⟨ar, bf, bg, bi, bl, bn, rfl, rfl, hlt, hik, hq, h1, h2, hp, hT, hh⟩ := hI
  exact st_remake hlt hik hq h1 h2 hp hT hh v1 v2
theorem si_sky (hI : INW a am t wc wm) (v1 : Int32) (v2 : Int32) : ∃ (r : Int32) (wm' : va_W) (Qv : Option Value → va_W → Prop), MC l E0 D t yX11_sky cX11_sky 4 (some .int) 2 0 0 [.ref (a 0), .int v1, .int v2] wc Qv ∧ MC l E0 D t yX12_sky cX12_sky 3 (some .int) 2 0 0 [.ref (am 0), .int v1, .int v2] wm (Qi r wm') ∧ ∀ v w, Qv v w → v = some (.int r) ∧ INW a am t w wm' := by
  obtain ⟨ar, bf, bg, bi, bl, bn, rfl, rfl, hlt, hik, hq, h1, h2, hp, hT, hh⟩ := hI
  exact st_sky hlt hik hq h1 h2 hp hT hh v1 v2
theorem si_spot (hI : INW a am t wc wm) (v1 : Int32) (v2 : Int32) (v3 : Int32) : ∃ (r : Int32) (wm' : va_W) (Qv : Option Value → va_W → Prop), MC l E0 D t yX11_spot cX11_spot 5 (some .int) 3 0 0 [.ref (a 0), .int v1, .int v2, .int v3] wc Qv ∧ MC l E0 D t yX12_spot cX12_spot 4 (some .int) 3 0 0 [.ref (am 0), .int v1, .int v2, .int v3] wm (Qi r wm') ∧ ∀ v w, Qv v w → v = some (.int r) ∧ INW a am t w wm' := by
  obtain ⟨ar, bf, bg, bi, bl, bn, rfl, rfl, hlt, hik, hq, h1, h2, hp, hT, hh⟩ := hI
  exact st_spot hlt hik hq h1 h2 hp hT hh v1 v2 v3
theorem si_spotOf (hI : INW a am t wc wm) (v1 : Int32) (v2 : Int32) : ∃ (r : Int32) (wm' : va_W) (Qv : Option Value → va_W → Prop), MC l E0 D t yX11_spotOf cX11_spotOf 3 (some .int) 5 0 0 [.ref (a 0), .int v1, .int v2] wc Qv ∧ MC l E0 D t yX12_spotOf cX12_spotOf 3 (some .int) 4 0 0 [.ref (am 0), .int v1, .int v2] wm (Qi r wm') ∧ ∀ v w, Qv v w → v = some (.int r) ∧ INW a am t w wm' := by
  obtain ⟨ar, bf, bg, bi, bl, bn, rfl, rfl, hlt, hik, hq, h1, h2, hp, hT, hh⟩ := hI
  exact st_spotOf hlt hik hq h1 h2 hp hT hh v1 v2
theorem si_ends (hI : INW a am t wc wm) (v1 : Int32) : ∃ (r : Int32) (wm' : va_W) (Qv : Option Value → va_W → Prop), MC l E0 D t yX11_ends cX11_ends 3 (some .int) 2 0 0 [.ref (a 0), .int v1] wc Qv ∧ MC l E0 D t yX12_ends cX12_ends 2 (some .int) 2 0 0 [.ref (am 0), .int v1] wm (Qi r wm') ∧ ∀ v w, Qv v w → v = some (.int r) ∧ INW a am t w wm' := by
  obtain ⟨ar, bf, bg, bi, bl, bn, rfl, rfl, hlt, hik, hq, h1, h2, hp, hT, hh⟩ := hI
  exact st_ends hlt hik hq h1 h2 hp hT hh v1
theorem si_anew (hI : INW a am t wc wm) : ∃ (r : Int32) (wm' : va_W) (Qv : Option Value → va_W → Prop), MC l E0 D t yX11_anew cX11_anew 3 (some .int) 1 0 0 [.ref (a 0)] wc Qv ∧ MC l E0 D t yX12_anew cX12_anew 2 (some .int) 2 0 0 [.ref (am 0)] wm (Qi r wm') ∧ ∀ v w, Qv v w → v = some (.int r) ∧ INW a am t w wm' := by
  obtain ⟨ar, bf, bg, bi, bl, bn, rfl, rfl, hlt, hik, hq, h1, h2, hp, hT, hh⟩ := hI
  exact st_anew hlt hik hq h1 h2 hp hT hh
theorem si_state (hI : INW a am t wc wm) (v1 : Int32) : ∃ (r : Int32) (wm' : va_W) (Qv : Option Value → va_W → Prop), MC l E0 D t yX11_state cX11_state 2 (some .int) 3 0 0 [.ref (a 0), .int v1] wc Qv ∧ MC l E0 D t yX12_state cX12_state 2 (some .int) 4 0 0 [.ref (am 0), .int v1] wm (Qi r wm') ∧ ∀ v w, Qv v w → v = some (.int r) ∧ INW a am t w wm' := by
  obtain ⟨ar, bf, bg, bi, bl, bn, rfl, rfl, hlt, hik, hq, h1, h2, hp, hT, hh⟩ := hI
  exact st_state hlt hik hq h1 h2 hp hT hh v1
theorem si_feed (hI : INW a am t wc wm) (v1 : Int64) (v3 : Int32) : ∃ (r : Int32) (wm' : va_W) (Qv : Option Value → va_W → Prop), MC l E0 D t yX11_feed cX11_feed 4 (some .int) 2 0 0 [.ref (a 0), .long v1, .int v3] wc Qv ∧ MC l E0 D t yX12_feed cX12_feed 5 (some .int) 2 0 0 [.ref (am 0), .long v1, .int v3] wm (Qi r wm') ∧ ∀ v w, Qv v w → v = some (.int r) ∧ INW a am t w wm' := by
  obtain ⟨ar, bf, bg, bi, bl, bn, rfl, rfl, hlt, hik, hq, h1, h2, hp, hT, hh⟩ := hI
  exact st_feed hlt hik hq h1 h2 hp hT hh v1 v3
theorem si_rules (hI : INW a am t wc wm) : ∃ (r : Int32) (wm' : va_W) (Qv : Option Value → va_W → Prop), MC l (EW sa sv) D t yX11_rules cX11_rules 2 (some .int) 87 6 247 [.ref (a 0)] wc Qv ∧ MC l E0 D t yX12_rules cX12_rules 4 (some .int) 89 0 0 [.ref (am 0)] wm (Qi r wm') ∧ ∀ v w, Qv v w → v = some (.int r) ∧ INW a am t w wm' := by
  obtain ⟨ar, bf, bg, bi, bl, bn, rfl, rfl, hlt, hik, hq, h1, h2, hp, hT, hh⟩ := hI
  exact st_rules hlt hik hq h1 h2 hp hT hh
theorem si_chime (hI : INW a am t wc wm) : ∃ (r : Int32) (wm' : va_W) (Qv : Option Value → va_W → Prop), MC l E0 D t yX11_chime cX11_chime 1 (some .int) 7 0 0 [.ref (a 0)] wc Qv ∧ MC l E0 D t yX12_chime cX12_chime 1 (some .int) 8 0 0 [.ref (am 0)] wm (Qi r wm') ∧ ∀ v w, Qv v w → v = some (.int r) ∧ INW a am t w wm' := by
  obtain ⟨ar, bf, bg, bi, bl, bn, rfl, rfl, hlt, hik, hq, h1, h2, hp, hT, hh⟩ := hI
  exact st_chime hlt hik hq h1 h2 hp hT hh
theorem si_on (hI : INW a am t wc wm) (v1 : Int32) : ∃ (r : Int32) (wm' : va_W) (Qv : Option Value → va_W → Prop), MC l E0 D t yX11_on cX11_on 2 (some .int) 7 0 0 [.ref (a 0), .int v1] wc Qv ∧ MC l E0 D t yX12_on cX12_on 3 (some .int) 9 0 0 [.ref (am 0), .int v1] wm (Qi r wm') ∧ ∀ v w, Qv v w → v = some (.int r) ∧ INW a am t w wm' := by
  obtain ⟨ar, bf, bg, bi, bl, bn, rfl, rfl, hlt, hik, hq, h1, h2, hp, hT, hh⟩ := hI
  exact st_on hlt hik hq h1 h2 hp hT hh v1
theorem si_when (hI : INW a am t wc wm) (v1 : Int32) : ∃ (r : Int32) (wm' : va_W) (Qv : Option Value → va_W → Prop), MC l E0 D t yX11_when cX11_when 3 (some .int) 7 0 0 [.ref (a 0), .int v1] wc Qv ∧ MC l E0 D t yX12_when cX12_when 5 (some .int) 8 0 0 [.ref (am 0), .int v1] wm (Qi r wm') ∧ ∀ v w, Qv v w → v = some (.int r) ∧ INW a am t w wm' := by
  obtain ⟨ar, bf, bg, bi, bl, bn, rfl, rfl, hlt, hik, hq, h1, h2, hp, hT, hh⟩ := hI
  exact st_when hlt hik hq h1 h2 hp hT hh v1
theorem si_prideFor (hI : INW a am t wc wm) (v1 : Int32) : ∃ (r : Int32) (wm' : va_W) (Qv : Option Value → va_W → Prop), MC l E0 D t yX11_prideFor cX11_prideFor 2 (some .int) 8 0 0 [.ref (a 0), .int v1] wc Qv ∧ MC l E0 D t yX12_prideFor cX12_prideFor 2 (some .int) 10 0 0 [.ref (am 0), .int v1] wm (Qi r wm') ∧ ∀ v w, Qv v w → v = some (.int r) ∧ INW a am t w wm' := by
  obtain ⟨ar, bf, bg, bi, bl, bn, rfl, rfl, hlt, hik, hq, h1, h2, hp, hT, hh⟩ := hI
  exact st_prideFor hlt hik hq h1 h2 hp hT hh v1
theorem si_spotFor (hI : INW a am t wc wm) (v1 : Int32) : ∃ (r : Int32) (wm' : va_W) (Qv : Option Value → va_W → Prop), MC l E0 D t yX11_spotFor cX11_spotFor 2 (some .int) 8 0 0 [.ref (a 0), .int v1] wc Qv ∧ MC l E0 D t yX12_spotFor cX12_spotFor 2 (some .int) 10 0 0 [.ref (am 0), .int v1] wm (Qi r wm') ∧ ∀ v w, Qv v w → v = some (.int r) ∧ INW a am t w wm' := by
  obtain ⟨ar, bf, bg, bi, bl, bn, rfl, rfl, hlt, hik, hq, h1, h2, hp, hT, hh⟩ := hI
  exact st_spotFor hlt hik hq h1 h2 hp hT hh v1
theorem si_late (hI : INW a am t wc wm) (v1 : Int32) : ∃ (r : Int32) (wm' : va_W) (Qv : Option Value → va_W → Prop), MC l E0 D t yX11_late cX11_late 3 (some .int) 7 0 0 [.ref (a 0), .int v1] wc Qv ∧ MC l E0 D t yX12_late cX12_late 4 (some .int) 8 0 0 [.ref (am 0), .int v1] wm (Qi r wm') ∧ ∀ v w, Qv v w → v = some (.int r) ∧ INW a am t w wm' := by
  obtain ⟨ar, bf, bg, bi, bl, bn, rfl, rfl, hlt, hik, hq, h1, h2, hp, hT, hh⟩ := hI
  exact st_late hlt hik hq h1 h2 hp hT hh v1
theorem si_middle (hI : INW a am t wc wm) : ∃ (r : Int32) (wm' : va_W) (Qv : Option Value → va_W → Prop), MC l E0 D t yX11_middle cX11_middle 5 (some .int) 2 0 0 [.ref (a 0)] wc Qv ∧ MC l E0 D t yX12_middle cX12_middle 6 (some .int) 2 0 0 [.ref (am 0)] wm (Qi r wm') ∧ ∀ v w, Qv v w → v = some (.int r) ∧ INW a am t w wm' := by
  obtain ⟨ar, bf, bg, bi, bl, bn, rfl, rfl, hlt, hik, hq, h1, h2, hp, hT, hh⟩ := hI
  exact st_middle hlt hik hq h1 h2 hp hT hh
theorem si_knots (hI : INW a am t wc wm) (v1 : Int32) : ∃ (r : Int32) (wm' : va_W) (Qv : Option Value → va_W → Prop), MC l E0 D t yX11_knots cX11_knots 2 (some .int) 5 0 0 [.ref (a 0), .int v1] wc Qv ∧ MC l E0 D t yX12_knots cX12_knots 5 (some .int) 5 0 0 [.ref (am 0), .int v1] wm (Qi r wm') ∧ ∀ v w, Qv v w → v = some (.int r) ∧ INW a am t w wm' := by
  obtain ⟨ar, bf, bg, bi, bl, bn, rfl, rfl, hlt, hik, hq, h1, h2, hp, hT, hh⟩ := hI
  exact st_knots hlt hik hq h1 h2 hp hT hh v1
theorem si_seats (hI : INW a am t wc wm) (v1 : Int32) (v2 : Int32) : ∃ (r : Int32) (wm' : va_W) (Qv : Option Value → va_W → Prop), MC l E0 D t yX11_seats cX11_seats 8 (some .int) 6 0 0 [.ref (a 0), .int v1, .int v2] wc Qv ∧ MC l E0 D t yX12_seats cX12_seats 10 (some .int) 4 0 0 [.ref (am 0), .int v1, .int v2] wm (Qi r wm') ∧ ∀ v w, Qv v w → v = some (.int r) ∧ INW a am t w wm' := by
  obtain ⟨ar, bf, bg, bi, bl, bn, rfl, rfl, hlt, hik, hq, h1, h2, hp, hT, hh⟩ := hI
  exact st_seats hlt hik hq h1 h2 hp hT hh v1 v2
theorem si_best (hI : INW a am t wc wm) (v1 : Int32) : ∃ (r : Int32) (wm' : va_W) (Qv : Option Value → va_W → Prop), MC l E0 D t yX11_best cX11_best 2 (some .int) 32 0 0 [.ref (a 0), .int v1] wc Qv ∧ MC l E0 D t yX12_best cX12_best 2 (some .int) 34 0 0 [.ref (am 0), .int v1] wm (Qi r wm') ∧ ∀ v w, Qv v w → v = some (.int r) ∧ INW a am t w wm' := by
  obtain ⟨ar, bf, bg, bi, bl, bn, rfl, rfl, hlt, hik, hq, h1, h2, hp, hT, hh⟩ := hI
  exact st_best hlt hik hq h1 h2 hp hT hh v1
theorem si_ith (hI : INW a am t wc wm) (v1 : Int32) (v2 : Int32) : ∃ (r : Int32) (wm' : va_W) (Qv : Option Value → va_W → Prop), MC l E0 D t yX11_ith cX11_ith 3 (some .int) 32 0 0 [.ref (a 0), .int v1, .int v2] wc Qv ∧ MC l E0 D t yX12_ith cX12_ith 3 (some .int) 34 0 0 [.ref (am 0), .int v1, .int v2] wm (Qi r wm') ∧ ∀ v w, Qv v w → v = some (.int r) ∧ INW a am t w wm' := by
  obtain ⟨ar, bf, bg, bi, bl, bn, rfl, rfl, hlt, hik, hq, h1, h2, hp, hT, hh⟩ := hI
  exact st_ith hlt hik hq h1 h2 hp hT hh v1 v2
theorem si_ways (hI : INW a am t wc wm) (v1 : Int32) : ∃ (r : Int32) (wm' : va_W) (Qv : Option Value → va_W → Prop), MC l E0 D t yX11_ways cX11_ways 2 (some .int) 32 0 0 [.ref (a 0), .int v1] wc Qv ∧ MC l E0 D t yX12_ways cX12_ways 2 (some .int) 34 0 0 [.ref (am 0), .int v1] wm (Qi r wm') ∧ ∀ v w, Qv v w → v = some (.int r) ∧ INW a am t w wm' := by
  obtain ⟨ar, bf, bg, bi, bl, bn, rfl, rfl, hlt, hik, hq, h1, h2, hp, hT, hh⟩ := hI
  exact st_ways hlt hik hq h1 h2 hp hT hh v1
theorem si_order (hI : INW a am t wc wm) (v1 : Int32) (v2 : Int32) : ∃ (r : Int32) (wm' : va_W) (Qv : Option Value → va_W → Prop), MC l E0 D t yX11_order cX11_order 3 (some .int) 32 0 0 [.ref (a 0), .int v1, .int v2] wc Qv ∧ MC l E0 D t yX12_order cX12_order 3 (some .int) 34 0 0 [.ref (am 0), .int v1, .int v2] wm (Qi r wm') ∧ ∀ v w, Qv v w → v = some (.int r) ∧ INW a am t w wm' := by
  obtain ⟨ar, bf, bg, bi, bl, bn, rfl, rfl, hlt, hik, hq, h1, h2, hp, hT, hh⟩ := hI
  exact st_order hlt hik hq h1 h2 hp hT hh v1 v2
theorem si_bars (hI : INW a am t wc wm) (v1 : Int32) (v2 : Int32) : ∃ (r : Int32) (wm' : va_W) (Qv : Option Value → va_W → Prop), MC l E0 D t yX11_bars cX11_bars 5 (some .int) 32 0 0 [.ref (a 0), .int v1, .int v2] wc Qv ∧ MC l E0 D t yX12_bars cX12_bars 5 (some .int) 34 0 0 [.ref (am 0), .int v1, .int v2] wm (Qi r wm') ∧ ∀ v w, Qv v w → v = some (.int r) ∧ INW a am t w wm' := by
  obtain ⟨ar, bf, bg, bi, bl, bn, rfl, rfl, hlt, hik, hq, h1, h2, hp, hT, hh⟩ := hI
  exact st_bars hlt hik hq h1 h2 hp hT hh v1 v2
theorem si_game (hI : INW a am t wc wm) (v1 : Int32) : ∃ (r : Int32) (wm' : va_W) (Qv : Option Value → va_W → Prop), MC l E0 D t yX11_game cX11_game 2 (some .int) 32 0 0 [.ref (a 0), .int v1] wc Qv ∧ MC l E0 D t yX12_game cX12_game 2 (some .int) 33 0 0 [.ref (am 0), .int v1] wm (Qi r wm') ∧ ∀ v w, Qv v w → v = some (.int r) ∧ INW a am t w wm' := by
  obtain ⟨ar, bf, bg, bi, bl, bn, rfl, rfl, hlt, hik, hq, h1, h2, hp, hT, hh⟩ := hI
  exact st_game hlt hik hq h1 h2 hp hT hh v1
theorem si_play (hI : INW a am t wc wm) (v1 : Int32) : ∃ (r : Int32) (wm' : va_W) (Qv : Option Value → va_W → Prop), MC l E0 D t yX11_play cX11_play 2 (some .int) 32 0 0 [.ref (a 0), .int v1] wc Qv ∧ MC l E0 D t yX12_play cX12_play 3 (some .int) 33 0 0 [.ref (am 0), .int v1] wm (Qi r wm') ∧ ∀ v w, Qv v w → v = some (.int r) ∧ INW a am t w wm' := by
  obtain ⟨ar, bf, bg, bi, bl, bn, rfl, rfl, hlt, hik, hq, h1, h2, hp, hT, hh⟩ := hI
  exact st_play hlt hik hq h1 h2 hp hT hh v1
theorem si_report (hI : INW a am t wc wm) (v1 : Int32) (v2 : Int32) (v3 : Int32) (v4 : Int32) : ∃ (r : Int32) (wm' : va_W) (Qv : Option Value → va_W → Prop), MC l E0 D t yX11_report cX11_report 5 (some .int) 2 0 0 [.ref (a 0), .int v1, .int v2, .int v3, .int v4] wc Qv ∧ MC l E0 D t yX12_report cX12_report 7 (some .int) 2 0 0 [.ref (am 0), .int v1, .int v2, .int v3, .int v4] wm (Qi r wm') ∧ ∀ v w, Qv v w → v = some (.int r) ∧ INW a am t w wm' := by
  obtain ⟨ar, bf, bg, bi, bl, bn, rfl, rfl, hlt, hik, hq, h1, h2, hp, hT, hh⟩ := hI
  exact st_report hlt hik hq h1 h2 hp hT hh v1 v2 v3 v4
theorem si_forget (hI : INW a am t wc wm) : ∃ (r : Int32) (wm' : va_W) (Qv : Option Value → va_W → Prop), MC l E0 D t yX11_forget cX11_forget 2 (some .int) 1 0 0 [.ref (a 0)] wc Qv ∧ MC l E0 D t yX12_forget cX12_forget 1 (some .int) 2 0 0 [.ref (am 0)] wm (Qi r wm') ∧ ∀ v w, Qv v w → v = some (.int r) ∧ INW a am t w wm' := by
  obtain ⟨ar, bf, bg, bi, bl, bn, rfl, rfl, hlt, hik, hq, h1, h2, hp, hT, hh⟩ := hI
  exact st_forget hlt hik hq h1 h2 hp hT hh
theorem si_lone (hI : INW a am t wc wm) (v1 : Int32) : ∃ (r : Int32) (wm' : va_W) (Qv : Option Value → va_W → Prop), MC l E0 D t yX11_lone cX11_lone 5 (some .int) 6 0 0 [.ref (a 0), .int v1] wc Qv ∧ MC l E0 D t yX12_lone cX12_lone 3 (some .int) 4 0 0 [.ref (am 0), .int v1] wm (Qi r wm') ∧ ∀ v w, Qv v w → v = some (.int r) ∧ INW a am t w wm' := by
  obtain ⟨ar, bf, bg, bi, bl, bn, rfl, rfl, hlt, hik, hq, h1, h2, hp, hT, hh⟩ := hI
  exact st_lone hlt hik hq h1 h2 hp hT hh v1
theorem si_liar (hI : INW a am t wc wm) : ∃ (r : Int32) (wm' : va_W) (Qv : Option Value → va_W → Prop), MC l E0 D t yX11_liar cX11_liar 4 (some .int) 6 0 0 [.ref (a 0)] wc Qv ∧ MC l E0 D t yX12_liar cX12_liar 2 (some .int) 4 0 0 [.ref (am 0)] wm (Qi r wm') ∧ ∀ v w, Qv v w → v = some (.int r) ∧ INW a am t w wm' := by
  obtain ⟨ar, bf, bg, bi, bl, bn, rfl, rfl, hlt, hik, hq, h1, h2, hp, hT, hh⟩ := hI
  exact st_liar hlt hik hq h1 h2 hp hT hh
theorem si_seed (hI : INW a am t wc wm) (v1 : Int32) : ∃ (r : Int32) (wm' : va_W) (Qv : Option Value → va_W → Prop), MC l E0 D t yX11_seed cX11_seed 3 (some .int) 1 0 0 [.ref (a 0), .int v1] wc Qv ∧ MC l E0 D t yX12_seed cX12_seed 2 (some .int) 2 0 0 [.ref (am 0), .int v1] wm (Qi r wm') ∧ ∀ v w, Qv v w → v = some (.int r) ∧ INW a am t w wm' := by
  obtain ⟨ar, bf, bg, bi, bl, bn, rfl, rfl, hlt, hik, hq, h1, h2, hp, hT, hh⟩ := hI
  exact st_seed hlt hik hq h1 h2 hp hT hh v1
theorem si_lot (hI : INW a am t wc wm) : ∃ (r : Int32) (wm' : va_W) (Qv : Option Value → va_W → Prop), MC l E0 D t yX11_lot cX11_lot 1 (some .int) 7 0 0 [.ref (a 0)] wc Qv ∧ MC l E0 D t yX12_lot cX12_lot 1 (some .int) 9 0 0 [.ref (am 0)] wm (Qi r wm') ∧ ∀ v w, Qv v w → v = some (.int r) ∧ INW a am t w wm' := by
  obtain ⟨ar, bf, bg, bi, bl, bn, rfl, rfl, hlt, hik, hq, h1, h2, hp, hT, hh⟩ := hI
  exact st_lot hlt hik hq h1 h2 hp hT hh
theorem si_times (hI : INW a am t wc wm) (v1 : Int32) (v2 : Int32) : ∃ (r : Int32) (wm' : va_W) (Qv : Option Value → va_W → Prop), MC l E0 D t yX11_times cX11_times 5 (some .int) 7 0 0 [.ref (a 0), .int v1, .int v2] wc Qv ∧ MC l E0 D t yX12_times cX12_times 7 (some .int) 9 0 0 [.ref (am 0), .int v1, .int v2] wm (Qi r wm') ∧ ∀ v w, Qv v w → v = some (.int r) ∧ INW a am t w wm' := by
  obtain ⟨ar, bf, bg, bi, bl, bn, rfl, rfl, hlt, hik, hq, h1, h2, hp, hT, hh⟩ := hI
  exact st_times hlt hik hq h1 h2 hp hT hh v1 v2
theorem si_prove (hI : INW a am t wc wm) (v1 : Int32) : ∃ (r : Int32) (wm' : va_W) (Qv : Option Value → va_W → Prop), MC l E0 D t yX11_prove cX11_prove 2 (some .int) 32 0 0 [.ref (a 0), .int v1] wc Qv ∧ MC l E0 D t yX12_prove cX12_prove 3 (some .int) 34 0 0 [.ref (am 0), .int v1] wm (Qi r wm') ∧ ∀ v w, Qv v w → v = some (.int r) ∧ INW a am t w wm' := by
  obtain ⟨ar, bf, bg, bi, bl, bn, rfl, rfl, hlt, hik, hq, h1, h2, hp, hT, hh⟩ := hI
  exact st_prove hlt hik hq h1 h2 hp hT hh v1
theorem si_row (hI : INW a am t wc wm) (v1 : Int32) (v2 : Int32) : ∃ (r : Int32) (wm' : va_W) (Qv : Option Value → va_W → Prop), MC l E0 D t yX11_row cX11_row 3 (some .int) 2 0 0 [.ref (a 0), .int v1, .int v2] wc Qv ∧ MC l E0 D t yX12_row cX12_row 3 (some .int) 3 0 0 [.ref (am 0), .int v1, .int v2] wm (Qi r wm') ∧ ∀ v w, Qv v w → v = some (.int r) ∧ INW a am t w wm' := by
  obtain ⟨ar, bf, bg, bi, bl, bn, rfl, rfl, hlt, hik, hq, h1, h2, hp, hT, hh⟩ := hI
  exact st_row hlt hik hq h1 h2 hp hT hh v1 v2
theorem si_alterRow (hI : INW a am t wc wm) (v1 : Int32) (v2 : Int32) (v3 : Int32) : ∃ (r : Int32) (wm' : va_W) (Qv : Option Value → va_W → Prop), MC l E0 D t yX11_alterRow cX11_alterRow 5 (some .int) 2 0 0 [.ref (a 0), .int v1, .int v2, .int v3] wc Qv ∧ MC l E0 D t yX12_alterRow cX12_alterRow 5 (some .int) 3 0 0 [.ref (am 0), .int v1, .int v2, .int v3] wm (Qi r wm') ∧ ∀ v w, Qv v w → v = some (.int r) ∧ INW a am t w wm' := by
  obtain ⟨ar, bf, bg, bi, bl, bn, rfl, rfl, hlt, hik, hq, h1, h2, hp, hT, hh⟩ := hI
  exact st_alterRow hlt hik hq h1 h2 hp hT hh v1 v2 v3
theorem si_judge (hI : INW a am t wc wm) : ∃ (r : Int32) (wm' : va_W) (Qv : Option Value → va_W → Prop), MC l E0 D t yX11_judge cX11_judge 1 (some .int) 7 0 0 [.ref (a 0)] wc Qv ∧ MC l E0 D t yX12_judge cX12_judge 6 (some .int) 8 0 0 [.ref (am 0)] wm (Qi r wm') ∧ ∀ v w, Qv v w → v = some (.int r) ∧ INW a am t w wm' := by
  obtain ⟨ar, bf, bg, bi, bl, bn, rfl, rfl, hlt, hik, hq, h1, h2, hp, hT, hh⟩ := hI
  exact st_judge hlt hik hq h1 h2 hp hT hh
theorem si_sheet (hI : INW a am t wc wm) (v1 : Int32) (v2 : Int32) (v3 : Int32) : ∃ (r : Int32) (wm' : va_W) (Qv : Option Value → va_W → Prop), MC l E0 D t yX11_sheet cX11_sheet 4 (some .int) 3 0 0 [.ref (a 0), .int v1, .int v2, .int v3] wc Qv ∧ MC l E0 D t yX12_sheet cX12_sheet 5 (some .int) 3 0 0 [.ref (am 0), .int v1, .int v2, .int v3] wm (Qi r wm') ∧ ∀ v w, Qv v w → v = some (.int r) ∧ INW a am t w wm' := by
  obtain ⟨ar, bf, bg, bi, bl, bn, rfl, rfl, hlt, hik, hq, h1, h2, hp, hT, hh⟩ := hI
  exact st_sheet hlt hik hq h1 h2 hp hT hh v1 v2 v3
theorem si_write (hI : INW a am t wc wm) (v1 : Int32) (v2 : Int32) (v3 : Int32) : ∃ (r : Int32) (wm' : va_W) (Qv : Option Value → va_W → Prop), MC l E0 D t yX11_write cX11_write 4 (some .int) 3 0 0 [.ref (a 0), .int v1, .int v2, .int v3] wc Qv ∧ MC l E0 D t yX12_write cX12_write 4 (some .int) 3 0 0 [.ref (am 0), .int v1, .int v2, .int v3] wm (Qi r wm') ∧ ∀ v w, Qv v w → v = some (.int r) ∧ INW a am t w wm' := by
  obtain ⟨ar, bf, bg, bi, bl, bn, rfl, rfl, hlt, hik, hq, h1, h2, hp, hT, hh⟩ := hI
  exact st_write hlt hik hq h1 h2 hp hT hh v1 v2 v3
theorem si_item (hI : INW a am t wc wm) (v1 : Int32) (v2 : Int32) (v3 : Int32) : ∃ (r : Int32) (wm' : va_W) (Qv : Option Value → va_W → Prop), MC l E0 D t yX11_item cX11_item 5 (some .int) 3 0 0 [.ref (a 0), .int v1, .int v2, .int v3] wc Qv ∧ MC l E0 D t yX12_item cX12_item 5 (some .int) 3 0 0 [.ref (am 0), .int v1, .int v2, .int v3] wm (Qi r wm') ∧ ∀ v w, Qv v w → v = some (.int r) ∧ INW a am t w wm' := by
  obtain ⟨ar, bf, bg, bi, bl, bn, rfl, rfl, hlt, hik, hq, h1, h2, hp, hT, hh⟩ := hI
  exact st_item hlt hik hq h1 h2 hp hT hh v1 v2 v3
theorem si_goAll (hI : INW a am t wc wm) (v1 : Int32) (v2 : Int32) (v3 : Int32) : ∃ (r : Int32) (wm' : va_W) (Qv : Option Value → va_W → Prop), MC l E0 D t yX11_goAll cX11_goAll 8 (some .int) 6 0 0 [.ref (a 0), .int v1, .int v2, .int v3] wc Qv ∧ MC l E0 D t yX12_goAll cX12_goAll 8 (some .int) 8 0 0 [.ref (am 0), .int v1, .int v2, .int v3] wm (Qi r wm') ∧ ∀ v w, Qv v w → v = some (.int r) ∧ INW a am t w wm' := by
  obtain ⟨ar, bf, bg, bi, bl, bn, rfl, rfl, hlt, hik, hq, h1, h2, hp, hT, hh⟩ := hI
  exact st_goAll hlt hik hq h1 h2 hp hT hh v1 v2 v3
theorem si_wouldBe (hI : INW a am t wc wm) (v1 : Int32) (v2 : Int32) (v3 : Int32) : ∃ (r : Int32) (wm' : va_W) (Qv : Option Value → va_W → Prop), MC l E0 D t yX11_wouldBe cX11_wouldBe 8 (some .int) 6 0 0 [.ref (a 0), .int v1, .int v2, .int v3] wc Qv ∧ MC l E0 D t yX12_wouldBe cX12_wouldBe 8 (some .int) 8 0 0 [.ref (am 0), .int v1, .int v2, .int v3] wm (Qi r wm') ∧ ∀ v w, Qv v w → v = some (.int r) ∧ INW a am t w wm' := by
  obtain ⟨ar, bf, bg, bi, bl, bn, rfl, rfl, hlt, hik, hq, h1, h2, hp, hT, hh⟩ := hI
  exact st_wouldBe hlt hik hq h1 h2 hp hT hh v1 v2 v3
theorem si_shelf (hI : INW a am t wc wm) (v1 : Int32) (v2 : Int32) (v3 : Int32) : ∃ (r : Int32) (wm' : va_W) (Qv : Option Value → va_W → Prop), MC l E0 D t yX11_shelf cX11_shelf 4 (some .int) 3 0 0 [.ref (a 0), .int v1, .int v2, .int v3] wc Qv ∧ MC l E0 D t yX12_shelf cX12_shelf 4 (some .int) 3 0 0 [.ref (am 0), .int v1, .int v2, .int v3] wm (Qi r wm') ∧ ∀ v w, Qv v w → v = some (.int r) ∧ INW a am t w wm' := by
  obtain ⟨ar, bf, bg, bi, bl, bn, rfl, rfl, hlt, hik, hq, h1, h2, hp, hT, hh⟩ := hI
  exact st_shelf hlt hik hq h1 h2 hp hT hh v1 v2 v3
theorem si_taken (hI : INW a am t wc wm) (v1 : Int32) (v2 : Int32) : ∃ (r : Int32) (wm' : va_W) (Qv : Option Value → va_W → Prop), MC l E0 D t yX11_taken cX11_taken 4 (some .int) 3 0 0 [.ref (a 0), .int v1, .int v2] wc Qv ∧ MC l E0 D t yX12_taken cX12_taken 5 (some .int) 4 0 0 [.ref (am 0), .int v1, .int v2] wm (Qi r wm') ∧ ∀ v w, Qv v w → v = some (.int r) ∧ INW a am t w wm' := by
  obtain ⟨ar, bf, bg, bi, bl, bn, rfl, rfl, hlt, hik, hq, h1, h2, hp, hT, hh⟩ := hI
  exact st_taken hlt hik hq h1 h2 hp hT hh v1 v2
theorem si_act (hI : INW a am t wc wm) (v1 : Int32) (v2 : Int32) (v3 : Int32) : ∃ (r : Int32) (wm' : va_W) (Qv : Option Value → va_W → Prop), MC l E0 D t yX11_act cX11_act 7 (some .int) 8 0 0 [.ref (a 0), .int v1, .int v2, .int v3] wc Qv ∧ MC l E0 D t yX12_act cX12_act 6 (some .int) 41 0 0 [.ref (am 0), .int v1, .int v2, .int v3] wm (Qi r wm') ∧ ∀ v w, Qv v w → v = some (.int r) ∧ INW a am t w wm' := by
  obtain ⟨ar, bf, bg, bi, bl, bn, rfl, rfl, hlt, hik, hq, h1, h2, hp, hT, hh⟩ := hI
  exact st_act hlt hik hq h1 h2 hp hT hh v1 v2 v3
theorem si_trace (hI : INW a am t wc wm) (v1 : Int32) : ∃ (r : Int32) (wm' : va_W) (Qv : Option Value → va_W → Prop), MC l E0 D t yX11_trace cX11_trace 2 (some .int) 2 0 0 [.ref (a 0), .int v1] wc Qv ∧ MC l E0 D t yX12_trace cX12_trace 2 (some .int) 2 0 0 [.ref (am 0), .int v1] wm (Qi r wm') ∧ ∀ v w, Qv v w → v = some (.int r) ∧ INW a am t w wm' := by
  obtain ⟨ar, bf, bg, bi, bl, bn, rfl, rfl, hlt, hik, hq, h1, h2, hp, hT, hh⟩ := hI
  exact st_trace hlt hik hq h1 h2 hp hT hh v1
theorem si_many (hI : INW a am t wc wm) (v1 : Int32) : ∃ (r : Int32) (wm' : va_W) (Qv : Option Value → va_W → Prop), MC l E0 D t yX11_many cX11_many 2 (some .int) 3 0 0 [.ref (a 0), .int v1] wc Qv ∧ MC l E0 D t yX12_many cX12_many 2 (some .int) 3 0 0 [.ref (am 0), .int v1] wm (Qi r wm') ∧ ∀ v w, Qv v w → v = some (.int r) ∧ INW a am t w wm' := by
  obtain ⟨ar, bf, bg, bi, bl, bn, rfl, rfl, hlt, hik, hq, h1, h2, hp, hT, hh⟩ := hI
  exact st_many hlt hik hq h1 h2 hp hT hh v1
theorem si_keep (hI : INW a am t wc wm) : ∃ (r : Int32) (wm' : va_W) (Qv : Option Value → va_W → Prop), MC l E0 D t yX11_keep cX11_keep 1 (some .int) 2 0 0 [.ref (a 0)] wc Qv ∧ MC l E0 D t yX12_keep cX12_keep 2 (some .int) 1 0 0 [.ref (am 0)] wm (Qi r wm') ∧ ∀ v w, Qv v w → v = some (.int r) ∧ INW a am t w wm' := by
  obtain ⟨ar, bf, bg, bi, bl, bn, rfl, rfl, hlt, hik, hq, h1, h2, hp, hT, hh⟩ := hI
  exact st_keep hlt hik hq h1 h2 hp hT hh
theorem si_again (hI : INW a am t wc wm) : ∃ (r : Int32) (wm' : va_W) (Qv : Option Value → va_W → Prop), MC l E0 D t yX11_again cX11_again 1 (some .int) 2 0 0 [.ref (a 0)] wc Qv ∧ MC l E0 D t yX12_again cX12_again 2 (some .int) 1 0 0 [.ref (am 0)] wm (Qi r wm') ∧ ∀ v w, Qv v w → v = some (.int r) ∧ INW a am t w wm' := by
  obtain ⟨ar, bf, bg, bi, bl, bn, rfl, rfl, hlt, hik, hq, h1, h2, hp, hT, hh⟩ := hI
  exact st_again hlt hik hq h1 h2 hp hT hh
end SI
