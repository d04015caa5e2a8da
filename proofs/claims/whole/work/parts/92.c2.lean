theorem lc_late : LC 763 := by
  intro p l e s m below meth c b L xs D t sa sv nm Q a am wc wm H locs ls i cells slots cx hX hbl hL hi hI hw hl hc1 hc2 kk
  have hx := cx.1
  have hb := cx.2.1
  obtain ⟨f0, g0⟩ := hI.c0
  obtain ⟨f1, g1⟩ := hI.m0
  obtain ⟨r, wm2, Qv, m1, m2, h9⟩ := si_late (l := l) (D := D) hI (xs (i + 1))
  refine lv_aload_n hx hb dL_763 rfl (lv_at hl 1 rfl) ?_
  refine pushA (j := 1) cx hX hbl (Nat.not_le.mpr hbl) hw.2.2 hl hL (by omega) (by decide) (by decide) dL_764 dL_765 dL_766 dL_767 dL_768 ?_
  refine calL (As := [.int (xs (i + 1))]) (rest := []) cx hw hl.1 m1 nE0 (fun _ _ _ => trivial) q_732 k_X11_late rfl g0 rfl dL_769 rfl (Nat.le_of_ble_eq_true rfl) ⟨(Nat.le_of_ble_eq_true rfl), (Nat.le_of_ble_eq_true rfl)⟩ ⟨by show cells + 0 ≤ 629818; omega, by show slots + 0 ≤ 7212793; omega⟩ (fun v wc2 H locs hq hw => ?_)
  obtain ⟨rfl, hI2⟩ := h9 v wc2 hq
  refine lv_aload_n hx hb dL_772 rfl (lv_at hl 2 rfl) ?_
  refine pushA (j := 1) cx hX hbl (Nat.not_le.mpr hbl) hw.2.2 hl hL (by omega) (by decide) (by decide) dL_773 dL_774 dL_775 dL_776 dL_777 ?_
  refine calR (As := [.int (xs (i + 1))]) (rest := [.int r]) cx hw hl.1 m2 q_1473 k_X12_late rfl g1 rfl dL_778 rfl (Nat.le_of_ble_eq_true rfl) ⟨(Nat.le_of_ble_eq_true rfl), (Nat.le_of_ble_eq_true rfl)⟩ ⟨by show cells + 0 ≤ 629818; omega, by show slots + 0 ≤ 7212793; omega⟩ (fun H locs hw => ?_)
  refine lv_icmp_eq (tgt := 1735) hx hb dL_781 (by decide +kernel) (fun hc => ?_) (fun hc => absurd rfl hc)
  refine W.widen (k := cells + 6) (n := slots + 247) (by omega) (by omega) ?_
  exact kk _ _ H locs hI2 hw
theorem lc_middle : LC 786 := by
  intro p l e s m below meth c b L xs D t sa sv nm Q a am wc wm H locs ls i cells slots cx hX hbl hL hi hI hw hl hc1 hc2 kk
  have hx := cx.1
  have hb := cx.2.1
  obtain ⟨f0, g0⟩ := hI.c0
  obtain ⟨f1, g1⟩ := hI.m0
  obtain ⟨r, wm2, Qv, m1, m2, h9⟩ := si_middle (l := l) (D := D) hI
  refine lv_aload_n hx hb dL_786 rfl (lv_at hl 1 rfl) ?_
  refine calL (As := []) (rest := []) cx hw hl.1 m1 nE0 (fun _ _ _ => trivial) q_736 k_X11_middle rfl g0 rfl dL_787 rfl (Nat.le_of_ble_eq_true rfl) ⟨(Nat.le_of_ble_eq_true rfl), (Nat.le_of_ble_eq_true rfl)⟩ ⟨by show cells + 0 ≤ 629818; omega, by show slots + 0 ≤ 7212793; omega⟩ (fun v wc2 H locs hq hw => ?_)
  obtain ⟨rfl, hI2⟩ := h9 v wc2 hq
  refine lv_aload_n hx hb dL_790 rfl (lv_at hl 2 rfl) ?_
  refine calR (As := []) (rest := [.int r]) cx hw hl.1 m2 q_1477 k_X12_middle rfl g1 rfl dL_791 rfl (Nat.le_of_ble_eq_true rfl) ⟨(Nat.le_of_ble_eq_true rfl), (Nat.le_of_ble_eq_true rfl)⟩ ⟨by show cells + 0 ≤ 629818; omega, by show slots + 0 ≤ 7212793; omega⟩ (fun H locs hw => ?_)
  refine lv_icmp_eq (tgt := 1735) hx hb dL_794 (by decide +kernel) (fun hc => ?_) (fun hc => absurd rfl hc)
  refine W.widen (k := cells + 6) (n := slots + 247) (by omega) (by omega) ?_
  exact kk _ _ H locs hI2 hw
theorem lc_knots : LC 799 := by
  intro p l e s m below meth c b L xs D t sa sv nm Q a am wc wm H locs ls i cells slots cx hX hbl hL hi hI hw hl hc1 hc2 kk
  have hx := cx.1
  have hb := cx.2.1
  obtain ⟨f0, g0⟩ := hI.c0
  obtain ⟨f1, g1⟩ := hI.m0
  obtain ⟨r, wm2, Qv, m1, m2, h9⟩ := si_knots (l := l) (D := D) hI (xs (i + 1))
  refine lv_aload_n hx hb dL_799 rfl (lv_at hl 1 rfl) ?_
  refine pushA (j := 1) cx hX hbl (Nat.not_le.mpr hbl) hw.2.2 hl hL (by omega) (by decide) (by decide) dL_800 dL_801 dL_802 dL_803 dL_804 ?_
  refine calL (As := [.int (xs (i + 1))]) (rest := []) cx hw hl.1 m1 nE0 (fun _ _ _ => trivial) q_744 k_X11_knots rfl g0 rfl dL_805 rfl (Nat.le_of_ble_eq_true rfl) ⟨(Nat.le_of_ble_eq_true rfl), (Nat.le_of_ble_eq_true rfl)⟩ ⟨by show cells + 0 ≤ 629818; omega, by show slots + 0 ≤ 7212793; omega⟩ (fun v wc2 H locs hq hw => ?_)
  obtain ⟨rfl, hI2⟩ := h9 v wc2 hq
  refine lv_aload_n hx hb dL_808 rfl (lv_at hl 2 rfl) ?_
  refine pushA (j := 1) cx hX hbl (Nat.not_le.mpr hbl) hw.2.2 hl hL (by omega) (by decide) (by decide) dL_809 dL_810 dL_811 dL_812 dL_813 ?_
  refine calR (As := [.int (xs (i + 1))]) (rest := [.int r]) cx hw hl.1 m2 q_1481 k_X12_knots rfl g1 rfl dL_814 rfl (Nat.le_of_ble_eq_true rfl) ⟨(Nat.le_of_ble_eq_true rfl), (Nat.le_of_ble_eq_true rfl)⟩ ⟨by show cells + 0 ≤ 629818; omega, by show slots + 0 ≤ 7212793; omega⟩ (fun H locs hw => ?_)
  refine lv_icmp_eq (tgt := 1735) hx hb dL_817 (by decide +kernel) (fun hc => ?_) (fun hc => absurd rfl hc)
  refine W.widen (k := cells + 6) (n := slots + 247) (by omega) (by omega) ?_
  exact kk _ _ H locs hI2 hw
theorem lc_seats : LC 822 := by
  intro p l e s m below meth c b L xs D t sa sv nm Q a am wc wm H locs ls i cells slots cx hX hbl hL hi hI hw hl hc1 hc2 kk
  have hx := cx.1
  have hb := cx.2.1
  obtain ⟨f0, g0⟩ := hI.c0
  obtain ⟨f1, g1⟩ := hI.m0
  obtain ⟨r, wm2, Qv, m1, m2, h9⟩ := si_seats (l := l) (D := D) hI (xs (i + 1)) (xs (i + 2))
  refine lv_aload_n hx hb dL_822 rfl (lv_at hl 1 rfl) ?_
  refine pushA (j := 1) cx hX hbl (Nat.not_le.mpr hbl) hw.2.2 hl hL (by omega) (by decide) (by decide) dL_823 dL_824 dL_825 dL_826 dL_827 ?_
  refine pushA (j := 2) cx hX hbl (Nat.not_le.mpr hbl) hw.2.2 hl hL (by omega) (by decide) (by decide) dL_828 dL_829 dL_830 dL_831 dL_832 ?_
  refine calL (As := [.int (xs (i + 1)), .int (xs (i + 2))]) (rest := []) cx hw hl.1 m1 nE0 (fun _ _ _ => trivial) q_760 k_X11_seats rfl g0 rfl dL_833 rfl (Nat.le_of_ble_eq_true rfl) ⟨(Nat.le_of_ble_eq_true rfl), (Nat.le_of_ble_eq_true rfl)⟩ ⟨by show cells + 0 ≤ 629818; omega, by show slots + 0 ≤ 7212793; omega⟩ (fun v wc2 H locs hq hw => ?_)
  obtain ⟨rfl, hI2⟩ := h9 v wc2 hq
  refine lv_aload_n hx hb dL_836 rfl (lv_at hl 2 rfl) ?_
  refine pushA (j := 1) cx hX hbl (Nat.not_le.mpr hbl) hw.2.2 hl hL (by omega) (by decide) (by decide) dL_837 dL_838 dL_839 dL_840 dL_841 ?_
  refine pushA (j := 2) cx hX hbl (Nat.not_le.mpr hbl) hw.2.2 hl hL (by omega) (by decide) (by decide) dL_842 dL_843 dL_844 dL_845 dL_846 ?_
  refine calR (As := [.int (xs (i + 1)), .int (xs (i + 2))]) (rest := [.int r]) cx hw hl.1 m2 q_1493 k_X12_seats rfl g1 rfl dL_847 rfl (Nat.le_of_ble_eq_true rfl) ⟨(Nat.le_of_ble_eq_true rfl), (Nat.le_of_ble_eq_true rfl)⟩ ⟨by show cells + 0 ≤ 629818; omega, by show slots + 0 ≤ 7212793; omega⟩ (fun H locs hw => ?_)
  refine lv_icmp_eq (tgt := 1735) hx hb dL_850 (by decide +kernel) (fun hc => ?_) (fun hc => absurd rfl hc)
  refine W.widen (k := cells + 6) (n := slots + 247) (by omega) (by omega) ?_
  exact kk _ _ H locs hI2 hw
theorem lc_best : LC 855 := by
  intro p l e s m below meth c b L xs D t sa sv nm Q a am wc wm H locs ls i cells slots cx hX hbl hL hi hI hw hl hc1 hc2 kk
  have hx := cx.1
  have hb := cx.2.1
  obtain ⟨f0, g0⟩ := hI.c0
  obtain ⟨f1, g1⟩ := hI.m0
  obtain ⟨r, wm2, Qv, m1, m2, h9⟩ := si_best (l := l) (D := D) hI (xs (i + 1))
  refine lv_aload_n hx hb dL_855 rfl (lv_at hl 1 rfl) ?_
  refine pushA (j := 1) cx hX hbl (Nat.not_le.mpr hbl) hw.2.2 hl hL (by omega) (by decide) (by decide) dL_856 dL_857 dL_858 dL_859 dL_860 ?_
  refine calL (As := [.int (xs (i + 1))]) (rest := []) cx hw hl.1 m1 nE0 (fun _ _ _ => trivial) q_772 k_X11_best rfl g0 rfl dL_861 rfl (Nat.le_of_ble_eq_true rfl) ⟨(Nat.le_of_ble_eq_true rfl), (Nat.le_of_ble_eq_true rfl)⟩ ⟨by show cells + 0 ≤ 629818; omega, by show slots + 0 ≤ 7212793; omega⟩ (fun v wc2 H locs hq hw => ?_)
  obtain ⟨rfl, hI2⟩ := h9 v wc2 hq
  refine lv_aload_n hx hb dL_864 rfl (lv_at hl 2 rfl) ?_
  refine pushA (j := 1) cx hX hbl (Nat.not_le.mpr hbl) hw.2.2 hl hL (by omega) (by decide) (by decide) dL_865 dL_866 dL_867 dL_868 dL_869 ?_
  refine calR (As := [.int (xs (i + 1))]) (rest := [.int r]) cx hw hl.1 m2 q_1497 k_X12_best rfl g1 rfl dL_870 rfl (Nat.le_of_ble_eq_true rfl) ⟨(Nat.le_of_ble_eq_true rfl), (Nat.le_of_ble_eq_true rfl)⟩ ⟨by show cells + 0 ≤ 629818; omega, by show slots + 0 ≤ 7212793; omega⟩ (fun H locs hw => ?_)
  refine lv_icmp_eq (tgt := 1735) hx hb dL_873 (by decide +kernel) (fun hc => ?_) (fun hc => absurd rfl hc)
  refine W.widen (k := cells + 6) (n := slots + 247) (by omega) (by omega) ?_
  exact kk _ _ H locs hI2 hw
theorem lc_ith : LC 878 := by
  intro p l e s m below meth c b L xs D t sa sv nm Q a am wc wm H locs ls i cells slots cx hX hbl hL hi hI hw hl hc1 hc2 kk
  have hx := cx.1
  have hb := cx.2.1
  obtain ⟨f0, g0⟩ := hI.c0
  obtain ⟨f1, g1⟩ := hI.m0
  obtain ⟨r, wm2, Qv, m1, m2, h9⟩ := si_ith (l := l) (D := D) hI (xs (i + 1)) (xs (i + 2))
  refine lv_aload_n hx hb dL_878 rfl (lv_at hl 1 rfl) ?_
  refine pushA (j := 1) cx hX hbl (Nat.not_le.mpr hbl) hw.2.2 hl hL (by omega) (by decide) (by decide) dL_879 dL_880 dL_881 dL_882 dL_883 ?_
  refine pushA (j := 2) cx hX hbl (Nat.not_le.mpr hbl) hw.2.2 hl hL (by omega) (by decide) (by decide) dL_884 dL_885 dL_886 dL_887 dL_888 ?_
  refine calL (As := [.int (xs (i + 1)), .int (xs (i + 2))]) (rest := []) cx hw hl.1 m1 nE0 (fun _ _ _ => trivial) q_795 k_X11_ith rfl g0 rfl dL_889 rfl (Nat.le_of_ble_eq_true rfl) ⟨(Nat.le_of_ble_eq_true rfl), (Nat.le_of_ble_eq_true rfl)⟩ ⟨by show cells + 0 ≤ 629818; omega, by show slots + 0 ≤ 7212793; omega⟩ (fun v wc2 H locs hq hw => ?_)
  obtain ⟨rfl, hI2⟩ := h9 v wc2 hq
  refine lv_aload_n hx hb dL_892 rfl (lv_at hl 2 rfl) ?_
  refine pushA (j := 1) cx hX hbl (Nat.not_le.mpr hbl) hw.2.2 hl hL (by omega) (by decide) (by decide) dL_893 dL_894 dL_895 dL_896 dL_897 ?_
  refine pushA (j := 2) cx hX hbl (Nat.not_le.mpr hbl) hw.2.2 hl hL (by omega) (by decide) (by decide) dL_898 dL_899 dL_900 dL_901 dL_902 ?_
  refine calR (As := [.int (xs (i + 1)), .int (xs (i + 2))]) (rest := [.int r]) cx hw hl.1 m2 q_1528 k_X12_ith rfl g1 rfl dL_903 rfl (Nat.le_of_ble_eq_true rfl) ⟨(Nat.le_of_ble_eq_true rfl), (Nat.le_of_ble_eq_true rfl)⟩ ⟨by show cells + 0 ≤ 629818; omega, by show slots + 0 ≤ 7212793; omega⟩ (fun H locs hw => ?_)
  refine lv_icmp_eq (tgt := 1735) hx hb dL_906 (by decide +kernel) (fun hc => ?_) (fun hc => absurd rfl hc)
  refine W.widen (k := cells + 6) (n := slots + 247) (by omega) (by omega) ?_
  exact kk _ _ H locs hI2 hw
theorem lc_ways : LC 911 := by
  intro p l e s m below meth c b L xs D t sa sv nm Q a am wc wm H locs ls i cells slots cx hX hbl hL hi hI hw hl hc1 hc2 kk
  have hx := cx.1
  have hb := cx.2.1
  obtain ⟨f0, g0⟩ := hI.c0
  obtain ⟨f1, g1⟩ := hI.m0
  obtain ⟨r, wm2, Qv, m1, m2, h9⟩ := si_ways (l := l) (D := D) hI (xs (i + 1))
  refine lv_aload_n hx hb dL_911 rfl (lv_at hl 1 rfl) ?_
  refine pushA (j := 1) cx hX hbl (Nat.not_le.mpr hbl) hw.2.2 hl hL (by omega) (by decide) (by decide) dL_912 dL_913 dL_914 dL_915 dL_916 ?_
  refine calL (As := [.int (xs (i + 1))]) (rest := []) cx hw hl.1 m1 nE0 (fun _ _ _ => trivial) q_799 k_X11_ways rfl g0 rfl dL_917 rfl (Nat.le_of_ble_eq_true rfl) ⟨(Nat.le_of_ble_eq_true rfl), (Nat.le_of_ble_eq_true rfl)⟩ ⟨by show cells + 0 ≤ 629818; omega, by show slots + 0 ≤ 7212793; omega⟩ (fun v wc2 H locs hq hw => ?_)
  obtain ⟨rfl, hI2⟩ := h9 v wc2 hq
  refine lv_aload_n hx hb dL_920 rfl (lv_at hl 2 rfl) ?_
  refine pushA (j := 1) cx hX hbl (Nat.not_le.mpr hbl) hw.2.2 hl hL (by omega) (by decide) (by decide) dL_921 dL_922 dL_923 dL_924 dL_925 ?_
  refine calR (As := [.int (xs (i + 1))]) (rest := [.int r]) cx hw hl.1 m2 q_1532 k_X12_ways rfl g1 rfl dL_926 rfl (Nat.le_of_ble_eq_true rfl) ⟨(Nat.le_of_ble_eq_true rfl), (Nat.le_of_ble_eq_true rfl)⟩ ⟨by show cells + 0 ≤ 629818; omega, by show slots + 0 ≤ 7212793; omega⟩ (fun H locs hw => ?_)
  refine lv_icmp_eq (tgt := 1735) hx hb dL_929 (by decide +kernel) (fun hc => ?_) (fun hc => absurd rfl hc)
  refine W.widen (k := cells + 6) (n := slots + 247) (by omega) (by omega) ?_
  exact kk _ _ H locs hI2 hw
theorem lc_order : LC 934 := by
  intro p l e s m below meth c b L xs D t sa sv nm Q a am wc wm H locs ls i cells slots cx hX hbl hL hi hI hw hl hc1 hc2 kk
  have hx := cx.1
  have hb := cx.2.1
  obtain ⟨f0, g0⟩ := hI.c0
  obtain ⟨f1, g1⟩ := hI.m0
  obtain ⟨r, wm2, Qv, m1, m2, h9⟩ := si_order (l := l) (D := D) hI (xs (i + 1)) (xs (i + 2))
  refine lv_aload_n hx hb dL_934 rfl (lv_at hl 1 rfl) ?_
  refine pushA (j := 1) cx hX hbl (Nat.not_le.mpr hbl) hw.2.2 hl hL (by omega) (by decide) (by decide) dL_935 dL_936 dL_937 dL_938 dL_939 ?_
  refine pushA (j := 2) cx hX hbl (Nat.not_le.mpr hbl) hw.2.2 hl hL (by omega) (by decide) (by decide) dL_940 dL_941 dL_942 dL_943 dL_944 ?_
  refine calL (As := [.int (xs (i + 1)), .int (xs (i + 2))]) (rest := []) cx hw hl.1 m1 nE0 (fun _ _ _ => trivial) q_803 k_X11_order rfl g0 rfl dL_945 rfl (Nat.le_of_ble_eq_true rfl) ⟨(Nat.le_of_ble_eq_true rfl), (Nat.le_of_ble_eq_true rfl)⟩ ⟨by show cells + 0 ≤ 629818; omega, by show slots + 0 ≤ 7212793; omega⟩ (fun v wc2 H locs hq hw => ?_)
  obtain ⟨rfl, hI2⟩ := h9 v wc2 hq
  refine lv_aload_n hx hb dL_948 rfl (lv_at hl 2 rfl) ?_
  refine pushA (j := 1) cx hX hbl (Nat.not_le.mpr hbl) hw.2.2 hl hL (by omega) (by decide) (by decide) dL_949 dL_950 dL_951 dL_952 dL_953 ?_
  refine pushA (j := 2) cx hX hbl (Nat.not_le.mpr hbl) hw.2.2 hl hL (by omega) (by decide) (by decide) dL_954 dL_955 dL_956 dL_957 dL_958 ?_
  refine calR (As := [.int (xs (i + 1)), .int (xs (i + 2))]) (rest := [.int r]) cx hw hl.1 m2 q_1536 k_X12_order rfl g1 rfl dL_959 rfl (Nat.le_of_ble_eq_true rfl) ⟨(Nat.le_of_ble_eq_true rfl), (Nat.le_of_ble_eq_true rfl)⟩ ⟨by show cells + 0 ≤ 629818; omega, by show slots + 0 ≤ 7212793; omega⟩ (fun H locs hw => ?_)
  refine lv_icmp_eq (tgt := 1735) hx hb dL_962 (by decide +kernel) (fun hc => ?_) (fun hc => absurd rfl hc)
  refine W.widen (k := cells + 6) (n := slots + 247) (by omega) (by omega) ?_
  exact kk _ _ H locs hI2 hw
theorem lc_bars : LC 967 := by
  intro p l e s m below meth c b L xs D t sa sv nm Q a am wc wm H locs ls i cells slots cx hX hbl hL hi hI hw hl hc1 hc2 kk
  have hx := cx.1
  have hb := cx.2.1
  obtain ⟨f0, g0⟩ := hI.c0
  obtain ⟨f1, g1⟩ := hI.m0
  obtain ⟨r, wm2, Qv, m1, m2, h9⟩ := si_bars (l := l) (D := D) hI (xs (i + 1)) (xs (i + 2))
  refine lv_aload_n hx hb dL_967 rfl (lv_at hl 1 rfl) ?_
  refine pushA (j := 1) cx hX hbl (Nat.not_le.mpr hbl) hw.2.2 hl hL (by omega) (by decide) (by decide) dL_968 dL_969 dL_970 dL_971 dL_972 ?_
  refine pushA (j := 2) cx hX hbl (Nat.not_le.mpr hbl) hw.2.2 hl hL (by omega) (by decide) (by decide) dL_973 dL_974 dL_975 dL_976 dL_977 ?_
  refine calL (As := [.int (xs (i + 1)), .int (xs (i + 2))]) (rest := []) cx hw hl.1 m1 nE0 (fun _ _ _ => trivial) q_811 k_X11_bars rfl g0 rfl dL_978 rfl (Nat.le_of_ble_eq_true rfl) ⟨(Nat.le_of_ble_eq_true rfl), (Nat.le_of_ble_eq_true rfl)⟩ ⟨by show cells + 0 ≤ 629818; omega, by show slots + 0 ≤ 7212793; omega⟩ (fun v wc2 H locs hq hw => ?_)
  obtain ⟨rfl, hI2⟩ := h9 v wc2 hq
  refine lv_aload_n hx hb dL_981 rfl (lv_at hl 2 rfl) ?_
  refine pushA (j := 1) cx hX hbl (Nat.not_le.mpr hbl) hw.2.2 hl hL (by omega) (by decide) (by decide) dL_982 dL_983 dL_984 dL_985 dL_986 ?_
  refine pushA (j := 2) cx hX hbl (Nat.not_le.mpr hbl) hw.2.2 hl hL (by omega) (by decide) (by decide) dL_987 dL_988 dL_989 dL_990 dL_991 ?_
  refine calR (As := [.int (xs (i + 1)), .int (xs (i + 2))]) (rest := [.int r]) cx hw hl.1 m2 q_1544 k_X12_bars rfl g1 rfl dL_992 rfl (Nat.le_of_ble_eq_true rfl) ⟨(Nat.le_of_ble_eq_true rfl), (Nat.le_of_ble_eq_true rfl)⟩ ⟨by show cells + 0 ≤ 629818; omega, by show slots + 0 ≤ 7212793; omega⟩ (fun H locs hw => ?_)
  refine lv_icmp_eq (tgt := 1735) hx hb dL_995 (by decide +kernel) (fun hc => ?_) (fun hc => absurd rfl hc)
  refine W.widen (k := cells + 6) (n := slots + 247) (by omega) (by omega) ?_
  exact kk _ _ H locs hI2 hw
theorem lc_game : LC 1000 := by
  intro p l e s m below meth c b L xs D t sa sv nm Q a am wc wm H locs ls i cells slots cx hX hbl hL hi hI hw hl hc1 hc2 kk
  have hx := cx.1
  have hb := cx.2.1
  obtain ⟨f0, g0⟩ := hI.c0
  obtain ⟨f1, g1⟩ := hI.m0
  obtain ⟨r, wm2, Qv, m1, m2, h9⟩ := si_game (l := l) (D := D) hI (xs (i + 1))
  refine lv_aload_n hx hb dL_1000 rfl (lv_at hl 1 rfl) ?_
  refine pushA (j := 1) cx hX hbl (Nat.not_le.mpr hbl) hw.2.2 hl hL (by omega) (by decide) (by decide) dL_1001 dL_1002 dL_1003 dL_1004 dL_1005 ?_
  refine calL (As := [.int (xs (i + 1))]) (rest := []) cx hw hl.1 m1 nE0 (fun _ _ _ => trivial) q_815 k_X11_game rfl g0 rfl dL_1006 rfl (Nat.le_of_ble_eq_true rfl) ⟨(Nat.le_of_ble_eq_true rfl), (Nat.le_of_ble_eq_true rfl)⟩ ⟨by show cells + 0 ≤ 629818; omega, by show slots + 0 ≤ 7212793; omega⟩ (fun v wc2 H locs hq hw => ?_)
  obtain ⟨rfl, hI2⟩ := h9 v wc2 hq
  refine lv_aload_n hx hb dL_1009 rfl (lv_at hl 2 rfl) ?_
  refine pushA (j := 1) cx hX hbl (Nat.not_le.mpr hbl) hw.2.2 hl hL (by omega) (by decide) (by decide) dL_1010 dL_1011 dL_1012 dL_1013 dL_1014 ?_
  refine calR (As := [.int (xs (i + 1))]) (rest := [.int r]) cx hw hl.1 m2 q_1548 k_X12_game rfl g1 rfl dL_1015 rfl (Nat.le_of_ble_eq_true rfl) ⟨(Nat.le_of_ble_eq_true rfl), (Nat.le_of_ble_eq_true rfl)⟩ ⟨by show cells + 0 ≤ 629818; omega, by show slots + 0 ≤ 7212793; omega⟩ (fun H locs hw => ?_)
  refine lv_icmp_eq (tgt := 1735) hx hb dL_1018 (by decide +kernel) (fun hc => ?_) (fun hc => absurd rfl hc)
  refine W.widen (k := cells + 6) (n := slots + 247) (by omega) (by omega) ?_
  exact kk _ _ H locs hI2 hw
theorem lc_play : LC 1023 := by
  intro p l e s m below meth c b L xs D t sa sv nm Q a am wc wm H locs ls i cells slots cx hX hbl hL hi hI hw hl hc1 hc2 kk
  have hx := cx.1
  have hb := cx.2.1
  obtain ⟨f0, g0⟩ := hI.c0
  obtain ⟨f1, g1⟩ := hI.m0
  obtain ⟨r, wm2, Qv, m1, m2, h9⟩ := si_play (l := l) (D := D) hI (xs (i + 1))
  refine lv_aload_n hx hb dL_1023 rfl (lv_at hl 1 rfl) ?_
  refine pushA (j := 1) cx hX hbl (Nat.not_le.mpr hbl) hw.2.2 hl hL (by omega) (by decide) (by decide) dL_1024 dL_1025 dL_1026 dL_1027 dL_1028 ?_
  refine calL (As := [.int (xs (i + 1))]) (rest := []) cx hw hl.1 m1 nE0 (fun _ _ _ => trivial) q_827 k_X11_play rfl g0 rfl dL_1029 rfl (Nat.le_of_ble_eq_true rfl) ⟨(Nat.le_of_ble_eq_true rfl), (Nat.le_of_ble_eq_true rfl)⟩ ⟨by show cells + 0 ≤ 629818; omega, by show slots + 0 ≤ 7212793; omega⟩ (fun v wc2 H locs hq hw => ?_)
  obtain ⟨rfl, hI2⟩ := h9 v wc2 hq
  refine lv_aload_n hx hb dL_1032 rfl (lv_at hl 2 rfl) ?_
  refine pushA (j := 1) cx hX hbl (Nat.not_le.mpr hbl) hw.2.2 hl hL (by omega) (by decide) (by decide) dL_1033 dL_1034 dL_1035 dL_1036 dL_1037 ?_
  refine calR (As := [.int (xs (i + 1))]) (rest := [.int r]) cx hw hl.1 m2 q_1556 k_X12_play rfl g1 rfl dL_1038 rfl (Nat.le_of_ble_eq_true rfl) ⟨(Nat.le_of_ble_eq_true rfl), (Nat.le_of_ble_eq_true rfl)⟩ ⟨by show cells + 0 ≤ 629818; omega, by show slots + 0 ≤ 7212793; omega⟩ (fun H locs hw => ?_)
  refine lv_icmp_eq (tgt := 1735) hx hb dL_1041 (by decide +kernel) (fun hc => ?_) (fun hc => absurd rfl hc)
  refine W.widen (k := cells + 6) (n := slots + 247) (by omega) (by omega) ?_
  exact kk _ _ H locs hI2 hw
theorem lc_report : LC 1046 := by
  intro p l e s m below meth c b L xs D t sa sv nm Q a am wc wm H locs ls i cells slots cx hX hbl hL hi hI hw hl hc1 hc2 kk
  have hx := cx.1
  have hb := cx.2.1
  obtain ⟨f0, g0⟩ := hI.c0
  obtain ⟨f1, g1⟩ := hI.m0
  obtain ⟨r, wm2, Qv, m1, m2, h9⟩ := si_report (l := l) (D := D) hI (xs (i + 1)) (xs (i + 2)) (xs (i + 3)) (xs (i + 4))
  refine lv_aload_n hx hb dL_1046 rfl (lv_at hl 1 rfl) ?_
  refine pushA (j := 1) cx hX hbl (Nat.not_le.mpr hbl) hw.2.2 hl hL (by omega) (by decide) (by decide) dL_1047 dL_1048 dL_1049 dL_1050 dL_1051 ?_
  refine pushA (j := 2) cx hX hbl (Nat.not_le.mpr hbl) hw.2.2 hl hL (by omega) (by decide) (by decide) dL_1052 dL_1053 dL_1054 dL_1055 dL_1056 ?_
  refine pushA (j := 3) cx hX hbl (Nat.not_le.mpr hbl) hw.2.2 hl hL (by omega) (by decide) (by decide) dL_1057 dL_1058 dL_1059 dL_1060 dL_1061 ?_
  refine pushA (j := 4) cx hX hbl (Nat.not_le.mpr hbl) hw.2.2 hl hL (by omega) (by decide) (by decide) dL_1062 dL_1063 dL_1064 dL_1065 dL_1066 ?_
  refine calL (As := [.int (xs (i + 1)), .int (xs (i + 2)), .int (xs (i + 3)), .int (xs (i + 4))]) (rest := []) cx hw hl.1 m1 nE0 (fun _ _ _ => trivial) q_831 k_X11_report rfl g0 rfl dL_1067 rfl (Nat.le_of_ble_eq_true rfl) ⟨(Nat.le_of_ble_eq_true rfl), (Nat.le_of_ble_eq_true rfl)⟩ ⟨by show cells + 0 ≤ 629818; omega, by show slots + 0 ≤ 7212793; omega⟩ (fun v wc2 H locs hq hw => ?_)
  obtain ⟨rfl, hI2⟩ := h9 v wc2 hq
  refine lv_aload_n hx hb dL_1070 rfl (lv_at hl 2 rfl) ?_
  refine pushA (j := 1) cx hX hbl (Nat.not_le.mpr hbl) hw.2.2 hl hL (by omega) (by decide) (by decide) dL_1071 dL_1072 dL_1073 dL_1074 dL_1075 ?_
  refine pushA (j := 2) cx hX hbl (Nat.not_le.mpr hbl) hw.2.2 hl hL (by omega) (by decide) (by decide) dL_1076 dL_1077 dL_1078 dL_1079 dL_1080 ?_
  refine pushA (j := 3) cx hX hbl (Nat.not_le.mpr hbl) hw.2.2 hl hL (by omega) (by decide) (by decide) dL_1081 dL_1082 dL_1083 dL_1084 dL_1085 ?_
  refine pushA (j := 4) cx hX hbl (Nat.not_le.mpr hbl) hw.2.2 hl hL (by omega) (by decide) (by decide) dL_1086 dL_1087 dL_1088 dL_1089 dL_1090 ?_
  refine calR (As := [.int (xs (i + 1)), .int (xs (i + 2)), .int (xs (i + 3)), .int (xs (i + 4))]) (rest := [.int r]) cx hw hl.1 m2 q_1560 k_X12_report rfl g1 rfl dL_1091 rfl (Nat.le_of_ble_eq_true rfl) ⟨(Nat.le_of_ble_eq_true rfl), (Nat.le_of_ble_eq_true rfl)⟩ ⟨by show cells + 0 ≤ 629818; omega, by show slots + 0 ≤ 7212793; omega⟩ (fun H locs hw => ?_)
  refine lv_icmp_eq (tgt := 1735) hx hb dL_1094 (by decide +kernel) (fun hc => ?_) (fun hc => absurd rfl hc)
  refine W.widen (k := cells + 6) (n := slots + 247) (by omega) (by omega) ?_
  exact kk _ _ H locs hI2 hw
theorem lc_forget : LC 1099 := by
  intro p l e s m below meth c b L xs D t sa sv nm Q a am wc wm H locs ls i cells slots cx hX hbl hL hi hI hw hl hc1 hc2 kk
  have hx := cx.1
  have hb := cx.2.1
  obtain ⟨f0, g0⟩ := hI.c0
  obtain ⟨f1, g1⟩ := hI.m0
  obtain ⟨r, wm2, Qv, m1, m2, h9⟩ := si_forget (l := l) (D := D) hI
  refine lv_aload_n hx hb dL_1099 rfl (lv_at hl 1 rfl) ?_
  refine calL (As := []) (rest := []) cx hw hl.1 m1 nE0 (fun _ _ _ => trivial) q_839 k_X11_forget rfl g0 rfl dL_1100 rfl (Nat.le_of_ble_eq_true rfl) ⟨(Nat.le_of_ble_eq_true rfl), (Nat.le_of_ble_eq_true rfl)⟩ ⟨by show cells + 0 ≤ 629818; omega, by show slots + 0 ≤ 7212793; omega⟩ (fun v wc2 H locs hq hw => ?_)
  obtain ⟨rfl, hI2⟩ := h9 v wc2 hq
  refine lv_aload_n hx hb dL_1103 rfl (lv_at hl 2 rfl) ?_
  refine calR (As := []) (rest := [.int r]) cx hw hl.1 m2 q_1564 k_X12_forget rfl g1 rfl dL_1104 rfl (Nat.le_of_ble_eq_true rfl) ⟨(Nat.le_of_ble_eq_true rfl), (Nat.le_of_ble_eq_true rfl)⟩ ⟨by show cells + 0 ≤ 629818; omega, by show slots + 0 ≤ 7212793; omega⟩ (fun H locs hw => ?_)
  refine lv_icmp_eq (tgt := 1735) hx hb dL_1107 (by decide +kernel) (fun hc => ?_) (fun hc => absurd rfl hc)
  refine W.widen (k := cells + 6) (n := slots + 247) (by omega) (by omega) ?_
  exact kk _ _ H locs hI2 hw
theorem lc_lone : LC 1112 := by
  intro p l e s m below meth c b L xs D t sa sv nm Q a am wc wm H locs ls i cells slots cx hX hbl hL hi hI hw hl hc1 hc2 kk
  have hx := cx.1
  have hb := cx.2.1
  obtain ⟨f0, g0⟩ := hI.c0
  obtain ⟨f1, g1⟩ := hI.m0
  obtain ⟨r, wm2, Qv, m1, m2, h9⟩ := si_lone (l := l) (D := D) hI (xs (i + 1))
  refine lv_aload_n hx hb dL_1112 rfl (lv_at hl 1 rfl) ?_
  refine pushA (j := 1) cx hX hbl (Nat.not_le.mpr hbl) hw.2.2 hl hL (by omega) (by decide) (by decide) dL_1113 dL_1114 dL_1115 dL_1116 dL_1117 ?_
  refine calL (As := [.int (xs (i + 1))]) (rest := []) cx hw hl.1 m1 nE0 (fun _ _ _ => trivial) q_843 k_X11_lone rfl g0 rfl dL_1118 rfl (Nat.le_of_ble_eq_true rfl) ⟨(Nat.le_of_ble_eq_true rfl), (Nat.le_of_ble_eq_true rfl)⟩ ⟨by show cells + 0 ≤ 629818; omega, by show slots + 0 ≤ 7212793; omega⟩ (fun v wc2 H locs hq hw => ?_)
  obtain ⟨rfl, hI2⟩ := h9 v wc2 hq
  refine lv_aload_n hx hb dL_1121 rfl (lv_at hl 2 rfl) ?_
  refine pushA (j := 1) cx hX hbl (Nat.not_le.mpr hbl) hw.2.2 hl hL (by omega) (by decide) (by decide) dL_1122 dL_1123 dL_1124 dL_1125 dL_1126 ?_
  refine calR (As := [.int (xs (i + 1))]) (rest := [.int r]) cx hw hl.1 m2 q_1568 k_X12_lone rfl g1 rfl dL_1127 rfl (Nat.le_of_ble_eq_true rfl) ⟨(Nat.le_of_ble_eq_true rfl), (Nat.le_of_ble_eq_true rfl)⟩ ⟨by show cells + 0 ≤ 629818; omega, by show slots + 0 ≤ 7212793; omega⟩ (fun H locs hw => ?_)
  refine lv_icmp_eq (tgt := 1735) hx hb dL_1130 (by decide +kernel) (fun hc => ?_) (fun hc => absurd rfl hc)
  refine W.widen (k := cells + 6) (n := slots + 247) (by omega) (by omega) ?_
  exact kk _ _ H locs hI2 hw
theorem lc_liar : LC 1135 := by
  intro p l e s m below meth c b L xs D t sa sv nm Q a am wc wm H locs ls i cells slots cx hX hbl hL hi hI hw hl hc1 hc2 kk
  have hx := cx.1
  have hb := cx.2.1
  obtain ⟨f0, g0⟩ := hI.c0
  obtain ⟨f1, g1⟩ := hI.m0
  obtain ⟨r, wm2, Qv, m1, m2, h9⟩ := si_liar (l := l) (D := D) hI
  refine lv_aload_n hx hb dL_1135 rfl (lv_at hl 1 rfl) ?_
  refine calL (As := []) (rest := []) cx hw hl.1 m1 nE0 (fun _ _ _ => trivial) q_863 k_X11_liar rfl g0 rfl dL_1136 rfl (Nat.le_of_ble_eq_true rfl) ⟨(Nat.le_of_ble_eq_true rfl), (Nat.le_of_ble_eq_true rfl)⟩ ⟨by show cells + 0 ≤ 629818; omega, by show slots + 0 ≤ 7212793; omega⟩ (fun v wc2 H locs hq hw => ?_)
  obtain ⟨rfl, hI2⟩ := h9 v wc2 hq
  refine lv_aload_n hx hb dL_1139 rfl (lv_at hl 2 rfl) ?_
  refine calR (As := []) (rest := [.int r]) cx hw hl.1 m2 q_1584 k_X12_liar rfl g1 rfl dL_1140 rfl (Nat.le_of_ble_eq_true rfl) ⟨(Nat.le_of_ble_eq_true rfl), (Nat.le_of_ble_eq_true rfl)⟩ ⟨by show cells + 0 ≤ 629818; omega, by show slots + 0 ≤ 7212793; omega⟩ (fun H locs hw => ?_)
  refine lv_icmp_eq (tgt := 1735) hx hb dL_1143 (by decide +kernel) (fun hc => ?_) (fun hc => absurd rfl hc)
  refine W.widen (k := cells + 6) (n := slots + 247) (by omega) (by omega) ?_
  exact kk _ _ H locs hI2 hw
theorem lc_seed : LC 1148 := by
  intro p l e s m below meth c b L xs D t sa sv nm Q a am wc wm H locs ls i cells slots cx hX hbl hL hi hI hw hl hc1 hc2 kk
  have hx := cx.1
  have hb := cx.2.1
  obtain ⟨f0, g0⟩ := hI.c0
  obtain ⟨f1, g1⟩ := hI.m0
  obtain ⟨r, wm2, Qv, m1, m2, h9⟩ := si_seed (l := l) (D := D) hI (xs (i + 1))
  refine lv_aload_n hx hb dL_1148 rfl (lv_at hl 1 rfl) ?_
  refine pushA (j := 1) cx hX hbl (Nat.not_le.mpr hbl) hw.2.2 hl hL (by omega) (by decide) (by decide) dL_1149 dL_1150 dL_1151 dL_1152 dL_1153 ?_
  refine calL (As := [.int (xs (i + 1))]) (rest := []) cx hw hl.1 m1 nE0 (fun _ _ _ => trivial) q_873 k_X11_seed rfl g0 rfl dL_1154 rfl (Nat.le_of_ble_eq_true rfl) ⟨(Nat.le_of_ble_eq_true rfl), (Nat.le_of_ble_eq_true rfl)⟩ ⟨by show cells + 0 ≤ 629818; omega, by show slots + 0 ≤ 7212793; omega⟩ (fun v wc2 H locs hq hw => ?_)
  obtain ⟨rfl, hI2⟩ := h9 v wc2 hq
  refine lv_aload_n hx hb dL_1157 rfl (lv_at hl 2 rfl) ?_
  refine pushA (j := 1) cx hX hbl (Nat.not_le.mpr hbl) hw.2.2 hl hL (by omega) (by decide) (by decide) dL_1158 dL_1159 dL_1160 dL_1161 dL_1162 ?_
  refine calR (As := [.int (xs (i + 1))]) (rest := [.int r]) cx hw hl.1 m2 q_1588 k_X12_seed rfl g1 rfl dL_1163 rfl (Nat.le_of_ble_eq_true rfl) ⟨(Nat.le_of_ble_eq_true rfl), (Nat.le_of_ble_eq_true rfl)⟩ ⟨by show cells + 0 ≤ 629818; omega, by show slots + 0 ≤ 7212793; omega⟩ (fun H locs hw => ?_)
  refine lv_icmp_eq (tgt := 1735) hx hb dL_1166 (by decide +kernel) (fun hc => ?_) (fun hc => absurd rfl hc)
  refine W.widen (k := cells + 6) (n := slots + 247) (by omega) (by omega) ?_
  exact kk _ _ H locs hI2 hw
theorem lc_lot : LC 1171 := by
  intro p l e s m below meth c b L xs D t sa sv nm Q a am wc wm H locs ls i cells slots cx hX hbl hL hi hI hw hl hc1 hc2 kk
  have hx := cx.1
  have hb := cx.2.1
  obtain ⟨f0, g0⟩ := hI.c0
  obtain ⟨f1, g1⟩ := hI.m0
  obtain ⟨r, wm2, Qv, m1, m2, h9⟩ := si_lot (l := l) (D := D) hI
  refine lv_aload_n hx hb dL_1171 rfl (lv_at hl 1 rfl) ?_
  refine calL (As := []) (rest := []) cx hw hl.1 m1 nE0 (fun _ _ _ => trivial) q_877 k_X11_lot rfl g0 rfl dL_1172 rfl (Nat.le_of_ble_eq_true rfl) ⟨(Nat.le_of_ble_eq_true rfl), (Nat.le_of_ble_eq_true rfl)⟩ ⟨by show cells + 0 ≤ 629818; omega, by show slots + 0 ≤ 7212793; omega⟩ (fun v wc2 H locs hq hw => ?_)
  obtain ⟨rfl, hI2⟩ := h9 v wc2 hq
  refine lv_aload_n hx hb dL_1175 rfl (lv_at hl 2 rfl) ?_
  refine calR (As := []) (rest := [.int r]) cx hw hl.1 m2 q_1592 k_X12_lot rfl g1 rfl dL_1176 rfl (Nat.le_of_ble_eq_true rfl) ⟨(Nat.le_of_ble_eq_true rfl), (Nat.le_of_ble_eq_true rfl)⟩ ⟨by show cells + 0 ≤ 629818; omega, by show slots + 0 ≤ 7212793; omega⟩ (fun H locs hw => ?_)
  refine lv_icmp_eq (tgt := 1735) hx hb dL_1179 (by decide +kernel) (fun hc => ?_) (fun hc => absurd rfl hc)
  refine W.widen (k := cells + 6) (n := slots + 247) (by omega) (by omega) ?_
  exact kk _ _ H locs hI2 hw
