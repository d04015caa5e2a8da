def X6_sortOf (v0 : Int32) : Option (Int32) :=
  (jn (fun J1 => (if v0 < (97 : Int32) then (J1 ()) else (if (122 : Int32) < v0 then (J1 ()) else some (1 : Int32)))) fun j1 => (if v0 < (48 : Int32) then some (0 : Int32) else (if (57 : Int32) < v0 then some (0 : Int32) else some (2 : Int32))))
def X6_endOfRow_L1 (n : Nat) (x_t_length : Int32) (x_t_tape : Nat → Int32) (v2 : Int32) : Nat → Int32 → Option (Int32)
  | 0, _ => none
  | k + 1, v3 => (if v2 = 0 then some v3 else (if x_t_length ≤ v3 then some v3 else (if (ib v3 200) = true then ((X6_sortOf (x_t_tape v3.toNatClampNeg)).bind fun r5 => (if r5 = v2 then (X6_endOfRow_L1 n x_t_length x_t_tape v2 k (v3 + (1 : Int32))) else some v3)) else none)))
def X6_endOfRow (n : Nat) (x_t_length : Int32) (x_t_tape : Nat → Int32) (v1 : Int32) : Option (Int32) :=
  (if (ib v1 200) = true then ((X6_sortOf (x_t_tape v1.toNatClampNeg)).bind fun r2 => ((X6_endOfRow_L1 n x_t_length x_t_tape r2 n (v1 + (1 : Int32))).bind fun o7 => some o7)) else none)
def X6_numberOf_L1 (n : Nat) (x_t_tape : Nat → Int32) (v2 : Int32) : Nat → Int32 → Int32 → Option (Int32 × Int32)
  | 0, _, _ => none
  | k + 1, v3, v4 => (if v2 ≤ v4 then some (v3, v4) else (if (ib v4 200) = true then (X6_numberOf_L1 n x_t_tape v2 k ((((10 : Int32) * v3) + (x_t_tape v4.toNatClampNeg)) - (48 : Int32)) (v4 + (1 : Int32))) else none))
def X6_numberOf (n : Nat) (x_t_tape : Nat → Int32) (v1 : Int32) (v2 : Int32) : Option (Int32) :=
  (if (v2 - v1) ≤ (4 : Int32) then ((X6_numberOf_L1 n x_t_tape v2 n (0 : Int32) v1).bind fun o2 => some o2.1) else some (-1 : Int32))
def X6_isWord_L1 (n : Nat) (x_t_tape : Nat → Int32) (v1 : Int32) (v2 : Int32) (v3 : Int32) (K1 : (Int32) → Option (Int32)) : Nat → Int32 → Option (Int32)
  | 0, _ => none
  | k + 1, v4 => (if v3 ≤ v4 then (K1 v4) else (if (ib ((v1 + v4) - v2) 97) = true then (if (ib v4 200) = true then (if (wch ((v1 + v4) - v2).toNatClampNeg) = (x_t_tape v4.toNatClampNeg) then (X6_isWord_L1 n x_t_tape v1 v2 v3 K1 k (v4 + (1 : Int32))) else some (0 : Int32)) else none) else none))
def X6_isWord (n : Nat) (x_t_tape : Nat → Int32) (v1 : Int32) (v2 : Int32) (v3 : Int32) : Option (Int32) :=
  (jn (fun K1 => X6_isWord_L1 n x_t_tape v1 v2 v3 K1 n v2) fun o3 => some (1 : Int32))
def X6_wordOf_L1 (n : Nat) (x_t_tape : Nat → Int32) (v1 : Int32) (v2 : Int32) (K1 : (Int32 × Int32 × Int32) → Option (Int32)) : Nat → Int32 → Int32 → Int32 → Option (Int32)
  | 0, _, _, _ => none
  | k + 1, v3, v4, v5 => (if (97 : Int32) < v5 then (K1 (v3, v4, v5)) else (jn (fun J6 => (jn (fun J2 => (if (97 : Int32) ≤ v5 then (J2 ()) else (if (ib v5 97) = true then (if (wch v5.toNatClampNeg) = (32 : Int32) then (J2 ()) else (J6 ())) else none))) fun j2 => (jn (fun J5 => (if (v5 - v4) = (v2 - v1) then ((X6_isWord n x_t_tape v4 v1 v2).bind fun r3 => (if r3 = 0 then (J5 ()) else some v3)) else (J5 ()))) fun j5 => (X6_wordOf_L1 n x_t_tape v1 v2 K1 k (v3 + (1 : Int32)) (v5 + (1 : Int32)) (v5 + (1 : Int32)))))) fun j6 => (X6_wordOf_L1 n x_t_tape v1 v2 K1 k v3 v4 (v5 + (1 : Int32)))))
def X6_wordOf (n : Nat) (x_t_tape : Nat → Int32) (v1 : Int32) (v2 : Int32) : Option (Int32) :=
  (jn (fun K1 => X6_wordOf_L1 n x_t_tape v1 v2 K1 n (10000 : Int32) (0 : Int32) (0 : Int32)) fun o7 => some (-1 : Int32))
def X6_cutWords_L1 (n : Nat) (x_t_length : Int32) (x_t_tape : Nat → Int32) : Nat → Int32 → Int32 → Int32 → (Nat → Int32) → (Nat → Int32) → Option (Int32 × Int32 × Int32 × (Nat → Int32) × (Nat → Int32))
  | 0, _, _, _, _, _ => none
  | k + 1, v1, v2, v3, x_t_words, x_t_places => (if (200 : Int32) ≤ v3 then some (v1, v2, v3, x_t_words, x_t_places) else (if x_t_length ≤ v2 then some (v1, v2, v3, x_t_words, x_t_places) else ((X6_endOfRow n x_t_length x_t_tape v2).bind fun r1 => (if (ib v2 200) = true then ((if (x_t_tape v2.toNatClampNeg) = (32 : Int32) then some (v1, x_t_words, x_t_places) else (if (ib v1 201) = true then (if (ib v2 200) = true then ((X6_sortOf (x_t_tape v2.toNatClampNeg)).bind fun r6 => ((if r6 = (2 : Int32) then ((X6_numberOf n x_t_tape v2 r1).bind fun r8 => some r8) else ((X6_wordOf n x_t_tape v2 r1).bind fun r10 => some r10)).bind fun j12 => (if (ib v1 201) = true then some ((v1 + (1 : Int32)), (upd x_t_words v1.toNatClampNeg j12), (upd x_t_places v1.toNatClampNeg v2)) else none))) else none) else none)).bind fun j14 => (X6_cutWords_L1 n x_t_length x_t_tape k j14.1 r1 (v3 + (1 : Int32)) j14.2.1 j14.2.2)) else none))))
def X6_cutWords (n : Nat) (x_t_length : Int32) (x_t_tape : Nat → Int32) (x_t_words : Nat → Int32) (x_t_places : Nat → Int32) : Option ((Nat → Int32) × (Nat → Int32)) :=
  ((X6_cutWords_L1 n x_t_length x_t_tape n (0 : Int32) (0 : Int32) (0 : Int32) x_t_words x_t_places).bind fun o15 => (if (ib o15.1 201) = true then (if (ib o15.1 201) = true then some ((upd o15.2.2.2.1 o15.1.toNatClampNeg (-2 : Int32)), (upd o15.2.2.2.2 o15.1.toNatClampNeg x_t_length)) else none) else none))
def X6_takes (x_t_words : Nat → Int32) (x_t_at : Int32) (v1 : Int32) : Option (Int32 × Int32) :=
  (if (ib x_t_at 201) = true then (if (x_t_words x_t_at.toNatClampNeg) = v1 then some ((1 : Int32), (x_t_at + (1 : Int32))) else some ((0 : Int32), x_t_at)) else none)
def X6_emit (x_t_code : Nat → Int32) (x_t_size : Int32) (v1 : Int32) : Option ((Nat → Int32) × Int32) :=
  (if x_t_size < (200 : Int32) then (if (ib x_t_size 200) = true then some ((upd x_t_code x_t_size.toNatClampNeg v1), (x_t_size + (1 : Int32))) else none) else some (x_t_code, x_t_size))
def X6_readCompared (x_t_words : Nat → Int32) (x_t_at : Int32) (x_t_code : Nat → Int32) (x_t_size : Int32) : Option (Int32 × Int32 × (Nat → Int32) × Int32) :=
  (if (ib x_t_at 201) = true then (if (X11_isIn (x_t_words x_t_at.toNatClampNeg) (0 : Int32) (10004 : Int32)) = 0 then some ((0 : Int32), x_t_at, x_t_code, x_t_size) else (if (ib (x_t_at + (1 : Int32)) 201) = true then (if (X11_isIn (x_t_words ((x_t_at + (1 : Int32)).toNatClampNeg)) (10005 : Int32) (10007 : Int32)) = 0 then some ((0 : Int32), (x_t_at + (1 : Int32)), x_t_code, x_t_size) else (if (ib ((x_t_at + (1 : Int32)) + (1 : Int32)) 201) = true then (if (X11_isIn (x_t_words (((x_t_at + (1 : Int32)) + (1 : Int32)).toNatClampNeg)) (0 : Int32) (10004 : Int32)) = 0 then some ((0 : Int32), ((x_t_at + (1 : Int32)) + (1 : Int32)), x_t_code, x_t_size) else ((X6_emit x_t_code x_t_size (x_t_words x_t_at.toNatClampNeg)).bind fun r4 => ((X6_emit r4.1 r4.2 (x_t_words (((x_t_at + (1 : Int32)) + (1 : Int32)).toNatClampNeg))).bind fun r6 => ((X6_emit r6.1 r6.2 (x_t_words ((x_t_at + (1 : Int32)).toNatClampNeg))).bind fun r8 => some ((1 : Int32), (((x_t_at + (1 : Int32)) + (1 : Int32)) + (1 : Int32)), r8.1, r8.2))))) else none)) else none)) else none)
def X6_readCondition_L1 (n : Nat) (F : Nat → (Nat → Int32) → Int32 → (Nat → Int32) → Int32 → Int32 → Option (Int32 × Int32 × (Nat → Int32) × Int32)) (x_t_words : Nat → Int32) (v1 : Int32) (K1 : (Int32 × Int32 × (Nat → Int32) × Int32) → Option (Int32 × Int32 × (Nat → Int32) × Int32)) : Nat → Int32 → Int32 → (Nat → Int32) → Int32 → Option (Int32 × Int32 × (Nat → Int32) × Int32)
  | 0, _, _, _, _ => none
  | k + 1, v2, x_t_at, x_t_code, x_t_size => (if (200 : Int32) ≤ v2 then (K1 (v2, x_t_at, x_t_code, x_t_size)) else ((X6_takes x_t_words x_t_at (10010 : Int32)).bind fun r3 => (if r3.1 = 0 then (K1 (v2, r3.2, x_t_code, x_t_size)) else ((F 1 x_t_words r3.2 x_t_code x_t_size v1).bind fun r5 => (if r5.1 = 0 then some ((0 : Int32), r5.2.1, r5.2.2.1, r5.2.2.2) else ((X6_emit r5.2.2.1 r5.2.2.2 (10010 : Int32)).bind fun r7 => (X6_readCondition_L1 n F x_t_words v1 K1 k (v2 + (1 : Int32)) r5.2.1 r7.1 r7.2)))))))
def X6_readCondition_b (n : Nat) (F : Nat → (Nat → Int32) → Int32 → (Nat → Int32) → Int32 → Int32 → Option (Int32 × Int32 × (Nat → Int32) × Int32)) (x_t_words : Nat → Int32) (x_t_at : Int32) (x_t_code : Nat → Int32) (x_t_size : Int32) (v1 : Int32) : Option (Int32 × Int32 × (Nat → Int32) × Int32) :=
  ((F 1 x_t_words x_t_at x_t_code x_t_size v1).bind fun r1 => (if r1.1 = 0 then some ((0 : Int32), r1.2.1, r1.2.2.1, r1.2.2.2) else (jn (fun K1 => X6_readCondition_L1 n F x_t_words v1 K1 n (0 : Int32) r1.2.1 r1.2.2.1 r1.2.2.2) fun o9 => some ((1 : Int32), o9.2.1, o9.2.2.1, o9.2.2.2))))
def X6_readAll_L1 (n : Nat) (F : Nat → (Nat → Int32) → Int32 → (Nat → Int32) → Int32 → Int32 → Option (Int32 × Int32 × (Nat → Int32) × Int32)) (x_t_words : Nat → Int32) (v1 : Int32) (K1 : (Int32 × Int32 × (Nat → Int32) × Int32) → Option (Int32 × Int32 × (Nat → Int32) × Int32)) : Nat → Int32 → Int32 → (Nat → Int32) → Int32 → Option (Int32 × Int32 × (Nat → Int32) × Int32)
  | 0, _, _, _, _ => none
  | k + 1, v2, x_t_at, x_t_code, x_t_size => (if (200 : Int32) ≤ v2 then (K1 (v2, x_t_at, x_t_code, x_t_size)) else ((X6_takes x_t_words x_t_at (10009 : Int32)).bind fun r3 => (if r3.1 = 0 then (K1 (v2, r3.2, x_t_code, x_t_size)) else ((F 2 x_t_words r3.2 x_t_code x_t_size v1).bind fun r5 => (if r5.1 = 0 then some ((0 : Int32), r5.2.1, r5.2.2.1, r5.2.2.2) else ((X6_emit r5.2.2.1 r5.2.2.2 (10009 : Int32)).bind fun r7 => (X6_readAll_L1 n F x_t_words v1 K1 k (v2 + (1 : Int32)) r5.2.1 r7.1 r7.2)))))))
def X6_readAll_b (n : Nat) (F : Nat → (Nat → Int32) → Int32 → (Nat → Int32) → Int32 → Int32 → Option (Int32 × Int32 × (Nat → Int32) × Int32)) (x_t_words : Nat → Int32) (x_t_at : Int32) (x_t_code : Nat → Int32) (x_t_size : Int32) (v1 : Int32) : Option (Int32 × Int32 × (Nat → Int32) × Int32) :=
  ((F 2 x_t_words x_t_at x_t_code x_t_size v1).bind fun r1 => (if r1.1 = 0 then some ((0 : Int32), r1.2.1, r1.2.2.1, r1.2.2.2) else (jn (fun K1 => X6_readAll_L1 n F x_t_words v1 K1 n (0 : Int32) r1.2.1 r1.2.2.1 r1.2.2.2) fun o9 => some ((1 : Int32), o9.2.1, o9.2.2.1, o9.2.2.2))))
def X6_readOne_L1 (n : Nat) (F : Nat → (Nat → Int32) → Int32 → (Nat → Int32) → Int32 → Int32 → Option (Int32 × Int32 × (Nat → Int32) × Int32)) (x_t_words : Nat → Int32) : Nat → Int32 → Int32 → Int32 → Option (Int32 × Int32 × Int32)
  | 0, _, _, _ => none
  | k + 1, v2, v3, x_t_at => (if (200 : Int32) ≤ v3 then some (v2, v3, x_t_at) else ((X6_takes x_t_words x_t_at (10008 : Int32)).bind fun r1 => (if r1.1 = 0 then some (v2, v3, r1.2) else (pb (if v2 = 0 then (1 : Int32) else (0 : Int32)) fun j3 => (X6_readOne_L1 n F x_t_words k j3 (v3 + (1 : Int32)) r1.2)))))
def X6_readOne_b (n : Nat) (F : Nat → (Nat → Int32) → Int32 → (Nat → Int32) → Int32 → Int32 → Option (Int32 × Int32 × (Nat → Int32) × Int32)) (x_t_words : Nat → Int32) (x_t_at : Int32) (x_t_code : Nat → Int32) (x_t_size : Int32) (v1 : Int32) : Option (Int32 × Int32 × (Nat → Int32) × Int32) :=
  ((X6_readOne_L1 n F x_t_words n (0 : Int32) (0 : Int32) x_t_at).bind fun o4 => (if (ib o4.2.2 201) = true then ((if (x_t_words o4.2.2.toNatClampNeg) = (10012 : Int32) then ((F 3 x_t_words o4.2.2 x_t_code x_t_size (v1 + (1 : Int32))).bind fun r6 => some (r6.1, r6.2.1, r6.2.2.1, r6.2.2.2)) else ((X6_readCompared x_t_words o4.2.2 x_t_code x_t_size).bind fun r8 => some (r8.1, r8.2.1, r8.2.2.1, r8.2.2.2))).bind fun j10 => (if j10.1 = 0 then (if (bk j10.1) = true then some (j10.1, j10.2.1, j10.2.2.1, j10.2.2.2) else none) else (if o4.1 = 0 then (if (bk j10.1) = true then some (j10.1, j10.2.1, j10.2.2.1, j10.2.2.2) else none) else ((X6_emit j10.2.2.1 j10.2.2.2 (10008 : Int32)).bind fun r11 => (if (bk j10.1) = true then some (j10.1, j10.2.1, r11.1, r11.2) else none))))) else none))
def X6_readOpened_b (n : Nat) (F : Nat → (Nat → Int32) → Int32 → (Nat → Int32) → Int32 → Int32 → Option (Int32 × Int32 × (Nat → Int32) × Int32)) (x_t_words : Nat → Int32) (x_t_at : Int32) (x_t_code : Nat → Int32) (x_t_size : Int32) (v1 : Int32) : Option (Int32 × Int32 × (Nat → Int32) × Int32) :=
  (if v1 ≤ (3 : Int32) then ((F 0 x_t_words (x_t_at + (1 : Int32)) x_t_code x_t_size v1).bind fun r1 => (if r1.1 = 0 then some ((0 : Int32), r1.2.1, r1.2.2.1, r1.2.2.2) else ((X6_takes x_t_words r1.2.1 (10013 : Int32)).bind fun r3 => (if r3.1 = 0 then some ((0 : Int32), r3.2, r1.2.2.1, r1.2.2.2) else some ((1 : Int32), r3.2, r1.2.2.1, r1.2.2.2))))) else some ((0 : Int32), x_t_at, x_t_code, x_t_size))
def X6_readCondition_G (n : Nat) : Nat → Nat → (Nat → Int32) → Int32 → (Nat → Int32) → Int32 → Int32 → Option (Int32 × Int32 × (Nat → Int32) × Int32)
  | 0, _, _, _, _, _, _ => none
  | d + 1, g, x_t_words, x_t_at, x_t_code, x_t_size, v1 => (match g with | 0 => X6_readCondition_b n (X6_readCondition_G n d) x_t_words x_t_at x_t_code x_t_size v1 | 1 => X6_readAll_b n (X6_readCondition_G n d) x_t_words x_t_at x_t_code x_t_size v1 | 2 => X6_readOne_b n (X6_readCondition_G n d) x_t_words x_t_at x_t_code x_t_size v1 | 3 => X6_readOpened_b n (X6_readCondition_G n d) x_t_words x_t_at x_t_code x_t_size v1 | _ + 4 => none)
def X6_readCondition (n d : Nat) (x_t_words : Nat → Int32) (x_t_at : Int32) (x_t_code : Nat → Int32) (x_t_size : Int32) (v1 : Int32) : Option (Int32 × Int32 × (Nat → Int32) × Int32) := X6_readCondition_G n d 0 x_t_words x_t_at x_t_code x_t_size v1
def X6_readAll (n d : Nat) (x_t_words : Nat → Int32) (x_t_at : Int32) (x_t_code : Nat → Int32) (x_t_size : Int32) (v1 : Int32) : Option (Int32 × Int32 × (Nat → Int32) × Int32) := X6_readCondition_G n d 1 x_t_words x_t_at x_t_code x_t_size v1
def X6_readOne (n d : Nat) (x_t_words : Nat → Int32) (x_t_at : Int32) (x_t_code : Nat → Int32) (x_t_size : Int32) (v1 : Int32) : Option (Int32 × Int32 × (Nat → Int32) × Int32) := X6_readCondition_G n d 2 x_t_words x_t_at x_t_code x_t_size v1
def X6_readOpened (n d : Nat) (x_t_words : Nat → Int32) (x_t_at : Int32) (x_t_code : Nat → Int32) (x_t_size : Int32) (v1 : Int32) : Option (Int32 × Int32 × (Nat → Int32) × Int32) := X6_readCondition_G n d 3 x_t_words x_t_at x_t_code x_t_size v1
def X6_readRule (n : Nat) (x_t_words : Nat → Int32) (x_t_at : Int32) (x_t_kinds : Nat → Int32) (x_t_wills : Nat → Int32) (x_t_starts : Nat → Int32) (x_t_code : Nat → Int32) (x_t_count : Int32) (x_t_size : Int32) (v1 : Int32) : Option (Int32 × Int32 × (Nat → Int32) × (Nat → Int32) × (Nat → Int32) × (Nat → Int32) × Int32 × Int32) :=
  (if (ib x_t_at 201) = true then (if (X11_isIn (x_t_words x_t_at.toNatClampNeg) (10018 : Int32) (10023 : Int32)) = 0 then some ((0 : Int32), x_t_at, x_t_kinds, x_t_wills, x_t_starts, x_t_code, x_t_count, x_t_size) else (if (ib x_t_at 201) = true then (if (ib v1 8) = true then (if (ib v1 9) = true then ((X6_takes x_t_words (x_t_at + (1 : Int32)) (10011 : Int32)).bind fun r5 => (jn (fun J9 => (if r5.1 = 0 then (J9 (r5.2, x_t_code, x_t_size)) else ((X6_readCondition n 20 x_t_words r5.2 x_t_code x_t_size (0 : Int32)).bind fun r7 => (if r7.1 = 0 then some ((0 : Int32), r7.2.1, (upd x_t_kinds v1.toNatClampNeg ((x_t_words x_t_at.toNatClampNeg) - (10018 : Int32))), x_t_wills, (upd x_t_starts v1.toNatClampNeg x_t_size), r7.2.2.1, x_t_count, r7.2.2.2) else (J9 (r7.2.1, r7.2.2.1, r7.2.2.2)))))) fun j9 => (if (ib j9.1 201) = true then (if (X11_isIn (x_t_words j9.1.toNatClampNeg) (10015 : Int32) (10017 : Int32)) = 0 then some ((0 : Int32), j9.1, (upd x_t_kinds v1.toNatClampNeg ((x_t_words x_t_at.toNatClampNeg) - (10018 : Int32))), x_t_wills, (upd x_t_starts v1.toNatClampNeg x_t_size), j9.2.1, x_t_count, j9.2.2) else (if (ib j9.1 201) = true then (if (ib v1 8) = true then ((X6_takes x_t_words (j9.1 + (1 : Int32)) (10014 : Int32)).bind fun r13 => (if (bk r13.1) = true then some (r13.1, r13.2, (upd x_t_kinds v1.toNatClampNeg ((x_t_words x_t_at.toNatClampNeg) - (10018 : Int32))), (upd x_t_wills v1.toNatClampNeg ((x_t_words j9.1.toNatClampNeg) - (10015 : Int32))), (upd x_t_starts v1.toNatClampNeg x_t_size), j9.2.1, (x_t_count + (1 : Int32)), j9.2.2) else none)) else none) else none)) else none))) else none) else none) else none)) else none)
def X6_read_L1 (n : Nat) (x_t_words : Nat → Int32) (x_t_places : Nat → Int32) (K1 : (Int32 × Int32 × (Nat → Int32) × (Nat → Int32) × (Nat → Int32) × (Nat → Int32) × Int32 × Int32) → Option (Int32 × (Nat → Int32) × (Nat → Int32) × Int32 × (Nat → Int32) × (Nat → Int32) × (Nat → Int32) × (Nat → Int32) × Int32 × Int32)) : Nat → Int32 → Int32 → (Nat → Int32) → (Nat → Int32) → (Nat → Int32) → (Nat → Int32) → Int32 → Int32 → Option (Int32 × (Nat → Int32) × (Nat → Int32) × Int32 × (Nat → Int32) × (Nat → Int32) × (Nat → Int32) × (Nat → Int32) × Int32 × Int32)
  | 0, _, _, _, _, _, _, _, _ => none
  | k + 1, v1, x_t_at, x_t_kinds, x_t_wills, x_t_starts, x_t_code, x_t_count, x_t_size => (if (8 : Int32) ≤ v1 then (K1 (v1, x_t_at, x_t_kinds, x_t_wills, x_t_starts, x_t_code, x_t_count, x_t_size)) else (if (ib x_t_at 201) = true then (if (x_t_words x_t_at.toNatClampNeg) = (-2 : Int32) then (K1 (v1, x_t_at, x_t_kinds, x_t_wills, x_t_starts, x_t_code, x_t_count, x_t_size)) else ((X6_readRule n x_t_words x_t_at x_t_kinds x_t_wills x_t_starts x_t_code x_t_count x_t_size v1).bind fun r4 => (if r4.1 = 0 then some ((0 : Int32), x_t_words, x_t_places, r4.2.1, r4.2.2.1, r4.2.2.2.1, r4.2.2.2.2.1, r4.2.2.2.2.2.1, r4.2.2.2.2.2.2.1, r4.2.2.2.2.2.2.2) else (X6_read_L1 n x_t_words x_t_places K1 k (v1 + (1 : Int32)) r4.2.1 r4.2.2.1 r4.2.2.2.1 r4.2.2.2.2.1 r4.2.2.2.2.2.1 r4.2.2.2.2.2.2.1 r4.2.2.2.2.2.2.2)))) else none))
def X6_read (n : Nat) (x_t_length : Int32) (x_t_tape : Nat → Int32) (x_t_words : Nat → Int32) (x_t_places : Nat → Int32) (x_t_kinds : Nat → Int32) (x_t_wills : Nat → Int32) (x_t_starts : Nat → Int32) (x_t_code : Nat → Int32) : Option (Int32 × (Nat → Int32) × (Nat → Int32) × Int32 × (Nat → Int32) × (Nat → Int32) × (Nat → Int32) × (Nat → Int32) × Int32 × Int32) :=
  ((X6_cutWords n x_t_length x_t_tape x_t_words x_t_places).bind fun r1 => (jn (fun K1 => X6_read_L1 n r1.1 r1.2 K1 n (0 : Int32) (0 : Int32) x_t_kinds x_t_wills x_t_starts x_t_code (0 : Int32) (0 : Int32)) fun o6 => (if (ib o6.2.1 201) = true then (if (r1.1 o6.2.1.toNatClampNeg) = (-2 : Int32) then some ((1 : Int32), r1.1, r1.2, o6.2.1, o6.2.2.1, o6.2.2.2.1, o6.2.2.2.2.1, o6.2.2.2.2.2.1, o6.2.2.2.2.2.2.1, o6.2.2.2.2.2.2.2) else some ((0 : Int32), r1.1, r1.2, o6.2.1, o6.2.2.1, o6.2.2.2.1, o6.2.2.2.2.1, o6.2.2.2.2.2.1, o6.2.2.2.2.2.2.1, o6.2.2.2.2.2.2.2)) else none)))
def X6_fault (x_t_places : Nat → Int32) (x_t_at : Int32) : Option (Int32) :=
  (if (ib x_t_at 201) = true then some (x_t_places x_t_at.toNatClampNeg) else none)
section CREADROWS
variable {p : Program} {l : Launch} {e : Env} {R : Room} {s : State} {m : MethodId} {args : Array Value} {below : List Frame} {meth : Method} {c : Code} {H : Heap} {locs : List Loc} {cells slots : Nat} {Q : State → Prop}
variable {E : EX} {D : va_G} {t : Nat → ClassId} {cc : ByteArray} {own nm : String} {nL pc : Nat} {A : Nat → Prop} {ls : Array Slot} {rest : List Value} {a : Nat → Nat} {ar : Nat → Nat → Nat} {x_q0_dials : Nat → Nat → Int32} {x_q0_spots : Nat → Nat → Int32} {x_q0_skies : Nat → Int32} {x_q0_reports : Nat → Nat → Int32} {x_q0_count : Int32} {x_q0_chime : Int32} {x_q0_end : Int32} {x_q0_score : Int32} {x_q0_reportCount : Int32} {x_q0_z : Int32} {x_q0_rules : Nat} {x_q0_shades : Nat → Int32} {x_q0_facts : Nat → Int32} {x_q1_dials : Nat → Nat → Int32} {x_q1_spots : Nat → Nat → Int32} {x_q1_skies : Nat → Int32} {x_q1_reports : Nat → Nat → Int32} {x_q1_count : Int32} {x_q1_chime : Int32} {x_q1_end : Int32} {x_q1_score : Int32} {x_q1_reportCount : Int32} {x_q1_z : Int32} {x_q1_rules : Nat} {x_q1_shades : Nat → Int32} {x_q1_facts : Nat → Int32} {x_q2_dials : Nat → Nat → Int32} {x_q2_spots : Nat → Nat → Int32} {x_q2_skies : Nat → Int32} {x_q2_reports : Nat → Nat → Int32} {x_q2_count : Int32} {x_q2_chime : Int32} {x_q2_end : Int32} {x_q2_score : Int32} {x_q2_reportCount : Int32} {x_q2_z : Int32} {x_q2_rules : Nat} {x_q2_shades : Nat → Int32} {x_q2_facts : Nat → Int32} {x_isKept : Int32} {x_marks : Nat → Int32} {x_p_first : Nat → Int32} {x_p_steps : Int32} {x_p_most : Int32} {x_p_many : Int32} {x_p_fewest : Int32} {x_p_everRight : Int32} {x_p_opening : Int32} {x_p_rows : Nat → Nat → Int32} {x_p_rowCount : Int32} {x_p_acts : Nat → Int32} {x_p_marks : Nat → Nat → Int32} {x_p_deepest : Int32} {x_p_wanted : Int32} {x_t_length : Int32} {x_t_tape : Nat → Int32} {x_t_words : Nat → Int32} {x_t_places : Nat → Int32} {x_t_at : Int32} {x_t_kinds : Nat → Int32} {x_t_wills : Nat → Int32} {x_t_starts : Nat → Int32} {x_t_code : Nat → Int32} {x_t_count : Int32} {x_t_size : Int32} {x_h_sorts : Nat → Int32} {x_h_lengths : Nat → Int32} {x_h_items : Nat → Nat → Int32} {x_h_held : Nat → Int32} {x_h_things : Nat → Int32} {x_h_sizes : Nat → Int32} {x_h_bodies : Nat → Int32} {x_h_traced : Int32} {x_h_number : Int32} {x_h_spot : Int32} {x_h_parted : Int32} {x_g_count : Nat → Int32} {x_g_kinds : Nat → Nat → Int32} {x_g_wills : Nat → Nat → Int32} {x_g_starts : Nat → Nat → Int32} {x_g_code : Nat → Nat → Int32} {x_g_stack : Nat → Nat → Int32} {x_g_kl : Nat → Nat} {x_g_wl : Nat → Nat} {x_g_sl : Nat → Nat} {x_g_cl : Nat → Nat} {x_nr : Nat}
end CREADROWS
section CREAD
variable {l : Launch} {D : va_G} {t : Nat → ClassId} {a : Nat → Nat} {ar : Nat → Nat → Nat} {n : Nat} {x_q0_dials : Nat → Nat → Int32} {x_q0_spots : Nat → Nat → Int32} {x_q0_skies : Nat → Int32} {x_q0_reports : Nat → Nat → Int32} {x_q0_count : Int32} {x_q0_chime : Int32} {x_q0_end : Int32} {x_q0_score : Int32} {x_q0_reportCount : Int32} {x_q0_z : Int32} {x_q0_rules : Nat} {x_q0_shades : Nat → Int32} {x_q0_facts : Nat → Int32} {x_q1_dials : Nat → Nat → Int32} {x_q1_spots : Nat → Nat → Int32} {x_q1_skies : Nat → Int32} {x_q1_reports : Nat → Nat → Int32} {x_q1_count : Int32} {x_q1_chime : Int32} {x_q1_end : Int32} {x_q1_score : Int32} {x_q1_reportCount : Int32} {x_q1_z : Int32} {x_q1_rules : Nat} {x_q1_shades : Nat → Int32} {x_q1_facts : Nat → Int32} {x_q2_dials : Nat → Nat → Int32} {x_q2_spots : Nat → Nat → Int32} {x_q2_skies : Nat → Int32} {x_q2_reports : Nat → Nat → Int32} {x_q2_count : Int32} {x_q2_chime : Int32} {x_q2_end : Int32} {x_q2_score : Int32} {x_q2_reportCount : Int32} {x_q2_z : Int32} {x_q2_rules : Nat} {x_q2_shades : Nat → Int32} {x_q2_facts : Nat → Int32} {x_isKept : Int32} {x_marks : Nat → Int32} {x_p_first : Nat → Int32} {x_p_steps : Int32} {x_p_most : Int32} {x_p_many : Int32} {x_p_fewest : Int32} {x_p_everRight : Int32} {x_p_opening : Int32} {x_p_rows : Nat → Nat → Int32} {x_p_rowCount : Int32} {x_p_acts : Nat → Int32} {x_p_marks : Nat → Nat → Int32} {x_p_deepest : Int32} {x_p_wanted : Int32} {x_t_length : Int32} {x_t_tape : Nat → Int32} {x_t_words : Nat → Int32} {x_t_places : Nat → Int32} {x_t_at : Int32} {x_t_kinds : Nat → Int32} {x_t_wills : Nat → Int32} {x_t_starts : Nat → Int32} {x_t_code : Nat → Int32} {x_t_count : Int32} {x_t_size : Int32} {x_h_sorts : Nat → Int32} {x_h_lengths : Nat → Int32} {x_h_items : Nat → Nat → Int32} {x_h_held : Nat → Int32} {x_h_things : Nat → Int32} {x_h_sizes : Nat → Int32} {x_h_bodies : Nat → Int32} {x_h_traced : Int32} {x_h_number : Int32} {x_h_spot : Int32} {x_h_parted : Int32} {x_g_count : Nat → Int32} {x_g_kinds : Nat → Nat → Int32} {x_g_wills : Nat → Nat → Int32} {x_g_starts : Nat → Nat → Int32} {x_g_code : Nat → Nat → Int32} {x_g_stack : Nat → Nat → Int32} {x_g_kl : Nat → Nat} {x_g_wl : Nat → Nat} {x_g_sl : Nat → Nat} {x_g_cl : Nat → Nat} {x_nr : Nat} {sa sv : Nat}
theorem dX6_sortOf_0 : decode cX6_sortOf 0 = .ok (.iload_n 0, 1) := by decide +kernel
theorem dX6_sortOf_1 : decode cX6_sortOf 1 = .ok (.bipush 97, 2) := by decide +kernel
theorem dX6_sortOf_3 : decode cX6_sortOf 3 = .ok (.if_icmp .lt 11, 3) := by decide +kernel
theorem dX6_sortOf_6 : decode cX6_sortOf 6 = .ok (.iload_n 0, 1) := by decide +kernel
theorem dX6_sortOf_7 : decode cX6_sortOf 7 = .ok (.bipush 122, 2) := by decide +kernel
theorem dX6_sortOf_9 : decode cX6_sortOf 9 = .ok (.if_icmp .gt 5, 3) := by decide +kernel
theorem dX6_sortOf_12 : decode cX6_sortOf 12 = .ok (.iconst 1, 1) := by decide +kernel
theorem dX6_sortOf_13 : decode cX6_sortOf 13 = .ok (.ireturn, 1) := by decide +kernel
theorem dX6_sortOf_14 : decode cX6_sortOf 14 = .ok (.iload_n 0, 1) := by decide +kernel
theorem dX6_sortOf_15 : decode cX6_sortOf 15 = .ok (.bipush 48, 2) := by decide +kernel
theorem dX6_sortOf_17 : decode cX6_sortOf 17 = .ok (.if_icmp .lt 13, 3) := by decide +kernel
theorem dX6_sortOf_20 : decode cX6_sortOf 20 = .ok (.iload_n 0, 1) := by decide +kernel
theorem dX6_sortOf_21 : decode cX6_sortOf 21 = .ok (.bipush 57, 2) := by decide +kernel
theorem dX6_sortOf_23 : decode cX6_sortOf 23 = .ok (.if_icmp .gt 7, 3) := by decide +kernel
theorem dX6_sortOf_26 : decode cX6_sortOf 26 = .ok (.iconst 2, 1) := by decide +kernel
theorem dX6_sortOf_27 : decode cX6_sortOf 27 = .ok (.goto 4, 3) := by decide +kernel
theorem dX6_sortOf_30 : decode cX6_sortOf 30 = .ok (.iconst 0, 1) := by decide +kernel
theorem dX6_sortOf_31 : decode cX6_sortOf 31 = .ok (.ireturn, 1) := by decide +kernel
theorem k_X6_sortOf : MS yX6_sortOf cX6_sortOf 1 (some .int) 1 := ⟨q_545, q_2, q_546, ⟨by decide, by decide, by decide +kernel⟩⟩
theorem c_X6_sortOf {v0 : Int32} {res : Int32} (hf : X6_sortOf v0 = some res) : MC l E0 D t yX6_sortOf cX6_sortOf 1 (some .int) 1 0 0 [.int v0] (cW a ar t x_q0_dials x_q0_spots x_q0_skies x_q0_reports x_q0_count x_q0_chime x_q0_end x_q0_score x_q0_reportCount x_q0_z x_q0_rules x_q0_shades x_q0_facts x_q1_dials x_q1_spots x_q1_skies x_q1_reports x_q1_count x_q1_chime x_q1_end x_q1_score x_q1_reportCount x_q1_z x_q1_rules x_q1_shades x_q1_facts x_q2_dials x_q2_spots x_q2_skies x_q2_reports x_q2_count x_q2_chime x_q2_end x_q2_score x_q2_reportCount x_q2_z x_q2_rules x_q2_shades x_q2_facts x_isKept x_marks x_p_first x_p_steps x_p_most x_p_many x_p_fewest x_p_everRight x_p_opening x_p_rows x_p_rowCount x_p_acts x_p_marks x_p_deepest x_p_wanted x_t_length x_t_tape x_t_words x_t_places x_t_at x_t_kinds x_t_wills x_t_starts x_t_code x_t_count x_t_size x_h_sorts x_h_lengths x_h_items x_h_held x_h_things x_h_sizes x_h_bodies x_h_traced x_h_number x_h_spot x_h_parted x_g_count x_g_kinds x_g_wills x_g_starts x_g_code x_g_stack x_g_kl x_g_wl x_g_sl x_g_cl x_nr) (Qi res (cW a ar t x_q0_dials x_q0_spots x_q0_skies x_q0_reports x_q0_count x_q0_chime x_q0_end x_q0_score x_q0_reportCount x_q0_z x_q0_rules x_q0_shades x_q0_facts x_q1_dials x_q1_spots x_q1_skies x_q1_reports x_q1_count x_q1_chime x_q1_end x_q1_score x_q1_reportCount x_q1_z x_q1_rules x_q1_shades x_q1_facts x_q2_dials x_q2_spots x_q2_skies x_q2_reports x_q2_count x_q2_chime x_q2_end x_q2_score x_q2_reportCount x_q2_z x_q2_rules x_q2_shades x_q2_facts x_isKept x_marks x_p_first x_p_steps x_p_most x_p_many x_p_fewest x_p_everRight x_p_opening x_p_rows x_p_rowCount x_p_acts x_p_marks x_p_deepest x_p_wanted x_t_length x_t_tape x_t_words x_t_places x_t_at x_t_kinds x_t_wills x_t_starts x_t_code x_t_count x_t_size x_h_sorts x_h_lengths x_h_items x_h_held x_h_things x_h_sizes x_h_bodies x_h_traced x_h_number x_h_spot x_h_parted x_g_count x_g_kinds x_g_wills x_g_starts x_g_code x_g_stack x_g_kl x_g_wl x_g_sl x_g_cl x_nr)) := by
  unfold X6_sortOf at hf
  refine MC.ofI pn_X6 (Nat.le_of_ble_eq_true rfl) ?_
  intro p e s m args below meth c A Q ls cx hR hw hl
  have hx := cx.1
  have hb := cx.2.1
  have hl : lv_has ls 1 [(0, .int v0)] := hl
  refine lv_iload_n hx hb dX6_sortOf_0 rfl (lv_at hl 0 rfl) ?_
  refine lv_bipush (v := 97) hx hb dX6_sortOf_1 (by decide) ?_
  obtain ⟨J1, hJ1, hf⟩ := jnS hf
  have wj1 : ∀ (j1 : Unit) (H : Heap) (locs : List Loc) (ls : Array Slot), J1 j1 = some res → Wd D A s (cW a ar t x_q0_dials x_q0_spots x_q0_skies x_q0_reports x_q0_count x_q0_chime x_q0_end x_q0_score x_q0_reportCount x_q0_z x_q0_rules x_q0_shades x_q0_facts x_q1_dials x_q1_spots x_q1_skies x_q1_reports x_q1_count x_q1_chime x_q1_end x_q1_score x_q1_reportCount x_q1_z x_q1_rules x_q1_shades x_q1_facts x_q2_dials x_q2_spots x_q2_skies x_q2_reports x_q2_count x_q2_chime x_q2_end x_q2_score x_q2_reportCount x_q2_z x_q2_rules x_q2_shades x_q2_facts x_isKept x_marks x_p_first x_p_steps x_p_most x_p_many x_p_fewest x_p_everRight x_p_opening x_p_rows x_p_rowCount x_p_acts x_p_marks x_p_deepest x_p_wanted x_t_length x_t_tape x_t_words x_t_places x_t_at x_t_kinds x_t_wills x_t_starts x_t_code x_t_count x_t_size x_h_sorts x_h_lengths x_h_items x_h_held x_h_things x_h_sizes x_h_bodies x_h_traced x_h_number x_h_spot x_h_parted x_g_count x_g_kinds x_g_wills x_g_starts x_g_code x_g_stack x_g_kl x_g_wl x_g_sl x_g_cl x_nr) H locs → lv_has ls 1 [(0, .int v0)] → W p l e (rmz 1 0 0) s m args below meth c H locs 0 0 Q (F0 m 14 ls []) := by
    intro j1 H locs ls hf hw hl
    have hf := hJ1 _ hf
    refine lv_iload_n hx hb dX6_sortOf_14 rfl (lv_at hl 0 rfl) ?_
    refine lv_bipush (v := 48) hx hb dX6_sortOf_15 (by decide) ?_
    refine lv_icmp_lt (tgt := 30) hx hb dX6_sortOf_17 (by decide) (fun hc => ?_) (fun hc => ?_)
    · have hf := ifT hf hc
      refine lv_iconst (v := 0) hx hb dX6_sortOf_30 (by decide) ?_
      have hf := Option.some.inj hf
      subst hf
      exact hR _ _ _ _ _ _ hw rfl ⟨rfl, rfl⟩ dX6_sortOf_31
    · have hf := ifF hf hc
      refine lv_iload_n hx hb dX6_sortOf_20 rfl (lv_at hl 0 rfl) ?_
      refine lv_bipush (v := 57) hx hb dX6_sortOf_21 (by decide) ?_
      refine lv_icmp_gt (tgt := 30) hx hb dX6_sortOf_23 (by decide) (fun hc => ?_) (fun hc => ?_)
      · have hf := ifT hf hc
        refine lv_iconst (v := 0) hx hb dX6_sortOf_30 (by decide) ?_
        have hf := Option.some.inj hf
        subst hf
        exact hR _ _ _ _ _ _ hw rfl ⟨rfl, rfl⟩ dX6_sortOf_31
      · have hf := ifF hf hc
        refine lv_iconst (v := 2) hx hb dX6_sortOf_26 (by decide) ?_
        refine lv_goto (tgt := 31) hx hb dX6_sortOf_27 (by decide) ?_
        have hf := Option.some.inj hf
        subst hf
        exact hR _ _ _ _ _ _ hw rfl ⟨rfl, rfl⟩ dX6_sortOf_31
  clear hJ1
  refine lv_icmp_lt (tgt := 14) hx hb dX6_sortOf_3 (by decide) (fun hc => ?_) (fun hc => ?_)
  · have hf := ifT hf hc
    exact wj1 _ _ _ _ hf hw (lv_sub hl [0] rfl)
  · have hf := ifF hf hc
    refine lv_iload_n hx hb dX6_sortOf_6 rfl (lv_at hl 0 rfl) ?_
    refine lv_bipush (v := 122) hx hb dX6_sortOf_7 (by decide) ?_
    refine lv_icmp_gt (tgt := 14) hx hb dX6_sortOf_9 (by decide) (fun hc => ?_) (fun hc => ?_)
    · have hf := ifT hf hc
      exact wj1 _ _ _ _ hf hw (lv_sub hl [0] rfl)
    · have hf := ifF hf hc
      refine lv_iconst (v := 1) hx hb dX6_sortOf_12 (by decide) ?_
      have hf := Option.some.inj hf
      subst hf
      exact hR _ _ _ _ _ _ hw rfl ⟨rfl, rfl⟩ dX6_sortOf_13
theorem dX6_endOfRow_0 : decode cX6_endOfRow 0 = .ok (.aload_n 0, 1) := by decide +kernel
theorem dX6_endOfRow_1 : decode cX6_endOfRow 1 = .ok (.getfield 9, 3) := by decide +kernel
theorem dX6_endOfRow_4 : decode cX6_endOfRow 4 = .ok (.iload_n 1, 1) := by decide +kernel
theorem dX6_endOfRow_5 : decode cX6_endOfRow 5 = .ok (.baload, 1) := by decide +kernel
theorem dX6_endOfRow_6 : decode cX6_endOfRow 6 = .ok (.invokestatic 69, 3) := by decide +kernel
theorem dX6_endOfRow_9 : decode cX6_endOfRow 9 = .ok (.istore_n 2, 1) := by decide +kernel
theorem dX6_endOfRow_10 : decode cX6_endOfRow 10 = .ok (.iload_n 1, 1) := by decide +kernel
theorem dX6_endOfRow_11 : decode cX6_endOfRow 11 = .ok (.iconst 1, 1) := by decide +kernel
theorem dX6_endOfRow_12 : decode cX6_endOfRow 12 = .ok (.iadd, 1) := by decide +kernel
theorem dX6_endOfRow_13 : decode cX6_endOfRow 13 = .ok (.istore_n 3, 1) := by decide +kernel
theorem dX6_endOfRow_14 : decode cX6_endOfRow 14 = .ok (.iload_n 2, 1) := by decide +kernel
theorem dX6_endOfRow_15 : decode cX6_endOfRow 15 = .ok (.ifCond .eq 30, 3) := by decide +kernel
theorem dX6_endOfRow_18 : decode cX6_endOfRow 18 = .ok (.iload_n 3, 1) := by decide +kernel
theorem dX6_endOfRow_19 : decode cX6_endOfRow 19 = .ok (.aload_n 0, 1) := by decide +kernel
theorem dX6_endOfRow_20 : decode cX6_endOfRow 20 = .ok (.getfield 34, 3) := by decide +kernel
theorem dX6_endOfRow_23 : decode cX6_endOfRow 23 = .ok (.if_icmp .ge 22, 3) := by decide +kernel
theorem dX6_endOfRow_26 : decode cX6_endOfRow 26 = .ok (.aload_n 0, 1) := by decide +kernel
theorem dX6_endOfRow_27 : decode cX6_endOfRow 27 = .ok (.getfield 9, 3) := by decide +kernel
theorem dX6_endOfRow_30 : decode cX6_endOfRow 30 = .ok (.iload_n 3, 1) := by decide +kernel
theorem dX6_endOfRow_31 : decode cX6_endOfRow 31 = .ok (.baload, 1) := by decide +kernel
theorem dX6_endOfRow_32 : decode cX6_endOfRow 32 = .ok (.invokestatic 69, 3) := by decide +kernel
theorem dX6_endOfRow_35 : decode cX6_endOfRow 35 = .ok (.iload_n 2, 1) := by decide +kernel
theorem dX6_endOfRow_36 : decode cX6_endOfRow 36 = .ok (.if_icmp .ne 9, 3) := by decide +kernel
theorem dX6_endOfRow_39 : decode cX6_endOfRow 39 = .ok (.iinc 3 1, 3) := by decide +kernel
theorem dX6_endOfRow_42 : decode cX6_endOfRow 42 = .ok (.goto (-28), 3) := by decide +kernel
theorem dX6_endOfRow_45 : decode cX6_endOfRow 45 = .ok (.iload_n 3, 1) := by decide +kernel
theorem dX6_endOfRow_46 : decode cX6_endOfRow 46 = .ok (.ireturn, 1) := by decide +kernel
theorem k_X6_endOfRow : MV yX6_endOfRow cX6_endOfRow 4 (some .int) 1 := ⟨q_542, qs_2, q_2, q_543, ⟨by decide, by decide, by decide +kernel⟩⟩
theorem c_X6_endOfRow {v1 : Int32} {res : Int32} (hf : X6_endOfRow n x_t_length x_t_tape v1 = some res) : MC l E0 D t yX6_endOfRow cX6_endOfRow 4 (some .int) 2 0 0 [.ref (a 97), .int v1] (cW a ar t x_q0_dials x_q0_spots x_q0_skies x_q0_reports x_q0_count x_q0_chime x_q0_end x_q0_score x_q0_reportCount x_q0_z x_q0_rules x_q0_shades x_q0_facts x_q1_dials x_q1_spots x_q1_skies x_q1_reports x_q1_count x_q1_chime x_q1_end x_q1_score x_q1_reportCount x_q1_z x_q1_rules x_q1_shades x_q1_facts x_q2_dials x_q2_spots x_q2_skies x_q2_reports x_q2_count x_q2_chime x_q2_end x_q2_score x_q2_reportCount x_q2_z x_q2_rules x_q2_shades x_q2_facts x_isKept x_marks x_p_first x_p_steps x_p_most x_p_many x_p_fewest x_p_everRight x_p_opening x_p_rows x_p_rowCount x_p_acts x_p_marks x_p_deepest x_p_wanted x_t_length x_t_tape x_t_words x_t_places x_t_at x_t_kinds x_t_wills x_t_starts x_t_code x_t_count x_t_size x_h_sorts x_h_lengths x_h_items x_h_held x_h_things x_h_sizes x_h_bodies x_h_traced x_h_number x_h_spot x_h_parted x_g_count x_g_kinds x_g_wills x_g_starts x_g_code x_g_stack x_g_kl x_g_wl x_g_sl x_g_cl x_nr) (Qi res (cW a ar t x_q0_dials x_q0_spots x_q0_skies x_q0_reports x_q0_count x_q0_chime x_q0_end x_q0_score x_q0_reportCount x_q0_z x_q0_rules x_q0_shades x_q0_facts x_q1_dials x_q1_spots x_q1_skies x_q1_reports x_q1_count x_q1_chime x_q1_end x_q1_score x_q1_reportCount x_q1_z x_q1_rules x_q1_shades x_q1_facts x_q2_dials x_q2_spots x_q2_skies x_q2_reports x_q2_count x_q2_chime x_q2_end x_q2_score x_q2_reportCount x_q2_z x_q2_rules x_q2_shades x_q2_facts x_isKept x_marks x_p_first x_p_steps x_p_most x_p_many x_p_fewest x_p_everRight x_p_opening x_p_rows x_p_rowCount x_p_acts x_p_marks x_p_deepest x_p_wanted x_t_length x_t_tape x_t_words x_t_places x_t_at x_t_kinds x_t_wills x_t_starts x_t_code x_t_count x_t_size x_h_sorts x_h_lengths x_h_items x_h_held x_h_things x_h_sizes x_h_bodies x_h_traced x_h_number x_h_spot x_h_parted x_g_count x_g_kinds x_g_wills x_g_starts x_g_code x_g_stack x_g_kl x_g_wl x_g_sl x_g_cl x_nr)) := by
  unfold X6_endOfRow at hf
  refine MC.ofI pn_X6 (Nat.le_of_ble_eq_true rfl) ?_
  intro p e s m args below meth c A Q ls cx hR hw hl
  have hx := cx.1
  have hb := cx.2.1
  have hl : lv_has ls 4 [(0, .ref (a 97)), (1, .int v1)] := hl
  refine lv_aload_n hx hb dX6_endOfRow_0 rfl (lv_at hl 0 rfl) ?_
  refine cg_X6_9_text cx hw dX6_endOfRow_1 ?_
  refine lv_iload_n hx hb dX6_endOfRow_4 rfl (lv_at hl 1 rfl) ?_
  obtain ⟨h1, hf⟩ := ckS hf
  refine cl_t_tape (j := v1.toNatClampNeg) cx hw (ib_in h1) rfl dX6_endOfRow_5 ?_
  obtain ⟨r2, h3, hf⟩ := bnS hf
  refine calSi cx hw hl.1 (c_X6_sortOf h3) q_544 k_X6_sortOf rfl dX6_endOfRow_6 rfl (Nat.le_of_ble_eq_true rfl) ⟨Nat.le_of_ble_eq_true rfl, Nat.le_of_ble_eq_true rfl⟩ ⟨Nat.le_refl _, Nat.le_refl _⟩ (fun H locs hw => ?_)
  refine lv_istore_n (lv' := [(2, .int r2), (0, .ref (a 97)), (1, .int v1)]) hx hb dX6_endOfRow_9 rfl hl (by decide) rfl (fun ls hl => ?_)
  refine lv_iload_n hx hb dX6_endOfRow_10 rfl (lv_at hl 2 rfl) ?_
  refine lv_iconst (v := 1) hx hb dX6_endOfRow_11 (by decide) ?_
  refine lv_iadd hx hb dX6_endOfRow_12 ?_
  refine lv_istore_n (lv' := [(3, .int (v1 + (1 : Int32))), (2, .int r2), (0, .ref (a 97)), (1, .int v1)]) hx hb dX6_endOfRow_13 rfl hl (by decide) rfl (fun ls hl => ?_)
  obtain ⟨o7, ho7, hf⟩ := bnS hf
  have wL1 : ∀ (k : Nat) {v1 : Int32} {v2 : Int32} {v3 : Int32} {H : Heap} {locs : List Loc} {ls : Array Slot} {o : Int32}, X6_endOfRow_L1 n x_t_length x_t_tape v2 k v3 = some o → Wd D A s (cW a ar t x_q0_dials x_q0_spots x_q0_skies x_q0_reports x_q0_count x_q0_chime x_q0_end x_q0_score x_q0_reportCount x_q0_z x_q0_rules x_q0_shades x_q0_facts x_q1_dials x_q1_spots x_q1_skies x_q1_reports x_q1_count x_q1_chime x_q1_end x_q1_score x_q1_reportCount x_q1_z x_q1_rules x_q1_shades x_q1_facts x_q2_dials x_q2_spots x_q2_skies x_q2_reports x_q2_count x_q2_chime x_q2_end x_q2_score x_q2_reportCount x_q2_z x_q2_rules x_q2_shades x_q2_facts x_isKept x_marks x_p_first x_p_steps x_p_most x_p_many x_p_fewest x_p_everRight x_p_opening x_p_rows x_p_rowCount x_p_acts x_p_marks x_p_deepest x_p_wanted x_t_length x_t_tape x_t_words x_t_places x_t_at x_t_kinds x_t_wills x_t_starts x_t_code x_t_count x_t_size x_h_sorts x_h_lengths x_h_items x_h_held x_h_things x_h_sizes x_h_bodies x_h_traced x_h_number x_h_spot x_h_parted x_g_count x_g_kinds x_g_wills x_g_starts x_g_code x_g_stack x_g_kl x_g_wl x_g_sl x_g_cl x_nr) H locs → lv_has ls 4 [(0, .ref (a 97)), (1, .int v1), (2, .int v2), (3, .int v3)] → (∀ (H : Heap) (locs : List Loc) (ls : Array Slot), Wd D A s (cW a ar t x_q0_dials x_q0_spots x_q0_skies x_q0_reports x_q0_count x_q0_chime x_q0_end x_q0_score x_q0_reportCount x_q0_z x_q0_rules x_q0_shades x_q0_facts x_q1_dials x_q1_spots x_q1_skies x_q1_reports x_q1_count x_q1_chime x_q1_end x_q1_score x_q1_reportCount x_q1_z x_q1_rules x_q1_shades x_q1_facts x_q2_dials x_q2_spots x_q2_skies x_q2_reports x_q2_count x_q2_chime x_q2_end x_q2_score x_q2_reportCount x_q2_z x_q2_rules x_q2_shades x_q2_facts x_isKept x_marks x_p_first x_p_steps x_p_most x_p_many x_p_fewest x_p_everRight x_p_opening x_p_rows x_p_rowCount x_p_acts x_p_marks x_p_deepest x_p_wanted x_t_length x_t_tape x_t_words x_t_places x_t_at x_t_kinds x_t_wills x_t_starts x_t_code x_t_count x_t_size x_h_sorts x_h_lengths x_h_items x_h_held x_h_things x_h_sizes x_h_bodies x_h_traced x_h_number x_h_spot x_h_parted x_g_count x_g_kinds x_g_wills x_g_starts x_g_code x_g_stack x_g_kl x_g_wl x_g_sl x_g_cl x_nr) H locs → lv_has ls 4 [(0, .ref (a 97)), (1, .int v1), (2, .int v2), (3, .int o)] → W p l e (rmz 2 0 0) s m args below meth c H locs 0 0 Q (F0 m 45 ls [])) → W p l e (rmz 2 0 0) s m args below meth c H locs 0 0 Q (F0 m 14 ls []) := by
    clear hf ho7 hw hl
    intro k
    induction k with
    | zero => intro v1 v2 v3 H locs ls o hf hw hl kx; simp [X6_endOfRow_L1] at hf
    | succ k ih =>
      intro v1 v2 v3 H locs ls o hf hw hl kx
      rw [X6_endOfRow_L1] at hf
      refine lv_iload_n hx hb dX6_endOfRow_14 rfl (lv_at hl 2 rfl) ?_
      refine lv_if_eq (tgt := 45) hx hb dX6_endOfRow_15 (by decide) (fun hc => ?_) (fun hc => ?_)
      · have hf := ifT hf hc
        have hf := Option.some.inj hf
        subst hf
        exact kx _ _ _ hw (lv_sub hl [0, 1, 2, 3] rfl)
      · have hf := ifF hf hc
        refine lv_iload_n hx hb dX6_endOfRow_18 rfl (lv_at hl 3 rfl) ?_
        refine lv_aload_n hx hb dX6_endOfRow_19 rfl (lv_at hl 0 rfl) ?_
        refine cg_X6_34_text cx hw dX6_endOfRow_20 ?_
        refine lv_icmp_ge (tgt := 45) hx hb dX6_endOfRow_23 (by decide) (fun hc => ?_) (fun hc => ?_)
        · have hf := ifT hf hc
          have hf := Option.some.inj hf
          subst hf
          exact kx _ _ _ hw (lv_sub hl [0, 1, 2, 3] rfl)
        · have hf := ifF hf hc
          refine lv_aload_n hx hb dX6_endOfRow_26 rfl (lv_at hl 0 rfl) ?_
          refine cg_X6_9_text cx hw dX6_endOfRow_27 ?_
          refine lv_iload_n hx hb dX6_endOfRow_30 rfl (lv_at hl 3 rfl) ?_
          obtain ⟨h4, hf⟩ := ckS hf
          refine cl_t_tape (j := v3.toNatClampNeg) cx hw (ib_in h4) rfl dX6_endOfRow_31 ?_
          obtain ⟨r5, h6, hf⟩ := bnS hf
          refine calSi cx hw hl.1 (c_X6_sortOf h6) q_544 k_X6_sortOf rfl dX6_endOfRow_32 rfl (Nat.le_of_ble_eq_true rfl) ⟨Nat.le_of_ble_eq_true rfl, Nat.le_of_ble_eq_true rfl⟩ ⟨Nat.le_refl _, Nat.le_refl _⟩ (fun H locs hw => ?_)
          refine lv_iload_n hx hb dX6_endOfRow_35 rfl (lv_at hl 2 rfl) ?_
          refine lv_icmp_ne (tgt := 45) hx hb dX6_endOfRow_36 (by decide) (fun hc => ?_) (fun hc => ?_)
          · have hf := ifF hf hc
            have hf := Option.some.inj hf
            subst hf
            exact kx _ _ _ hw (lv_sub hl [0, 1, 2, 3] rfl)
          · have hf := ifT hf hc
            refine lv_iinc (v := (v3 + (1 : Int32))) (lv' := [(3, .int (v3 + (1 : Int32))), (0, .ref (a 97)), (1, .int v1), (2, .int v2)]) hx hb dX6_endOfRow_39 hl (k := 3) rfl rfl (by decide) rfl (fun ls hl => ?_)
            refine lv_goto (tgt := 14) hx hb dX6_endOfRow_42 (by decide) ?_
            exact ih hf hw (lv_sub hl [1, 2, 3, 0] rfl) kx
  refine wL1 n ho7 hw (lv_sub hl [2, 3, 1, 0] rfl) (fun H locs ls hw hl => ?_)
  clear wL1 ho7
  refine lv_iload_n hx hb dX6_endOfRow_45 rfl (lv_at hl 3 rfl) ?_
  have hf := Option.some.inj hf
  subst hf
  exact hR _ _ _ _ _ _ hw rfl ⟨rfl, rfl⟩ dX6_endOfRow_46
theorem dX6_numberOf_0 : decode cX6_numberOf 0 = .ok (.iload_n 2, 1) := by decide +kernel
theorem dX6_numberOf_1 : decode cX6_numberOf 1 = .ok (.iload_n 1, 1) := by decide +kernel
theorem dX6_numberOf_2 : decode cX6_numberOf 2 = .ok (.isub, 1) := by decide +kernel
theorem dX6_numberOf_3 : decode cX6_numberOf 3 = .ok (.iconst 4, 1) := by decide +kernel
theorem dX6_numberOf_4 : decode cX6_numberOf 4 = .ok (.if_icmp .le 5, 3) := by decide +kernel
theorem dX6_numberOf_7 : decode cX6_numberOf 7 = .ok (.iconst (-1), 1) := by decide +kernel
theorem dX6_numberOf_8 : decode cX6_numberOf 8 = .ok (.ireturn, 1) := by decide +kernel
theorem dX6_numberOf_9 : decode cX6_numberOf 9 = .ok (.iconst 0, 1) := by decide +kernel
theorem dX6_numberOf_10 : decode cX6_numberOf 10 = .ok (.istore_n 3, 1) := by decide +kernel
theorem dX6_numberOf_11 : decode cX6_numberOf 11 = .ok (.iload_n 1, 1) := by decide +kernel
theorem dX6_numberOf_12 : decode cX6_numberOf 12 = .ok (.istore 4, 2) := by decide +kernel
theorem dX6_numberOf_14 : decode cX6_numberOf 14 = .ok (.iload 4, 2) := by decide +kernel
theorem dX6_numberOf_16 : decode cX6_numberOf 16 = .ok (.iload_n 2, 1) := by decide +kernel
theorem dX6_numberOf_17 : decode cX6_numberOf 17 = .ok (.if_icmp .ge 25, 3) := by decide +kernel
theorem dX6_numberOf_20 : decode cX6_numberOf 20 = .ok (.bipush 10, 2) := by decide +kernel
theorem dX6_numberOf_22 : decode cX6_numberOf 22 = .ok (.iload_n 3, 1) := by decide +kernel
theorem dX6_numberOf_23 : decode cX6_numberOf 23 = .ok (.imul, 1) := by decide +kernel
theorem dX6_numberOf_24 : decode cX6_numberOf 24 = .ok (.aload_n 0, 1) := by decide +kernel
theorem dX6_numberOf_25 : decode cX6_numberOf 25 = .ok (.getfield 9, 3) := by decide +kernel
theorem dX6_numberOf_28 : decode cX6_numberOf 28 = .ok (.iload 4, 2) := by decide +kernel
theorem dX6_numberOf_30 : decode cX6_numberOf 30 = .ok (.baload, 1) := by decide +kernel
theorem dX6_numberOf_31 : decode cX6_numberOf 31 = .ok (.iadd, 1) := by decide +kernel
theorem dX6_numberOf_32 : decode cX6_numberOf 32 = .ok (.bipush 48, 2) := by decide +kernel
theorem dX6_numberOf_34 : decode cX6_numberOf 34 = .ok (.isub, 1) := by decide +kernel
theorem dX6_numberOf_35 : decode cX6_numberOf 35 = .ok (.istore_n 3, 1) := by decide +kernel
theorem dX6_numberOf_36 : decode cX6_numberOf 36 = .ok (.iinc 4 1, 3) := by decide +kernel
theorem dX6_numberOf_39 : decode cX6_numberOf 39 = .ok (.goto (-25), 3) := by decide +kernel
theorem dX6_numberOf_42 : decode cX6_numberOf 42 = .ok (.iload_n 3, 1) := by decide +kernel
theorem dX6_numberOf_43 : decode cX6_numberOf 43 = .ok (.ireturn, 1) := by decide +kernel
theorem k_X6_numberOf : MV yX6_numberOf cX6_numberOf 5 (some .int) 2 := ⟨q_549, qs_3, q_2, q_550, ⟨by decide, by decide, by decide +kernel⟩⟩
theorem c_X6_numberOf {v1 : Int32} {v2 : Int32} {res : Int32} (hf : X6_numberOf n x_t_tape v1 v2 = some res) : MC l E0 D t yX6_numberOf cX6_numberOf 5 (some .int) 1 0 0 [.ref (a 97), .int v1, .int v2] (cW a ar t x_q0_dials x_q0_spots x_q0_skies x_q0_reports x_q0_count x_q0_chime x_q0_end x_q0_score x_q0_reportCount x_q0_z x_q0_rules x_q0_shades x_q0_facts x_q1_dials x_q1_spots x_q1_skies x_q1_reports x_q1_count x_q1_chime x_q1_end x_q1_score x_q1_reportCount x_q1_z x_q1_rules x_q1_shades x_q1_facts x_q2_dials x_q2_spots x_q2_skies x_q2_reports x_q2_count x_q2_chime x_q2_end x_q2_score x_q2_reportCount x_q2_z x_q2_rules x_q2_shades x_q2_facts x_isKept x_marks x_p_first x_p_steps x_p_most x_p_many x_p_fewest x_p_everRight x_p_opening x_p_rows x_p_rowCount x_p_acts x_p_marks x_p_deepest x_p_wanted x_t_length x_t_tape x_t_words x_t_places x_t_at x_t_kinds x_t_wills x_t_starts x_t_code x_t_count x_t_size x_h_sorts x_h_lengths x_h_items x_h_held x_h_things x_h_sizes x_h_bodies x_h_traced x_h_number x_h_spot x_h_parted x_g_count x_g_kinds x_g_wills x_g_starts x_g_code x_g_stack x_g_kl x_g_wl x_g_sl x_g_cl x_nr) (Qi res (cW a ar t x_q0_dials x_q0_spots x_q0_skies x_q0_reports x_q0_count x_q0_chime x_q0_end x_q0_score x_q0_reportCount x_q0_z x_q0_rules x_q0_shades x_q0_facts x_q1_dials x_q1_spots x_q1_skies x_q1_reports x_q1_count x_q1_chime x_q1_end x_q1_score x_q1_reportCount x_q1_z x_q1_rules x_q1_shades x_q1_facts x_q2_dials x_q2_spots x_q2_skies x_q2_reports x_q2_count x_q2_chime x_q2_end x_q2_score x_q2_reportCount x_q2_z x_q2_rules x_q2_shades x_q2_facts x_isKept x_marks x_p_first x_p_steps x_p_most x_p_many x_p_fewest x_p_everRight x_p_opening x_p_rows x_p_rowCount x_p_acts x_p_marks x_p_deepest x_p_wanted x_t_length x_t_tape x_t_words x_t_places x_t_at x_t_kinds x_t_wills x_t_starts x_t_code x_t_count x_t_size x_h_sorts x_h_lengths x_h_items x_h_held x_h_things x_h_sizes x_h_bodies x_h_traced x_h_number x_h_spot x_h_parted x_g_count x_g_kinds x_g_wills x_g_starts x_g_code x_g_stack x_g_kl x_g_wl x_g_sl x_g_cl x_nr)) := by
  unfold X6_numberOf at hf
  refine MC.ofI pn_X6 (Nat.le_of_ble_eq_true rfl) ?_
  intro p e s m args below meth c A Q ls cx hR hw hl
  have hx := cx.1
  have hb := cx.2.1
  have hl : lv_has ls 5 [(0, .ref (a 97)), (1, .int v1), (2, .int v2)] := hl
  refine lv_iload_n hx hb dX6_numberOf_0 rfl (lv_at hl 2 rfl) ?_
  refine lv_iload_n hx hb dX6_numberOf_1 rfl (lv_at hl 1 rfl) ?_
  refine lv_isub hx hb dX6_numberOf_2 ?_
  refine lv_iconst (v := 4) hx hb dX6_numberOf_3 (by decide) ?_
  refine lv_icmp_le (tgt := 9) hx hb dX6_numberOf_4 (by decide) (fun hc => ?_) (fun hc => ?_)
  · have hf := ifT hf hc
    refine lv_iconst (v := 0) hx hb dX6_numberOf_9 (by decide) ?_
    refine lv_istore_n (lv' := [(3, .int (0 : Int32)), (0, .ref (a 97)), (1, .int v1), (2, .int v2)]) hx hb dX6_numberOf_10 rfl hl (by decide) rfl (fun ls hl => ?_)
    refine lv_iload_n hx hb dX6_numberOf_11 rfl (lv_at hl 2 rfl) ?_
    refine lv_istore (lv' := [(4, .int v1), (3, .int (0 : Int32)), (0, .ref (a 97)), (1, .int v1), (2, .int v2)]) hx hb dX6_numberOf_12 hl (by decide) rfl (fun ls hl => ?_)
    obtain ⟨o2, ho2, hf⟩ := bnS hf
    have wL1 : ∀ (k : Nat) {v1 : Int32} {v2 : Int32} {v3 : Int32} {v4 : Int32} {H : Heap} {locs : List Loc} {ls : Array Slot} {o : Int32 × Int32}, X6_numberOf_L1 n x_t_tape v2 k v3 v4 = some o → Wd D A s (cW a ar t x_q0_dials x_q0_spots x_q0_skies x_q0_reports x_q0_count x_q0_chime x_q0_end x_q0_score x_q0_reportCount x_q0_z x_q0_rules x_q0_shades x_q0_facts x_q1_dials x_q1_spots x_q1_skies x_q1_reports x_q1_count x_q1_chime x_q1_end x_q1_score x_q1_reportCount x_q1_z x_q1_rules x_q1_shades x_q1_facts x_q2_dials x_q2_spots x_q2_skies x_q2_reports x_q2_count x_q2_chime x_q2_end x_q2_score x_q2_reportCount x_q2_z x_q2_rules x_q2_shades x_q2_facts x_isKept x_marks x_p_first x_p_steps x_p_most x_p_many x_p_fewest x_p_everRight x_p_opening x_p_rows x_p_rowCount x_p_acts x_p_marks x_p_deepest x_p_wanted x_t_length x_t_tape x_t_words x_t_places x_t_at x_t_kinds x_t_wills x_t_starts x_t_code x_t_count x_t_size x_h_sorts x_h_lengths x_h_items x_h_held x_h_things x_h_sizes x_h_bodies x_h_traced x_h_number x_h_spot x_h_parted x_g_count x_g_kinds x_g_wills x_g_starts x_g_code x_g_stack x_g_kl x_g_wl x_g_sl x_g_cl x_nr) H locs → lv_has ls 5 [(0, .ref (a 97)), (1, .int v1), (2, .int v2), (3, .int v3), (4, .int v4)] → (∀ (H : Heap) (locs : List Loc) (ls : Array Slot), Wd D A s (cW a ar t x_q0_dials x_q0_spots x_q0_skies x_q0_reports x_q0_count x_q0_chime x_q0_end x_q0_score x_q0_reportCount x_q0_z x_q0_rules x_q0_shades x_q0_facts x_q1_dials x_q1_spots x_q1_skies x_q1_reports x_q1_count x_q1_chime x_q1_end x_q1_score x_q1_reportCount x_q1_z x_q1_rules x_q1_shades x_q1_facts x_q2_dials x_q2_spots x_q2_skies x_q2_reports x_q2_count x_q2_chime x_q2_end x_q2_score x_q2_reportCount x_q2_z x_q2_rules x_q2_shades x_q2_facts x_isKept x_marks x_p_first x_p_steps x_p_most x_p_many x_p_fewest x_p_everRight x_p_opening x_p_rows x_p_rowCount x_p_acts x_p_marks x_p_deepest x_p_wanted x_t_length x_t_tape x_t_words x_t_places x_t_at x_t_kinds x_t_wills x_t_starts x_t_code x_t_count x_t_size x_h_sorts x_h_lengths x_h_items x_h_held x_h_things x_h_sizes x_h_bodies x_h_traced x_h_number x_h_spot x_h_parted x_g_count x_g_kinds x_g_wills x_g_starts x_g_code x_g_stack x_g_kl x_g_wl x_g_sl x_g_cl x_nr) H locs → lv_has ls 5 [(0, .ref (a 97)), (1, .int v1), (2, .int v2), (3, .int o.1), (4, .int o.2)] → W p l e (rmz 1 0 0) s m args below meth c H locs 0 0 Q (F0 m 42 ls [])) → W p l e (rmz 1 0 0) s m args below meth c H locs 0 0 Q (F0 m 14 ls []) := by
      clear hf ho2 hw hl
      intro k
      induction k with
      | zero => intro v1 v2 v3 v4 H locs ls o hf hw hl kx; simp [X6_numberOf_L1] at hf
      | succ k ih =>
        intro v1 v2 v3 v4 H locs ls o hf hw hl kx
        rw [X6_numberOf_L1] at hf
        refine lv_iload hx hb dX6_numberOf_14 (lv_at hl 4 rfl) ?_
        refine lv_iload_n hx hb dX6_numberOf_16 rfl (lv_at hl 2 rfl) ?_
        refine lv_icmp_ge (tgt := 42) hx hb dX6_numberOf_17 (by decide) (fun hc => ?_) (fun hc => ?_)
        · have hf := ifT hf hc
          have hf := Option.some.inj hf
          subst hf
          exact kx _ _ _ hw (lv_sub hl [0, 1, 2, 3, 4] rfl)
        · have hf := ifF hf hc
          refine lv_bipush (v := 10) hx hb dX6_numberOf_20 (by decide) ?_
          refine lv_iload_n hx hb dX6_numberOf_22 rfl (lv_at hl 3 rfl) ?_
          refine lv_imul hx hb dX6_numberOf_23 ?_
          refine lv_aload_n hx hb dX6_numberOf_24 rfl (lv_at hl 0 rfl) ?_
          refine cg_X6_9_text cx hw dX6_numberOf_25 ?_
          refine lv_iload hx hb dX6_numberOf_28 (lv_at hl 4 rfl) ?_
          obtain ⟨h1, hf⟩ := ckS hf
          refine cl_t_tape (j := v4.toNatClampNeg) cx hw (ib_in h1) rfl dX6_numberOf_30 ?_
          refine lv_iadd hx hb dX6_numberOf_31 ?_
          refine lv_bipush (v := 48) hx hb dX6_numberOf_32 (by decide) ?_
          refine lv_isub hx hb dX6_numberOf_34 ?_
          refine lv_istore_n (lv' := [(3, .int ((((10 : Int32) * v3) + (x_t_tape v4.toNatClampNeg)) - (48 : Int32))), (0, .ref (a 97)), (1, .int v1), (2, .int v2), (4, .int v4)]) hx hb dX6_numberOf_35 rfl hl (by decide) rfl (fun ls hl => ?_)
          refine lv_iinc (v := (v4 + (1 : Int32))) (lv' := [(4, .int (v4 + (1 : Int32))), (3, .int ((((10 : Int32) * v3) + (x_t_tape v4.toNatClampNeg)) - (48 : Int32))), (0, .ref (a 97)), (1, .int v1), (2, .int v2)]) hx hb dX6_numberOf_36 hl (k := 4) rfl rfl (by decide) rfl (fun ls hl => ?_)
          refine lv_goto (tgt := 14) hx hb dX6_numberOf_39 (by decide) ?_
          exact ih hf hw (lv_sub hl [2, 3, 4, 1, 0] rfl) kx
    refine wL1 n ho2 hw (lv_sub hl [2, 3, 4, 1, 0] rfl) (fun H locs ls hw hl => ?_)
    clear wL1 ho2
    refine lv_iload_n hx hb dX6_numberOf_42 rfl (lv_at hl 3 rfl) ?_
    have hf := Option.some.inj hf
    subst hf
    exact hR _ _ _ _ _ _ hw rfl ⟨rfl, rfl⟩ dX6_numberOf_43
  · have hf := ifF hf hc
    refine lv_iconst (v := (-1)) hx hb dX6_numberOf_7 (by decide) ?_
    have hf := Option.some.inj hf
    subst hf
    exact hR _ _ _ _ _ _ hw rfl ⟨rfl, rfl⟩ dX6_numberOf_8
theorem dX6_isWord_0 : decode cX6_isWord 0 = .ok (.iload_n 2, 1) := by decide +kernel
theorem dX6_isWord_1 : decode cX6_isWord 1 = .ok (.istore 4, 2) := by decide +kernel
theorem dX6_isWord_3 : decode cX6_isWord 3 = .ok (.iload 4, 2) := by decide +kernel
theorem dX6_isWord_5 : decode cX6_isWord 5 = .ok (.iload_n 3, 1) := by decide +kernel
theorem dX6_isWord_6 : decode cX6_isWord 6 = .ok (.if_icmp .ge 32, 3) := by decide +kernel
theorem dX6_isWord_9 : decode cX6_isWord 9 = .ok (.ldc 79, 2) := by decide +kernel
theorem dX6_isWord_11 : decode cX6_isWord 11 = .ok (.iload_n 1, 1) := by decide +kernel
theorem dX6_isWord_12 : decode cX6_isWord 12 = .ok (.iload 4, 2) := by decide +kernel
theorem dX6_isWord_14 : decode cX6_isWord 14 = .ok (.iadd, 1) := by decide +kernel
theorem dX6_isWord_15 : decode cX6_isWord 15 = .ok (.iload_n 2, 1) := by decide +kernel
theorem dX6_isWord_16 : decode cX6_isWord 16 = .ok (.isub, 1) := by decide +kernel
theorem dX6_isWord_17 : decode cX6_isWord 17 = .ok (.invokevirtual 86, 3) := by decide +kernel
theorem dX6_isWord_20 : decode cX6_isWord 20 = .ok (.aload_n 0, 1) := by decide +kernel
theorem dX6_isWord_21 : decode cX6_isWord 21 = .ok (.getfield 9, 3) := by decide +kernel
theorem dX6_isWord_24 : decode cX6_isWord 24 = .ok (.iload 4, 2) := by decide +kernel
theorem dX6_isWord_26 : decode cX6_isWord 26 = .ok (.baload, 1) := by decide +kernel
theorem dX6_isWord_27 : decode cX6_isWord 27 = .ok (.if_icmp .eq 5, 3) := by decide +kernel
theorem dX6_isWord_30 : decode cX6_isWord 30 = .ok (.iconst 0, 1) := by decide +kernel
theorem dX6_isWord_31 : decode cX6_isWord 31 = .ok (.ireturn, 1) := by decide +kernel
theorem dX6_isWord_32 : decode cX6_isWord 32 = .ok (.iinc 4 1, 3) := by decide +kernel
theorem dX6_isWord_35 : decode cX6_isWord 35 = .ok (.goto (-32), 3) := by decide +kernel
theorem dX6_isWord_38 : decode cX6_isWord 38 = .ok (.iconst 1, 1) := by decide +kernel
theorem dX6_isWord_39 : decode cX6_isWord 39 = .ok (.ireturn, 1) := by decide +kernel
theorem k_X6_isWord : MV yX6_isWord cX6_isWord 5 (some .boolean) 3 := ⟨q_606, qs_5, q_2, q_607, ⟨by decide, by decide, by decide +kernel⟩⟩
theorem c_X6_isWord {v1 : Int32} {v2 : Int32} {v3 : Int32} {res : Int32} (hf : X6_isWord n x_t_tape v1 v2 v3 = some res) : MC l (EW sa sv) D t yX6_isWord cX6_isWord 5 (some .boolean) 5 0 0 [.ref (a 97), .int v1, .int v2, .int v3] (cW a ar t x_q0_dials x_q0_spots x_q0_skies x_q0_reports x_q0_count x_q0_chime x_q0_end x_q0_score x_q0_reportCount x_q0_z x_q0_rules x_q0_shades x_q0_facts x_q1_dials x_q1_spots x_q1_skies x_q1_reports x_q1_count x_q1_chime x_q1_end x_q1_score x_q1_reportCount x_q1_z x_q1_rules x_q1_shades x_q1_facts x_q2_dials x_q2_spots x_q2_skies x_q2_reports x_q2_count x_q2_chime x_q2_end x_q2_score x_q2_reportCount x_q2_z x_q2_rules x_q2_shades x_q2_facts x_isKept x_marks x_p_first x_p_steps x_p_most x_p_many x_p_fewest x_p_everRight x_p_opening x_p_rows x_p_rowCount x_p_acts x_p_marks x_p_deepest x_p_wanted x_t_length x_t_tape x_t_words x_t_places x_t_at x_t_kinds x_t_wills x_t_starts x_t_code x_t_count x_t_size x_h_sorts x_h_lengths x_h_items x_h_held x_h_things x_h_sizes x_h_bodies x_h_traced x_h_number x_h_spot x_h_parted x_g_count x_g_kinds x_g_wills x_g_starts x_g_code x_g_stack x_g_kl x_g_wl x_g_sl x_g_cl x_nr) (Qi res (cW a ar t x_q0_dials x_q0_spots x_q0_skies x_q0_reports x_q0_count x_q0_chime x_q0_end x_q0_score x_q0_reportCount x_q0_z x_q0_rules x_q0_shades x_q0_facts x_q1_dials x_q1_spots x_q1_skies x_q1_reports x_q1_count x_q1_chime x_q1_end x_q1_score x_q1_reportCount x_q1_z x_q1_rules x_q1_shades x_q1_facts x_q2_dials x_q2_spots x_q2_skies x_q2_reports x_q2_count x_q2_chime x_q2_end x_q2_score x_q2_reportCount x_q2_z x_q2_rules x_q2_shades x_q2_facts x_isKept x_marks x_p_first x_p_steps x_p_most x_p_many x_p_fewest x_p_everRight x_p_opening x_p_rows x_p_rowCount x_p_acts x_p_marks x_p_deepest x_p_wanted x_t_length x_t_tape x_t_words x_t_places x_t_at x_t_kinds x_t_wills x_t_starts x_t_code x_t_count x_t_size x_h_sorts x_h_lengths x_h_items x_h_held x_h_things x_h_sizes x_h_bodies x_h_traced x_h_number x_h_spot x_h_parted x_g_count x_g_kinds x_g_wills x_g_starts x_g_code x_g_stack x_g_kl x_g_wl x_g_sl x_g_cl x_nr)) := by
  unfold X6_isWord at hf
  refine MC.ofI pn_X6 (Nat.le_of_ble_eq_true rfl) ?_
  intro p e s m args below meth c A Q ls cx hR hw hl
  have hx := cx.1
  have hb := cx.2.1
  have hl : lv_has ls 5 [(0, .ref (a 97)), (1, .int v1), (2, .int v2), (3, .int v3)] := hl
  refine lv_iload_n hx hb dX6_isWord_0 rfl (lv_at hl 2 rfl) ?_
  refine lv_istore (lv' := [(4, .int v2), (0, .ref (a 97)), (1, .int v1), (2, .int v2), (3, .int v3)]) hx hb dX6_isWord_1 hl (by decide) rfl (fun ls hl => ?_)
  obtain ⟨K1, hK1, hf⟩ := jnS hf
  have kx1 : ∀ (o3 : Int32) (H : Heap) (locs : List Loc) (ls : Array Slot), K1 o3 = some res → Wd D A s (cW a ar t x_q0_dials x_q0_spots x_q0_skies x_q0_reports x_q0_count x_q0_chime x_q0_end x_q0_score x_q0_reportCount x_q0_z x_q0_rules x_q0_shades x_q0_facts x_q1_dials x_q1_spots x_q1_skies x_q1_reports x_q1_count x_q1_chime x_q1_end x_q1_score x_q1_reportCount x_q1_z x_q1_rules x_q1_shades x_q1_facts x_q2_dials x_q2_spots x_q2_skies x_q2_reports x_q2_count x_q2_chime x_q2_end x_q2_score x_q2_reportCount x_q2_z x_q2_rules x_q2_shades x_q2_facts x_isKept x_marks x_p_first x_p_steps x_p_most x_p_many x_p_fewest x_p_everRight x_p_opening x_p_rows x_p_rowCount x_p_acts x_p_marks x_p_deepest x_p_wanted x_t_length x_t_tape x_t_words x_t_places x_t_at x_t_kinds x_t_wills x_t_starts x_t_code x_t_count x_t_size x_h_sorts x_h_lengths x_h_items x_h_held x_h_things x_h_sizes x_h_bodies x_h_traced x_h_number x_h_spot x_h_parted x_g_count x_g_kinds x_g_wills x_g_starts x_g_code x_g_stack x_g_kl x_g_wl x_g_sl x_g_cl x_nr) H locs → lv_has ls 5 [(0, .ref (a 97)), (1, .int v1), (2, .int v2), (3, .int v3), (4, .int o3)] → W p l e (rmz 5 0 0) s m args below meth c H locs 0 0 Q (F0 m 38 ls []) := by
    intro o3 H locs ls hf hw hl
    have hf := hK1 _ hf
    refine lv_iconst (v := 1) hx hb dX6_isWord_38 (by decide) ?_
    have hf := Option.some.inj hf
    subst hf
    exact hR _ _ _ _ _ _ hw rfl ⟨rfl, rfl⟩ dX6_isWord_39
  have wL1 : ∀ (k : Nat) {v1 : Int32} {v2 : Int32} {v3 : Int32} {v4 : Int32} {H : Heap} {locs : List Loc} {ls : Array Slot}, X6_isWord_L1 n x_t_tape v1 v2 v3 K1 k v4 = some res → Wd D A s (cW a ar t x_q0_dials x_q0_spots x_q0_skies x_q0_reports x_q0_count x_q0_chime x_q0_end x_q0_score x_q0_reportCount x_q0_z x_q0_rules x_q0_shades x_q0_facts x_q1_dials x_q1_spots x_q1_skies x_q1_reports x_q1_count x_q1_chime x_q1_end x_q1_score x_q1_reportCount x_q1_z x_q1_rules x_q1_shades x_q1_facts x_q2_dials x_q2_spots x_q2_skies x_q2_reports x_q2_count x_q2_chime x_q2_end x_q2_score x_q2_reportCount x_q2_z x_q2_rules x_q2_shades x_q2_facts x_isKept x_marks x_p_first x_p_steps x_p_most x_p_many x_p_fewest x_p_everRight x_p_opening x_p_rows x_p_rowCount x_p_acts x_p_marks x_p_deepest x_p_wanted x_t_length x_t_tape x_t_words x_t_places x_t_at x_t_kinds x_t_wills x_t_starts x_t_code x_t_count x_t_size x_h_sorts x_h_lengths x_h_items x_h_held x_h_things x_h_sizes x_h_bodies x_h_traced x_h_number x_h_spot x_h_parted x_g_count x_g_kinds x_g_wills x_g_starts x_g_code x_g_stack x_g_kl x_g_wl x_g_sl x_g_cl x_nr) H locs → lv_has ls 5 [(0, .ref (a 97)), (1, .int v1), (2, .int v2), (3, .int v3), (4, .int v4)] → (∀ (o : Int32) (H : Heap) (locs : List Loc) (ls : Array Slot), K1 o = some res → Wd D A s (cW a ar t x_q0_dials x_q0_spots x_q0_skies x_q0_reports x_q0_count x_q0_chime x_q0_end x_q0_score x_q0_reportCount x_q0_z x_q0_rules x_q0_shades x_q0_facts x_q1_dials x_q1_spots x_q1_skies x_q1_reports x_q1_count x_q1_chime x_q1_end x_q1_score x_q1_reportCount x_q1_z x_q1_rules x_q1_shades x_q1_facts x_q2_dials x_q2_spots x_q2_skies x_q2_reports x_q2_count x_q2_chime x_q2_end x_q2_score x_q2_reportCount x_q2_z x_q2_rules x_q2_shades x_q2_facts x_isKept x_marks x_p_first x_p_steps x_p_most x_p_many x_p_fewest x_p_everRight x_p_opening x_p_rows x_p_rowCount x_p_acts x_p_marks x_p_deepest x_p_wanted x_t_length x_t_tape x_t_words x_t_places x_t_at x_t_kinds x_t_wills x_t_starts x_t_code x_t_count x_t_size x_h_sorts x_h_lengths x_h_items x_h_held x_h_things x_h_sizes x_h_bodies x_h_traced x_h_number x_h_spot x_h_parted x_g_count x_g_kinds x_g_wills x_g_starts x_g_code x_g_stack x_g_kl x_g_wl x_g_sl x_g_cl x_nr) H locs → lv_has ls 5 [(0, .ref (a 97)), (1, .int v1), (2, .int v2), (3, .int v3), (4, .int o)] → W p l e (rmz 5 0 0) s m args below meth c H locs 0 0 Q (F0 m 38 ls [])) → W p l e (rmz 5 0 0) s m args below meth c H locs 0 0 Q (F0 m 3 ls []) := by
    clear hf hw hl hK1 kx1
    intro k
    induction k with
    | zero => intro v1 v2 v3 v4 H locs ls hf hw hl kx; simp [X6_isWord_L1] at hf
    | succ k ih =>
      intro v1 v2 v3 v4 H locs ls hf hw hl kx
      rw [X6_isWord_L1] at hf
      refine lv_iload hx hb dX6_isWord_3 (lv_at hl 4 rfl) ?_
      refine lv_iload_n hx hb dX6_isWord_5 rfl (lv_at hl 3 rfl) ?_
      refine lv_icmp_ge (tgt := 38) hx hb dX6_isWord_6 (by decide) (fun hc => ?_) (fun hc => ?_)
      · have hf := ifT hf hc
        exact kx _ _ _ _ hf hw (lv_sub hl [0, 1, 2, 3, 4] rfl)
      · have hf := ifF hf hc
        refine va_ldcS hx hb cx.2.2.2.1 cx.2.2.2.2.2.2.2.1.2.2.2.2.2.2 dX6_isWord_9 ?_
        refine lv_iload_n hx hb dX6_isWord_11 rfl (lv_at hl 1 rfl) ?_
        refine lv_iload hx hb dX6_isWord_12 (lv_at hl 4 rfl) ?_
        refine lv_iadd hx hb dX6_isWord_14 ?_
        refine lv_iload_n hx hb dX6_isWord_15 rfl (lv_at hl 2 rfl) ?_
        refine lv_isub hx hb dX6_isWord_16 ?_
        obtain ⟨h1, hf⟩ := ckS hf
        refine calEi cx hw hl.1 (c_charAt (ib_in h1)) q_566 k_J0_charAt_5068e rfl (recE cx hw) dX6_isWord_17 rfl (Nat.le_of_ble_eq_true rfl) ⟨Nat.le_of_ble_eq_true rfl, Nat.le_of_ble_eq_true rfl⟩ ⟨Nat.le_refl _, Nat.le_refl _⟩ (fun H locs hw => ?_)
        refine lv_aload_n hx hb dX6_isWord_20 rfl (lv_at hl 0 rfl) ?_
        refine cg_X6_9_text cx hw dX6_isWord_21 ?_
        refine lv_iload hx hb dX6_isWord_24 (lv_at hl 4 rfl) ?_
        obtain ⟨h2, hf⟩ := ckS hf
        refine cl_t_tape (j := v4.toNatClampNeg) cx hw (ib_in h2) rfl dX6_isWord_26 ?_
        refine lv_icmp_eq (tgt := 32) hx hb dX6_isWord_27 (by decide) (fun hc => ?_) (fun hc => ?_)
        · have hf := ifT hf hc
          refine lv_iinc (v := (v4 + (1 : Int32))) (lv' := [(4, .int (v4 + (1 : Int32))), (0, .ref (a 97)), (1, .int v1), (2, .int v2), (3, .int v3)]) hx hb dX6_isWord_32 hl (k := 4) rfl rfl (by decide) rfl (fun ls hl => ?_)
          refine lv_goto (tgt := 3) hx hb dX6_isWord_35 (by decide) ?_
          exact ih hf hw (lv_sub hl [1, 2, 3, 4, 0] rfl) kx
        · have hf := ifF hf hc
          refine lv_iconst (v := 0) hx hb dX6_isWord_30 (by decide) ?_
          have hf := Option.some.inj hf
          subst hf
          exact hR _ _ _ _ _ _ hw rfl ⟨rfl, rfl⟩ dX6_isWord_31
  exact wL1 n hf hw (lv_sub hl [1, 2, 3, 4, 0] rfl) kx1
theorem dX6_wordOf_0 : decode cX6_wordOf 0 = .ok (.sipush 10000, 3) := by decide +kernel
theorem dX6_wordOf_3 : decode cX6_wordOf 3 = .ok (.istore_n 3, 1) := by decide +kernel
theorem dX6_wordOf_4 : decode cX6_wordOf 4 = .ok (.iconst 0, 1) := by decide +kernel
theorem dX6_wordOf_5 : decode cX6_wordOf 5 = .ok (.istore 4, 2) := by decide +kernel
theorem dX6_wordOf_7 : decode cX6_wordOf 7 = .ok (.iconst 0, 1) := by decide +kernel
theorem dX6_wordOf_8 : decode cX6_wordOf 8 = .ok (.istore 5, 2) := by decide +kernel
theorem dX6_wordOf_10 : decode cX6_wordOf 10 = .ok (.iload 5, 2) := by decide +kernel
theorem dX6_wordOf_12 : decode cX6_wordOf 12 = .ok (.ldc 79, 2) := by decide +kernel
theorem dX6_wordOf_14 : decode cX6_wordOf 14 = .ok (.invokevirtual 81, 3) := by decide +kernel
theorem dX6_wordOf_17 : decode cX6_wordOf 17 = .ok (.if_icmp .gt 67, 3) := by decide +kernel
theorem dX6_wordOf_20 : decode cX6_wordOf 20 = .ok (.iload 5, 2) := by decide +kernel
theorem dX6_wordOf_22 : decode cX6_wordOf 22 = .ok (.ldc 79, 2) := by decide +kernel
theorem dX6_wordOf_24 : decode cX6_wordOf 24 = .ok (.invokevirtual 81, 3) := by decide +kernel
theorem dX6_wordOf_27 : decode cX6_wordOf 27 = .ok (.if_icmp .ge 18, 3) := by decide +kernel
theorem dX6_wordOf_30 : decode cX6_wordOf 30 = .ok (.ldc 79, 2) := by decide +kernel
theorem dX6_wordOf_32 : decode cX6_wordOf 32 = .ok (.iload 5, 2) := by decide +kernel
theorem dX6_wordOf_34 : decode cX6_wordOf 34 = .ok (.invokevirtual 86, 3) := by decide +kernel
theorem dX6_wordOf_37 : decode cX6_wordOf 37 = .ok (.bipush 32, 2) := by decide +kernel
theorem dX6_wordOf_39 : decode cX6_wordOf 39 = .ok (.if_icmp .eq 6, 3) := by decide +kernel
theorem dX6_wordOf_42 : decode cX6_wordOf 42 = .ok (.goto 36, 3) := by decide +kernel
theorem dX6_wordOf_45 : decode cX6_wordOf 45 = .ok (.iload 5, 2) := by decide +kernel
theorem dX6_wordOf_47 : decode cX6_wordOf 47 = .ok (.iload 4, 2) := by decide +kernel
theorem dX6_wordOf_49 : decode cX6_wordOf 49 = .ok (.isub, 1) := by decide +kernel
theorem dX6_wordOf_50 : decode cX6_wordOf 50 = .ok (.iload_n 2, 1) := by decide +kernel
theorem dX6_wordOf_51 : decode cX6_wordOf 51 = .ok (.iload_n 1, 1) := by decide +kernel
theorem dX6_wordOf_52 : decode cX6_wordOf 52 = .ok (.isub, 1) := by decide +kernel
theorem dX6_wordOf_53 : decode cX6_wordOf 53 = .ok (.if_icmp .ne 16, 3) := by decide +kernel
theorem dX6_wordOf_56 : decode cX6_wordOf 56 = .ok (.aload_n 0, 1) := by decide +kernel
theorem dX6_wordOf_57 : decode cX6_wordOf 57 = .ok (.iload 4, 2) := by decide +kernel
theorem dX6_wordOf_59 : decode cX6_wordOf 59 = .ok (.iload_n 1, 1) := by decide +kernel
theorem dX6_wordOf_60 : decode cX6_wordOf 60 = .ok (.iload_n 2, 1) := by decide +kernel
theorem dX6_wordOf_61 : decode cX6_wordOf 61 = .ok (.invokevirtual 90, 3) := by decide +kernel
theorem dX6_wordOf_64 : decode cX6_wordOf 64 = .ok (.ifCond .eq 5, 3) := by decide +kernel
theorem dX6_wordOf_67 : decode cX6_wordOf 67 = .ok (.iload_n 3, 1) := by decide +kernel
theorem dX6_wordOf_68 : decode cX6_wordOf 68 = .ok (.ireturn, 1) := by decide +kernel
theorem dX6_wordOf_69 : decode cX6_wordOf 69 = .ok (.iload 5, 2) := by decide +kernel
theorem dX6_wordOf_71 : decode cX6_wordOf 71 = .ok (.iconst 1, 1) := by decide +kernel
theorem dX6_wordOf_72 : decode cX6_wordOf 72 = .ok (.iadd, 1) := by decide +kernel
theorem dX6_wordOf_73 : decode cX6_wordOf 73 = .ok (.istore 4, 2) := by decide +kernel
theorem dX6_wordOf_75 : decode cX6_wordOf 75 = .ok (.iinc 3 1, 3) := by decide +kernel
theorem dX6_wordOf_78 : decode cX6_wordOf 78 = .ok (.iinc 5 1, 3) := by decide +kernel
theorem dX6_wordOf_81 : decode cX6_wordOf 81 = .ok (.goto (-71), 3) := by decide +kernel
theorem dX6_wordOf_84 : decode cX6_wordOf 84 = .ok (.iconst (-1), 1) := by decide +kernel
theorem dX6_wordOf_85 : decode cX6_wordOf 85 = .ok (.ireturn, 1) := by decide +kernel
theorem k_X6_wordOf : MV yX6_wordOf cX6_wordOf 6 (some .int) 2 := ⟨q_553, qs_4, q_2, q_554, ⟨by decide, by decide, by decide +kernel⟩⟩
theorem c_X6_wordOf {v1 : Int32} {v2 : Int32} {res : Int32} (hf : X6_wordOf n x_t_tape v1 v2 = some res) : MC l (EW sa sv) D t yX6_wordOf cX6_wordOf 6 (some .int) 6 0 0 [.ref (a 97), .int v1, .int v2] (cW a ar t x_q0_dials x_q0_spots x_q0_skies x_q0_reports x_q0_count x_q0_chime x_q0_end x_q0_score x_q0_reportCount x_q0_z x_q0_rules x_q0_shades x_q0_facts x_q1_dials x_q1_spots x_q1_skies x_q1_reports x_q1_count x_q1_chime x_q1_end x_q1_score x_q1_reportCount x_q1_z x_q1_rules x_q1_shades x_q1_facts x_q2_dials x_q2_spots x_q2_skies x_q2_reports x_q2_count x_q2_chime x_q2_end x_q2_score x_q2_reportCount x_q2_z x_q2_rules x_q2_shades x_q2_facts x_isKept x_marks x_p_first x_p_steps x_p_most x_p_many x_p_fewest x_p_everRight x_p_opening x_p_rows x_p_rowCount x_p_acts x_p_marks x_p_deepest x_p_wanted x_t_length x_t_tape x_t_words x_t_places x_t_at x_t_kinds x_t_wills x_t_starts x_t_code x_t_count x_t_size x_h_sorts x_h_lengths x_h_items x_h_held x_h_things x_h_sizes x_h_bodies x_h_traced x_h_number x_h_spot x_h_parted x_g_count x_g_kinds x_g_wills x_g_starts x_g_code x_g_stack x_g_kl x_g_wl x_g_sl x_g_cl x_nr) (Qi res (cW a ar t x_q0_dials x_q0_spots x_q0_skies x_q0_reports x_q0_count x_q0_chime x_q0_end x_q0_score x_q0_reportCount x_q0_z x_q0_rules x_q0_shades x_q0_facts x_q1_dials x_q1_spots x_q1_skies x_q1_reports x_q1_count x_q1_chime x_q1_end x_q1_score x_q1_reportCount x_q1_z x_q1_rules x_q1_shades x_q1_facts x_q2_dials x_q2_spots x_q2_skies x_q2_reports x_q2_count x_q2_chime x_q2_end x_q2_score x_q2_reportCount x_q2_z x_q2_rules x_q2_shades x_q2_facts x_isKept x_marks x_p_first x_p_steps x_p_most x_p_many x_p_fewest x_p_everRight x_p_opening x_p_rows x_p_rowCount x_p_acts x_p_marks x_p_deepest x_p_wanted x_t_length x_t_tape x_t_words x_t_places x_t_at x_t_kinds x_t_wills x_t_starts x_t_code x_t_count x_t_size x_h_sorts x_h_lengths x_h_items x_h_held x_h_things x_h_sizes x_h_bodies x_h_traced x_h_number x_h_spot x_h_parted x_g_count x_g_kinds x_g_wills x_g_starts x_g_code x_g_stack x_g_kl x_g_wl x_g_sl x_g_cl x_nr)) := by
  unfold X6_wordOf at hf
  refine MC.ofI pn_X6 (Nat.le_of_ble_eq_true rfl) ?_
  intro p e s m args below meth c A Q ls cx hR hw hl
  have hx := cx.1
  have hb := cx.2.1
  have hl : lv_has ls 6 [(0, .ref (a 97)), (1, .int v1), (2, .int v2)] := hl
  refine lv_sipush (v := 10000) hx hb dX6_wordOf_0 (by decide) ?_
  refine lv_istore_n (lv' := [(3, .int (10000 : Int32)), (0, .ref (a 97)), (1, .int v1), (2, .int v2)]) hx hb dX6_wordOf_3 rfl hl (by decide) rfl (fun ls hl => ?_)
  refine lv_iconst (v := 0) hx hb dX6_wordOf_4 (by decide) ?_
  refine lv_istore (lv' := [(4, .int (0 : Int32)), (3, .int (10000 : Int32)), (0, .ref (a 97)), (1, .int v1), (2, .int v2)]) hx hb dX6_wordOf_5 hl (by decide) rfl (fun ls hl => ?_)
  refine lv_iconst (v := 0) hx hb dX6_wordOf_7 (by decide) ?_
  refine lv_istore (lv' := [(5, .int (0 : Int32)), (4, .int (0 : Int32)), (3, .int (10000 : Int32)), (0, .ref (a 97)), (1, .int v1), (2, .int v2)]) hx hb dX6_wordOf_8 hl (by decide) rfl (fun ls hl => ?_)
  obtain ⟨K1, hK1, hf⟩ := jnS hf
  have kx1 : ∀ (o7 : Int32 × Int32 × Int32) (H : Heap) (locs : List Loc) (ls : Array Slot), K1 o7 = some res → Wd D A s (cW a ar t x_q0_dials x_q0_spots x_q0_skies x_q0_reports x_q0_count x_q0_chime x_q0_end x_q0_score x_q0_reportCount x_q0_z x_q0_rules x_q0_shades x_q0_facts x_q1_dials x_q1_spots x_q1_skies x_q1_reports x_q1_count x_q1_chime x_q1_end x_q1_score x_q1_reportCount x_q1_z x_q1_rules x_q1_shades x_q1_facts x_q2_dials x_q2_spots x_q2_skies x_q2_reports x_q2_count x_q2_chime x_q2_end x_q2_score x_q2_reportCount x_q2_z x_q2_rules x_q2_shades x_q2_facts x_isKept x_marks x_p_first x_p_steps x_p_most x_p_many x_p_fewest x_p_everRight x_p_opening x_p_rows x_p_rowCount x_p_acts x_p_marks x_p_deepest x_p_wanted x_t_length x_t_tape x_t_words x_t_places x_t_at x_t_kinds x_t_wills x_t_starts x_t_code x_t_count x_t_size x_h_sorts x_h_lengths x_h_items x_h_held x_h_things x_h_sizes x_h_bodies x_h_traced x_h_number x_h_spot x_h_parted x_g_count x_g_kinds x_g_wills x_g_starts x_g_code x_g_stack x_g_kl x_g_wl x_g_sl x_g_cl x_nr) H locs → lv_has ls 6 [(0, .ref (a 97)), (1, .int v1), (2, .int v2), (3, .int o7.1), (4, .int o7.2.1), (5, .int o7.2.2)] → W p l e (rmz 6 0 0) s m args below meth c H locs 0 0 Q (F0 m 84 ls []) := by
    intro o7 H locs ls hf hw hl
    have hf := hK1 _ hf
    refine lv_iconst (v := (-1)) hx hb dX6_wordOf_84 (by decide) ?_
    have hf := Option.some.inj hf
    subst hf
    exact hR _ _ _ _ _ _ hw rfl ⟨rfl, rfl⟩ dX6_wordOf_85
  have wL1 : ∀ (k : Nat) {v1 : Int32} {v2 : Int32} {v3 : Int32} {v4 : Int32} {v5 : Int32} {H : Heap} {locs : List Loc} {ls : Array Slot}, X6_wordOf_L1 n x_t_tape v1 v2 K1 k v3 v4 v5 = some res → Wd D A s (cW a ar t x_q0_dials x_q0_spots x_q0_skies x_q0_reports x_q0_count x_q0_chime x_q0_end x_q0_score x_q0_reportCount x_q0_z x_q0_rules x_q0_shades x_q0_facts x_q1_dials x_q1_spots x_q1_skies x_q1_reports x_q1_count x_q1_chime x_q1_end x_q1_score x_q1_reportCount x_q1_z x_q1_rules x_q1_shades x_q1_facts x_q2_dials x_q2_spots x_q2_skies x_q2_reports x_q2_count x_q2_chime x_q2_end x_q2_score x_q2_reportCount x_q2_z x_q2_rules x_q2_shades x_q2_facts x_isKept x_marks x_p_first x_p_steps x_p_most x_p_many x_p_fewest x_p_everRight x_p_opening x_p_rows x_p_rowCount x_p_acts x_p_marks x_p_deepest x_p_wanted x_t_length x_t_tape x_t_words x_t_places x_t_at x_t_kinds x_t_wills x_t_starts x_t_code x_t_count x_t_size x_h_sorts x_h_lengths x_h_items x_h_held x_h_things x_h_sizes x_h_bodies x_h_traced x_h_number x_h_spot x_h_parted x_g_count x_g_kinds x_g_wills x_g_starts x_g_code x_g_stack x_g_kl x_g_wl x_g_sl x_g_cl x_nr) H locs → lv_has ls 6 [(0, .ref (a 97)), (1, .int v1), (2, .int v2), (3, .int v3), (4, .int v4), (5, .int v5)] → (∀ (o : Int32 × Int32 × Int32) (H : Heap) (locs : List Loc) (ls : Array Slot), K1 o = some res → Wd D A s (cW a ar t x_q0_dials x_q0_spots x_q0_skies x_q0_reports x_q0_count x_q0_chime x_q0_end x_q0_score x_q0_reportCount x_q0_z x_q0_rules x_q0_shades x_q0_facts x_q1_dials x_q1_spots x_q1_skies x_q1_reports x_q1_count x_q1_chime x_q1_end x_q1_score x_q1_reportCount x_q1_z x_q1_rules x_q1_shades x_q1_facts x_q2_dials x_q2_spots x_q2_skies x_q2_reports x_q2_count x_q2_chime x_q2_end x_q2_score x_q2_reportCount x_q2_z x_q2_rules x_q2_shades x_q2_facts x_isKept x_marks x_p_first x_p_steps x_p_most x_p_many x_p_fewest x_p_everRight x_p_opening x_p_rows x_p_rowCount x_p_acts x_p_marks x_p_deepest x_p_wanted x_t_length x_t_tape x_t_words x_t_places x_t_at x_t_kinds x_t_wills x_t_starts x_t_code x_t_count x_t_size x_h_sorts x_h_lengths x_h_items x_h_held x_h_things x_h_sizes x_h_bodies x_h_traced x_h_number x_h_spot x_h_parted x_g_count x_g_kinds x_g_wills x_g_starts x_g_code x_g_stack x_g_kl x_g_wl x_g_sl x_g_cl x_nr) H locs → lv_has ls 6 [(0, .ref (a 97)), (1, .int v1), (2, .int v2), (3, .int o.1), (4, .int o.2.1), (5, .int o.2.2)] → W p l e (rmz 6 0 0) s m args below meth c H locs 0 0 Q (F0 m 84 ls [])) → W p l e (rmz 6 0 0) s m args below meth c H locs 0 0 Q (F0 m 10 ls []) := by
    clear hf hw hl hK1 kx1
    intro k
    induction k with
    | zero => intro v1 v2 v3 v4 v5 H locs ls hf hw hl kx; simp [X6_wordOf_L1] at hf
    | succ k ih =>
      intro v1 v2 v3 v4 v5 H locs ls hf hw hl kx
      rw [X6_wordOf_L1] at hf
      refine lv_iload hx hb dX6_wordOf_10 (lv_at hl 5 rfl) ?_
      refine va_ldcS hx hb cx.2.2.2.1 cx.2.2.2.2.2.2.2.1.2.2.2.2.2.2 dX6_wordOf_12 ?_
      refine calEi cx hw hl.1 c_length q_556 k_J0_length_8abf5 rfl (recE cx hw) dX6_wordOf_14 rfl (Nat.le_of_ble_eq_true rfl) ⟨Nat.le_of_ble_eq_true rfl, Nat.le_of_ble_eq_true rfl⟩ ⟨Nat.le_refl _, Nat.le_refl _⟩ (fun H locs hw => ?_)
      refine lv_icmp_gt (tgt := 84) hx hb dX6_wordOf_17 (by decide) (fun hc => ?_) (fun hc => ?_)
      · have hf := ifT hf hc
        exact kx _ _ _ _ hf hw (lv_sub hl [0, 1, 2, 3, 4, 5] rfl)
      · have hf := ifF hf hc
        refine lv_iload hx hb dX6_wordOf_20 (lv_at hl 5 rfl) ?_
        refine va_ldcS hx hb cx.2.2.2.1 cx.2.2.2.2.2.2.2.1.2.2.2.2.2.2 dX6_wordOf_22 ?_
        refine calEi cx hw hl.1 c_length q_556 k_J0_length_8abf5 rfl (recE cx hw) dX6_wordOf_24 rfl (Nat.le_of_ble_eq_true rfl) ⟨Nat.le_of_ble_eq_true rfl, Nat.le_of_ble_eq_true rfl⟩ ⟨Nat.le_refl _, Nat.le_refl _⟩ (fun H locs hw => ?_)
        obtain ⟨J6, hJ6, hf⟩ := jnS hf
        have wj6 : ∀ (j6 : Unit) (H : Heap) (locs : List Loc) (ls : Array Slot), J6 j6 = some res → Wd D A s (cW a ar t x_q0_dials x_q0_spots x_q0_skies x_q0_reports x_q0_count x_q0_chime x_q0_end x_q0_score x_q0_reportCount x_q0_z x_q0_rules x_q0_shades x_q0_facts x_q1_dials x_q1_spots x_q1_skies x_q1_reports x_q1_count x_q1_chime x_q1_end x_q1_score x_q1_reportCount x_q1_z x_q1_rules x_q1_shades x_q1_facts x_q2_dials x_q2_spots x_q2_skies x_q2_reports x_q2_count x_q2_chime x_q2_end x_q2_score x_q2_reportCount x_q2_z x_q2_rules x_q2_shades x_q2_facts x_isKept x_marks x_p_first x_p_steps x_p_most x_p_many x_p_fewest x_p_everRight x_p_opening x_p_rows x_p_rowCount x_p_acts x_p_marks x_p_deepest x_p_wanted x_t_length x_t_tape x_t_words x_t_places x_t_at x_t_kinds x_t_wills x_t_starts x_t_code x_t_count x_t_size x_h_sorts x_h_lengths x_h_items x_h_held x_h_things x_h_sizes x_h_bodies x_h_traced x_h_number x_h_spot x_h_parted x_g_count x_g_kinds x_g_wills x_g_starts x_g_code x_g_stack x_g_kl x_g_wl x_g_sl x_g_cl x_nr) H locs → lv_has ls 6 [(0, .ref (a 97)), (1, .int v1), (2, .int v2), (3, .int v3), (4, .int v4), (5, .int v5)] → W p l e (rmz 6 0 0) s m args below meth c H locs 0 0 Q (F0 m 78 ls []) := by
          intro j6 H locs ls hf hw hl
          have hf := hJ6 _ hf
          refine lv_iinc (v := (v5 + (1 : Int32))) (lv' := [(5, .int (v5 + (1 : Int32))), (0, .ref (a 97)), (1, .int v1), (2, .int v2), (3, .int v3), (4, .int v4)]) hx hb dX6_wordOf_78 hl (k := 5) rfl rfl (by decide) rfl (fun ls hl => ?_)
          refine lv_goto (tgt := 10) hx hb dX6_wordOf_81 (by decide) ?_
          exact ih hf hw (lv_sub hl [1, 2, 3, 4, 5, 0] rfl) kx
        clear hJ6
        obtain ⟨J2, hJ2, hf⟩ := jnS hf
        have wj2 : ∀ (j2 : Unit) (H : Heap) (locs : List Loc) (ls : Array Slot), J2 j2 = some res → Wd D A s (cW a ar t x_q0_dials x_q0_spots x_q0_skies x_q0_reports x_q0_count x_q0_chime x_q0_end x_q0_score x_q0_reportCount x_q0_z x_q0_rules x_q0_shades x_q0_facts x_q1_dials x_q1_spots x_q1_skies x_q1_reports x_q1_count x_q1_chime x_q1_end x_q1_score x_q1_reportCount x_q1_z x_q1_rules x_q1_shades x_q1_facts x_q2_dials x_q2_spots x_q2_skies x_q2_reports x_q2_count x_q2_chime x_q2_end x_q2_score x_q2_reportCount x_q2_z x_q2_rules x_q2_shades x_q2_facts x_isKept x_marks x_p_first x_p_steps x_p_most x_p_many x_p_fewest x_p_everRight x_p_opening x_p_rows x_p_rowCount x_p_acts x_p_marks x_p_deepest x_p_wanted x_t_length x_t_tape x_t_words x_t_places x_t_at x_t_kinds x_t_wills x_t_starts x_t_code x_t_count x_t_size x_h_sorts x_h_lengths x_h_items x_h_held x_h_things x_h_sizes x_h_bodies x_h_traced x_h_number x_h_spot x_h_parted x_g_count x_g_kinds x_g_wills x_g_starts x_g_code x_g_stack x_g_kl x_g_wl x_g_sl x_g_cl x_nr) H locs → lv_has ls 6 [(0, .ref (a 97)), (1, .int v1), (2, .int v2), (3, .int v3), (4, .int v4), (5, .int v5)] → W p l e (rmz 6 0 0) s m args below meth c H locs 0 0 Q (F0 m 45 ls []) := by
          intro j2 H locs ls hf hw hl
          have hf := hJ2 _ hf
          refine lv_iload hx hb dX6_wordOf_45 (lv_at hl 5 rfl) ?_
          refine lv_iload hx hb dX6_wordOf_47 (lv_at hl 4 rfl) ?_
          refine lv_isub hx hb dX6_wordOf_49 ?_
          refine lv_iload_n hx hb dX6_wordOf_50 rfl (lv_at hl 2 rfl) ?_
          refine lv_iload_n hx hb dX6_wordOf_51 rfl (lv_at hl 1 rfl) ?_
          refine lv_isub hx hb dX6_wordOf_52 ?_
          obtain ⟨J5, hJ5, hf⟩ := jnS hf
          have wj5 : ∀ (j5 : Unit) (H : Heap) (locs : List Loc) (ls : Array Slot), J5 j5 = some res → Wd D A s (cW a ar t x_q0_dials x_q0_spots x_q0_skies x_q0_reports x_q0_count x_q0_chime x_q0_end x_q0_score x_q0_reportCount x_q0_z x_q0_rules x_q0_shades x_q0_facts x_q1_dials x_q1_spots x_q1_skies x_q1_reports x_q1_count x_q1_chime x_q1_end x_q1_score x_q1_reportCount x_q1_z x_q1_rules x_q1_shades x_q1_facts x_q2_dials x_q2_spots x_q2_skies x_q2_reports x_q2_count x_q2_chime x_q2_end x_q2_score x_q2_reportCount x_q2_z x_q2_rules x_q2_shades x_q2_facts x_isKept x_marks x_p_first x_p_steps x_p_most x_p_many x_p_fewest x_p_everRight x_p_opening x_p_rows x_p_rowCount x_p_acts x_p_marks x_p_deepest x_p_wanted x_t_length x_t_tape x_t_words x_t_places x_t_at x_t_kinds x_t_wills x_t_starts x_t_code x_t_count x_t_size x_h_sorts x_h_lengths x_h_items x_h_held x_h_things x_h_sizes x_h_bodies x_h_traced x_h_number x_h_spot x_h_parted x_g_count x_g_kinds x_g_wills x_g_starts x_g_code x_g_stack x_g_kl x_g_wl x_g_sl x_g_cl x_nr) H locs → lv_has ls 6 [(0, .ref (a 97)), (1, .int v1), (2, .int v2), (3, .int v3), (4, .int v4), (5, .int v5)] → W p l e (rmz 6 0 0) s m args below meth c H locs 0 0 Q (F0 m 69 ls []) := by
            intro j5 H locs ls hf hw hl
            have hf := hJ5 _ hf
            refine lv_iload hx hb dX6_wordOf_69 (lv_at hl 5 rfl) ?_
            refine lv_iconst (v := 1) hx hb dX6_wordOf_71 (by decide) ?_
            refine lv_iadd hx hb dX6_wordOf_72 ?_
            refine lv_istore (lv' := [(4, .int (v5 + (1 : Int32))), (0, .ref (a 97)), (1, .int v1), (2, .int v2), (3, .int v3), (5, .int v5)]) hx hb dX6_wordOf_73 hl (by decide) rfl (fun ls hl => ?_)
            refine lv_iinc (v := (v3 + (1 : Int32))) (lv' := [(3, .int (v3 + (1 : Int32))), (4, .int (v5 + (1 : Int32))), (0, .ref (a 97)), (1, .int v1), (2, .int v2), (5, .int v5)]) hx hb dX6_wordOf_75 hl (k := 4) rfl rfl (by decide) rfl (fun ls hl => ?_)
            refine lv_iinc (v := (v5 + (1 : Int32))) (lv' := [(5, .int (v5 + (1 : Int32))), (3, .int (v3 + (1 : Int32))), (4, .int (v5 + (1 : Int32))), (0, .ref (a 97)), (1, .int v1), (2, .int v2)]) hx hb dX6_wordOf_78 hl (k := 5) rfl rfl (by decide) rfl (fun ls hl => ?_)
            refine lv_goto (tgt := 10) hx hb dX6_wordOf_81 (by decide) ?_
            exact ih hf hw (lv_sub hl [3, 4, 5, 1, 2, 0] rfl) kx
          clear hJ5
          refine lv_icmp_ne (tgt := 69) hx hb dX6_wordOf_53 (by decide) (fun hc => ?_) (fun hc => ?_)
          · have hf := ifF hf hc
            exact wj5 _ _ _ _ hf hw (lv_sub hl [0, 1, 2, 3, 4, 5] rfl)
          · have hf := ifT hf hc
            refine lv_aload_n hx hb dX6_wordOf_56 rfl (lv_at hl 0 rfl) ?_
            refine lv_iload hx hb dX6_wordOf_57 (lv_at hl 4 rfl) ?_
            refine lv_iload_n hx hb dX6_wordOf_59 rfl (lv_at hl 1 rfl) ?_
            refine lv_iload_n hx hb dX6_wordOf_60 rfl (lv_at hl 2 rfl) ?_
            obtain ⟨r3, h4, hf⟩ := bnS hf
            refine calEi cx hw hl.1 (c_X6_isWord h4) q_604 k_X6_isWord rfl (va_recv cx.2.2.2.2.2.1.1 hw.1 (rfl : cls[6]? = some _) rv_text) dX6_wordOf_61 rfl (Nat.le_of_ble_eq_true rfl) ⟨Nat.le_of_ble_eq_true rfl, Nat.le_of_ble_eq_true rfl⟩ ⟨Nat.le_refl _, Nat.le_refl _⟩ (fun H locs hw => ?_)
            refine lv_if_eq (tgt := 69) hx hb dX6_wordOf_64 (by decide) (fun hc => ?_) (fun hc => ?_)
            · have hf := ifT hf hc
              exact wj5 _ _ _ _ hf hw (lv_sub hl [0, 1, 2, 3, 4, 5] rfl)
            · have hf := ifF hf hc
              refine lv_iload_n hx hb dX6_wordOf_67 rfl (lv_at hl 3 rfl) ?_
              have hf := Option.some.inj hf
              subst hf
              exact hR _ _ _ _ _ _ hw rfl ⟨rfl, rfl⟩ dX6_wordOf_68
        clear hJ2
        refine lv_icmp_ge (tgt := 45) hx hb dX6_wordOf_27 (by decide) (fun hc => ?_) (fun hc => ?_)
        · have hf := ifT hf hc
          exact wj2 _ _ _ _ hf hw (lv_sub hl [0, 1, 2, 3, 4, 5] rfl)
        · have hf := ifF hf hc
          refine va_ldcS hx hb cx.2.2.2.1 cx.2.2.2.2.2.2.2.1.2.2.2.2.2.2 dX6_wordOf_30 ?_
          refine lv_iload hx hb dX6_wordOf_32 (lv_at hl 5 rfl) ?_
          obtain ⟨h1, hf⟩ := ckS hf
          refine calEi cx hw hl.1 (c_charAt (ib_in h1)) q_566 k_J0_charAt_5068e rfl (recE cx hw) dX6_wordOf_34 rfl (Nat.le_of_ble_eq_true rfl) ⟨Nat.le_of_ble_eq_true rfl, Nat.le_of_ble_eq_true rfl⟩ ⟨Nat.le_refl _, Nat.le_refl _⟩ (fun H locs hw => ?_)
          refine lv_bipush (v := 32) hx hb dX6_wordOf_37 (by decide) ?_
          refine lv_icmp_eq (tgt := 45) hx hb dX6_wordOf_39 (by decide) (fun hc => ?_) (fun hc => ?_)
          · have hf := ifT hf hc
            exact wj2 _ _ _ _ hf hw (lv_sub hl [0, 1, 2, 3, 4, 5] rfl)
          · have hf := ifF hf hc
            refine lv_goto (tgt := 78) hx hb dX6_wordOf_42 (by decide) ?_
            exact wj6 _ _ _ _ hf hw (lv_sub hl [0, 1, 2, 3, 4, 5] rfl)
  exact wL1 n hf hw (lv_sub hl [3, 4, 5, 2, 1, 0] rfl) kx1
theorem dX6_cutWords_0 : decode cX6_cutWords 0 = .ok (.iconst 0, 1) := by decide +kernel
theorem dX6_cutWords_1 : decode cX6_cutWords 1 = .ok (.istore_n 1, 1) := by decide +kernel
theorem dX6_cutWords_2 : decode cX6_cutWords 2 = .ok (.iconst 0, 1) := by decide +kernel
theorem dX6_cutWords_3 : decode cX6_cutWords 3 = .ok (.istore_n 2, 1) := by decide +kernel
theorem dX6_cutWords_4 : decode cX6_cutWords 4 = .ok (.iconst 0, 1) := by decide +kernel
theorem dX6_cutWords_5 : decode cX6_cutWords 5 = .ok (.istore_n 3, 1) := by decide +kernel
theorem dX6_cutWords_6 : decode cX6_cutWords 6 = .ok (.iload_n 3, 1) := by decide +kernel
theorem dX6_cutWords_7 : decode cX6_cutWords 7 = .ok (.sipush 200, 3) := by decide +kernel
theorem dX6_cutWords_10 : decode cX6_cutWords 10 = .ok (.if_icmp .ge 84, 3) := by decide +kernel
theorem dX6_cutWords_13 : decode cX6_cutWords 13 = .ok (.iload_n 2, 1) := by decide +kernel
theorem dX6_cutWords_14 : decode cX6_cutWords 14 = .ok (.aload_n 0, 1) := by decide +kernel
theorem dX6_cutWords_15 : decode cX6_cutWords 15 = .ok (.getfield 34, 3) := by decide +kernel
theorem dX6_cutWords_18 : decode cX6_cutWords 18 = .ok (.if_icmp .ge 76, 3) := by decide +kernel
theorem dX6_cutWords_21 : decode cX6_cutWords 21 = .ok (.aload_n 0, 1) := by decide +kernel
theorem dX6_cutWords_22 : decode cX6_cutWords 22 = .ok (.iload_n 2, 1) := by decide +kernel
theorem dX6_cutWords_23 : decode cX6_cutWords 23 = .ok (.invokevirtual 65, 3) := by decide +kernel
theorem dX6_cutWords_26 : decode cX6_cutWords 26 = .ok (.istore 4, 2) := by decide +kernel
theorem dX6_cutWords_28 : decode cX6_cutWords 28 = .ok (.aload_n 0, 1) := by decide +kernel
theorem dX6_cutWords_29 : decode cX6_cutWords 29 = .ok (.getfield 9, 3) := by decide +kernel
theorem dX6_cutWords_32 : decode cX6_cutWords 32 = .ok (.iload_n 2, 1) := by decide +kernel
theorem dX6_cutWords_33 : decode cX6_cutWords 33 = .ok (.baload, 1) := by decide +kernel
theorem dX6_cutWords_34 : decode cX6_cutWords 34 = .ok (.bipush 32, 2) := by decide +kernel
theorem dX6_cutWords_36 : decode cX6_cutWords 36 = .ok (.if_icmp .eq 49, 3) := by decide +kernel
theorem dX6_cutWords_39 : decode cX6_cutWords 39 = .ok (.aload_n 0, 1) := by decide +kernel
theorem dX6_cutWords_40 : decode cX6_cutWords 40 = .ok (.getfield 19, 3) := by decide +kernel
theorem dX6_cutWords_43 : decode cX6_cutWords 43 = .ok (.iload_n 1, 1) := by decide +kernel
theorem dX6_cutWords_44 : decode cX6_cutWords 44 = .ok (.iload_n 2, 1) := by decide +kernel
theorem dX6_cutWords_45 : decode cX6_cutWords 45 = .ok (.iastore, 1) := by decide +kernel
theorem dX6_cutWords_46 : decode cX6_cutWords 46 = .ok (.aload_n 0, 1) := by decide +kernel
theorem dX6_cutWords_47 : decode cX6_cutWords 47 = .ok (.getfield 15, 3) := by decide +kernel
theorem dX6_cutWords_50 : decode cX6_cutWords 50 = .ok (.iload_n 1, 1) := by decide +kernel
theorem dX6_cutWords_51 : decode cX6_cutWords 51 = .ok (.aload_n 0, 1) := by decide +kernel
theorem dX6_cutWords_52 : decode cX6_cutWords 52 = .ok (.getfield 9, 3) := by decide +kernel
theorem dX6_cutWords_55 : decode cX6_cutWords 55 = .ok (.iload_n 2, 1) := by decide +kernel
theorem dX6_cutWords_56 : decode cX6_cutWords 56 = .ok (.baload, 1) := by decide +kernel
theorem dX6_cutWords_57 : decode cX6_cutWords 57 = .ok (.invokestatic 69, 3) := by decide +kernel
theorem dX6_cutWords_60 : decode cX6_cutWords 60 = .ok (.iconst 2, 1) := by decide +kernel
theorem dX6_cutWords_61 : decode cX6_cutWords 61 = .ok (.if_icmp .ne 13, 3) := by decide +kernel
theorem dX6_cutWords_64 : decode cX6_cutWords 64 = .ok (.aload_n 0, 1) := by decide +kernel
theorem dX6_cutWords_65 : decode cX6_cutWords 65 = .ok (.iload_n 2, 1) := by decide +kernel
theorem dX6_cutWords_66 : decode cX6_cutWords 66 = .ok (.iload 4, 2) := by decide +kernel
theorem dX6_cutWords_68 : decode cX6_cutWords 68 = .ok (.invokevirtual 72, 3) := by decide +kernel
theorem dX6_cutWords_71 : decode cX6_cutWords 71 = .ok (.goto 10, 3) := by decide +kernel
theorem dX6_cutWords_74 : decode cX6_cutWords 74 = .ok (.aload_n 0, 1) := by decide +kernel
theorem dX6_cutWords_75 : decode cX6_cutWords 75 = .ok (.iload_n 2, 1) := by decide +kernel
theorem dX6_cutWords_76 : decode cX6_cutWords 76 = .ok (.iload 4, 2) := by decide +kernel
theorem dX6_cutWords_78 : decode cX6_cutWords 78 = .ok (.invokevirtual 76, 3) := by decide +kernel
theorem dX6_cutWords_81 : decode cX6_cutWords 81 = .ok (.iastore, 1) := by decide +kernel
theorem dX6_cutWords_82 : decode cX6_cutWords 82 = .ok (.iinc 1 1, 3) := by decide +kernel
theorem dX6_cutWords_85 : decode cX6_cutWords 85 = .ok (.iload 4, 2) := by decide +kernel
theorem dX6_cutWords_87 : decode cX6_cutWords 87 = .ok (.istore_n 2, 1) := by decide +kernel
theorem dX6_cutWords_88 : decode cX6_cutWords 88 = .ok (.iinc 3 1, 3) := by decide +kernel
theorem dX6_cutWords_91 : decode cX6_cutWords 91 = .ok (.goto (-85), 3) := by decide +kernel
theorem dX6_cutWords_94 : decode cX6_cutWords 94 = .ok (.aload_n 0, 1) := by decide +kernel
theorem dX6_cutWords_95 : decode cX6_cutWords 95 = .ok (.getfield 19, 3) := by decide +kernel
theorem dX6_cutWords_98 : decode cX6_cutWords 98 = .ok (.iload_n 1, 1) := by decide +kernel
theorem dX6_cutWords_99 : decode cX6_cutWords 99 = .ok (.aload_n 0, 1) := by decide +kernel
theorem dX6_cutWords_100 : decode cX6_cutWords 100 = .ok (.getfield 34, 3) := by decide +kernel
theorem dX6_cutWords_103 : decode cX6_cutWords 103 = .ok (.iastore, 1) := by decide +kernel
theorem dX6_cutWords_104 : decode cX6_cutWords 104 = .ok (.aload_n 0, 1) := by decide +kernel
theorem dX6_cutWords_105 : decode cX6_cutWords 105 = .ok (.getfield 15, 3) := by decide +kernel
theorem dX6_cutWords_108 : decode cX6_cutWords 108 = .ok (.iload_n 1, 1) := by decide +kernel
theorem dX6_cutWords_109 : decode cX6_cutWords 109 = .ok (.bipush (-2), 2) := by decide +kernel
theorem dX6_cutWords_111 : decode cX6_cutWords 111 = .ok (.iastore, 1) := by decide +kernel
theorem dX6_cutWords_112 : decode cX6_cutWords 112 = .ok (.return_, 1) := by decide +kernel
theorem k_X6_cutWords : MV yX6_cutWords cX6_cutWords 5 none 0 := ⟨q_538, qs_1, q_2, q_539, ⟨by decide, by decide, by decide +kernel⟩⟩
theorem c_X6_cutWords {res : (Nat → Int32) × (Nat → Int32)} (hf : X6_cutWords n x_t_length x_t_tape x_t_words x_t_places = some res) : MC l (EW sa sv) D t yX6_cutWords cX6_cutWords 5 none 7 0 0 [.ref (a 97)] (cW a ar t x_q0_dials x_q0_spots x_q0_skies x_q0_reports x_q0_count x_q0_chime x_q0_end x_q0_score x_q0_reportCount x_q0_z x_q0_rules x_q0_shades x_q0_facts x_q1_dials x_q1_spots x_q1_skies x_q1_reports x_q1_count x_q1_chime x_q1_end x_q1_score x_q1_reportCount x_q1_z x_q1_rules x_q1_shades x_q1_facts x_q2_dials x_q2_spots x_q2_skies x_q2_reports x_q2_count x_q2_chime x_q2_end x_q2_score x_q2_reportCount x_q2_z x_q2_rules x_q2_shades x_q2_facts x_isKept x_marks x_p_first x_p_steps x_p_most x_p_many x_p_fewest x_p_everRight x_p_opening x_p_rows x_p_rowCount x_p_acts x_p_marks x_p_deepest x_p_wanted x_t_length x_t_tape x_t_words x_t_places x_t_at x_t_kinds x_t_wills x_t_starts x_t_code x_t_count x_t_size x_h_sorts x_h_lengths x_h_items x_h_held x_h_things x_h_sizes x_h_bodies x_h_traced x_h_number x_h_spot x_h_parted x_g_count x_g_kinds x_g_wills x_g_starts x_g_code x_g_stack x_g_kl x_g_wl x_g_sl x_g_cl x_nr) (Qn (cW a ar t x_q0_dials x_q0_spots x_q0_skies x_q0_reports x_q0_count x_q0_chime x_q0_end x_q0_score x_q0_reportCount x_q0_z x_q0_rules x_q0_shades x_q0_facts x_q1_dials x_q1_spots x_q1_skies x_q1_reports x_q1_count x_q1_chime x_q1_end x_q1_score x_q1_reportCount x_q1_z x_q1_rules x_q1_shades x_q1_facts x_q2_dials x_q2_spots x_q2_skies x_q2_reports x_q2_count x_q2_chime x_q2_end x_q2_score x_q2_reportCount x_q2_z x_q2_rules x_q2_shades x_q2_facts x_isKept x_marks x_p_first x_p_steps x_p_most x_p_many x_p_fewest x_p_everRight x_p_opening x_p_rows x_p_rowCount x_p_acts x_p_marks x_p_deepest x_p_wanted x_t_length x_t_tape res.1 res.2 x_t_at x_t_kinds x_t_wills x_t_starts x_t_code x_t_count x_t_size x_h_sorts x_h_lengths x_h_items x_h_held x_h_things x_h_sizes x_h_bodies x_h_traced x_h_number x_h_spot x_h_parted x_g_count x_g_kinds x_g_wills x_g_starts x_g_code x_g_stack x_g_kl x_g_wl x_g_sl x_g_cl x_nr)) := by
  unfold X6_cutWords at hf
  refine MC.ofV pn_X6 (Nat.le_of_ble_eq_true rfl) ?_
  intro p e s m args below meth c A Q ls cx hR hw hl
  have hx := cx.1
  have hb := cx.2.1
  have hl : lv_has ls 5 [(0, .ref (a 97))] := hl
  refine lv_iconst (v := 0) hx hb dX6_cutWords_0 (by decide) ?_
  refine lv_istore_n (lv' := [(1, .int (0 : Int32)), (0, .ref (a 97))]) hx hb dX6_cutWords_1 rfl hl (by decide) rfl (fun ls hl => ?_)
  refine lv_iconst (v := 0) hx hb dX6_cutWords_2 (by decide) ?_
  refine lv_istore_n (lv' := [(2, .int (0 : Int32)), (1, .int (0 : Int32)), (0, .ref (a 97))]) hx hb dX6_cutWords_3 rfl hl (by decide) rfl (fun ls hl => ?_)
  refine lv_iconst (v := 0) hx hb dX6_cutWords_4 (by decide) ?_
  refine lv_istore_n (lv' := [(3, .int (0 : Int32)), (2, .int (0 : Int32)), (1, .int (0 : Int32)), (0, .ref (a 97))]) hx hb dX6_cutWords_5 rfl hl (by decide) rfl (fun ls hl => ?_)
  obtain ⟨o15, ho15, hf⟩ := bnS hf
  have wL1 : ∀ (k : Nat) {v1 : Int32} {v2 : Int32} {v3 : Int32} {x_t_words : Nat → Int32} {x_t_places : Nat → Int32} {H : Heap} {locs : List Loc} {ls : Array Slot} {o : Int32 × Int32 × Int32 × (Nat → Int32) × (Nat → Int32)}, X6_cutWords_L1 n x_t_length x_t_tape k v1 v2 v3 x_t_words x_t_places = some o → Wd D A s (cW a ar t x_q0_dials x_q0_spots x_q0_skies x_q0_reports x_q0_count x_q0_chime x_q0_end x_q0_score x_q0_reportCount x_q0_z x_q0_rules x_q0_shades x_q0_facts x_q1_dials x_q1_spots x_q1_skies x_q1_reports x_q1_count x_q1_chime x_q1_end x_q1_score x_q1_reportCount x_q1_z x_q1_rules x_q1_shades x_q1_facts x_q2_dials x_q2_spots x_q2_skies x_q2_reports x_q2_count x_q2_chime x_q2_end x_q2_score x_q2_reportCount x_q2_z x_q2_rules x_q2_shades x_q2_facts x_isKept x_marks x_p_first x_p_steps x_p_most x_p_many x_p_fewest x_p_everRight x_p_opening x_p_rows x_p_rowCount x_p_acts x_p_marks x_p_deepest x_p_wanted x_t_length x_t_tape x_t_words x_t_places x_t_at x_t_kinds x_t_wills x_t_starts x_t_code x_t_count x_t_size x_h_sorts x_h_lengths x_h_items x_h_held x_h_things x_h_sizes x_h_bodies x_h_traced x_h_number x_h_spot x_h_parted x_g_count x_g_kinds x_g_wills x_g_starts x_g_code x_g_stack x_g_kl x_g_wl x_g_sl x_g_cl x_nr) H locs → lv_has ls 5 [(0, .ref (a 97)), (1, .int v1), (2, .int v2), (3, .int v3)] → (∀ (H : Heap) (locs : List Loc) (ls : Array Slot), Wd D A s (cW a ar t x_q0_dials x_q0_spots x_q0_skies x_q0_reports x_q0_count x_q0_chime x_q0_end x_q0_score x_q0_reportCount x_q0_z x_q0_rules x_q0_shades x_q0_facts x_q1_dials x_q1_spots x_q1_skies x_q1_reports x_q1_count x_q1_chime x_q1_end x_q1_score x_q1_reportCount x_q1_z x_q1_rules x_q1_shades x_q1_facts x_q2_dials x_q2_spots x_q2_skies x_q2_reports x_q2_count x_q2_chime x_q2_end x_q2_score x_q2_reportCount x_q2_z x_q2_rules x_q2_shades x_q2_facts x_isKept x_marks x_p_first x_p_steps x_p_most x_p_many x_p_fewest x_p_everRight x_p_opening x_p_rows x_p_rowCount x_p_acts x_p_marks x_p_deepest x_p_wanted x_t_length x_t_tape o.2.2.2.1 o.2.2.2.2 x_t_at x_t_kinds x_t_wills x_t_starts x_t_code x_t_count x_t_size x_h_sorts x_h_lengths x_h_items x_h_held x_h_things x_h_sizes x_h_bodies x_h_traced x_h_number x_h_spot x_h_parted x_g_count x_g_kinds x_g_wills x_g_starts x_g_code x_g_stack x_g_kl x_g_wl x_g_sl x_g_cl x_nr) H locs → lv_has ls 5 [(0, .ref (a 97)), (1, .int o.1), (2, .int o.2.1), (3, .int o.2.2.1)] → W p l e (rmz 7 0 0) s m args below meth c H locs 0 0 Q (F0 m 94 ls [])) → W p l e (rmz 7 0 0) s m args below meth c H locs 0 0 Q (F0 m 6 ls []) := by
    clear hf ho15 hw hl
    intro k
    induction k with
    | zero => intro v1 v2 v3 x_t_words x_t_places H locs ls o hf hw hl kx; simp [X6_cutWords_L1] at hf
    | succ k ih =>
      intro v1 v2 v3 x_t_words x_t_places H locs ls o hf hw hl kx
      rw [X6_cutWords_L1] at hf
      refine lv_iload_n hx hb dX6_cutWords_6 rfl (lv_at hl 3 rfl) ?_
      refine lv_sipush (v := 200) hx hb dX6_cutWords_7 (by decide) ?_
      refine lv_icmp_ge (tgt := 94) hx hb dX6_cutWords_10 (by decide) (fun hc => ?_) (fun hc => ?_)
      · have hf := ifT hf hc
        have hf := Option.some.inj hf
        subst hf
        exact kx _ _ _ hw (lv_sub hl [0, 1, 2, 3] rfl)
      · have hf := ifF hf hc
        refine lv_iload_n hx hb dX6_cutWords_13 rfl (lv_at hl 2 rfl) ?_
        refine lv_aload_n hx hb dX6_cutWords_14 rfl (lv_at hl 0 rfl) ?_
        refine cg_X6_34_text cx hw dX6_cutWords_15 ?_
        refine lv_icmp_ge (tgt := 94) hx hb dX6_cutWords_18 (by decide) (fun hc => ?_) (fun hc => ?_)
        · have hf := ifT hf hc
          have hf := Option.some.inj hf
          subst hf
          exact kx _ _ _ hw (lv_sub hl [0, 1, 2, 3] rfl)
        · have hf := ifF hf hc
          refine lv_aload_n hx hb dX6_cutWords_21 rfl (lv_at hl 0 rfl) ?_
          refine lv_iload_n hx hb dX6_cutWords_22 rfl (lv_at hl 2 rfl) ?_
          obtain ⟨r1, h2, hf⟩ := bnS hf
          refine calVi cx hw hl.1 (c_X6_endOfRow h2) q_540 k_X6_endOfRow rfl rv_text rfl dX6_cutWords_23 rfl (Nat.le_of_ble_eq_true rfl) ⟨Nat.le_of_ble_eq_true rfl, Nat.le_of_ble_eq_true rfl⟩ ⟨Nat.le_refl _, Nat.le_refl _⟩ (fun H locs hw => ?_)
          refine lv_istore (lv' := [(4, .int r1), (0, .ref (a 97)), (1, .int v1), (2, .int v2), (3, .int v3)]) hx hb dX6_cutWords_26 hl (by decide) rfl (fun ls hl => ?_)
          refine lv_aload_n hx hb dX6_cutWords_28 rfl (lv_at hl 1 rfl) ?_
          refine cg_X6_9_text cx hw dX6_cutWords_29 ?_
          refine lv_iload_n hx hb dX6_cutWords_32 rfl (lv_at hl 3 rfl) ?_
          obtain ⟨h3, hf⟩ := ckS hf
          refine cl_t_tape (j := v2.toNatClampNeg) cx hw (ib_in h3) rfl dX6_cutWords_33 ?_
          refine lv_bipush (v := 32) hx hb dX6_cutWords_34 (by decide) ?_
          obtain ⟨j14, hj14, hf⟩ := bnS hf
          have wj14 : ∀ (H : Heap) (locs : List Loc) (ls : Array Slot), Wd D A s (cW a ar t x_q0_dials x_q0_spots x_q0_skies x_q0_reports x_q0_count x_q0_chime x_q0_end x_q0_score x_q0_reportCount x_q0_z x_q0_rules x_q0_shades x_q0_facts x_q1_dials x_q1_spots x_q1_skies x_q1_reports x_q1_count x_q1_chime x_q1_end x_q1_score x_q1_reportCount x_q1_z x_q1_rules x_q1_shades x_q1_facts x_q2_dials x_q2_spots x_q2_skies x_q2_reports x_q2_count x_q2_chime x_q2_end x_q2_score x_q2_reportCount x_q2_z x_q2_rules x_q2_shades x_q2_facts x_isKept x_marks x_p_first x_p_steps x_p_most x_p_many x_p_fewest x_p_everRight x_p_opening x_p_rows x_p_rowCount x_p_acts x_p_marks x_p_deepest x_p_wanted x_t_length x_t_tape j14.2.1 j14.2.2 x_t_at x_t_kinds x_t_wills x_t_starts x_t_code x_t_count x_t_size x_h_sorts x_h_lengths x_h_items x_h_held x_h_things x_h_sizes x_h_bodies x_h_traced x_h_number x_h_spot x_h_parted x_g_count x_g_kinds x_g_wills x_g_starts x_g_code x_g_stack x_g_kl x_g_wl x_g_sl x_g_cl x_nr) H locs → lv_has ls 5 [(0, .ref (a 97)), (1, .int j14.1), (2, .int v2), (3, .int v3), (4, .int r1)] → W p l e (rmz 7 0 0) s m args below meth c H locs 0 0 Q (F0 m 85 ls []) := by
            intro H locs ls hw hl
            refine lv_iload hx hb dX6_cutWords_85 (lv_at hl 4 rfl) ?_
            refine lv_istore_n (lv' := [(2, .int r1), (0, .ref (a 97)), (1, .int j14.1), (3, .int v3), (4, .int r1)]) hx hb dX6_cutWords_87 rfl hl (by decide) rfl (fun ls hl => ?_)
            refine lv_iinc (v := (v3 + (1 : Int32))) (lv' := [(3, .int (v3 + (1 : Int32))), (2, .int r1), (0, .ref (a 97)), (1, .int j14.1), (4, .int r1)]) hx hb dX6_cutWords_88 hl (k := 3) rfl rfl (by decide) rfl (fun ls hl => ?_)
            refine lv_goto (tgt := 6) hx hb dX6_cutWords_91 (by decide) ?_
            exact ih hf hw (lv_sub hl [2, 3, 1, 0] rfl) kx
          clear hf
          have hf := hj14
          clear hj14
          refine lv_icmp_eq (tgt := 85) hx hb dX6_cutWords_36 (by decide) (fun hc => ?_) (fun hc => ?_)
          · have hf := ifT hf hc
            have hf := Option.some.inj hf
            subst hf
            exact wj14 _ _ _ hw (lv_sub hl [1, 2, 3, 4, 0] rfl)
          · have hf := ifF hf hc
            refine lv_aload_n hx hb dX6_cutWords_39 rfl (lv_at hl 1 rfl) ?_
            refine cg_X6_19_text cx hw dX6_cutWords_40 ?_
            refine lv_iload_n hx hb dX6_cutWords_43 rfl (lv_at hl 2 rfl) ?_
            refine lv_iload_n hx hb dX6_cutWords_44 rfl (lv_at hl 3 rfl) ?_
            obtain ⟨h4, hf⟩ := ckS hf
            refine cs_t_places (j := v1.toNatClampNeg) cx hw (ib_in h4) rfl dX6_cutWords_45 (fun H locs hw => ?_)
            refine lv_aload_n hx hb dX6_cutWords_46 rfl (lv_at hl 1 rfl) ?_
            refine cg_X6_15_text cx hw dX6_cutWords_47 ?_
            refine lv_iload_n hx hb dX6_cutWords_50 rfl (lv_at hl 2 rfl) ?_
            refine lv_aload_n hx hb dX6_cutWords_51 rfl (lv_at hl 1 rfl) ?_
            refine cg_X6_9_text cx hw dX6_cutWords_52 ?_
            refine lv_iload_n hx hb dX6_cutWords_55 rfl (lv_at hl 3 rfl) ?_
            obtain ⟨h5, hf⟩ := ckS hf
            refine cl_t_tape (j := v2.toNatClampNeg) cx hw (ib_in h5) rfl dX6_cutWords_56 ?_
            obtain ⟨r6, h7, hf⟩ := bnS hf
            refine calSi cx hw hl.1 (c_X6_sortOf h7) q_544 k_X6_sortOf rfl dX6_cutWords_57 rfl (Nat.le_of_ble_eq_true rfl) ⟨Nat.le_of_ble_eq_true rfl, Nat.le_of_ble_eq_true rfl⟩ ⟨Nat.le_refl _, Nat.le_refl _⟩ (fun H locs hw => ?_)
            refine lv_iconst (v := 2) hx hb dX6_cutWords_60 (by decide) ?_
            obtain ⟨j12, hj12, hf⟩ := bnS hf
            have wj12 : ∀ (H : Heap) (locs : List Loc) (ls : Array Slot), Wd D A s (cW a ar t x_q0_dials x_q0_spots x_q0_skies x_q0_reports x_q0_count x_q0_chime x_q0_end x_q0_score x_q0_reportCount x_q0_z x_q0_rules x_q0_shades x_q0_facts x_q1_dials x_q1_spots x_q1_skies x_q1_reports x_q1_count x_q1_chime x_q1_end x_q1_score x_q1_reportCount x_q1_z x_q1_rules x_q1_shades x_q1_facts x_q2_dials x_q2_spots x_q2_skies x_q2_reports x_q2_count x_q2_chime x_q2_end x_q2_score x_q2_reportCount x_q2_z x_q2_rules x_q2_shades x_q2_facts x_isKept x_marks x_p_first x_p_steps x_p_most x_p_many x_p_fewest x_p_everRight x_p_opening x_p_rows x_p_rowCount x_p_acts x_p_marks x_p_deepest x_p_wanted x_t_length x_t_tape x_t_words (upd x_t_places v1.toNatClampNeg v2) x_t_at x_t_kinds x_t_wills x_t_starts x_t_code x_t_count x_t_size x_h_sorts x_h_lengths x_h_items x_h_held x_h_things x_h_sizes x_h_bodies x_h_traced x_h_number x_h_spot x_h_parted x_g_count x_g_kinds x_g_wills x_g_starts x_g_code x_g_stack x_g_kl x_g_wl x_g_sl x_g_cl x_nr) H locs → lv_has ls 5 [(0, .ref (a 97)), (1, .int v1), (2, .int v2), (3, .int v3), (4, .int r1)] → W p l e (rmz 7 0 0) s m args below meth c H locs 0 0 Q (F0 m 81 ls [.int j12, .int v1, .ref (a 99)]) := by
              intro H locs ls hw hl
              obtain ⟨h13, hf⟩ := ckS hf
              refine cs_t_words (j := v1.toNatClampNeg) cx hw (ib_in h13) rfl dX6_cutWords_81 (fun H locs hw => ?_)
              refine lv_iinc (v := (v1 + (1 : Int32))) (lv' := [(1, .int (v1 + (1 : Int32))), (0, .ref (a 97)), (2, .int v2), (3, .int v3), (4, .int r1)]) hx hb dX6_cutWords_82 hl (k := 1) rfl rfl (by decide) rfl (fun ls hl => ?_)
              have hf := Option.some.inj hf
              subst hf
              exact wj14 _ _ _ hw (lv_sub hl [1, 0, 2, 3, 4] rfl)
            clear hf
            have hf := hj12
            clear hj12
            refine lv_icmp_ne (tgt := 74) hx hb dX6_cutWords_61 (by decide) (fun hc => ?_) (fun hc => ?_)
            · have hf := ifF hf hc
              refine lv_aload_n hx hb dX6_cutWords_74 rfl (lv_at hl 1 rfl) ?_
              refine lv_iload_n hx hb dX6_cutWords_75 rfl (lv_at hl 3 rfl) ?_
              refine lv_iload hx hb dX6_cutWords_76 (lv_at hl 0 rfl) ?_
              obtain ⟨r10, h11, hf⟩ := bnS hf
              refine calEi cx hw hl.1 (c_X6_wordOf h11) q_551 k_X6_wordOf rfl (va_recv cx.2.2.2.2.2.1.1 hw.1 (rfl : cls[6]? = some _) rv_text) dX6_cutWords_78 rfl (Nat.le_of_ble_eq_true rfl) ⟨Nat.le_of_ble_eq_true rfl, Nat.le_of_ble_eq_true rfl⟩ ⟨Nat.le_refl _, Nat.le_refl _⟩ (fun H locs hw => ?_)
              have hf := Option.some.inj hf
              subst hf
              exact wj12 _ _ _ hw (lv_sub hl [1, 2, 3, 4, 0] rfl)
            · have hf := ifT hf hc
              refine lv_aload_n hx hb dX6_cutWords_64 rfl (lv_at hl 1 rfl) ?_
              refine lv_iload_n hx hb dX6_cutWords_65 rfl (lv_at hl 3 rfl) ?_
              refine lv_iload hx hb dX6_cutWords_66 (lv_at hl 0 rfl) ?_
              obtain ⟨r8, h9, hf⟩ := bnS hf
              refine calVi cx hw hl.1 (c_X6_numberOf h9) q_547 k_X6_numberOf rfl rv_text rfl dX6_cutWords_68 rfl (Nat.le_of_ble_eq_true rfl) ⟨Nat.le_of_ble_eq_true rfl, Nat.le_of_ble_eq_true rfl⟩ ⟨Nat.le_refl _, Nat.le_refl _⟩ (fun H locs hw => ?_)
              refine lv_goto (tgt := 81) hx hb dX6_cutWords_71 (by decide) ?_
              have hf := Option.some.inj hf
              subst hf
              exact wj12 _ _ _ hw (lv_sub hl [1, 2, 3, 4, 0] rfl)
  refine wL1 n ho15 hw (lv_sub hl [3, 2, 1, 0] rfl) (fun H locs ls hw hl => ?_)
  clear wL1 ho15
  refine lv_aload_n hx hb dX6_cutWords_94 rfl (lv_at hl 0 rfl) ?_
  refine cg_X6_19_text cx hw dX6_cutWords_95 ?_
  refine lv_iload_n hx hb dX6_cutWords_98 rfl (lv_at hl 1 rfl) ?_
  refine lv_aload_n hx hb dX6_cutWords_99 rfl (lv_at hl 0 rfl) ?_
  refine cg_X6_34_text cx hw dX6_cutWords_100 ?_
  obtain ⟨h16, hf⟩ := ckS hf
  refine cs_t_places (j := o15.1.toNatClampNeg) cx hw (ib_in h16) rfl dX6_cutWords_103 (fun H locs hw => ?_)
  refine lv_aload_n hx hb dX6_cutWords_104 rfl (lv_at hl 0 rfl) ?_
  refine cg_X6_15_text cx hw dX6_cutWords_105 ?_
  refine lv_iload_n hx hb dX6_cutWords_108 rfl (lv_at hl 1 rfl) ?_
  refine lv_bipush (v := (-2)) hx hb dX6_cutWords_109 (by decide) ?_
  obtain ⟨h17, hf⟩ := ckS hf
  refine cs_t_words (j := o15.1.toNatClampNeg) cx hw (ib_in h17) rfl dX6_cutWords_111 (fun H locs hw => ?_)
  have hf := Option.some.inj hf
  subst hf
  exact hR _ _ _ _ _ hw ⟨rfl, rfl⟩ dX6_cutWords_112
theorem dX6_takes_0 : decode cX6_takes 0 = .ok (.aload_n 0, 1) := by decide +kernel
theorem dX6_takes_1 : decode cX6_takes 1 = .ok (.getfield 15, 3) := by decide +kernel
theorem dX6_takes_4 : decode cX6_takes 4 = .ok (.aload_n 0, 1) := by decide +kernel
theorem dX6_takes_5 : decode cX6_takes 5 = .ok (.getfield 41, 3) := by decide +kernel
theorem dX6_takes_8 : decode cX6_takes 8 = .ok (.iaload, 1) := by decide +kernel
theorem dX6_takes_9 : decode cX6_takes 9 = .ok (.iload_n 1, 1) := by decide +kernel
theorem dX6_takes_10 : decode cX6_takes 10 = .ok (.if_icmp .eq 5, 3) := by decide +kernel
theorem dX6_takes_13 : decode cX6_takes 13 = .ok (.iconst 0, 1) := by decide +kernel
theorem dX6_takes_14 : decode cX6_takes 14 = .ok (.ireturn, 1) := by decide +kernel
theorem dX6_takes_15 : decode cX6_takes 15 = .ok (.aload_n 0, 1) := by decide +kernel
theorem dX6_takes_16 : decode cX6_takes 16 = .ok (.dup, 1) := by decide +kernel
theorem dX6_takes_17 : decode cX6_takes 17 = .ok (.getfield 41, 3) := by decide +kernel
theorem dX6_takes_20 : decode cX6_takes 20 = .ok (.iconst 1, 1) := by decide +kernel
theorem dX6_takes_21 : decode cX6_takes 21 = .ok (.iadd, 1) := by decide +kernel
theorem dX6_takes_22 : decode cX6_takes 22 = .ok (.putfield 41, 3) := by decide +kernel
theorem dX6_takes_25 : decode cX6_takes 25 = .ok (.iconst 1, 1) := by decide +kernel
theorem dX6_takes_26 : decode cX6_takes 26 = .ok (.ireturn, 1) := by decide +kernel
theorem k_X6_takes : MV yX6_takes cX6_takes 2 (some .boolean) 1 := ⟨q_615, qs_7, q_2, q_616, ⟨by decide, by decide, by decide +kernel⟩⟩
theorem c_X6_takes {v1 : Int32} {res : Int32 × Int32} (hf : X6_takes x_t_words x_t_at v1 = some res) : MC l E0 D t yX6_takes cX6_takes 2 (some .boolean) 1 0 0 [.ref (a 97), .int v1] (cW a ar t x_q0_dials x_q0_spots x_q0_skies x_q0_reports x_q0_count x_q0_chime x_q0_end x_q0_score x_q0_reportCount x_q0_z x_q0_rules x_q0_shades x_q0_facts x_q1_dials x_q1_spots x_q1_skies x_q1_reports x_q1_count x_q1_chime x_q1_end x_q1_score x_q1_reportCount x_q1_z x_q1_rules x_q1_shades x_q1_facts x_q2_dials x_q2_spots x_q2_skies x_q2_reports x_q2_count x_q2_chime x_q2_end x_q2_score x_q2_reportCount x_q2_z x_q2_rules x_q2_shades x_q2_facts x_isKept x_marks x_p_first x_p_steps x_p_most x_p_many x_p_fewest x_p_everRight x_p_opening x_p_rows x_p_rowCount x_p_acts x_p_marks x_p_deepest x_p_wanted x_t_length x_t_tape x_t_words x_t_places x_t_at x_t_kinds x_t_wills x_t_starts x_t_code x_t_count x_t_size x_h_sorts x_h_lengths x_h_items x_h_held x_h_things x_h_sizes x_h_bodies x_h_traced x_h_number x_h_spot x_h_parted x_g_count x_g_kinds x_g_wills x_g_starts x_g_code x_g_stack x_g_kl x_g_wl x_g_sl x_g_cl x_nr) (Qi res.1 (cW a ar t x_q0_dials x_q0_spots x_q0_skies x_q0_reports x_q0_count x_q0_chime x_q0_end x_q0_score x_q0_reportCount x_q0_z x_q0_rules x_q0_shades x_q0_facts x_q1_dials x_q1_spots x_q1_skies x_q1_reports x_q1_count x_q1_chime x_q1_end x_q1_score x_q1_reportCount x_q1_z x_q1_rules x_q1_shades x_q1_facts x_q2_dials x_q2_spots x_q2_skies x_q2_reports x_q2_count x_q2_chime x_q2_end x_q2_score x_q2_reportCount x_q2_z x_q2_rules x_q2_shades x_q2_facts x_isKept x_marks x_p_first x_p_steps x_p_most x_p_many x_p_fewest x_p_everRight x_p_opening x_p_rows x_p_rowCount x_p_acts x_p_marks x_p_deepest x_p_wanted x_t_length x_t_tape x_t_words x_t_places res.2 x_t_kinds x_t_wills x_t_starts x_t_code x_t_count x_t_size x_h_sorts x_h_lengths x_h_items x_h_held x_h_things x_h_sizes x_h_bodies x_h_traced x_h_number x_h_spot x_h_parted x_g_count x_g_kinds x_g_wills x_g_starts x_g_code x_g_stack x_g_kl x_g_wl x_g_sl x_g_cl x_nr)) := by
  unfold X6_takes at hf
  refine MC.ofI pn_X6 (Nat.le_of_ble_eq_true rfl) ?_
  intro p e s m args below meth c A Q ls cx hR hw hl
  have hx := cx.1
  have hb := cx.2.1
  have hl : lv_has ls 2 [(0, .ref (a 97)), (1, .int v1)] := hl
  refine lv_aload_n hx hb dX6_takes_0 rfl (lv_at hl 0 rfl) ?_
  refine cg_X6_15_text cx hw dX6_takes_1 ?_
  refine lv_aload_n hx hb dX6_takes_4 rfl (lv_at hl 0 rfl) ?_
  refine cg_X6_41_text cx hw dX6_takes_5 ?_
  obtain ⟨h1, hf⟩ := ckS hf
  refine cl_t_words (j := x_t_at.toNatClampNeg) cx hw (ib_in h1) rfl dX6_takes_8 ?_
  refine lv_iload_n hx hb dX6_takes_9 rfl (lv_at hl 1 rfl) ?_
  refine lv_icmp_eq (tgt := 15) hx hb dX6_takes_10 (by decide) (fun hc => ?_) (fun hc => ?_)
  · have hf := ifT hf hc
    refine lv_aload_n hx hb dX6_takes_15 rfl (lv_at hl 0 rfl) ?_
    refine lv_dup hx hb dX6_takes_16 rfl ?_
    refine cg_X6_41_text cx hw dX6_takes_17 ?_
    refine lv_iconst (v := 1) hx hb dX6_takes_20 (by decide) ?_
    refine lv_iadd hx hb dX6_takes_21 ?_
    refine cp_X6_41_text cx hw dX6_takes_22 (fun H locs hw => ?_)
    refine lv_iconst (v := 1) hx hb dX6_takes_25 (by decide) ?_
    have hf := Option.some.inj hf
    subst hf
    exact hR _ _ _ _ _ _ hw rfl ⟨rfl, rfl⟩ dX6_takes_26
  · have hf := ifF hf hc
    refine lv_iconst (v := 0) hx hb dX6_takes_13 (by decide) ?_
    have hf := Option.some.inj hf
    subst hf
    exact hR _ _ _ _ _ _ hw rfl ⟨rfl, rfl⟩ dX6_takes_14
theorem dX6_emit_0 : decode cX6_emit 0 = .ok (.aload_n 0, 1) := by decide +kernel
theorem dX6_emit_1 : decode cX6_emit 1 = .ok (.getfield 47, 3) := by decide +kernel
theorem dX6_emit_4 : decode cX6_emit 4 = .ok (.sipush 200, 3) := by decide +kernel
theorem dX6_emit_7 : decode cX6_emit 7 = .ok (.if_icmp .lt 4, 3) := by decide +kernel
theorem dX6_emit_10 : decode cX6_emit 10 = .ok (.return_, 1) := by decide +kernel
theorem dX6_emit_11 : decode cX6_emit 11 = .ok (.aload_n 0, 1) := by decide +kernel
theorem dX6_emit_12 : decode cX6_emit 12 = .ok (.getfield 31, 3) := by decide +kernel
theorem dX6_emit_15 : decode cX6_emit 15 = .ok (.aload_n 0, 1) := by decide +kernel
theorem dX6_emit_16 : decode cX6_emit 16 = .ok (.getfield 47, 3) := by decide +kernel
theorem dX6_emit_19 : decode cX6_emit 19 = .ok (.iload_n 1, 1) := by decide +kernel
theorem dX6_emit_20 : decode cX6_emit 20 = .ok (.iastore, 1) := by decide +kernel
theorem dX6_emit_21 : decode cX6_emit 21 = .ok (.aload_n 0, 1) := by decide +kernel
theorem dX6_emit_22 : decode cX6_emit 22 = .ok (.dup, 1) := by decide +kernel
theorem dX6_emit_23 : decode cX6_emit 23 = .ok (.getfield 47, 3) := by decide +kernel
theorem dX6_emit_26 : decode cX6_emit 26 = .ok (.iconst 1, 1) := by decide +kernel
theorem dX6_emit_27 : decode cX6_emit 27 = .ok (.iadd, 1) := by decide +kernel
theorem dX6_emit_28 : decode cX6_emit 28 = .ok (.putfield 47, 3) := by decide +kernel
theorem dX6_emit_31 : decode cX6_emit 31 = .ok (.return_, 1) := by decide +kernel
theorem k_X6_emit : MV yX6_emit cX6_emit 2 none 1 := ⟨q_639, qs_13, q_2, q_640, ⟨by decide, by decide, by decide +kernel⟩⟩
theorem c_X6_emit {v1 : Int32} {res : (Nat → Int32) × Int32} (hf : X6_emit x_t_code x_t_size v1 = some res) : MC l E0 D t yX6_emit cX6_emit 2 none 1 0 0 [.ref (a 97), .int v1] (cW a ar t x_q0_dials x_q0_spots x_q0_skies x_q0_reports x_q0_count x_q0_chime x_q0_end x_q0_score x_q0_reportCount x_q0_z x_q0_rules x_q0_shades x_q0_facts x_q1_dials x_q1_spots x_q1_skies x_q1_reports x_q1_count x_q1_chime x_q1_end x_q1_score x_q1_reportCount x_q1_z x_q1_rules x_q1_shades x_q1_facts x_q2_dials x_q2_spots x_q2_skies x_q2_reports x_q2_count x_q2_chime x_q2_end x_q2_score x_q2_reportCount x_q2_z x_q2_rules x_q2_shades x_q2_facts x_isKept x_marks x_p_first x_p_steps x_p_most x_p_many x_p_fewest x_p_everRight x_p_opening x_p_rows x_p_rowCount x_p_acts x_p_marks x_p_deepest x_p_wanted x_t_length x_t_tape x_t_words x_t_places x_t_at x_t_kinds x_t_wills x_t_starts x_t_code x_t_count x_t_size x_h_sorts x_h_lengths x_h_items x_h_held x_h_things x_h_sizes x_h_bodies x_h_traced x_h_number x_h_spot x_h_parted x_g_count x_g_kinds x_g_wills x_g_starts x_g_code x_g_stack x_g_kl x_g_wl x_g_sl x_g_cl x_nr) (Qn (cW a ar t x_q0_dials x_q0_spots x_q0_skies x_q0_reports x_q0_count x_q0_chime x_q0_end x_q0_score x_q0_reportCount x_q0_z x_q0_rules x_q0_shades x_q0_facts x_q1_dials x_q1_spots x_q1_skies x_q1_reports x_q1_count x_q1_chime x_q1_end x_q1_score x_q1_reportCount x_q1_z x_q1_rules x_q1_shades x_q1_facts x_q2_dials x_q2_spots x_q2_skies x_q2_reports x_q2_count x_q2_chime x_q2_end x_q2_score x_q2_reportCount x_q2_z x_q2_rules x_q2_shades x_q2_facts x_isKept x_marks x_p_first x_p_steps x_p_most x_p_many x_p_fewest x_p_everRight x_p_opening x_p_rows x_p_rowCount x_p_acts x_p_marks x_p_deepest x_p_wanted x_t_length x_t_tape x_t_words x_t_places x_t_at x_t_kinds x_t_wills x_t_starts res.1 x_t_count res.2 x_h_sorts x_h_lengths x_h_items x_h_held x_h_things x_h_sizes x_h_bodies x_h_traced x_h_number x_h_spot x_h_parted x_g_count x_g_kinds x_g_wills x_g_starts x_g_code x_g_stack x_g_kl x_g_wl x_g_sl x_g_cl x_nr)) := by
  unfold X6_emit at hf
  refine MC.ofV pn_X6 (Nat.le_of_ble_eq_true rfl) ?_
  intro p e s m args below meth c A Q ls cx hR hw hl
  have hx := cx.1
  have hb := cx.2.1
  have hl : lv_has ls 2 [(0, .ref (a 97)), (1, .int v1)] := hl
  refine lv_aload_n hx hb dX6_emit_0 rfl (lv_at hl 0 rfl) ?_
  refine cg_X6_47_text cx hw dX6_emit_1 ?_
  refine lv_sipush (v := 200) hx hb dX6_emit_4 (by decide) ?_
  refine lv_icmp_lt (tgt := 11) hx hb dX6_emit_7 (by decide) (fun hc => ?_) (fun hc => ?_)
  · have hf := ifT hf hc
    refine lv_aload_n hx hb dX6_emit_11 rfl (lv_at hl 0 rfl) ?_
    refine cg_X6_31_text cx hw dX6_emit_12 ?_
    refine lv_aload_n hx hb dX6_emit_15 rfl (lv_at hl 0 rfl) ?_
    refine cg_X6_47_text cx hw dX6_emit_16 ?_
    refine lv_iload_n hx hb dX6_emit_19 rfl (lv_at hl 1 rfl) ?_
    obtain ⟨h1, hf⟩ := ckS hf
    refine cs_t_code (j := x_t_size.toNatClampNeg) cx hw (ib_in h1) rfl dX6_emit_20 (fun H locs hw => ?_)
    refine lv_aload_n hx hb dX6_emit_21 rfl (lv_at hl 0 rfl) ?_
    refine lv_dup hx hb dX6_emit_22 rfl ?_
    refine cg_X6_47_text cx hw dX6_emit_23 ?_
    refine lv_iconst (v := 1) hx hb dX6_emit_26 (by decide) ?_
    refine lv_iadd hx hb dX6_emit_27 ?_
    refine cp_X6_47_text cx hw dX6_emit_28 (fun H locs hw => ?_)
    have hf := Option.some.inj hf
    subst hf
    exact hR _ _ _ _ _ hw ⟨rfl, rfl⟩ dX6_emit_31
  · have hf := ifF hf hc
    have hf := Option.some.inj hf
    subst hf
    exact hR _ _ _ _ _ hw ⟨rfl, rfl⟩ dX6_emit_10
theorem dX6_readCompared_0 : decode cX6_readCompared 0 = .ok (.aload_n 0, 1) := by decide +kernel
theorem dX6_readCompared_1 : decode cX6_readCompared 1 = .ok (.getfield 15, 3) := by decide +kernel
theorem dX6_readCompared_4 : decode cX6_readCompared 4 = .ok (.aload_n 0, 1) := by decide +kernel
theorem dX6_readCompared_5 : decode cX6_readCompared 5 = .ok (.getfield 41, 3) := by decide +kernel
theorem dX6_readCompared_8 : decode cX6_readCompared 8 = .ok (.iaload, 1) := by decide +kernel
theorem dX6_readCompared_9 : decode cX6_readCompared 9 = .ok (.istore_n 1, 1) := by decide +kernel
theorem dX6_readCompared_10 : decode cX6_readCompared 10 = .ok (.iload_n 1, 1) := by decide +kernel
theorem dX6_readCompared_11 : decode cX6_readCompared 11 = .ok (.iconst 0, 1) := by decide +kernel
theorem dX6_readCompared_12 : decode cX6_readCompared 12 = .ok (.sipush 10004, 3) := by decide +kernel
theorem dX6_readCompared_15 : decode cX6_readCompared 15 = .ok (.invokestatic 94, 3) := by decide +kernel
theorem dX6_readCompared_18 : decode cX6_readCompared 18 = .ok (.ifCond .ne 5, 3) := by decide +kernel
theorem dX6_readCompared_21 : decode cX6_readCompared 21 = .ok (.iconst 0, 1) := by decide +kernel
theorem dX6_readCompared_22 : decode cX6_readCompared 22 = .ok (.ireturn, 1) := by decide +kernel
theorem dX6_readCompared_23 : decode cX6_readCompared 23 = .ok (.aload_n 0, 1) := by decide +kernel
theorem dX6_readCompared_24 : decode cX6_readCompared 24 = .ok (.dup, 1) := by decide +kernel
theorem dX6_readCompared_25 : decode cX6_readCompared 25 = .ok (.getfield 41, 3) := by decide +kernel
theorem dX6_readCompared_28 : decode cX6_readCompared 28 = .ok (.iconst 1, 1) := by decide +kernel
theorem dX6_readCompared_29 : decode cX6_readCompared 29 = .ok (.iadd, 1) := by decide +kernel
theorem dX6_readCompared_30 : decode cX6_readCompared 30 = .ok (.putfield 41, 3) := by decide +kernel
theorem dX6_readCompared_33 : decode cX6_readCompared 33 = .ok (.aload_n 0, 1) := by decide +kernel
theorem dX6_readCompared_34 : decode cX6_readCompared 34 = .ok (.getfield 15, 3) := by decide +kernel
theorem dX6_readCompared_37 : decode cX6_readCompared 37 = .ok (.aload_n 0, 1) := by decide +kernel
theorem dX6_readCompared_38 : decode cX6_readCompared 38 = .ok (.getfield 41, 3) := by decide +kernel
theorem dX6_readCompared_41 : decode cX6_readCompared 41 = .ok (.iaload, 1) := by decide +kernel
theorem dX6_readCompared_42 : decode cX6_readCompared 42 = .ok (.istore_n 2, 1) := by decide +kernel
theorem dX6_readCompared_43 : decode cX6_readCompared 43 = .ok (.iload_n 2, 1) := by decide +kernel
theorem dX6_readCompared_44 : decode cX6_readCompared 44 = .ok (.sipush 10005, 3) := by decide +kernel
theorem dX6_readCompared_47 : decode cX6_readCompared 47 = .ok (.sipush 10007, 3) := by decide +kernel
theorem dX6_readCompared_50 : decode cX6_readCompared 50 = .ok (.invokestatic 94, 3) := by decide +kernel
theorem dX6_readCompared_53 : decode cX6_readCompared 53 = .ok (.ifCond .ne 5, 3) := by decide +kernel
theorem dX6_readCompared_56 : decode cX6_readCompared 56 = .ok (.iconst 0, 1) := by decide +kernel
theorem dX6_readCompared_57 : decode cX6_readCompared 57 = .ok (.ireturn, 1) := by decide +kernel
theorem dX6_readCompared_58 : decode cX6_readCompared 58 = .ok (.aload_n 0, 1) := by decide +kernel
theorem dX6_readCompared_59 : decode cX6_readCompared 59 = .ok (.dup, 1) := by decide +kernel
theorem dX6_readCompared_60 : decode cX6_readCompared 60 = .ok (.getfield 41, 3) := by decide +kernel
theorem dX6_readCompared_63 : decode cX6_readCompared 63 = .ok (.iconst 1, 1) := by decide +kernel
theorem dX6_readCompared_64 : decode cX6_readCompared 64 = .ok (.iadd, 1) := by decide +kernel
theorem dX6_readCompared_65 : decode cX6_readCompared 65 = .ok (.putfield 41, 3) := by decide +kernel
theorem dX6_readCompared_68 : decode cX6_readCompared 68 = .ok (.aload_n 0, 1) := by decide +kernel
theorem dX6_readCompared_69 : decode cX6_readCompared 69 = .ok (.getfield 15, 3) := by decide +kernel
theorem dX6_readCompared_72 : decode cX6_readCompared 72 = .ok (.aload_n 0, 1) := by decide +kernel
theorem dX6_readCompared_73 : decode cX6_readCompared 73 = .ok (.getfield 41, 3) := by decide +kernel
theorem dX6_readCompared_76 : decode cX6_readCompared 76 = .ok (.iaload, 1) := by decide +kernel
theorem dX6_readCompared_77 : decode cX6_readCompared 77 = .ok (.istore_n 3, 1) := by decide +kernel
theorem dX6_readCompared_78 : decode cX6_readCompared 78 = .ok (.iload_n 3, 1) := by decide +kernel
theorem dX6_readCompared_79 : decode cX6_readCompared 79 = .ok (.iconst 0, 1) := by decide +kernel
theorem dX6_readCompared_80 : decode cX6_readCompared 80 = .ok (.sipush 10004, 3) := by decide +kernel
theorem dX6_readCompared_83 : decode cX6_readCompared 83 = .ok (.invokestatic 94, 3) := by decide +kernel
theorem dX6_readCompared_86 : decode cX6_readCompared 86 = .ok (.ifCond .ne 5, 3) := by decide +kernel
theorem dX6_readCompared_89 : decode cX6_readCompared 89 = .ok (.iconst 0, 1) := by decide +kernel
theorem dX6_readCompared_90 : decode cX6_readCompared 90 = .ok (.ireturn, 1) := by decide +kernel
theorem dX6_readCompared_91 : decode cX6_readCompared 91 = .ok (.aload_n 0, 1) := by decide +kernel
theorem dX6_readCompared_92 : decode cX6_readCompared 92 = .ok (.dup, 1) := by decide +kernel
theorem dX6_readCompared_93 : decode cX6_readCompared 93 = .ok (.getfield 41, 3) := by decide +kernel
theorem dX6_readCompared_96 : decode cX6_readCompared 96 = .ok (.iconst 1, 1) := by decide +kernel
theorem dX6_readCompared_97 : decode cX6_readCompared 97 = .ok (.iadd, 1) := by decide +kernel
theorem dX6_readCompared_98 : decode cX6_readCompared 98 = .ok (.putfield 41, 3) := by decide +kernel
theorem dX6_readCompared_101 : decode cX6_readCompared 101 = .ok (.aload_n 0, 1) := by decide +kernel
theorem dX6_readCompared_102 : decode cX6_readCompared 102 = .ok (.iload_n 1, 1) := by decide +kernel
theorem dX6_readCompared_103 : decode cX6_readCompared 103 = .ok (.invokevirtual 106, 3) := by decide +kernel
theorem dX6_readCompared_106 : decode cX6_readCompared 106 = .ok (.aload_n 0, 1) := by decide +kernel
theorem dX6_readCompared_107 : decode cX6_readCompared 107 = .ok (.iload_n 3, 1) := by decide +kernel
theorem dX6_readCompared_108 : decode cX6_readCompared 108 = .ok (.invokevirtual 106, 3) := by decide +kernel
theorem dX6_readCompared_111 : decode cX6_readCompared 111 = .ok (.aload_n 0, 1) := by decide +kernel
theorem dX6_readCompared_112 : decode cX6_readCompared 112 = .ok (.iload_n 2, 1) := by decide +kernel
theorem dX6_readCompared_113 : decode cX6_readCompared 113 = .ok (.invokevirtual 106, 3) := by decide +kernel
theorem dX6_readCompared_116 : decode cX6_readCompared 116 = .ok (.iconst 1, 1) := by decide +kernel
theorem dX6_readCompared_117 : decode cX6_readCompared 117 = .ok (.ireturn, 1) := by decide +kernel
theorem k_X6_readCompared : MV yX6_readCompared cX6_readCompared 4 (some .boolean) 0 := ⟨q_635, qs_12, q_2, q_636, ⟨by decide, by decide, by decide +kernel⟩⟩
theorem c_X6_readCompared {res : Int32 × Int32 × (Nat → Int32) × Int32} (hf : X6_readCompared x_t_words x_t_at x_t_code x_t_size = some res) : MC l E0 D t yX6_readCompared cX6_readCompared 4 (some .boolean) 2 0 0 [.ref (a 97)] (cW a ar t x_q0_dials x_q0_spots x_q0_skies x_q0_reports x_q0_count x_q0_chime x_q0_end x_q0_score x_q0_reportCount x_q0_z x_q0_rules x_q0_shades x_q0_facts x_q1_dials x_q1_spots x_q1_skies x_q1_reports x_q1_count x_q1_chime x_q1_end x_q1_score x_q1_reportCount x_q1_z x_q1_rules x_q1_shades x_q1_facts x_q2_dials x_q2_spots x_q2_skies x_q2_reports x_q2_count x_q2_chime x_q2_end x_q2_score x_q2_reportCount x_q2_z x_q2_rules x_q2_shades x_q2_facts x_isKept x_marks x_p_first x_p_steps x_p_most x_p_many x_p_fewest x_p_everRight x_p_opening x_p_rows x_p_rowCount x_p_acts x_p_marks x_p_deepest x_p_wanted x_t_length x_t_tape x_t_words x_t_places x_t_at x_t_kinds x_t_wills x_t_starts x_t_code x_t_count x_t_size x_h_sorts x_h_lengths x_h_items x_h_held x_h_things x_h_sizes x_h_bodies x_h_traced x_h_number x_h_spot x_h_parted x_g_count x_g_kinds x_g_wills x_g_starts x_g_code x_g_stack x_g_kl x_g_wl x_g_sl x_g_cl x_nr) (Qi res.1 (cW a ar t x_q0_dials x_q0_spots x_q0_skies x_q0_reports x_q0_count x_q0_chime x_q0_end x_q0_score x_q0_reportCount x_q0_z x_q0_rules x_q0_shades x_q0_facts x_q1_dials x_q1_spots x_q1_skies x_q1_reports x_q1_count x_q1_chime x_q1_end x_q1_score x_q1_reportCount x_q1_z x_q1_rules x_q1_shades x_q1_facts x_q2_dials x_q2_spots x_q2_skies x_q2_reports x_q2_count x_q2_chime x_q2_end x_q2_score x_q2_reportCount x_q2_z x_q2_rules x_q2_shades x_q2_facts x_isKept x_marks x_p_first x_p_steps x_p_most x_p_many x_p_fewest x_p_everRight x_p_opening x_p_rows x_p_rowCount x_p_acts x_p_marks x_p_deepest x_p_wanted x_t_length x_t_tape x_t_words x_t_places res.2.1 x_t_kinds x_t_wills x_t_starts res.2.2.1 x_t_count res.2.2.2 x_h_sorts x_h_lengths x_h_items x_h_held x_h_things x_h_sizes x_h_bodies x_h_traced x_h_number x_h_spot x_h_parted x_g_count x_g_kinds x_g_wills x_g_starts x_g_code x_g_stack x_g_kl x_g_wl x_g_sl x_g_cl x_nr)) := by
  unfold X6_readCompared at hf
  refine MC.ofI pn_X6 (Nat.le_of_ble_eq_true rfl) ?_
  intro p e s m args below meth c A Q ls cx hR hw hl
  have hx := cx.1
  have hb := cx.2.1
  have hl : lv_has ls 4 [(0, .ref (a 97))] := hl
  refine lv_aload_n hx hb dX6_readCompared_0 rfl (lv_at hl 0 rfl) ?_
  refine cg_X6_15_text cx hw dX6_readCompared_1 ?_
  refine lv_aload_n hx hb dX6_readCompared_4 rfl (lv_at hl 0 rfl) ?_
  refine cg_X6_41_text cx hw dX6_readCompared_5 ?_
  obtain ⟨h1, hf⟩ := ckS hf
  refine cl_t_words (j := x_t_at.toNatClampNeg) cx hw (ib_in h1) rfl dX6_readCompared_8 ?_
  refine lv_istore_n (lv' := [(1, .int (x_t_words x_t_at.toNatClampNeg)), (0, .ref (a 97))]) hx hb dX6_readCompared_9 rfl hl (by decide) rfl (fun ls hl => ?_)
  refine lv_iload_n hx hb dX6_readCompared_10 rfl (lv_at hl 0 rfl) ?_
  refine lv_iconst (v := 0) hx hb dX6_readCompared_11 (by decide) ?_
  refine lv_sipush (v := 10004) hx hb dX6_readCompared_12 (by decide) ?_
  refine calSNi cx hw hl.1 (c_X11_isIn rfl) (List.mem_of_getElem? (i := 14) rfl) k_X11_isIn rfl dX6_readCompared_15 rfl (Nat.le_of_ble_eq_true rfl) ⟨Nat.le_of_ble_eq_true rfl, Nat.le_of_ble_eq_true rfl⟩ ⟨Nat.le_refl _, Nat.le_refl _⟩ (fun H locs hw => ?_)
  refine lv_if_ne (tgt := 23) hx hb dX6_readCompared_18 (by decide) (fun hc => ?_) (fun hc => ?_)
  · have hf := ifF hf hc
    refine lv_aload_n hx hb dX6_readCompared_23 rfl (lv_at hl 1 rfl) ?_
    refine lv_dup hx hb dX6_readCompared_24 rfl ?_
    refine cg_X6_41_text cx hw dX6_readCompared_25 ?_
    refine lv_iconst (v := 1) hx hb dX6_readCompared_28 (by decide) ?_
    refine lv_iadd hx hb dX6_readCompared_29 ?_
    refine cp_X6_41_text cx hw dX6_readCompared_30 (fun H locs hw => ?_)
    refine lv_aload_n hx hb dX6_readCompared_33 rfl (lv_at hl 1 rfl) ?_
    refine cg_X6_15_text cx hw dX6_readCompared_34 ?_
    refine lv_aload_n hx hb dX6_readCompared_37 rfl (lv_at hl 1 rfl) ?_
    refine cg_X6_41_text cx hw dX6_readCompared_38 ?_
    obtain ⟨h2, hf⟩ := ckS hf
    refine cl_t_words (j := (x_t_at + (1 : Int32)).toNatClampNeg) cx hw (ib_in h2) rfl dX6_readCompared_41 ?_
    refine lv_istore_n (lv' := [(2, .int (x_t_words ((x_t_at + (1 : Int32)).toNatClampNeg))), (1, .int (x_t_words x_t_at.toNatClampNeg)), (0, .ref (a 97))]) hx hb dX6_readCompared_42 rfl hl (by decide) rfl (fun ls hl => ?_)
    refine lv_iload_n hx hb dX6_readCompared_43 rfl (lv_at hl 0 rfl) ?_
    refine lv_sipush (v := 10005) hx hb dX6_readCompared_44 (by decide) ?_
    refine lv_sipush (v := 10007) hx hb dX6_readCompared_47 (by decide) ?_
    refine calSNi cx hw hl.1 (c_X11_isIn rfl) (List.mem_of_getElem? (i := 14) rfl) k_X11_isIn rfl dX6_readCompared_50 rfl (Nat.le_of_ble_eq_true rfl) ⟨Nat.le_of_ble_eq_true rfl, Nat.le_of_ble_eq_true rfl⟩ ⟨Nat.le_refl _, Nat.le_refl _⟩ (fun H locs hw => ?_)
    refine lv_if_ne (tgt := 58) hx hb dX6_readCompared_53 (by decide) (fun hc => ?_) (fun hc => ?_)
    · have hf := ifF hf hc
      refine lv_aload_n hx hb dX6_readCompared_58 rfl (lv_at hl 2 rfl) ?_
      refine lv_dup hx hb dX6_readCompared_59 rfl ?_
      refine cg_X6_41_text cx hw dX6_readCompared_60 ?_
      refine lv_iconst (v := 1) hx hb dX6_readCompared_63 (by decide) ?_
      refine lv_iadd hx hb dX6_readCompared_64 ?_
      refine cp_X6_41_text cx hw dX6_readCompared_65 (fun H locs hw => ?_)
      refine lv_aload_n hx hb dX6_readCompared_68 rfl (lv_at hl 2 rfl) ?_
      refine cg_X6_15_text cx hw dX6_readCompared_69 ?_
      refine lv_aload_n hx hb dX6_readCompared_72 rfl (lv_at hl 2 rfl) ?_
      refine cg_X6_41_text cx hw dX6_readCompared_73 ?_
      obtain ⟨h3, hf⟩ := ckS hf
      refine cl_t_words (j := ((x_t_at + (1 : Int32)) + (1 : Int32)).toNatClampNeg) cx hw (ib_in h3) rfl dX6_readCompared_76 ?_
      refine lv_istore_n (lv' := [(3, .int (x_t_words (((x_t_at + (1 : Int32)) + (1 : Int32)).toNatClampNeg))), (2, .int (x_t_words ((x_t_at + (1 : Int32)).toNatClampNeg))), (1, .int (x_t_words x_t_at.toNatClampNeg)), (0, .ref (a 97))]) hx hb dX6_readCompared_77 rfl hl (by decide) rfl (fun ls hl => ?_)
      refine lv_iload_n hx hb dX6_readCompared_78 rfl (lv_at hl 0 rfl) ?_
      refine lv_iconst (v := 0) hx hb dX6_readCompared_79 (by decide) ?_
      refine lv_sipush (v := 10004) hx hb dX6_readCompared_80 (by decide) ?_
      refine calSNi cx hw hl.1 (c_X11_isIn rfl) (List.mem_of_getElem? (i := 14) rfl) k_X11_isIn rfl dX6_readCompared_83 rfl (Nat.le_of_ble_eq_true rfl) ⟨Nat.le_of_ble_eq_true rfl, Nat.le_of_ble_eq_true rfl⟩ ⟨Nat.le_refl _, Nat.le_refl _⟩ (fun H locs hw => ?_)
      refine lv_if_ne (tgt := 91) hx hb dX6_readCompared_86 (by decide) (fun hc => ?_) (fun hc => ?_)
      · have hf := ifF hf hc
        refine lv_aload_n hx hb dX6_readCompared_91 rfl (lv_at hl 3 rfl) ?_
        refine lv_dup hx hb dX6_readCompared_92 rfl ?_
        refine cg_X6_41_text cx hw dX6_readCompared_93 ?_
        refine lv_iconst (v := 1) hx hb dX6_readCompared_96 (by decide) ?_
        refine lv_iadd hx hb dX6_readCompared_97 ?_
        refine cp_X6_41_text cx hw dX6_readCompared_98 (fun H locs hw => ?_)
        refine lv_aload_n hx hb dX6_readCompared_101 rfl (lv_at hl 3 rfl) ?_
        refine lv_iload_n hx hb dX6_readCompared_102 rfl (lv_at hl 2 rfl) ?_
        obtain ⟨r4, h5, hf⟩ := bnS hf
        refine calVv cx hw hl.1 (c_X6_emit h5) q_637 k_X6_emit rfl rv_text rfl dX6_readCompared_103 rfl (Nat.le_of_ble_eq_true rfl) ⟨Nat.le_of_ble_eq_true rfl, Nat.le_of_ble_eq_true rfl⟩ ⟨Nat.le_refl _, Nat.le_refl _⟩ (fun H locs hw => ?_)
        refine lv_aload_n hx hb dX6_readCompared_106 rfl (lv_at hl 3 rfl) ?_
        refine lv_iload_n hx hb dX6_readCompared_107 rfl (lv_at hl 0 rfl) ?_
        obtain ⟨r6, h7, hf⟩ := bnS hf
        refine calVv cx hw hl.1 (c_X6_emit h7) q_637 k_X6_emit rfl rv_text rfl dX6_readCompared_108 rfl (Nat.le_of_ble_eq_true rfl) ⟨Nat.le_of_ble_eq_true rfl, Nat.le_of_ble_eq_true rfl⟩ ⟨Nat.le_refl _, Nat.le_refl _⟩ (fun H locs hw => ?_)
        refine lv_aload_n hx hb dX6_readCompared_111 rfl (lv_at hl 3 rfl) ?_
        refine lv_iload_n hx hb dX6_readCompared_112 rfl (lv_at hl 1 rfl) ?_
        obtain ⟨r8, h9, hf⟩ := bnS hf
        refine calVv cx hw hl.1 (c_X6_emit h9) q_637 k_X6_emit rfl rv_text rfl dX6_readCompared_113 rfl (Nat.le_of_ble_eq_true rfl) ⟨Nat.le_of_ble_eq_true rfl, Nat.le_of_ble_eq_true rfl⟩ ⟨Nat.le_refl _, Nat.le_refl _⟩ (fun H locs hw => ?_)
        refine lv_iconst (v := 1) hx hb dX6_readCompared_116 (by decide) ?_
        have hf := Option.some.inj hf
        subst hf
        exact hR _ _ _ _ _ _ hw rfl ⟨rfl, rfl⟩ dX6_readCompared_117
      · have hf := ifT hf hc
        refine lv_iconst (v := 0) hx hb dX6_readCompared_89 (by decide) ?_
        have hf := Option.some.inj hf
        subst hf
        exact hR _ _ _ _ _ _ hw rfl ⟨rfl, rfl⟩ dX6_readCompared_90
    · have hf := ifT hf hc
      refine lv_iconst (v := 0) hx hb dX6_readCompared_56 (by decide) ?_
      have hf := Option.some.inj hf
      subst hf
      exact hR _ _ _ _ _ _ hw rfl ⟨rfl, rfl⟩ dX6_readCompared_57
  · have hf := ifT hf hc
    refine lv_iconst (v := 0) hx hb dX6_readCompared_21 (by decide) ?_
    have hf := Option.some.inj hf
    subst hf
    exact hR _ _ _ _ _ _ hw rfl ⟨rfl, rfl⟩ dX6_readCompared_22
theorem dX6_readCondition_0 : decode cX6_readCondition 0 = .ok (.aload_n 0, 1) := by decide +kernel
theorem dX6_readCondition_1 : decode cX6_readCondition 1 = .ok (.iload_n 1, 1) := by decide +kernel
theorem dX6_readCondition_2 : decode cX6_readCondition 2 = .ok (.invokevirtual 103, 3) := by decide +kernel
theorem dX6_readCondition_5 : decode cX6_readCondition 5 = .ok (.ifCond .ne 5, 3) := by decide +kernel
theorem dX6_readCondition_8 : decode cX6_readCondition 8 = .ok (.iconst 0, 1) := by decide +kernel
theorem dX6_readCondition_9 : decode cX6_readCondition 9 = .ok (.ireturn, 1) := by decide +kernel
theorem dX6_readCondition_10 : decode cX6_readCondition 10 = .ok (.iconst 0, 1) := by decide +kernel
theorem dX6_readCondition_11 : decode cX6_readCondition 11 = .ok (.istore_n 2, 1) := by decide +kernel
theorem dX6_readCondition_12 : decode cX6_readCondition 12 = .ok (.iload_n 2, 1) := by decide +kernel
theorem dX6_readCondition_13 : decode cX6_readCondition 13 = .ok (.sipush 200, 3) := by decide +kernel
theorem dX6_readCondition_16 : decode cX6_readCondition 16 = .ok (.if_icmp .ge 36, 3) := by decide +kernel
theorem dX6_readCondition_19 : decode cX6_readCondition 19 = .ok (.aload_n 0, 1) := by decide +kernel
theorem dX6_readCondition_20 : decode cX6_readCondition 20 = .ok (.sipush 10010, 3) := by decide +kernel
theorem dX6_readCondition_23 : decode cX6_readCondition 23 = .ok (.invokevirtual 97, 3) := by decide +kernel
theorem dX6_readCondition_26 : decode cX6_readCondition 26 = .ok (.ifCond .eq 26, 3) := by decide +kernel
theorem dX6_readCondition_29 : decode cX6_readCondition 29 = .ok (.aload_n 0, 1) := by decide +kernel
theorem dX6_readCondition_30 : decode cX6_readCondition 30 = .ok (.iload_n 1, 1) := by decide +kernel
theorem dX6_readCondition_31 : decode cX6_readCondition 31 = .ok (.invokevirtual 103, 3) := by decide +kernel
theorem dX6_readCondition_34 : decode cX6_readCondition 34 = .ok (.ifCond .ne 5, 3) := by decide +kernel
theorem dX6_readCondition_37 : decode cX6_readCondition 37 = .ok (.iconst 0, 1) := by decide +kernel
theorem dX6_readCondition_38 : decode cX6_readCondition 38 = .ok (.ireturn, 1) := by decide +kernel
theorem dX6_readCondition_39 : decode cX6_readCondition 39 = .ok (.aload_n 0, 1) := by decide +kernel
theorem dX6_readCondition_40 : decode cX6_readCondition 40 = .ok (.sipush 10010, 3) := by decide +kernel
theorem dX6_readCondition_43 : decode cX6_readCondition 43 = .ok (.invokevirtual 106, 3) := by decide +kernel
theorem dX6_readCondition_46 : decode cX6_readCondition 46 = .ok (.iinc 2 1, 3) := by decide +kernel
theorem dX6_readCondition_49 : decode cX6_readCondition 49 = .ok (.goto (-37), 3) := by decide +kernel
theorem dX6_readCondition_52 : decode cX6_readCondition 52 = .ok (.iconst 1, 1) := by decide +kernel
theorem dX6_readCondition_53 : decode cX6_readCondition 53 = .ok (.ireturn, 1) := by decide +kernel
theorem k_X6_readCondition : MV yX6_readCondition cX6_readCondition 3 (some .boolean) 1 := ⟨q_619, qs_8, q_2, q_620, ⟨by decide, by decide, by decide +kernel⟩⟩
theorem dX6_readAll_0 : decode cX6_readAll 0 = .ok (.aload_n 0, 1) := by decide +kernel
theorem dX6_readAll_1 : decode cX6_readAll 1 = .ok (.iload_n 1, 1) := by decide +kernel
theorem dX6_readAll_2 : decode cX6_readAll 2 = .ok (.invokevirtual 110, 3) := by decide +kernel
theorem dX6_readAll_5 : decode cX6_readAll 5 = .ok (.ifCond .ne 5, 3) := by decide +kernel
theorem dX6_readAll_8 : decode cX6_readAll 8 = .ok (.iconst 0, 1) := by decide +kernel
theorem dX6_readAll_9 : decode cX6_readAll 9 = .ok (.ireturn, 1) := by decide +kernel
theorem dX6_readAll_10 : decode cX6_readAll 10 = .ok (.iconst 0, 1) := by decide +kernel
theorem dX6_readAll_11 : decode cX6_readAll 11 = .ok (.istore_n 2, 1) := by decide +kernel
theorem dX6_readAll_12 : decode cX6_readAll 12 = .ok (.iload_n 2, 1) := by decide +kernel
theorem dX6_readAll_13 : decode cX6_readAll 13 = .ok (.sipush 200, 3) := by decide +kernel
theorem dX6_readAll_16 : decode cX6_readAll 16 = .ok (.if_icmp .ge 36, 3) := by decide +kernel
theorem dX6_readAll_19 : decode cX6_readAll 19 = .ok (.aload_n 0, 1) := by decide +kernel
theorem dX6_readAll_20 : decode cX6_readAll 20 = .ok (.sipush 10009, 3) := by decide +kernel
theorem dX6_readAll_23 : decode cX6_readAll 23 = .ok (.invokevirtual 97, 3) := by decide +kernel
theorem dX6_readAll_26 : decode cX6_readAll 26 = .ok (.ifCond .eq 26, 3) := by decide +kernel
theorem dX6_readAll_29 : decode cX6_readAll 29 = .ok (.aload_n 0, 1) := by decide +kernel
theorem dX6_readAll_30 : decode cX6_readAll 30 = .ok (.iload_n 1, 1) := by decide +kernel
theorem dX6_readAll_31 : decode cX6_readAll 31 = .ok (.invokevirtual 110, 3) := by decide +kernel
theorem dX6_readAll_34 : decode cX6_readAll 34 = .ok (.ifCond .ne 5, 3) := by decide +kernel
theorem dX6_readAll_37 : decode cX6_readAll 37 = .ok (.iconst 0, 1) := by decide +kernel
theorem dX6_readAll_38 : decode cX6_readAll 38 = .ok (.ireturn, 1) := by decide +kernel
theorem dX6_readAll_39 : decode cX6_readAll 39 = .ok (.aload_n 0, 1) := by decide +kernel
theorem dX6_readAll_40 : decode cX6_readAll 40 = .ok (.sipush 10009, 3) := by decide +kernel
theorem dX6_readAll_43 : decode cX6_readAll 43 = .ok (.invokevirtual 106, 3) := by decide +kernel
theorem dX6_readAll_46 : decode cX6_readAll 46 = .ok (.iinc 2 1, 3) := by decide +kernel
theorem dX6_readAll_49 : decode cX6_readAll 49 = .ok (.goto (-37), 3) := by decide +kernel
theorem dX6_readAll_52 : decode cX6_readAll 52 = .ok (.iconst 1, 1) := by decide +kernel
theorem dX6_readAll_53 : decode cX6_readAll 53 = .ok (.ireturn, 1) := by decide +kernel
theorem k_X6_readAll : MV yX6_readAll cX6_readAll 3 (some .boolean) 1 := ⟨q_623, qs_9, q_2, q_624, ⟨by decide, by decide, by decide +kernel⟩⟩
theorem dX6_readOne_0 : decode cX6_readOne 0 = .ok (.iconst 0, 1) := by decide +kernel
theorem dX6_readOne_1 : decode cX6_readOne 1 = .ok (.istore_n 2, 1) := by decide +kernel
theorem dX6_readOne_2 : decode cX6_readOne 2 = .ok (.iconst 0, 1) := by decide +kernel
theorem dX6_readOne_3 : decode cX6_readOne 3 = .ok (.istore_n 3, 1) := by decide +kernel
theorem dX6_readOne_4 : decode cX6_readOne 4 = .ok (.iload_n 3, 1) := by decide +kernel
theorem dX6_readOne_5 : decode cX6_readOne 5 = .ok (.sipush 200, 3) := by decide +kernel
theorem dX6_readOne_8 : decode cX6_readOne 8 = .ok (.if_icmp .ge 29, 3) := by decide +kernel
theorem dX6_readOne_11 : decode cX6_readOne 11 = .ok (.aload_n 0, 1) := by decide +kernel
theorem dX6_readOne_12 : decode cX6_readOne 12 = .ok (.sipush 10008, 3) := by decide +kernel
theorem dX6_readOne_15 : decode cX6_readOne 15 = .ok (.invokevirtual 97, 3) := by decide +kernel
theorem dX6_readOne_18 : decode cX6_readOne 18 = .ok (.ifCond .eq 19, 3) := by decide +kernel
theorem dX6_readOne_21 : decode cX6_readOne 21 = .ok (.iload_n 2, 1) := by decide +kernel
theorem dX6_readOne_22 : decode cX6_readOne 22 = .ok (.ifCond .ne 7, 3) := by decide +kernel
theorem dX6_readOne_25 : decode cX6_readOne 25 = .ok (.iconst 1, 1) := by decide +kernel
theorem dX6_readOne_26 : decode cX6_readOne 26 = .ok (.goto 4, 3) := by decide +kernel
theorem dX6_readOne_29 : decode cX6_readOne 29 = .ok (.iconst 0, 1) := by decide +kernel
theorem dX6_readOne_30 : decode cX6_readOne 30 = .ok (.istore_n 2, 1) := by decide +kernel
theorem dX6_readOne_31 : decode cX6_readOne 31 = .ok (.iinc 3 1, 3) := by decide +kernel
theorem dX6_readOne_34 : decode cX6_readOne 34 = .ok (.goto (-30), 3) := by decide +kernel
theorem dX6_readOne_37 : decode cX6_readOne 37 = .ok (.aload_n 0, 1) := by decide +kernel
theorem dX6_readOne_38 : decode cX6_readOne 38 = .ok (.getfield 15, 3) := by decide +kernel
theorem dX6_readOne_41 : decode cX6_readOne 41 = .ok (.aload_n 0, 1) := by decide +kernel
theorem dX6_readOne_42 : decode cX6_readOne 42 = .ok (.getfield 41, 3) := by decide +kernel
theorem dX6_readOne_45 : decode cX6_readOne 45 = .ok (.iaload, 1) := by decide +kernel
theorem dX6_readOne_46 : decode cX6_readOne 46 = .ok (.sipush 10012, 3) := by decide +kernel
theorem dX6_readOne_49 : decode cX6_readOne 49 = .ok (.if_icmp .ne 13, 3) := by decide +kernel
theorem dX6_readOne_52 : decode cX6_readOne 52 = .ok (.aload_n 0, 1) := by decide +kernel
theorem dX6_readOne_53 : decode cX6_readOne 53 = .ok (.iload_n 1, 1) := by decide +kernel
theorem dX6_readOne_54 : decode cX6_readOne 54 = .ok (.iconst 1, 1) := by decide +kernel
theorem dX6_readOne_55 : decode cX6_readOne 55 = .ok (.iadd, 1) := by decide +kernel
theorem dX6_readOne_56 : decode cX6_readOne 56 = .ok (.invokevirtual 113, 3) := by decide +kernel
theorem dX6_readOne_59 : decode cX6_readOne 59 = .ok (.goto 7, 3) := by decide +kernel
theorem dX6_readOne_62 : decode cX6_readOne 62 = .ok (.aload_n 0, 1) := by decide +kernel
theorem dX6_readOne_63 : decode cX6_readOne 63 = .ok (.invokevirtual 116, 3) := by decide +kernel
theorem dX6_readOne_66 : decode cX6_readOne 66 = .ok (.istore_n 3, 1) := by decide +kernel
theorem dX6_readOne_67 : decode cX6_readOne 67 = .ok (.iload_n 3, 1) := by decide +kernel
theorem dX6_readOne_68 : decode cX6_readOne 68 = .ok (.ifCond .eq 14, 3) := by decide +kernel
theorem dX6_readOne_71 : decode cX6_readOne 71 = .ok (.iload_n 2, 1) := by decide +kernel
theorem dX6_readOne_72 : decode cX6_readOne 72 = .ok (.ifCond .eq 10, 3) := by decide +kernel
theorem dX6_readOne_75 : decode cX6_readOne 75 = .ok (.aload_n 0, 1) := by decide +kernel
theorem dX6_readOne_76 : decode cX6_readOne 76 = .ok (.sipush 10008, 3) := by decide +kernel
theorem dX6_readOne_79 : decode cX6_readOne 79 = .ok (.invokevirtual 106, 3) := by decide +kernel
theorem dX6_readOne_82 : decode cX6_readOne 82 = .ok (.iload_n 3, 1) := by decide +kernel
theorem dX6_readOne_83 : decode cX6_readOne 83 = .ok (.ireturn, 1) := by decide +kernel
theorem k_X6_readOne : MV yX6_readOne cX6_readOne 4 (some .boolean) 1 := ⟨q_627, qs_10, q_2, q_628, ⟨by decide, by decide, by decide +kernel⟩⟩
theorem dX6_readOpened_0 : decode cX6_readOpened 0 = .ok (.iload_n 1, 1) := by decide +kernel
theorem dX6_readOpened_1 : decode cX6_readOpened 1 = .ok (.iconst 3, 1) := by decide +kernel
theorem dX6_readOpened_2 : decode cX6_readOpened 2 = .ok (.if_icmp .le 5, 3) := by decide +kernel
theorem dX6_readOpened_5 : decode cX6_readOpened 5 = .ok (.iconst 0, 1) := by decide +kernel
theorem dX6_readOpened_6 : decode cX6_readOpened 6 = .ok (.ireturn, 1) := by decide +kernel
theorem dX6_readOpened_7 : decode cX6_readOpened 7 = .ok (.aload_n 0, 1) := by decide +kernel
theorem dX6_readOpened_8 : decode cX6_readOpened 8 = .ok (.dup, 1) := by decide +kernel
theorem dX6_readOpened_9 : decode cX6_readOpened 9 = .ok (.getfield 41, 3) := by decide +kernel
theorem dX6_readOpened_12 : decode cX6_readOpened 12 = .ok (.iconst 1, 1) := by decide +kernel
theorem dX6_readOpened_13 : decode cX6_readOpened 13 = .ok (.iadd, 1) := by decide +kernel
theorem dX6_readOpened_14 : decode cX6_readOpened 14 = .ok (.putfield 41, 3) := by decide +kernel
theorem dX6_readOpened_17 : decode cX6_readOpened 17 = .ok (.aload_n 0, 1) := by decide +kernel
theorem dX6_readOpened_18 : decode cX6_readOpened 18 = .ok (.iload_n 1, 1) := by decide +kernel
theorem dX6_readOpened_19 : decode cX6_readOpened 19 = .ok (.invokevirtual 100, 3) := by decide +kernel
theorem dX6_readOpened_22 : decode cX6_readOpened 22 = .ok (.ifCond .eq 17, 3) := by decide +kernel
theorem dX6_readOpened_25 : decode cX6_readOpened 25 = .ok (.aload_n 0, 1) := by decide +kernel
theorem dX6_readOpened_26 : decode cX6_readOpened 26 = .ok (.sipush 10013, 3) := by decide +kernel
theorem dX6_readOpened_29 : decode cX6_readOpened 29 = .ok (.invokevirtual 97, 3) := by decide +kernel
theorem dX6_readOpened_32 : decode cX6_readOpened 32 = .ok (.ifCond .eq 7, 3) := by decide +kernel
theorem dX6_readOpened_35 : decode cX6_readOpened 35 = .ok (.iconst 1, 1) := by decide +kernel
theorem dX6_readOpened_36 : decode cX6_readOpened 36 = .ok (.goto 4, 3) := by decide +kernel
theorem dX6_readOpened_39 : decode cX6_readOpened 39 = .ok (.iconst 0, 1) := by decide +kernel
theorem dX6_readOpened_40 : decode cX6_readOpened 40 = .ok (.ireturn, 1) := by decide +kernel
theorem k_X6_readOpened : MV yX6_readOpened cX6_readOpened 2 (some .boolean) 1 := ⟨q_631, qs_11, q_2, q_632, ⟨by decide, by decide, by decide +kernel⟩⟩
theorem cb_X6_readCondition {F : Nat → (Nat → Int32) → Int32 → (Nat → Int32) → Int32 → Int32 → Option (Int32 × Int32 × (Nat → Int32) × Int32)} {d : Nat} (hF0 : ∀ {x_q0_dials : Nat → Nat → Int32} {x_q0_spots : Nat → Nat → Int32} {x_q0_skies : Nat → Int32} {x_q0_reports : Nat → Nat → Int32} {x_q0_count : Int32} {x_q0_chime : Int32} {x_q0_end : Int32} {x_q0_score : Int32} {x_q0_reportCount : Int32} {x_q0_z : Int32} {x_q0_rules : Nat} {x_q0_shades : Nat → Int32} {x_q0_facts : Nat → Int32} {x_q1_dials : Nat → Nat → Int32} {x_q1_spots : Nat → Nat → Int32} {x_q1_skies : Nat → Int32} {x_q1_reports : Nat → Nat → Int32} {x_q1_count : Int32} {x_q1_chime : Int32} {x_q1_end : Int32} {x_q1_score : Int32} {x_q1_reportCount : Int32} {x_q1_z : Int32} {x_q1_rules : Nat} {x_q1_shades : Nat → Int32} {x_q1_facts : Nat → Int32} {x_q2_dials : Nat → Nat → Int32} {x_q2_spots : Nat → Nat → Int32} {x_q2_skies : Nat → Int32} {x_q2_reports : Nat → Nat → Int32} {x_q2_count : Int32} {x_q2_chime : Int32} {x_q2_end : Int32} {x_q2_score : Int32} {x_q2_reportCount : Int32} {x_q2_z : Int32} {x_q2_rules : Nat} {x_q2_shades : Nat → Int32} {x_q2_facts : Nat → Int32} {x_isKept : Int32} {x_marks : Nat → Int32} {x_p_first : Nat → Int32} {x_p_steps : Int32} {x_p_most : Int32} {x_p_many : Int32} {x_p_fewest : Int32} {x_p_everRight : Int32} {x_p_opening : Int32} {x_p_rows : Nat → Nat → Int32} {x_p_rowCount : Int32} {x_p_acts : Nat → Int32} {x_p_marks : Nat → Nat → Int32} {x_p_deepest : Int32} {x_p_wanted : Int32} {x_t_length : Int32} {x_t_tape : Nat → Int32} {x_t_words : Nat → Int32} {x_t_places : Nat → Int32} {x_t_at : Int32} {x_t_kinds : Nat → Int32} {x_t_wills : Nat → Int32} {x_t_starts : Nat → Int32} {x_t_code : Nat → Int32} {x_t_count : Int32} {x_t_size : Int32} {x_h_sorts : Nat → Int32} {x_h_lengths : Nat → Int32} {x_h_items : Nat → Nat → Int32} {x_h_held : Nat → Int32} {x_h_things : Nat → Int32} {x_h_sizes : Nat → Int32} {x_h_bodies : Nat → Int32} {x_h_traced : Int32} {x_h_number : Int32} {x_h_spot : Int32} {x_h_parted : Int32} {x_g_count : Nat → Int32} {x_g_kinds : Nat → Nat → Int32} {x_g_wills : Nat → Nat → Int32} {x_g_starts : Nat → Nat → Int32} {x_g_code : Nat → Nat → Int32} {x_g_stack : Nat → Nat → Int32} {x_g_kl : Nat → Nat} {x_g_wl : Nat → Nat} {x_g_sl : Nat → Nat} {x_g_cl : Nat → Nat} {x_nr : Nat} {v1 : Int32} {res : Int32 × Int32 × (Nat → Int32) × Int32}, F 0 x_t_words x_t_at x_t_code x_t_size v1 = some res → MC l E0 D t yX6_readCondition cX6_readCondition 3 (some .boolean) (3 + 4 * d) 0 0 [.ref (a 97), .int v1] (cW a ar t x_q0_dials x_q0_spots x_q0_skies x_q0_reports x_q0_count x_q0_chime x_q0_end x_q0_score x_q0_reportCount x_q0_z x_q0_rules x_q0_shades x_q0_facts x_q1_dials x_q1_spots x_q1_skies x_q1_reports x_q1_count x_q1_chime x_q1_end x_q1_score x_q1_reportCount x_q1_z x_q1_rules x_q1_shades x_q1_facts x_q2_dials x_q2_spots x_q2_skies x_q2_reports x_q2_count x_q2_chime x_q2_end x_q2_score x_q2_reportCount x_q2_z x_q2_rules x_q2_shades x_q2_facts x_isKept x_marks x_p_first x_p_steps x_p_most x_p_many x_p_fewest x_p_everRight x_p_opening x_p_rows x_p_rowCount x_p_acts x_p_marks x_p_deepest x_p_wanted x_t_length x_t_tape x_t_words x_t_places x_t_at x_t_kinds x_t_wills x_t_starts x_t_code x_t_count x_t_size x_h_sorts x_h_lengths x_h_items x_h_held x_h_things x_h_sizes x_h_bodies x_h_traced x_h_number x_h_spot x_h_parted x_g_count x_g_kinds x_g_wills x_g_starts x_g_code x_g_stack x_g_kl x_g_wl x_g_sl x_g_cl x_nr) (Qi res.1 (cW a ar t x_q0_dials x_q0_spots x_q0_skies x_q0_reports x_q0_count x_q0_chime x_q0_end x_q0_score x_q0_reportCount x_q0_z x_q0_rules x_q0_shades x_q0_facts x_q1_dials x_q1_spots x_q1_skies x_q1_reports x_q1_count x_q1_chime x_q1_end x_q1_score x_q1_reportCount x_q1_z x_q1_rules x_q1_shades x_q1_facts x_q2_dials x_q2_spots x_q2_skies x_q2_reports x_q2_count x_q2_chime x_q2_end x_q2_score x_q2_reportCount x_q2_z x_q2_rules x_q2_shades x_q2_facts x_isKept x_marks x_p_first x_p_steps x_p_most x_p_many x_p_fewest x_p_everRight x_p_opening x_p_rows x_p_rowCount x_p_acts x_p_marks x_p_deepest x_p_wanted x_t_length x_t_tape x_t_words x_t_places res.2.1 x_t_kinds x_t_wills x_t_starts res.2.2.1 x_t_count res.2.2.2 x_h_sorts x_h_lengths x_h_items x_h_held x_h_things x_h_sizes x_h_bodies x_h_traced x_h_number x_h_spot x_h_parted x_g_count x_g_kinds x_g_wills x_g_starts x_g_code x_g_stack x_g_kl x_g_wl x_g_sl x_g_cl x_nr))) (hF1 : ∀ {x_q0_dials : Nat → Nat → Int32} {x_q0_spots : Nat → Nat → Int32} {x_q0_skies : Nat → Int32} {x_q0_reports : Nat → Nat → Int32} {x_q0_count : Int32} {x_q0_chime : Int32} {x_q0_end : Int32} {x_q0_score : Int32} {x_q0_reportCount : Int32} {x_q0_z : Int32} {x_q0_rules : Nat} {x_q0_shades : Nat → Int32} {x_q0_facts : Nat → Int32} {x_q1_dials : Nat → Nat → Int32} {x_q1_spots : Nat → Nat → Int32} {x_q1_skies : Nat → Int32} {x_q1_reports : Nat → Nat → Int32} {x_q1_count : Int32} {x_q1_chime : Int32} {x_q1_end : Int32} {x_q1_score : Int32} {x_q1_reportCount : Int32} {x_q1_z : Int32} {x_q1_rules : Nat} {x_q1_shades : Nat → Int32} {x_q1_facts : Nat → Int32} {x_q2_dials : Nat → Nat → Int32} {x_q2_spots : Nat → Nat → Int32} {x_q2_skies : Nat → Int32} {x_q2_reports : Nat → Nat → Int32} {x_q2_count : Int32} {x_q2_chime : Int32} {x_q2_end : Int32} {x_q2_score : Int32} {x_q2_reportCount : Int32} {x_q2_z : Int32} {x_q2_rules : Nat} {x_q2_shades : Nat → Int32} {x_q2_facts : Nat → Int32} {x_isKept : Int32} {x_marks : Nat → Int32} {x_p_first : Nat → Int32} {x_p_steps : Int32} {x_p_most : Int32} {x_p_many : Int32} {x_p_fewest : Int32} {x_p_everRight : Int32} {x_p_opening : Int32} {x_p_rows : Nat → Nat → Int32} {x_p_rowCount : Int32} {x_p_acts : Nat → Int32} {x_p_marks : Nat → Nat → Int32} {x_p_deepest : Int32} {x_p_wanted : Int32} {x_t_length : Int32} {x_t_tape : Nat → Int32} {x_t_words : Nat → Int32} {x_t_places : Nat → Int32} {x_t_at : Int32} {x_t_kinds : Nat → Int32} {x_t_wills : Nat → Int32} {x_t_starts : Nat → Int32} {x_t_code : Nat → Int32} {x_t_count : Int32} {x_t_size : Int32} {x_h_sorts : Nat → Int32} {x_h_lengths : Nat → Int32} {x_h_items : Nat → Nat → Int32} {x_h_held : Nat → Int32} {x_h_things : Nat → Int32} {x_h_sizes : Nat → Int32} {x_h_bodies : Nat → Int32} {x_h_traced : Int32} {x_h_number : Int32} {x_h_spot : Int32} {x_h_parted : Int32} {x_g_count : Nat → Int32} {x_g_kinds : Nat → Nat → Int32} {x_g_wills : Nat → Nat → Int32} {x_g_starts : Nat → Nat → Int32} {x_g_code : Nat → Nat → Int32} {x_g_stack : Nat → Nat → Int32} {x_g_kl : Nat → Nat} {x_g_wl : Nat → Nat} {x_g_sl : Nat → Nat} {x_g_cl : Nat → Nat} {x_nr : Nat} {v1 : Int32} {res : Int32 × Int32 × (Nat → Int32) × Int32}, F 1 x_t_words x_t_at x_t_code x_t_size v1 = some res → MC l E0 D t yX6_readAll cX6_readAll 3 (some .boolean) (3 + 4 * d) 0 0 [.ref (a 97), .int v1] (cW a ar t x_q0_dials x_q0_spots x_q0_skies x_q0_reports x_q0_count x_q0_chime x_q0_end x_q0_score x_q0_reportCount x_q0_z x_q0_rules x_q0_shades x_q0_facts x_q1_dials x_q1_spots x_q1_skies x_q1_reports x_q1_count x_q1_chime x_q1_end x_q1_score x_q1_reportCount x_q1_z x_q1_rules x_q1_shades x_q1_facts x_q2_dials x_q2_spots x_q2_skies x_q2_reports x_q2_count x_q2_chime x_q2_end x_q2_score x_q2_reportCount x_q2_z x_q2_rules x_q2_shades x_q2_facts x_isKept x_marks x_p_first x_p_steps x_p_most x_p_many x_p_fewest x_p_everRight x_p_opening x_p_rows x_p_rowCount x_p_acts x_p_marks x_p_deepest x_p_wanted x_t_length x_t_tape x_t_words x_t_places x_t_at x_t_kinds x_t_wills x_t_starts x_t_code x_t_count x_t_size x_h_sorts x_h_lengths x_h_items x_h_held x_h_things x_h_sizes x_h_bodies x_h_traced x_h_number x_h_spot x_h_parted x_g_count x_g_kinds x_g_wills x_g_starts x_g_code x_g_stack x_g_kl x_g_wl x_g_sl x_g_cl x_nr) (Qi res.1 (cW a ar t x_q0_dials x_q0_spots x_q0_skies x_q0_reports x_q0_count x_q0_chime x_q0_end x_q0_score x_q0_reportCount x_q0_z x_q0_rules x_q0_shades x_q0_facts x_q1_dials x_q1_spots x_q1_skies x_q1_reports x_q1_count x_q1_chime x_q1_end x_q1_score x_q1_reportCount x_q1_z x_q1_rules x_q1_shades x_q1_facts x_q2_dials x_q2_spots x_q2_skies x_q2_reports x_q2_count x_q2_chime x_q2_end x_q2_score x_q2_reportCount x_q2_z x_q2_rules x_q2_shades x_q2_facts x_isKept x_marks x_p_first x_p_steps x_p_most x_p_many x_p_fewest x_p_everRight x_p_opening x_p_rows x_p_rowCount x_p_acts x_p_marks x_p_deepest x_p_wanted x_t_length x_t_tape x_t_words x_t_places res.2.1 x_t_kinds x_t_wills x_t_starts res.2.2.1 x_t_count res.2.2.2 x_h_sorts x_h_lengths x_h_items x_h_held x_h_things x_h_sizes x_h_bodies x_h_traced x_h_number x_h_spot x_h_parted x_g_count x_g_kinds x_g_wills x_g_starts x_g_code x_g_stack x_g_kl x_g_wl x_g_sl x_g_cl x_nr))) (hF2 : ∀ {x_q0_dials : Nat → Nat → Int32} {x_q0_spots : Nat → Nat → Int32} {x_q0_skies : Nat → Int32} {x_q0_reports : Nat → Nat → Int32} {x_q0_count : Int32} {x_q0_chime : Int32} {x_q0_end : Int32} {x_q0_score : Int32} {x_q0_reportCount : Int32} {x_q0_z : Int32} {x_q0_rules : Nat} {x_q0_shades : Nat → Int32} {x_q0_facts : Nat → Int32} {x_q1_dials : Nat → Nat → Int32} {x_q1_spots : Nat → Nat → Int32} {x_q1_skies : Nat → Int32} {x_q1_reports : Nat → Nat → Int32} {x_q1_count : Int32} {x_q1_chime : Int32} {x_q1_end : Int32} {x_q1_score : Int32} {x_q1_reportCount : Int32} {x_q1_z : Int32} {x_q1_rules : Nat} {x_q1_shades : Nat → Int32} {x_q1_facts : Nat → Int32} {x_q2_dials : Nat → Nat → Int32} {x_q2_spots : Nat → Nat → Int32} {x_q2_skies : Nat → Int32} {x_q2_reports : Nat → Nat → Int32} {x_q2_count : Int32} {x_q2_chime : Int32} {x_q2_end : Int32} {x_q2_score : Int32} {x_q2_reportCount : Int32} {x_q2_z : Int32} {x_q2_rules : Nat} {x_q2_shades : Nat → Int32} {x_q2_facts : Nat → Int32} {x_isKept : Int32} {x_marks : Nat → Int32} {x_p_first : Nat → Int32} {x_p_steps : Int32} {x_p_most : Int32} {x_p_many : Int32} {x_p_fewest : Int32} {x_p_everRight : Int32} {x_p_opening : Int32} {x_p_rows : Nat → Nat → Int32} {x_p_rowCount : Int32} {x_p_acts : Nat → Int32} {x_p_marks : Nat → Nat → Int32} {x_p_deepest : Int32} {x_p_wanted : Int32} {x_t_length : Int32} {x_t_tape : Nat → Int32} {x_t_words : Nat → Int32} {x_t_places : Nat → Int32} {x_t_at : Int32} {x_t_kinds : Nat → Int32} {x_t_wills : Nat → Int32} {x_t_starts : Nat → Int32} {x_t_code : Nat → Int32} {x_t_count : Int32} {x_t_size : Int32} {x_h_sorts : Nat → Int32} {x_h_lengths : Nat → Int32} {x_h_items : Nat → Nat → Int32} {x_h_held : Nat → Int32} {x_h_things : Nat → Int32} {x_h_sizes : Nat → Int32} {x_h_bodies : Nat → Int32} {x_h_traced : Int32} {x_h_number : Int32} {x_h_spot : Int32} {x_h_parted : Int32} {x_g_count : Nat → Int32} {x_g_kinds : Nat → Nat → Int32} {x_g_wills : Nat → Nat → Int32} {x_g_starts : Nat → Nat → Int32} {x_g_code : Nat → Nat → Int32} {x_g_stack : Nat → Nat → Int32} {x_g_kl : Nat → Nat} {x_g_wl : Nat → Nat} {x_g_sl : Nat → Nat} {x_g_cl : Nat → Nat} {x_nr : Nat} {v1 : Int32} {res : Int32 × Int32 × (Nat → Int32) × Int32}, F 2 x_t_words x_t_at x_t_code x_t_size v1 = some res → MC l E0 D t yX6_readOne cX6_readOne 4 (some .boolean) (3 + 4 * d) 0 0 [.ref (a 97), .int v1] (cW a ar t x_q0_dials x_q0_spots x_q0_skies x_q0_reports x_q0_count x_q0_chime x_q0_end x_q0_score x_q0_reportCount x_q0_z x_q0_rules x_q0_shades x_q0_facts x_q1_dials x_q1_spots x_q1_skies x_q1_reports x_q1_count x_q1_chime x_q1_end x_q1_score x_q1_reportCount x_q1_z x_q1_rules x_q1_shades x_q1_facts x_q2_dials x_q2_spots x_q2_skies x_q2_reports x_q2_count x_q2_chime x_q2_end x_q2_score x_q2_reportCount x_q2_z x_q2_rules x_q2_shades x_q2_facts x_isKept x_marks x_p_first x_p_steps x_p_most x_p_many x_p_fewest x_p_everRight x_p_opening x_p_rows x_p_rowCount x_p_acts x_p_marks x_p_deepest x_p_wanted x_t_length x_t_tape x_t_words x_t_places x_t_at x_t_kinds x_t_wills x_t_starts x_t_code x_t_count x_t_size x_h_sorts x_h_lengths x_h_items x_h_held x_h_things x_h_sizes x_h_bodies x_h_traced x_h_number x_h_spot x_h_parted x_g_count x_g_kinds x_g_wills x_g_starts x_g_code x_g_stack x_g_kl x_g_wl x_g_sl x_g_cl x_nr) (Qi res.1 (cW a ar t x_q0_dials x_q0_spots x_q0_skies x_q0_reports x_q0_count x_q0_chime x_q0_end x_q0_score x_q0_reportCount x_q0_z x_q0_rules x_q0_shades x_q0_facts x_q1_dials x_q1_spots x_q1_skies x_q1_reports x_q1_count x_q1_chime x_q1_end x_q1_score x_q1_reportCount x_q1_z x_q1_rules x_q1_shades x_q1_facts x_q2_dials x_q2_spots x_q2_skies x_q2_reports x_q2_count x_q2_chime x_q2_end x_q2_score x_q2_reportCount x_q2_z x_q2_rules x_q2_shades x_q2_facts x_isKept x_marks x_p_first x_p_steps x_p_most x_p_many x_p_fewest x_p_everRight x_p_opening x_p_rows x_p_rowCount x_p_acts x_p_marks x_p_deepest x_p_wanted x_t_length x_t_tape x_t_words x_t_places res.2.1 x_t_kinds x_t_wills x_t_starts res.2.2.1 x_t_count res.2.2.2 x_h_sorts x_h_lengths x_h_items x_h_held x_h_things x_h_sizes x_h_bodies x_h_traced x_h_number x_h_spot x_h_parted x_g_count x_g_kinds x_g_wills x_g_starts x_g_code x_g_stack x_g_kl x_g_wl x_g_sl x_g_cl x_nr))) (hF3 : ∀ {x_q0_dials : Nat → Nat → Int32} {x_q0_spots : Nat → Nat → Int32} {x_q0_skies : Nat → Int32} {x_q0_reports : Nat → Nat → Int32} {x_q0_count : Int32} {x_q0_chime : Int32} {x_q0_end : Int32} {x_q0_score : Int32} {x_q0_reportCount : Int32} {x_q0_z : Int32} {x_q0_rules : Nat} {x_q0_shades : Nat → Int32} {x_q0_facts : Nat → Int32} {x_q1_dials : Nat → Nat → Int32} {x_q1_spots : Nat → Nat → Int32} {x_q1_skies : Nat → Int32} {x_q1_reports : Nat → Nat → Int32} {x_q1_count : Int32} {x_q1_chime : Int32} {x_q1_end : Int32} {x_q1_score : Int32} {x_q1_reportCount : Int32} {x_q1_z : Int32} {x_q1_rules : Nat} {x_q1_shades : Nat → Int32} {x_q1_facts : Nat → Int32} {x_q2_dials : Nat → Nat → Int32} {x_q2_spots : Nat → Nat → Int32} {x_q2_skies : Nat → Int32} {x_q2_reports : Nat → Nat → Int32} {x_q2_count : Int32} {x_q2_chime : Int32} {x_q2_end : Int32} {x_q2_score : Int32} {x_q2_reportCount : Int32} {x_q2_z : Int32} {x_q2_rules : Nat} {x_q2_shades : Nat → Int32} {x_q2_facts : Nat → Int32} {x_isKept : Int32} {x_marks : Nat → Int32} {x_p_first : Nat → Int32} {x_p_steps : Int32} {x_p_most : Int32} {x_p_many : Int32} {x_p_fewest : Int32} {x_p_everRight : Int32} {x_p_opening : Int32} {x_p_rows : Nat → Nat → Int32} {x_p_rowCount : Int32} {x_p_acts : Nat → Int32} {x_p_marks : Nat → Nat → Int32} {x_p_deepest : Int32} {x_p_wanted : Int32} {x_t_length : Int32} {x_t_tape : Nat → Int32} {x_t_words : Nat → Int32} {x_t_places : Nat → Int32} {x_t_at : Int32} {x_t_kinds : Nat → Int32} {x_t_wills : Nat → Int32} {x_t_starts : Nat → Int32} {x_t_code : Nat → Int32} {x_t_count : Int32} {x_t_size : Int32} {x_h_sorts : Nat → Int32} {x_h_lengths : Nat → Int32} {x_h_items : Nat → Nat → Int32} {x_h_held : Nat → Int32} {x_h_things : Nat → Int32} {x_h_sizes : Nat → Int32} {x_h_bodies : Nat → Int32} {x_h_traced : Int32} {x_h_number : Int32} {x_h_spot : Int32} {x_h_parted : Int32} {x_g_count : Nat → Int32} {x_g_kinds : Nat → Nat → Int32} {x_g_wills : Nat → Nat → Int32} {x_g_starts : Nat → Nat → Int32} {x_g_code : Nat → Nat → Int32} {x_g_stack : Nat → Nat → Int32} {x_g_kl : Nat → Nat} {x_g_wl : Nat → Nat} {x_g_sl : Nat → Nat} {x_g_cl : Nat → Nat} {x_nr : Nat} {v1 : Int32} {res : Int32 × Int32 × (Nat → Int32) × Int32}, F 3 x_t_words x_t_at x_t_code x_t_size v1 = some res → MC l E0 D t yX6_readOpened cX6_readOpened 2 (some .boolean) (3 + 4 * d) 0 0 [.ref (a 97), .int v1] (cW a ar t x_q0_dials x_q0_spots x_q0_skies x_q0_reports x_q0_count x_q0_chime x_q0_end x_q0_score x_q0_reportCount x_q0_z x_q0_rules x_q0_shades x_q0_facts x_q1_dials x_q1_spots x_q1_skies x_q1_reports x_q1_count x_q1_chime x_q1_end x_q1_score x_q1_reportCount x_q1_z x_q1_rules x_q1_shades x_q1_facts x_q2_dials x_q2_spots x_q2_skies x_q2_reports x_q2_count x_q2_chime x_q2_end x_q2_score x_q2_reportCount x_q2_z x_q2_rules x_q2_shades x_q2_facts x_isKept x_marks x_p_first x_p_steps x_p_most x_p_many x_p_fewest x_p_everRight x_p_opening x_p_rows x_p_rowCount x_p_acts x_p_marks x_p_deepest x_p_wanted x_t_length x_t_tape x_t_words x_t_places x_t_at x_t_kinds x_t_wills x_t_starts x_t_code x_t_count x_t_size x_h_sorts x_h_lengths x_h_items x_h_held x_h_things x_h_sizes x_h_bodies x_h_traced x_h_number x_h_spot x_h_parted x_g_count x_g_kinds x_g_wills x_g_starts x_g_code x_g_stack x_g_kl x_g_wl x_g_sl x_g_cl x_nr) (Qi res.1 (cW a ar t x_q0_dials x_q0_spots x_q0_skies x_q0_reports x_q0_count x_q0_chime x_q0_end x_q0_score x_q0_reportCount x_q0_z x_q0_rules x_q0_shades x_q0_facts x_q1_dials x_q1_spots x_q1_skies x_q1_reports x_q1_count x_q1_chime x_q1_end x_q1_score x_q1_reportCount x_q1_z x_q1_rules x_q1_shades x_q1_facts x_q2_dials x_q2_spots x_q2_skies x_q2_reports x_q2_count x_q2_chime x_q2_end x_q2_score x_q2_reportCount x_q2_z x_q2_rules x_q2_shades x_q2_facts x_isKept x_marks x_p_first x_p_steps x_p_most x_p_many x_p_fewest x_p_everRight x_p_opening x_p_rows x_p_rowCount x_p_acts x_p_marks x_p_deepest x_p_wanted x_t_length x_t_tape x_t_words x_t_places res.2.1 x_t_kinds x_t_wills x_t_starts res.2.2.1 x_t_count res.2.2.2 x_h_sorts x_h_lengths x_h_items x_h_held x_h_things x_h_sizes x_h_bodies x_h_traced x_h_number x_h_spot x_h_parted x_g_count x_g_kinds x_g_wills x_g_starts x_g_code x_g_stack x_g_kl x_g_wl x_g_sl x_g_cl x_nr))) {v1 : Int32} {res : Int32 × Int32 × (Nat → Int32) × Int32} (hf : X6_readCondition_b n F x_t_words x_t_at x_t_code x_t_size v1 = some res) : MC l E0 D t yX6_readCondition cX6_readCondition 3 (some .boolean) (3 + 4 * (d + 1)) 0 0 [.ref (a 97), .int v1] (cW a ar t x_q0_dials x_q0_spots x_q0_skies x_q0_reports x_q0_count x_q0_chime x_q0_end x_q0_score x_q0_reportCount x_q0_z x_q0_rules x_q0_shades x_q0_facts x_q1_dials x_q1_spots x_q1_skies x_q1_reports x_q1_count x_q1_chime x_q1_end x_q1_score x_q1_reportCount x_q1_z x_q1_rules x_q1_shades x_q1_facts x_q2_dials x_q2_spots x_q2_skies x_q2_reports x_q2_count x_q2_chime x_q2_end x_q2_score x_q2_reportCount x_q2_z x_q2_rules x_q2_shades x_q2_facts x_isKept x_marks x_p_first x_p_steps x_p_most x_p_many x_p_fewest x_p_everRight x_p_opening x_p_rows x_p_rowCount x_p_acts x_p_marks x_p_deepest x_p_wanted x_t_length x_t_tape x_t_words x_t_places x_t_at x_t_kinds x_t_wills x_t_starts x_t_code x_t_count x_t_size x_h_sorts x_h_lengths x_h_items x_h_held x_h_things x_h_sizes x_h_bodies x_h_traced x_h_number x_h_spot x_h_parted x_g_count x_g_kinds x_g_wills x_g_starts x_g_code x_g_stack x_g_kl x_g_wl x_g_sl x_g_cl x_nr) (Qi res.1 (cW a ar t x_q0_dials x_q0_spots x_q0_skies x_q0_reports x_q0_count x_q0_chime x_q0_end x_q0_score x_q0_reportCount x_q0_z x_q0_rules x_q0_shades x_q0_facts x_q1_dials x_q1_spots x_q1_skies x_q1_reports x_q1_count x_q1_chime x_q1_end x_q1_score x_q1_reportCount x_q1_z x_q1_rules x_q1_shades x_q1_facts x_q2_dials x_q2_spots x_q2_skies x_q2_reports x_q2_count x_q2_chime x_q2_end x_q2_score x_q2_reportCount x_q2_z x_q2_rules x_q2_shades x_q2_facts x_isKept x_marks x_p_first x_p_steps x_p_most x_p_many x_p_fewest x_p_everRight x_p_opening x_p_rows x_p_rowCount x_p_acts x_p_marks x_p_deepest x_p_wanted x_t_length x_t_tape x_t_words x_t_places res.2.1 x_t_kinds x_t_wills x_t_starts res.2.2.1 x_t_count res.2.2.2 x_h_sorts x_h_lengths x_h_items x_h_held x_h_things x_h_sizes x_h_bodies x_h_traced x_h_number x_h_spot x_h_parted x_g_count x_g_kinds x_g_wills x_g_starts x_g_code x_g_stack x_g_kl x_g_wl x_g_sl x_g_cl x_nr)) := by
  unfold X6_readCondition_b at hf
  refine MC.ofI pn_X6 (Nat.le_of_ble_eq_true rfl) ?_
  intro p e s m args below meth c A Q ls cx hR hw hl
  have hx := cx.1
  have hb := cx.2.1
  have hl : lv_has ls 3 [(0, .ref (a 97)), (1, .int v1)] := hl
  refine lv_aload_n hx hb dX6_readCondition_0 rfl (lv_at hl 0 rfl) ?_
  refine lv_iload_n hx hb dX6_readCondition_1 rfl (lv_at hl 1 rfl) ?_
  obtain ⟨r1, h2, hf⟩ := bnS hf
  refine calVi cx hw hl.1 (hF1 h2) q_621 k_X6_readAll rfl rv_text rfl dX6_readCondition_2 rfl (Nat.le_of_ble_eq_true rfl) ⟨by show _ ≤ 3 + 4 * (d + 1); omega, by show _ ≤ 64 * (3 + 4 * (d + 1)); omega⟩ ⟨Nat.le_refl _, Nat.le_refl _⟩ (fun H locs hw => ?_)
  refine lv_if_ne (tgt := 10) hx hb dX6_readCondition_5 (by decide) (fun hc => ?_) (fun hc => ?_)
  · have hf := ifF hf hc
    refine lv_iconst (v := 0) hx hb dX6_readCondition_10 (by decide) ?_
    refine lv_istore_n (lv' := [(2, .int (0 : Int32)), (0, .ref (a 97)), (1, .int v1)]) hx hb dX6_readCondition_11 rfl hl (by decide) rfl (fun ls hl => ?_)
    obtain ⟨K1, hK1, hf⟩ := jnS hf
    have kx1 : ∀ (o9 : Int32 × Int32 × (Nat → Int32) × Int32) (H : Heap) (locs : List Loc) (ls : Array Slot), K1 o9 = some res → Wd D A s (cW a ar t x_q0_dials x_q0_spots x_q0_skies x_q0_reports x_q0_count x_q0_chime x_q0_end x_q0_score x_q0_reportCount x_q0_z x_q0_rules x_q0_shades x_q0_facts x_q1_dials x_q1_spots x_q1_skies x_q1_reports x_q1_count x_q1_chime x_q1_end x_q1_score x_q1_reportCount x_q1_z x_q1_rules x_q1_shades x_q1_facts x_q2_dials x_q2_spots x_q2_skies x_q2_reports x_q2_count x_q2_chime x_q2_end x_q2_score x_q2_reportCount x_q2_z x_q2_rules x_q2_shades x_q2_facts x_isKept x_marks x_p_first x_p_steps x_p_most x_p_many x_p_fewest x_p_everRight x_p_opening x_p_rows x_p_rowCount x_p_acts x_p_marks x_p_deepest x_p_wanted x_t_length x_t_tape x_t_words x_t_places o9.2.1 x_t_kinds x_t_wills x_t_starts o9.2.2.1 x_t_count o9.2.2.2 x_h_sorts x_h_lengths x_h_items x_h_held x_h_things x_h_sizes x_h_bodies x_h_traced x_h_number x_h_spot x_h_parted x_g_count x_g_kinds x_g_wills x_g_starts x_g_code x_g_stack x_g_kl x_g_wl x_g_sl x_g_cl x_nr) H locs → lv_has ls 3 [(0, .ref (a 97)), (1, .int v1), (2, .int o9.1)] → W p l e (rmz (3 + 4 * (d + 1)) 0 0) s m args below meth c H locs 0 0 Q (F0 m 52 ls []) := by
      intro o9 H locs ls hf hw hl
      have hf := hK1 _ hf
      refine lv_iconst (v := 1) hx hb dX6_readCondition_52 (by decide) ?_
      have hf := Option.some.inj hf
      subst hf
      exact hR _ _ _ _ _ _ hw rfl ⟨rfl, rfl⟩ dX6_readCondition_53
    have wL1 : ∀ (k : Nat) {v1 : Int32} {v2 : Int32} {x_t_at : Int32} {x_t_code : Nat → Int32} {x_t_size : Int32} {H : Heap} {locs : List Loc} {ls : Array Slot}, X6_readCondition_L1 n F x_t_words v1 K1 k v2 x_t_at x_t_code x_t_size = some res → Wd D A s (cW a ar t x_q0_dials x_q0_spots x_q0_skies x_q0_reports x_q0_count x_q0_chime x_q0_end x_q0_score x_q0_reportCount x_q0_z x_q0_rules x_q0_shades x_q0_facts x_q1_dials x_q1_spots x_q1_skies x_q1_reports x_q1_count x_q1_chime x_q1_end x_q1_score x_q1_reportCount x_q1_z x_q1_rules x_q1_shades x_q1_facts x_q2_dials x_q2_spots x_q2_skies x_q2_reports x_q2_count x_q2_chime x_q2_end x_q2_score x_q2_reportCount x_q2_z x_q2_rules x_q2_shades x_q2_facts x_isKept x_marks x_p_first x_p_steps x_p_most x_p_many x_p_fewest x_p_everRight x_p_opening x_p_rows x_p_rowCount x_p_acts x_p_marks x_p_deepest x_p_wanted x_t_length x_t_tape x_t_words x_t_places x_t_at x_t_kinds x_t_wills x_t_starts x_t_code x_t_count x_t_size x_h_sorts x_h_lengths x_h_items x_h_held x_h_things x_h_sizes x_h_bodies x_h_traced x_h_number x_h_spot x_h_parted x_g_count x_g_kinds x_g_wills x_g_starts x_g_code x_g_stack x_g_kl x_g_wl x_g_sl x_g_cl x_nr) H locs → lv_has ls 3 [(0, .ref (a 97)), (1, .int v1), (2, .int v2)] → (∀ (o : Int32 × Int32 × (Nat → Int32) × Int32) (H : Heap) (locs : List Loc) (ls : Array Slot), K1 o = some res → Wd D A s (cW a ar t x_q0_dials x_q0_spots x_q0_skies x_q0_reports x_q0_count x_q0_chime x_q0_end x_q0_score x_q0_reportCount x_q0_z x_q0_rules x_q0_shades x_q0_facts x_q1_dials x_q1_spots x_q1_skies x_q1_reports x_q1_count x_q1_chime x_q1_end x_q1_score x_q1_reportCount x_q1_z x_q1_rules x_q1_shades x_q1_facts x_q2_dials x_q2_spots x_q2_skies x_q2_reports x_q2_count x_q2_chime x_q2_end x_q2_score x_q2_reportCount x_q2_z x_q2_rules x_q2_shades x_q2_facts x_isKept x_marks x_p_first x_p_steps x_p_most x_p_many x_p_fewest x_p_everRight x_p_opening x_p_rows x_p_rowCount x_p_acts x_p_marks x_p_deepest x_p_wanted x_t_length x_t_tape x_t_words x_t_places o.2.1 x_t_kinds x_t_wills x_t_starts o.2.2.1 x_t_count o.2.2.2 x_h_sorts x_h_lengths x_h_items x_h_held x_h_things x_h_sizes x_h_bodies x_h_traced x_h_number x_h_spot x_h_parted x_g_count x_g_kinds x_g_wills x_g_starts x_g_code x_g_stack x_g_kl x_g_wl x_g_sl x_g_cl x_nr) H locs → lv_has ls 3 [(0, .ref (a 97)), (1, .int v1), (2, .int o.1)] → W p l e (rmz (3 + 4 * (d + 1)) 0 0) s m args below meth c H locs 0 0 Q (F0 m 52 ls [])) → W p l e (rmz (3 + 4 * (d + 1)) 0 0) s m args below meth c H locs 0 0 Q (F0 m 12 ls []) := by
      clear hf hw hl hK1 kx1
      intro k
      induction k with
      | zero => intro v1 v2 x_t_at x_t_code x_t_size H locs ls hf hw hl kx; simp [X6_readCondition_L1] at hf
      | succ k ih =>
        intro v1 v2 x_t_at x_t_code x_t_size H locs ls hf hw hl kx
        rw [X6_readCondition_L1] at hf
        refine lv_iload_n hx hb dX6_readCondition_12 rfl (lv_at hl 2 rfl) ?_
        refine lv_sipush (v := 200) hx hb dX6_readCondition_13 (by decide) ?_
        refine lv_icmp_ge (tgt := 52) hx hb dX6_readCondition_16 (by decide) (fun hc => ?_) (fun hc => ?_)
        · have hf := ifT hf hc
          exact kx _ _ _ _ hf hw (lv_sub hl [0, 1, 2] rfl)
        · have hf := ifF hf hc
          refine lv_aload_n hx hb dX6_readCondition_19 rfl (lv_at hl 0 rfl) ?_
          refine lv_sipush (v := 10010) hx hb dX6_readCondition_20 (by decide) ?_
          obtain ⟨r3, h4, hf⟩ := bnS hf
          refine calVi cx hw hl.1 (c_X6_takes h4) q_613 k_X6_takes rfl rv_text rfl dX6_readCondition_23 rfl (Nat.le_of_ble_eq_true rfl) ⟨by show _ ≤ 3 + 4 * (d + 1); omega, by show _ ≤ 64 * (3 + 4 * (d + 1)); omega⟩ ⟨Nat.le_refl _, Nat.le_refl _⟩ (fun H locs hw => ?_)
          refine lv_if_eq (tgt := 52) hx hb dX6_readCondition_26 (by decide) (fun hc => ?_) (fun hc => ?_)
          · have hf := ifT hf hc
            exact kx _ _ _ _ hf hw (lv_sub hl [0, 1, 2] rfl)
          · have hf := ifF hf hc
            refine lv_aload_n hx hb dX6_readCondition_29 rfl (lv_at hl 0 rfl) ?_
            refine lv_iload_n hx hb dX6_readCondition_30 rfl (lv_at hl 1 rfl) ?_
            obtain ⟨r5, h6, hf⟩ := bnS hf
            refine calVi cx hw hl.1 (hF1 h6) q_621 k_X6_readAll rfl rv_text rfl dX6_readCondition_31 rfl (Nat.le_of_ble_eq_true rfl) ⟨by show _ ≤ 3 + 4 * (d + 1); omega, by show _ ≤ 64 * (3 + 4 * (d + 1)); omega⟩ ⟨Nat.le_refl _, Nat.le_refl _⟩ (fun H locs hw => ?_)
            refine lv_if_ne (tgt := 39) hx hb dX6_readCondition_34 (by decide) (fun hc => ?_) (fun hc => ?_)
            · have hf := ifF hf hc
              refine lv_aload_n hx hb dX6_readCondition_39 rfl (lv_at hl 0 rfl) ?_
              refine lv_sipush (v := 10010) hx hb dX6_readCondition_40 (by decide) ?_
              obtain ⟨r7, h8, hf⟩ := bnS hf
              refine calVv cx hw hl.1 (c_X6_emit h8) q_637 k_X6_emit rfl rv_text rfl dX6_readCondition_43 rfl (Nat.le_of_ble_eq_true rfl) ⟨by show _ ≤ 3 + 4 * (d + 1); omega, by show _ ≤ 64 * (3 + 4 * (d + 1)); omega⟩ ⟨Nat.le_refl _, Nat.le_refl _⟩ (fun H locs hw => ?_)
              refine lv_iinc (v := (v2 + (1 : Int32))) (lv' := [(2, .int (v2 + (1 : Int32))), (0, .ref (a 97)), (1, .int v1)]) hx hb dX6_readCondition_46 hl (k := 2) rfl rfl (by decide) rfl (fun ls hl => ?_)
              refine lv_goto (tgt := 12) hx hb dX6_readCondition_49 (by decide) ?_
              exact ih hf hw (lv_sub hl [1, 2, 0] rfl) kx
            · have hf := ifT hf hc
              refine lv_iconst (v := 0) hx hb dX6_readCondition_37 (by decide) ?_
              have hf := Option.some.inj hf
              subst hf
              exact hR _ _ _ _ _ _ hw rfl ⟨rfl, rfl⟩ dX6_readCondition_38
    exact wL1 n hf hw (lv_sub hl [1, 2, 0] rfl) kx1
  · have hf := ifT hf hc
    refine lv_iconst (v := 0) hx hb dX6_readCondition_8 (by decide) ?_
    have hf := Option.some.inj hf
    subst hf
    exact hR _ _ _ _ _ _ hw rfl ⟨rfl, rfl⟩ dX6_readCondition_9
theorem cb_X6_readAll {F : Nat → (Nat → Int32) → Int32 → (Nat → Int32) → Int32 → Int32 → Option (Int32 × Int32 × (Nat → Int32) × Int32)} {d : Nat} (hF0 : ∀ {x_q0_dials : Nat → Nat → Int32} {x_q0_spots : Nat → Nat → Int32} {x_q0_skies : Nat → Int32} {x_q0_reports : Nat → Nat → Int32} {x_q0_count : Int32} {x_q0_chime : Int32} {x_q0_end : Int32} {x_q0_score : Int32} {x_q0_reportCount : Int32} {x_q0_z : Int32} {x_q0_rules : Nat} {x_q0_shades : Nat → Int32} {x_q0_facts : Nat → Int32} {x_q1_dials : Nat → Nat → Int32} {x_q1_spots : Nat → Nat → Int32} {x_q1_skies : Nat → Int32} {x_q1_reports : Nat → Nat → Int32} {x_q1_count : Int32} {x_q1_chime : Int32} {x_q1_end : Int32} {x_q1_score : Int32} {x_q1_reportCount : Int32} {x_q1_z : Int32} {x_q1_rules : Nat} {x_q1_shades : Nat → Int32} {x_q1_facts : Nat → Int32} {x_q2_dials : Nat → Nat → Int32} {x_q2_spots : Nat → Nat → Int32} {x_q2_skies : Nat → Int32} {x_q2_reports : Nat → Nat → Int32} {x_q2_count : Int32} {x_q2_chime : Int32} {x_q2_end : Int32} {x_q2_score : Int32} {x_q2_reportCount : Int32} {x_q2_z : Int32} {x_q2_rules : Nat} {x_q2_shades : Nat → Int32} {x_q2_facts : Nat → Int32} {x_isKept : Int32} {x_marks : Nat → Int32} {x_p_first : Nat → Int32} {x_p_steps : Int32} {x_p_most : Int32} {x_p_many : Int32} {x_p_fewest : Int32} {x_p_everRight : Int32} {x_p_opening : Int32} {x_p_rows : Nat → Nat → Int32} {x_p_rowCount : Int32} {x_p_acts : Nat → Int32} {x_p_marks : Nat → Nat → Int32} {x_p_deepest : Int32} {x_p_wanted : Int32} {x_t_length : Int32} {x_t_tape : Nat → Int32} {x_t_words : Nat → Int32} {x_t_places : Nat → Int32} {x_t_at : Int32} {x_t_kinds : Nat → Int32} {x_t_wills : Nat → Int32} {x_t_starts : Nat → Int32} {x_t_code : Nat → Int32} {x_t_count : Int32} {x_t_size : Int32} {x_h_sorts : Nat → Int32} {x_h_lengths : Nat → Int32} {x_h_items : Nat → Nat → Int32} {x_h_held : Nat → Int32} {x_h_things : Nat → Int32} {x_h_sizes : Nat → Int32} {x_h_bodies : Nat → Int32} {x_h_traced : Int32} {x_h_number : Int32} {x_h_spot : Int32} {x_h_parted : Int32} {x_g_count : Nat → Int32} {x_g_kinds : Nat → Nat → Int32} {x_g_wills : Nat → Nat → Int32} {x_g_starts : Nat → Nat → Int32} {x_g_code : Nat → Nat → Int32} {x_g_stack : Nat → Nat → Int32} {x_g_kl : Nat → Nat} {x_g_wl : Nat → Nat} {x_g_sl : Nat → Nat} {x_g_cl : Nat → Nat} {x_nr : Nat} {v1 : Int32} {res : Int32 × Int32 × (Nat → Int32) × Int32}, F 0 x_t_words x_t_at x_t_code x_t_size v1 = some res → MC l E0 D t yX6_readCondition cX6_readCondition 3 (some .boolean) (3 + 4 * d) 0 0 [.ref (a 97), .int v1] (cW a ar t x_q0_dials x_q0_spots x_q0_skies x_q0_reports x_q0_count x_q0_chime x_q0_end x_q0_score x_q0_reportCount x_q0_z x_q0_rules x_q0_shades x_q0_facts x_q1_dials x_q1_spots x_q1_skies x_q1_reports x_q1_count x_q1_chime x_q1_end x_q1_score x_q1_reportCount x_q1_z x_q1_rules x_q1_shades x_q1_facts x_q2_dials x_q2_spots x_q2_skies x_q2_reports x_q2_count x_q2_chime x_q2_end x_q2_score x_q2_reportCount x_q2_z x_q2_rules x_q2_shades x_q2_facts x_isKept x_marks x_p_first x_p_steps x_p_most x_p_many x_p_fewest x_p_everRight x_p_opening x_p_rows x_p_rowCount x_p_acts x_p_marks x_p_deepest x_p_wanted x_t_length x_t_tape x_t_words x_t_places x_t_at x_t_kinds x_t_wills x_t_starts x_t_code x_t_count x_t_size x_h_sorts x_h_lengths x_h_items x_h_held x_h_things x_h_sizes x_h_bodies x_h_traced x_h_number x_h_spot x_h_parted x_g_count x_g_kinds x_g_wills x_g_starts x_g_code x_g_stack x_g_kl x_g_wl x_g_sl x_g_cl x_nr) (Qi res.1 (cW a ar t x_q0_dials x_q0_spots x_q0_skies x_q0_reports x_q0_count x_q0_chime x_q0_end x_q0_score x_q0_reportCount x_q0_z x_q0_rules x_q0_shades x_q0_facts x_q1_dials x_q1_spots x_q1_skies x_q1_reports x_q1_count x_q1_chime x_q1_end x_q1_score x_q1_reportCount x_q1_z x_q1_rules x_q1_shades x_q1_facts x_q2_dials x_q2_spots x_q2_skies x_q2_reports x_q2_count x_q2_chime x_q2_end x_q2_score x_q2_reportCount x_q2_z x_q2_rules x_q2_shades x_q2_facts x_isKept x_marks x_p_first x_p_steps x_p_most x_p_many x_p_fewest x_p_everRight x_p_opening x_p_rows x_p_rowCount x_p_acts x_p_marks x_p_deepest x_p_wanted x_t_length x_t_tape x_t_words x_t_places res.2.1 x_t_kinds x_t_wills x_t_starts res.2.2.1 x_t_count res.2.2.2 x_h_sorts x_h_lengths x_h_items x_h_held x_h_things x_h_sizes x_h_bodies x_h_traced x_h_number x_h_spot x_h_parted x_g_count x_g_kinds x_g_wills x_g_starts x_g_code x_g_stack x_g_kl x_g_wl x_g_sl x_g_cl x_nr))) (hF1 : ∀ {x_q0_dials : Nat → Nat → Int32} {x_q0_spots : Nat → Nat → Int32} {x_q0_skies : Nat → Int32} {x_q0_reports : Nat → Nat → Int32} {x_q0_count : Int32} {x_q0_chime : Int32} {x_q0_end : Int32} {x_q0_score : Int32} {x_q0_reportCount : Int32} {x_q0_z : Int32} {x_q0_rules : Nat} {x_q0_shades : Nat → Int32} {x_q0_facts : Nat → Int32} {x_q1_dials : Nat → Nat → Int32} {x_q1_spots : Nat → Nat → Int32} {x_q1_skies : Nat → Int32} {x_q1_reports : Nat → Nat → Int32} {x_q1_count : Int32} {x_q1_chime : Int32} {x_q1_end : Int32} {x_q1_score : Int32} {x_q1_reportCount : Int32} {x_q1_z : Int32} {x_q1_rules : Nat} {x_q1_shades : Nat → Int32} {x_q1_facts : Nat → Int32} {x_q2_dials : Nat → Nat → Int32} {x_q2_spots : Nat → Nat → Int32} {x_q2_skies : Nat → Int32} {x_q2_reports : Nat → Nat → Int32} {x_q2_count : Int32} {x_q2_chime : Int32} {x_q2_end : Int32} {x_q2_score : Int32} {x_q2_reportCount : Int32} {x_q2_z : Int32} {x_q2_rules : Nat} {x_q2_shades : Nat → Int32} {x_q2_facts : Nat → Int32} {x_isKept : Int32} {x_marks : Nat → Int32} {x_p_first : Nat → Int32} {x_p_steps : Int32} {x_p_most : Int32} {x_p_many : Int32} {x_p_fewest : Int32} {x_p_everRight : Int32} {x_p_opening : Int32} {x_p_rows : Nat → Nat → Int32} {x_p_rowCount : Int32} {x_p_acts : Nat → Int32} {x_p_marks : Nat → Nat → Int32} {x_p_deepest : Int32} {x_p_wanted : Int32} {x_t_length : Int32} {x_t_tape : Nat → Int32} {x_t_words : Nat → Int32} {x_t_places : Nat → Int32} {x_t_at : Int32} {x_t_kinds : Nat → Int32} {x_t_wills : Nat → Int32} {x_t_starts : Nat → Int32} {x_t_code : Nat → Int32} {x_t_count : Int32} {x_t_size : Int32} {x_h_sorts : Nat → Int32} {x_h_lengths : Nat → Int32} {x_h_items : Nat → Nat → Int32} {x_h_held : Nat → Int32} {x_h_things : Nat → Int32} {x_h_sizes : Nat → Int32} {x_h_bodies : Nat → Int32} {x_h_traced : Int32} {x_h_number : Int32} {x_h_spot : Int32} {x_h_parted : Int32} {x_g_count : Nat → Int32} {x_g_kinds : Nat → Nat → Int32} {x_g_wills : Nat → Nat → Int32} {x_g_starts : Nat → Nat → Int32} {x_g_code : Nat → Nat → Int32} {x_g_stack : Nat → Nat → Int32} {x_g_kl : Nat → Nat} {x_g_wl : Nat → Nat} {x_g_sl : Nat → Nat} {x_g_cl : Nat → Nat} {x_nr : Nat} {v1 : Int32} {res : Int32 × Int32 × (Nat → Int32) × Int32}, F 1 x_t_words x_t_at x_t_code x_t_size v1 = some res → MC l E0 D t yX6_readAll cX6_readAll 3 (some .boolean) (3 + 4 * d) 0 0 [.ref (a 97), .int v1] (cW a ar t x_q0_dials x_q0_spots x_q0_skies x_q0_reports x_q0_count x_q0_chime x_q0_end x_q0_score x_q0_reportCount x_q0_z x_q0_rules x_q0_shades x_q0_facts x_q1_dials x_q1_spots x_q1_skies x_q1_reports x_q1_count x_q1_chime x_q1_end x_q1_score x_q1_reportCount x_q1_z x_q1_rules x_q1_shades x_q1_facts x_q2_dials x_q2_spots x_q2_skies x_q2_reports x_q2_count x_q2_chime x_q2_end x_q2_score x_q2_reportCount x_q2_z x_q2_rules x_q2_shades x_q2_facts x_isKept x_marks x_p_first x_p_steps x_p_most x_p_many x_p_fewest x_p_everRight x_p_opening x_p_rows x_p_rowCount x_p_acts x_p_marks x_p_deepest x_p_wanted x_t_length x_t_tape x_t_words x_t_places x_t_at x_t_kinds x_t_wills x_t_starts x_t_code x_t_count x_t_size x_h_sorts x_h_lengths x_h_items x_h_held x_h_things x_h_sizes x_h_bodies x_h_traced x_h_number x_h_spot x_h_parted x_g_count x_g_kinds x_g_wills x_g_starts x_g_code x_g_stack x_g_kl x_g_wl x_g_sl x_g_cl x_nr) (Qi res.1 (cW a ar t x_q0_dials x_q0_spots x_q0_skies x_q0_reports x_q0_count x_q0_chime x_q0_end x_q0_score x_q0_reportCount x_q0_z x_q0_rules x_q0_shades x_q0_facts x_q1_dials x_q1_spots x_q1_skies x_q1_reports x_q1_count x_q1_chime x_q1_end x_q1_score x_q1_reportCount x_q1_z x_q1_rules x_q1_shades x_q1_facts x_q2_dials x_q2_spots x_q2_skies x_q2_reports x_q2_count x_q2_chime x_q2_end x_q2_score x_q2_reportCount x_q2_z x_q2_rules x_q2_shades x_q2_facts x_isKept x_marks x_p_first x_p_steps x_p_most x_p_many x_p_fewest x_p_everRight x_p_opening x_p_rows x_p_rowCount x_p_acts x_p_marks x_p_deepest x_p_wanted x_t_length x_t_tape x_t_words x_t_places res.2.1 x_t_kinds x_t_wills x_t_starts res.2.2.1 x_t_count res.2.2.2 x_h_sorts x_h_lengths x_h_items x_h_held x_h_things x_h_sizes x_h_bodies x_h_traced x_h_number x_h_spot x_h_parted x_g_count x_g_kinds x_g_wills x_g_starts x_g_code x_g_stack x_g_kl x_g_wl x_g_sl x_g_cl x_nr))) (hF2 : ∀ {x_q0_dials : Nat → Nat → Int32} {x_q0_spots : Nat → Nat → Int32} {x_q0_skies : Nat → Int32} {x_q0_reports : Nat → Nat → Int32} {x_q0_count : Int32} {x_q0_chime : Int32} {x_q0_end : Int32} {x_q0_score : Int32} {x_q0_reportCount : Int32} {x_q0_z : Int32} {x_q0_rules : Nat} {x_q0_shades : Nat → Int32} {x_q0_facts : Nat → Int32} {x_q1_dials : Nat → Nat → Int32} {x_q1_spots : Nat → Nat → Int32} {x_q1_skies : Nat → Int32} {x_q1_reports : Nat → Nat → Int32} {x_q1_count : Int32} {x_q1_chime : Int32} {x_q1_end : Int32} {x_q1_score : Int32} {x_q1_reportCount : Int32} {x_q1_z : Int32} {x_q1_rules : Nat} {x_q1_shades : Nat → Int32} {x_q1_facts : Nat → Int32} {x_q2_dials : Nat → Nat → Int32} {x_q2_spots : Nat → Nat → Int32} {x_q2_skies : Nat → Int32} {x_q2_reports : Nat → Nat → Int32} {x_q2_count : Int32} {x_q2_chime : Int32} {x_q2_end : Int32} {x_q2_score : Int32} {x_q2_reportCount : Int32} {x_q2_z : Int32} {x_q2_rules : Nat} {x_q2_shades : Nat → Int32} {x_q2_facts : Nat → Int32} {x_isKept : Int32} {x_marks : Nat → Int32} {x_p_first : Nat → Int32} {x_p_steps : Int32} {x_p_most : Int32} {x_p_many : Int32} {x_p_fewest : Int32} {x_p_everRight : Int32} {x_p_opening : Int32} {x_p_rows : Nat → Nat → Int32} {x_p_rowCount : Int32} {x_p_acts : Nat → Int32} {x_p_marks : Nat → Nat → Int32} {x_p_deepest : Int32} {x_p_wanted : Int32} {x_t_length : Int32} {x_t_tape : Nat → Int32} {x_t_words : Nat → Int32} {x_t_places : Nat → Int32} {x_t_at : Int32} {x_t_kinds : Nat → Int32} {x_t_wills : Nat → Int32} {x_t_starts : Nat → Int32} {x_t_code : Nat → Int32} {x_t_count : Int32} {x_t_size : Int32} {x_h_sorts : Nat → Int32} {x_h_lengths : Nat → Int32} {x_h_items : Nat → Nat → Int32} {x_h_held : Nat → Int32} {x_h_things : Nat → Int32} {x_h_sizes : Nat → Int32} {x_h_bodies : Nat → Int32} {x_h_traced : Int32} {x_h_number : Int32} {x_h_spot : Int32} {x_h_parted : Int32} {x_g_count : Nat → Int32} {x_g_kinds : Nat → Nat → Int32} {x_g_wills : Nat → Nat → Int32} {x_g_starts : Nat → Nat → Int32} {x_g_code : Nat → Nat → Int32} {x_g_stack : Nat → Nat → Int32} {x_g_kl : Nat → Nat} {x_g_wl : Nat → Nat} {x_g_sl : Nat → Nat} {x_g_cl : Nat → Nat} {x_nr : Nat} {v1 : Int32} {res : Int32 × Int32 × (Nat → Int32) × Int32}, F 2 x_t_words x_t_at x_t_code x_t_size v1 = some res → MC l E0 D t yX6_readOne cX6_readOne 4 (some .boolean) (3 + 4 * d) 0 0 [.ref (a 97), .int v1] (cW a ar t x_q0_dials x_q0_spots x_q0_skies x_q0_reports x_q0_count x_q0_chime x_q0_end x_q0_score x_q0_reportCount x_q0_z x_q0_rules x_q0_shades x_q0_facts x_q1_dials x_q1_spots x_q1_skies x_q1_reports x_q1_count x_q1_chime x_q1_end x_q1_score x_q1_reportCount x_q1_z x_q1_rules x_q1_shades x_q1_facts x_q2_dials x_q2_spots x_q2_skies x_q2_reports x_q2_count x_q2_chime x_q2_end x_q2_score x_q2_reportCount x_q2_z x_q2_rules x_q2_shades x_q2_facts x_isKept x_marks x_p_first x_p_steps x_p_most x_p_many x_p_fewest x_p_everRight x_p_opening x_p_rows x_p_rowCount x_p_acts x_p_marks x_p_deepest x_p_wanted x_t_length x_t_tape x_t_words x_t_places x_t_at x_t_kinds x_t_wills x_t_starts x_t_code x_t_count x_t_size x_h_sorts x_h_lengths x_h_items x_h_held x_h_things x_h_sizes x_h_bodies x_h_traced x_h_number x_h_spot x_h_parted x_g_count x_g_kinds x_g_wills x_g_starts x_g_code x_g_stack x_g_kl x_g_wl x_g_sl x_g_cl x_nr) (Qi res.1 (cW a ar t x_q0_dials x_q0_spots x_q0_skies x_q0_reports x_q0_count x_q0_chime x_q0_end x_q0_score x_q0_reportCount x_q0_z x_q0_rules x_q0_shades x_q0_facts x_q1_dials x_q1_spots x_q1_skies x_q1_reports x_q1_count x_q1_chime x_q1_end x_q1_score x_q1_reportCount x_q1_z x_q1_rules x_q1_shades x_q1_facts x_q2_dials x_q2_spots x_q2_skies x_q2_reports x_q2_count x_q2_chime x_q2_end x_q2_score x_q2_reportCount x_q2_z x_q2_rules x_q2_shades x_q2_facts x_isKept x_marks x_p_first x_p_steps x_p_most x_p_many x_p_fewest x_p_everRight x_p_opening x_p_rows x_p_rowCount x_p_acts x_p_marks x_p_deepest x_p_wanted x_t_length x_t_tape x_t_words x_t_places res.2.1 x_t_kinds x_t_wills x_t_starts res.2.2.1 x_t_count res.2.2.2 x_h_sorts x_h_lengths x_h_items x_h_held x_h_things x_h_sizes x_h_bodies x_h_traced x_h_number x_h_spot x_h_parted x_g_count x_g_kinds x_g_wills x_g_starts x_g_code x_g_stack x_g_kl x_g_wl x_g_sl x_g_cl x_nr))) (hF3 : ∀ {x_q0_dials : Nat → Nat → Int32} {x_q0_spots : Nat → Nat → Int32} {x_q0_skies : Nat → Int32} {x_q0_reports : Nat → Nat → Int32} {x_q0_count : Int32} {x_q0_chime : Int32} {x_q0_end : Int32} {x_q0_score : Int32} {x_q0_reportCount : Int32} {x_q0_z : Int32} {x_q0_rules : Nat} {x_q0_shades : Nat → Int32} {x_q0_facts : Nat → Int32} {x_q1_dials : Nat → Nat → Int32} {x_q1_spots : Nat → Nat → Int32} {x_q1_skies : Nat → Int32} {x_q1_reports : Nat → Nat → Int32} {x_q1_count : Int32} {x_q1_chime : Int32} {x_q1_end : Int32} {x_q1_score : Int32} {x_q1_reportCount : Int32} {x_q1_z : Int32} {x_q1_rules : Nat} {x_q1_shades : Nat → Int32} {x_q1_facts : Nat → Int32} {x_q2_dials : Nat → Nat → Int32} {x_q2_spots : Nat → Nat → Int32} {x_q2_skies : Nat → Int32} {x_q2_reports : Nat → Nat → Int32} {x_q2_count : Int32} {x_q2_chime : Int32} {x_q2_end : Int32} {x_q2_score : Int32} {x_q2_reportCount : Int32} {x_q2_z : Int32} {x_q2_rules : Nat} {x_q2_shades : Nat → Int32} {x_q2_facts : Nat → Int32} {x_isKept : Int32} {x_marks : Nat → Int32} {x_p_first : Nat → Int32} {x_p_steps : Int32} {x_p_most : Int32} {x_p_many : Int32} {x_p_fewest : Int32} {x_p_everRight : Int32} {x_p_opening : Int32} {x_p_rows : Nat → Nat → Int32} {x_p_rowCount : Int32} {x_p_acts : Nat → Int32} {x_p_marks : Nat → Nat → Int32} {x_p_deepest : Int32} {x_p_wanted : Int32} {x_t_length : Int32} {x_t_tape : Nat → Int32} {x_t_words : Nat → Int32} {x_t_places : Nat → Int32} {x_t_at : Int32} {x_t_kinds : Nat → Int32} {x_t_wills : Nat → Int32} {x_t_starts : Nat → Int32} {x_t_code : Nat → Int32} {x_t_count : Int32} {x_t_size : Int32} {x_h_sorts : Nat → Int32} {x_h_lengths : Nat → Int32} {x_h_items : Nat → Nat → Int32} {x_h_held : Nat → Int32} {x_h_things : Nat → Int32} {x_h_sizes : Nat → Int32} {x_h_bodies : Nat → Int32} {x_h_traced : Int32} {x_h_number : Int32} {x_h_spot : Int32} {x_h_parted : Int32} {x_g_count : Nat → Int32} {x_g_kinds : Nat → Nat → Int32} {x_g_wills : Nat → Nat → Int32} {x_g_starts : Nat → Nat → Int32} {x_g_code : Nat → Nat → Int32} {x_g_stack : Nat → Nat → Int32} {x_g_kl : Nat → Nat} {x_g_wl : Nat → Nat} {x_g_sl : Nat → Nat} {x_g_cl : Nat → Nat} {x_nr : Nat} {v1 : Int32} {res : Int32 × Int32 × (Nat → Int32) × Int32}, F 3 x_t_words x_t_at x_t_code x_t_size v1 = some res → MC l E0 D t yX6_readOpened cX6_readOpened 2 (some .boolean) (3 + 4 * d) 0 0 [.ref (a 97), .int v1] (cW a ar t x_q0_dials x_q0_spots x_q0_skies x_q0_reports x_q0_count x_q0_chime x_q0_end x_q0_score x_q0_reportCount x_q0_z x_q0_rules x_q0_shades x_q0_facts x_q1_dials x_q1_spots x_q1_skies x_q1_reports x_q1_count x_q1_chime x_q1_end x_q1_score x_q1_reportCount x_q1_z x_q1_rules x_q1_shades x_q1_facts x_q2_dials x_q2_spots x_q2_skies x_q2_reports x_q2_count x_q2_chime x_q2_end x_q2_score x_q2_reportCount x_q2_z x_q2_rules x_q2_shades x_q2_facts x_isKept x_marks x_p_first x_p_steps x_p_most x_p_many x_p_fewest x_p_everRight x_p_opening x_p_rows x_p_rowCount x_p_acts x_p_marks x_p_deepest x_p_wanted x_t_length x_t_tape x_t_words x_t_places x_t_at x_t_kinds x_t_wills x_t_starts x_t_code x_t_count x_t_size x_h_sorts x_h_lengths x_h_items x_h_held x_h_things x_h_sizes x_h_bodies x_h_traced x_h_number x_h_spot x_h_parted x_g_count x_g_kinds x_g_wills x_g_starts x_g_code x_g_stack x_g_kl x_g_wl x_g_sl x_g_cl x_nr) (Qi res.1 (cW a ar t x_q0_dials x_q0_spots x_q0_skies x_q0_reports x_q0_count x_q0_chime x_q0_end x_q0_score x_q0_reportCount x_q0_z x_q0_rules x_q0_shades x_q0_facts x_q1_dials x_q1_spots x_q1_skies x_q1_reports x_q1_count x_q1_chime x_q1_end x_q1_score x_q1_reportCount x_q1_z x_q1_rules x_q1_shades x_q1_facts x_q2_dials x_q2_spots x_q2_skies x_q2_reports x_q2_count x_q2_chime x_q2_end x_q2_score x_q2_reportCount x_q2_z x_q2_rules x_q2_shades x_q2_facts x_isKept x_marks x_p_first x_p_steps x_p_most x_p_many x_p_fewest x_p_everRight x_p_opening x_p_rows x_p_rowCount x_p_acts x_p_marks x_p_deepest x_p_wanted x_t_length x_t_tape x_t_words x_t_places res.2.1 x_t_kinds x_t_wills x_t_starts res.2.2.1 x_t_count res.2.2.2 x_h_sorts x_h_lengths x_h_items x_h_held x_h_things x_h_sizes x_h_bodies x_h_traced x_h_number x_h_spot x_h_parted x_g_count x_g_kinds x_g_wills x_g_starts x_g_code x_g_stack x_g_kl x_g_wl x_g_sl x_g_cl x_nr))) {v1 : Int32} {res : Int32 × Int32 × (Nat → Int32) × Int32} (hf : X6_readAll_b n F x_t_words x_t_at x_t_code x_t_size v1 = some res) : MC l E0 D t yX6_readAll cX6_readAll 3 (some .boolean) (3 + 4 * (d + 1)) 0 0 [.ref (a 97), .int v1] (cW a ar t x_q0_dials x_q0_spots x_q0_skies x_q0_reports x_q0_count x_q0_chime x_q0_end x_q0_score x_q0_reportCount x_q0_z x_q0_rules x_q0_shades x_q0_facts x_q1_dials x_q1_spots x_q1_skies x_q1_reports x_q1_count x_q1_chime x_q1_end x_q1_score x_q1_reportCount x_q1_z x_q1_rules x_q1_shades x_q1_facts x_q2_dials x_q2_spots x_q2_skies x_q2_reports x_q2_count x_q2_chime x_q2_end x_q2_score x_q2_reportCount x_q2_z x_q2_rules x_q2_shades x_q2_facts x_isKept x_marks x_p_first x_p_steps x_p_most x_p_many x_p_fewest x_p_everRight x_p_opening x_p_rows x_p_rowCount x_p_acts x_p_marks x_p_deepest x_p_wanted x_t_length x_t_tape x_t_words x_t_places x_t_at x_t_kinds x_t_wills x_t_starts x_t_code x_t_count x_t_size x_h_sorts x_h_lengths x_h_items x_h_held x_h_things x_h_sizes x_h_bodies x_h_traced x_h_number x_h_spot x_h_parted x_g_count x_g_kinds x_g_wills x_g_starts x_g_code x_g_stack x_g_kl x_g_wl x_g_sl x_g_cl x_nr) (Qi res.1 (cW a ar t x_q0_dials x_q0_spots x_q0_skies x_q0_reports x_q0_count x_q0_chime x_q0_end x_q0_score x_q0_reportCount x_q0_z x_q0_rules x_q0_shades x_q0_facts x_q1_dials x_q1_spots x_q1_skies x_q1_reports x_q1_count x_q1_chime x_q1_end x_q1_score x_q1_reportCount x_q1_z x_q1_rules x_q1_shades x_q1_facts x_q2_dials x_q2_spots x_q2_skies x_q2_reports x_q2_count x_q2_chime x_q2_end x_q2_score x_q2_reportCount x_q2_z x_q2_rules x_q2_shades x_q2_facts x_isKept x_marks x_p_first x_p_steps x_p_most x_p_many x_p_fewest x_p_everRight x_p_opening x_p_rows x_p_rowCount x_p_acts x_p_marks x_p_deepest x_p_wanted x_t_length x_t_tape x_t_words x_t_places res.2.1 x_t_kinds x_t_wills x_t_starts res.2.2.1 x_t_count res.2.2.2 x_h_sorts x_h_lengths x_h_items x_h_held x_h_things x_h_sizes x_h_bodies x_h_traced x_h_number x_h_spot x_h_parted x_g_count x_g_kinds x_g_wills x_g_starts x_g_code x_g_stack x_g_kl x_g_wl x_g_sl x_g_cl x_nr)) := by
  unfold X6_readAll_b at hf
  refine MC.ofI pn_X6 (Nat.le_of_ble_eq_true rfl) ?_
  intro p e s m args below meth c A Q ls cx hR hw hl
  have hx := cx.1
  have hb := cx.2.1
  have hl : lv_has ls 3 [(0, .ref (a 97)), (1, .int v1)] := hl
  refine lv_aload_n hx hb dX6_readAll_0 rfl (lv_at hl 0 rfl) ?_
  refine lv_iload_n hx hb dX6_readAll_1 rfl (lv_at hl 1 rfl) ?_
  obtain ⟨r1, h2, hf⟩ := bnS hf
  refine calVi cx hw hl.1 (hF2 h2) q_625 k_X6_readOne rfl rv_text rfl dX6_readAll_2 rfl (Nat.le_of_ble_eq_true rfl) ⟨by show _ ≤ 3 + 4 * (d + 1); omega, by show _ ≤ 64 * (3 + 4 * (d + 1)); omega⟩ ⟨Nat.le_refl _, Nat.le_refl _⟩ (fun H locs hw => ?_)
  refine lv_if_ne (tgt := 10) hx hb dX6_readAll_5 (by decide) (fun hc => ?_) (fun hc => ?_)
  · have hf := ifF hf hc
    refine lv_iconst (v := 0) hx hb dX6_readAll_10 (by decide) ?_
    refine lv_istore_n (lv' := [(2, .int (0 : Int32)), (0, .ref (a 97)), (1, .int v1)]) hx hb dX6_readAll_11 rfl hl (by decide) rfl (fun ls hl => ?_)
    obtain ⟨K1, hK1, hf⟩ := jnS hf
    have kx1 : ∀ (o9 : Int32 × Int32 × (Nat → Int32) × Int32) (H : Heap) (locs : List Loc) (ls : Array Slot), K1 o9 = some res → Wd D A s (cW a ar t x_q0_dials x_q0_spots x_q0_skies x_q0_reports x_q0_count x_q0_chime x_q0_end x_q0_score x_q0_reportCount x_q0_z x_q0_rules x_q0_shades x_q0_facts x_q1_dials x_q1_spots x_q1_skies x_q1_reports x_q1_count x_q1_chime x_q1_end x_q1_score x_q1_reportCount x_q1_z x_q1_rules x_q1_shades x_q1_facts x_q2_dials x_q2_spots x_q2_skies x_q2_reports x_q2_count x_q2_chime x_q2_end x_q2_score x_q2_reportCount x_q2_z x_q2_rules x_q2_shades x_q2_facts x_isKept x_marks x_p_first x_p_steps x_p_most x_p_many x_p_fewest x_p_everRight x_p_opening x_p_rows x_p_rowCount x_p_acts x_p_marks x_p_deepest x_p_wanted x_t_length x_t_tape x_t_words x_t_places o9.2.1 x_t_kinds x_t_wills x_t_starts o9.2.2.1 x_t_count o9.2.2.2 x_h_sorts x_h_lengths x_h_items x_h_held x_h_things x_h_sizes x_h_bodies x_h_traced x_h_number x_h_spot x_h_parted x_g_count x_g_kinds x_g_wills x_g_starts x_g_code x_g_stack x_g_kl x_g_wl x_g_sl x_g_cl x_nr) H locs → lv_has ls 3 [(0, .ref (a 97)), (1, .int v1), (2, .int o9.1)] → W p l e (rmz (3 + 4 * (d + 1)) 0 0) s m args below meth c H locs 0 0 Q (F0 m 52 ls []) := by
      intro o9 H locs ls hf hw hl
      have hf := hK1 _ hf
      refine lv_iconst (v := 1) hx hb dX6_readAll_52 (by decide) ?_
      have hf := Option.some.inj hf
      subst hf
      exact hR _ _ _ _ _ _ hw rfl ⟨rfl, rfl⟩ dX6_readAll_53
    have wL1 : ∀ (k : Nat) {v1 : Int32} {v2 : Int32} {x_t_at : Int32} {x_t_code : Nat → Int32} {x_t_size : Int32} {H : Heap} {locs : List Loc} {ls : Array Slot}, X6_readAll_L1 n F x_t_words v1 K1 k v2 x_t_at x_t_code x_t_size = some res → Wd D A s (cW a ar t x_q0_dials x_q0_spots x_q0_skies x_q0_reports x_q0_count x_q0_chime x_q0_end x_q0_score x_q0_reportCount x_q0_z x_q0_rules x_q0_shades x_q0_facts x_q1_dials x_q1_spots x_q1_skies x_q1_reports x_q1_count x_q1_chime x_q1_end x_q1_score x_q1_reportCount x_q1_z x_q1_rules x_q1_shades x_q1_facts x_q2_dials x_q2_spots x_q2_skies x_q2_reports x_q2_count x_q2_chime x_q2_end x_q2_score x_q2_reportCount x_q2_z x_q2_rules x_q2_shades x_q2_facts x_isKept x_marks x_p_first x_p_steps x_p_most x_p_many x_p_fewest x_p_everRight x_p_opening x_p_rows x_p_rowCount x_p_acts x_p_marks x_p_deepest x_p_wanted x_t_length x_t_tape x_t_words x_t_places x_t_at x_t_kinds x_t_wills x_t_starts x_t_code x_t_count x_t_size x_h_sorts x_h_lengths x_h_items x_h_held x_h_things x_h_sizes x_h_bodies x_h_traced x_h_number x_h_spot x_h_parted x_g_count x_g_kinds x_g_wills x_g_starts x_g_code x_g_stack x_g_kl x_g_wl x_g_sl x_g_cl x_nr) H locs → lv_has ls 3 [(0, .ref (a 97)), (1, .int v1), (2, .int v2)] → (∀ (o : Int32 × Int32 × (Nat → Int32) × Int32) (H : Heap) (locs : List Loc) (ls : Array Slot), K1 o = some res → Wd D A s (cW a ar t x_q0_dials x_q0_spots x_q0_skies x_q0_reports x_q0_count x_q0_chime x_q0_end x_q0_score x_q0_reportCount x_q0_z x_q0_rules x_q0_shades x_q0_facts x_q1_dials x_q1_spots x_q1_skies x_q1_reports x_q1_count x_q1_chime x_q1_end x_q1_score x_q1_reportCount x_q1_z x_q1_rules x_q1_shades x_q1_facts x_q2_dials x_q2_spots x_q2_skies x_q2_reports x_q2_count x_q2_chime x_q2_end x_q2_score x_q2_reportCount x_q2_z x_q2_rules x_q2_shades x_q2_facts x_isKept x_marks x_p_first x_p_steps x_p_most x_p_many x_p_fewest x_p_everRight x_p_opening x_p_rows x_p_rowCount x_p_acts x_p_marks x_p_deepest x_p_wanted x_t_length x_t_tape x_t_words x_t_places o.2.1 x_t_kinds x_t_wills x_t_starts o.2.2.1 x_t_count o.2.2.2 x_h_sorts x_h_lengths x_h_items x_h_held x_h_things x_h_sizes x_h_bodies x_h_traced x_h_number x_h_spot x_h_parted x_g_count x_g_kinds x_g_wills x_g_starts x_g_code x_g_stack x_g_kl x_g_wl x_g_sl x_g_cl x_nr) H locs → lv_has ls 3 [(0, .ref (a 97)), (1, .int v1), (2, .int o.1)] → W p l e (rmz (3 + 4 * (d + 1)) 0 0) s m args below meth c H locs 0 0 Q (F0 m 52 ls [])) → W p l e (rmz (3 + 4 * (d + 1)) 0 0) s m args below meth c H locs 0 0 Q (F0 m 12 ls []) := by
      clear hf hw hl hK1 kx1
      intro k
      induction k with
      | zero => intro v1 v2 x_t_at x_t_code x_t_size H locs ls hf hw hl kx; simp [X6_readAll_L1] at hf
      | succ k ih =>
        intro v1 v2 x_t_at x_t_code x_t_size H locs ls hf hw hl kx
        rw [X6_readAll_L1] at hf
        refine lv_iload_n hx hb dX6_readAll_12 rfl (lv_at hl 2 rfl) ?_
        refine lv_sipush (v := 200) hx hb dX6_readAll_13 (by decide) ?_
        refine lv_icmp_ge (tgt := 52) hx hb dX6_readAll_16 (by decide) (fun hc => ?_) (fun hc => ?_)
        · have hf := ifT hf hc
          exact kx _ _ _ _ hf hw (lv_sub hl [0, 1, 2] rfl)
        · have hf := ifF hf hc
          refine lv_aload_n hx hb dX6_readAll_19 rfl (lv_at hl 0 rfl) ?_
          refine lv_sipush (v := 10009) hx hb dX6_readAll_20 (by decide) ?_
          obtain ⟨r3, h4, hf⟩ := bnS hf
          refine calVi cx hw hl.1 (c_X6_takes h4) q_613 k_X6_takes rfl rv_text rfl dX6_readAll_23 rfl (Nat.le_of_ble_eq_true rfl) ⟨by show _ ≤ 3 + 4 * (d + 1); omega, by show _ ≤ 64 * (3 + 4 * (d + 1)); omega⟩ ⟨Nat.le_refl _, Nat.le_refl _⟩ (fun H locs hw => ?_)
          refine lv_if_eq (tgt := 52) hx hb dX6_readAll_26 (by decide) (fun hc => ?_) (fun hc => ?_)
          · have hf := ifT hf hc
            exact kx _ _ _ _ hf hw (lv_sub hl [0, 1, 2] rfl)
          · have hf := ifF hf hc
            refine lv_aload_n hx hb dX6_readAll_29 rfl (lv_at hl 0 rfl) ?_
            refine lv_iload_n hx hb dX6_readAll_30 rfl (lv_at hl 1 rfl) ?_
            obtain ⟨r5, h6, hf⟩ := bnS hf
            refine calVi cx hw hl.1 (hF2 h6) q_625 k_X6_readOne rfl rv_text rfl dX6_readAll_31 rfl (Nat.le_of_ble_eq_true rfl) ⟨by show _ ≤ 3 + 4 * (d + 1); omega, by show _ ≤ 64 * (3 + 4 * (d + 1)); omega⟩ ⟨Nat.le_refl _, Nat.le_refl _⟩ (fun H locs hw => ?_)
            refine lv_if_ne (tgt := 39) hx hb dX6_readAll_34 (by decide) (fun hc => ?_) (fun hc => ?_)
            · have hf := ifF hf hc
              refine lv_aload_n hx hb dX6_readAll_39 rfl (lv_at hl 0 rfl) ?_
              refine lv_sipush (v := 10009) hx hb dX6_readAll_40 (by decide) ?_
              obtain ⟨r7, h8, hf⟩ := bnS hf
              refine calVv cx hw hl.1 (c_X6_emit h8) q_637 k_X6_emit rfl rv_text rfl dX6_readAll_43 rfl (Nat.le_of_ble_eq_true rfl) ⟨by show _ ≤ 3 + 4 * (d + 1); omega, by show _ ≤ 64 * (3 + 4 * (d + 1)); omega⟩ ⟨Nat.le_refl _, Nat.le_refl _⟩ (fun H locs hw => ?_)
              refine lv_iinc (v := (v2 + (1 : Int32))) (lv' := [(2, .int (v2 + (1 : Int32))), (0, .ref (a 97)), (1, .int v1)]) hx hb dX6_readAll_46 hl (k := 2) rfl rfl (by decide) rfl (fun ls hl => ?_)
              refine lv_goto (tgt := 12) hx hb dX6_readAll_49 (by decide) ?_
              exact ih hf hw (lv_sub hl [1, 2, 0] rfl) kx
            · have hf := ifT hf hc
              refine lv_iconst (v := 0) hx hb dX6_readAll_37 (by decide) ?_
              have hf := Option.some.inj hf
              subst hf
              exact hR _ _ _ _ _ _ hw rfl ⟨rfl, rfl⟩ dX6_readAll_38
    exact wL1 n hf hw (lv_sub hl [1, 2, 0] rfl) kx1
  · have hf := ifT hf hc
    refine lv_iconst (v := 0) hx hb dX6_readAll_8 (by decide) ?_
    have hf := Option.some.inj hf
    subst hf
    exact hR _ _ _ _ _ _ hw rfl ⟨rfl, rfl⟩ dX6_readAll_9
theorem cb_X6_readOne {F : Nat → (Nat → Int32) → Int32 → (Nat → Int32) → Int32 → Int32 → Option (Int32 × Int32 × (Nat → Int32) × Int32)} {d : Nat} (hF0 : ∀ {x_q0_dials : Nat → Nat → Int32} {x_q0_spots : Nat → Nat → Int32} {x_q0_skies : Nat → Int32} {x_q0_reports : Nat → Nat → Int32} {x_q0_count : Int32} {x_q0_chime : Int32} {x_q0_end : Int32} {x_q0_score : Int32} {x_q0_reportCount : Int32} {x_q0_z : Int32} {x_q0_rules : Nat} {x_q0_shades : Nat → Int32} {x_q0_facts : Nat → Int32} {x_q1_dials : Nat → Nat → Int32} {x_q1_spots : Nat → Nat → Int32} {x_q1_skies : Nat → Int32} {x_q1_reports : Nat → Nat → Int32} {x_q1_count : Int32} {x_q1_chime : Int32} {x_q1_end : Int32} {x_q1_score : Int32} {x_q1_reportCount : Int32} {x_q1_z : Int32} {x_q1_rules : Nat} {x_q1_shades : Nat → Int32} {x_q1_facts : Nat → Int32} {x_q2_dials : Nat → Nat → Int32} {x_q2_spots : Nat → Nat → Int32} {x_q2_skies : Nat → Int32} {x_q2_reports : Nat → Nat → Int32} {x_q2_count : Int32} {x_q2_chime : Int32} {x_q2_end : Int32} {x_q2_score : Int32} {x_q2_reportCount : Int32} {x_q2_z : Int32} {x_q2_rules : Nat} {x_q2_shades : Nat → Int32} {x_q2_facts : Nat → Int32} {x_isKept : Int32} {x_marks : Nat → Int32} {x_p_first : Nat → Int32} {x_p_steps : Int32} {x_p_most : Int32} {x_p_many : Int32} {x_p_fewest : Int32} {x_p_everRight : Int32} {x_p_opening : Int32} {x_p_rows : Nat → Nat → Int32} {x_p_rowCount : Int32} {x_p_acts : Nat → Int32} {x_p_marks : Nat → Nat → Int32} {x_p_deepest : Int32} {x_p_wanted : Int32} {x_t_length : Int32} {x_t_tape : Nat → Int32} {x_t_words : Nat → Int32} {x_t_places : Nat → Int32} {x_t_at : Int32} {x_t_kinds : Nat → Int32} {x_t_wills : Nat → Int32} {x_t_starts : Nat → Int32} {x_t_code : Nat → Int32} {x_t_count : Int32} {x_t_size : Int32} {x_h_sorts : Nat → Int32} {x_h_lengths : Nat → Int32} {x_h_items : Nat → Nat → Int32} {x_h_held : Nat → Int32} {x_h_things : Nat → Int32} {x_h_sizes : Nat → Int32} {x_h_bodies : Nat → Int32} {x_h_traced : Int32} {x_h_number : Int32} {x_h_spot : Int32} {x_h_parted : Int32} {x_g_count : Nat → Int32} {x_g_kinds : Nat → Nat → Int32} {x_g_wills : Nat → Nat → Int32} {x_g_starts : Nat → Nat → Int32} {x_g_code : Nat → Nat → Int32} {x_g_stack : Nat → Nat → Int32} {x_g_kl : Nat → Nat} {x_g_wl : Nat → Nat} {x_g_sl : Nat → Nat} {x_g_cl : Nat → Nat} {x_nr : Nat} {v1 : Int32} {res : Int32 × Int32 × (Nat → Int32) × Int32}, F 0 x_t_words x_t_at x_t_code x_t_size v1 = some res → MC l E0 D t yX6_readCondition cX6_readCondition 3 (some .boolean) (3 + 4 * d) 0 0 [.ref (a 97), .int v1] (cW a ar t x_q0_dials x_q0_spots x_q0_skies x_q0_reports x_q0_count x_q0_chime x_q0_end x_q0_score x_q0_reportCount x_q0_z x_q0_rules x_q0_shades x_q0_facts x_q1_dials x_q1_spots x_q1_skies x_q1_reports x_q1_count x_q1_chime x_q1_end x_q1_score x_q1_reportCount x_q1_z x_q1_rules x_q1_shades x_q1_facts x_q2_dials x_q2_spots x_q2_skies x_q2_reports x_q2_count x_q2_chime x_q2_end x_q2_score x_q2_reportCount x_q2_z x_q2_rules x_q2_shades x_q2_facts x_isKept x_marks x_p_first x_p_steps x_p_most x_p_many x_p_fewest x_p_everRight x_p_opening x_p_rows x_p_rowCount x_p_acts x_p_marks x_p_deepest x_p_wanted x_t_length x_t_tape x_t_words x_t_places x_t_at x_t_kinds x_t_wills x_t_starts x_t_code x_t_count x_t_size x_h_sorts x_h_lengths x_h_items x_h_held x_h_things x_h_sizes x_h_bodies x_h_traced x_h_number x_h_spot x_h_parted x_g_count x_g_kinds x_g_wills x_g_starts x_g_code x_g_stack x_g_kl x_g_wl x_g_sl x_g_cl x_nr) (Qi res.1 (cW a ar t x_q0_dials x_q0_spots x_q0_skies x_q0_reports x_q0_count x_q0_chime x_q0_end x_q0_score x_q0_reportCount x_q0_z x_q0_rules x_q0_shades x_q0_facts x_q1_dials x_q1_spots x_q1_skies x_q1_reports x_q1_count x_q1_chime x_q1_end x_q1_score x_q1_reportCount x_q1_z x_q1_rules x_q1_shades x_q1_facts x_q2_dials x_q2_spots x_q2_skies x_q2_reports x_q2_count x_q2_chime x_q2_end x_q2_score x_q2_reportCount x_q2_z x_q2_rules x_q2_shades x_q2_facts x_isKept x_marks x_p_first x_p_steps x_p_most x_p_many x_p_fewest x_p_everRight x_p_opening x_p_rows x_p_rowCount x_p_acts x_p_marks x_p_deepest x_p_wanted x_t_length x_t_tape x_t_words x_t_places res.2.1 x_t_kinds x_t_wills x_t_starts res.2.2.1 x_t_count res.2.2.2 x_h_sorts x_h_lengths x_h_items x_h_held x_h_things x_h_sizes x_h_bodies x_h_traced x_h_number x_h_spot x_h_parted x_g_count x_g_kinds x_g_wills x_g_starts x_g_code x_g_stack x_g_kl x_g_wl x_g_sl x_g_cl x_nr))) (hF1 : ∀ {x_q0_dials : Nat → Nat → Int32} {x_q0_spots : Nat → Nat → Int32} {x_q0_skies : Nat → Int32} {x_q0_reports : Nat → Nat → Int32} {x_q0_count : Int32} {x_q0_chime : Int32} {x_q0_end : Int32} {x_q0_score : Int32} {x_q0_reportCount : Int32} {x_q0_z : Int32} {x_q0_rules : Nat} {x_q0_shades : Nat → Int32} {x_q0_facts : Nat → Int32} {x_q1_dials : Nat → Nat → Int32} {x_q1_spots : Nat → Nat → Int32} {x_q1_skies : Nat → Int32} {x_q1_reports : Nat → Nat → Int32} {x_q1_count : Int32} {x_q1_chime : Int32} {x_q1_end : Int32} {x_q1_score : Int32} {x_q1_reportCount : Int32} {x_q1_z : Int32} {x_q1_rules : Nat} {x_q1_shades : Nat → Int32} {x_q1_facts : Nat → Int32} {x_q2_dials : Nat → Nat → Int32} {x_q2_spots : Nat → Nat → Int32} {x_q2_skies : Nat → Int32} {x_q2_reports : Nat → Nat → Int32} {x_q2_count : Int32} {x_q2_chime : Int32} {x_q2_end : Int32} {x_q2_score : Int32} {x_q2_reportCount : Int32} {x_q2_z : Int32} {x_q2_rules : Nat} {x_q2_shades : Nat → Int32} {x_q2_facts : Nat → Int32} {x_isKept : Int32} {x_marks : Nat → Int32} {x_p_first : Nat → Int32} {x_p_steps : Int32} {x_p_most : Int32} {x_p_many : Int32} {x_p_fewest : Int32} {x_p_everRight : Int32} {x_p_opening : Int32} {x_p_rows : Nat → Nat → Int32} {x_p_rowCount : Int32} {x_p_acts : Nat → Int32} {x_p_marks : Nat → Nat → Int32} {x_p_deepest : Int32} {x_p_wanted : Int32} {x_t_length : Int32} {x_t_tape : Nat → Int32} {x_t_words : Nat → Int32} {x_t_places : Nat → Int32} {x_t_at : Int32} {x_t_kinds : Nat → Int32} {x_t_wills : Nat → Int32} {x_t_starts : Nat → Int32} {x_t_code : Nat → Int32} {x_t_count : Int32} {x_t_size : Int32} {x_h_sorts : Nat → Int32} {x_h_lengths : Nat → Int32} {x_h_items : Nat → Nat → Int32} {x_h_held : Nat → Int32} {x_h_things : Nat → Int32} {x_h_sizes : Nat → Int32} {x_h_bodies : Nat → Int32} {x_h_traced : Int32} {x_h_number : Int32} {x_h_spot : Int32} {x_h_parted : Int32} {x_g_count : Nat → Int32} {x_g_kinds : Nat → Nat → Int32} {x_g_wills : Nat → Nat → Int32} {x_g_starts : Nat → Nat → Int32} {x_g_code : Nat → Nat → Int32} {x_g_stack : Nat → Nat → Int32} {x_g_kl : Nat → Nat} {x_g_wl : Nat → Nat} {x_g_sl : Nat → Nat} {x_g_cl : Nat → Nat} {x_nr : Nat} {v1 : Int32} {res : Int32 × Int32 × (Nat → Int32) × Int32}, F 1 x_t_words x_t_at x_t_code x_t_size v1 = some res → MC l E0 D t yX6_readAll cX6_readAll 3 (some .boolean) (3 + 4 * d) 0 0 [.ref (a 97), .int v1] (cW a ar t x_q0_dials x_q0_spots x_q0_skies x_q0_reports x_q0_count x_q0_chime x_q0_end x_q0_score x_q0_reportCount x_q0_z x_q0_rules x_q0_shades x_q0_facts x_q1_dials x_q1_spots x_q1_skies x_q1_reports x_q1_count x_q1_chime x_q1_end x_q1_score x_q1_reportCount x_q1_z x_q1_rules x_q1_shades x_q1_facts x_q2_dials x_q2_spots x_q2_skies x_q2_reports x_q2_count x_q2_chime x_q2_end x_q2_score x_q2_reportCount x_q2_z x_q2_rules x_q2_shades x_q2_facts x_isKept x_marks x_p_first x_p_steps x_p_most x_p_many x_p_fewest x_p_everRight x_p_opening x_p_rows x_p_rowCount x_p_acts x_p_marks x_p_deepest x_p_wanted x_t_length x_t_tape x_t_words x_t_places x_t_at x_t_kinds x_t_wills x_t_starts x_t_code x_t_count x_t_size x_h_sorts x_h_lengths x_h_items x_h_held x_h_things x_h_sizes x_h_bodies x_h_traced x_h_number x_h_spot x_h_parted x_g_count x_g_kinds x_g_wills x_g_starts x_g_code x_g_stack x_g_kl x_g_wl x_g_sl x_g_cl x_nr) (Qi res.1 (cW a ar t x_q0_dials x_q0_spots x_q0_skies x_q0_reports x_q0_count x_q0_chime x_q0_end x_q0_score x_q0_reportCount x_q0_z x_q0_rules x_q0_shades x_q0_facts x_q1_dials x_q1_spots x_q1_skies x_q1_reports x_q1_count x_q1_chime x_q1_end x_q1_score x_q1_reportCount x_q1_z x_q1_rules x_q1_shades x_q1_facts x_q2_dials x_q2_spots x_q2_skies x_q2_reports x_q2_count x_q2_chime x_q2_end x_q2_score x_q2_reportCount x_q2_z x_q2_rules x_q2_shades x_q2_facts x_isKept x_marks x_p_first x_p_steps x_p_most x_p_many x_p_fewest x_p_everRight x_p_opening x_p_rows x_p_rowCount x_p_acts x_p_marks x_p_deepest x_p_wanted x_t_length x_t_tape x_t_words x_t_places res.2.1 x_t_kinds x_t_wills x_t_starts res.2.2.1 x_t_count res.2.2.2 x_h_sorts x_h_lengths x_h_items x_h_held x_h_things x_h_sizes x_h_bodies x_h_traced x_h_number x_h_spot x_h_parted x_g_count x_g_kinds x_g_wills x_g_starts x_g_code x_g_stack x_g_kl x_g_wl x_g_sl x_g_cl x_nr))) (hF2 : ∀ {x_q0_dials : Nat → Nat → Int32} {x_q0_spots : Nat → Nat → Int32} {x_q0_skies : Nat → Int32} {x_q0_reports : Nat → Nat → Int32} {x_q0_count : Int32} {x_q0_chime : Int32} {x_q0_end : Int32} {x_q0_score : Int32} {x_q0_reportCount : Int32} {x_q0_z : Int32} {x_q0_rules : Nat} {x_q0_shades : Nat → Int32} {x_q0_facts : Nat → Int32} {x_q1_dials : Nat → Nat → Int32} {x_q1_spots : Nat → Nat → Int32} {x_q1_skies : Nat → Int32} {x_q1_reports : Nat → Nat → Int32} {x_q1_count : Int32} {x_q1_chime : Int32} {x_q1_end : Int32} {x_q1_score : Int32} {x_q1_reportCount : Int32} {x_q1_z : Int32} {x_q1_rules : Nat} {x_q1_shades : Nat → Int32} {x_q1_facts : Nat → Int32} {x_q2_dials : Nat → Nat → Int32} {x_q2_spots : Nat → Nat → Int32} {x_q2_skies : Nat → Int32} {x_q2_reports : Nat → Nat → Int32} {x_q2_count : Int32} {x_q2_chime : Int32} {x_q2_end : Int32} {x_q2_score : Int32} {x_q2_reportCount : Int32} {x_q2_z : Int32} {x_q2_rules : Nat} {x_q2_shades : Nat → Int32} {x_q2_facts : Nat → Int32} {x_isKept : Int32} {x_marks : Nat → Int32} {x_p_first : Nat → Int32} {x_p_steps : Int32} {x_p_most : Int32} {x_p_many : Int32} {x_p_fewest : Int32} {x_p_everRight : Int32} {x_p_opening : Int32} {x_p_rows : Nat → Nat → Int32} {x_p_rowCount : Int32} {x_p_acts : Nat → Int32} {x_p_marks : Nat → Nat → Int32} {x_p_deepest : Int32} {x_p_wanted : Int32} {x_t_length : Int32} {x_t_tape : Nat → Int32} {x_t_words : Nat → Int32} {x_t_places : Nat → Int32} {x_t_at : Int32} {x_t_kinds : Nat → Int32} {x_t_wills : Nat → Int32} {x_t_starts : Nat → Int32} {x_t_code : Nat → Int32} {x_t_count : Int32} {x_t_size : Int32} {x_h_sorts : Nat → Int32} {x_h_lengths : Nat → Int32} {x_h_items : Nat → Nat → Int32} {x_h_held : Nat → Int32} {x_h_things : Nat → Int32} {x_h_sizes : Nat → Int32} {x_h_bodies : Nat → Int32} {x_h_traced : Int32} {x_h_number : Int32} {x_h_spot : Int32} {x_h_parted : Int32} {x_g_count : Nat → Int32} {x_g_kinds : Nat → Nat → Int32} {x_g_wills : Nat → Nat → Int32} {x_g_starts : Nat → Nat → Int32} {x_g_code : Nat → Nat → Int32} {x_g_stack : Nat → Nat → Int32} {x_g_kl : Nat → Nat} {x_g_wl : Nat → Nat} {x_g_sl : Nat → Nat} {x_g_cl : Nat → Nat} {x_nr : Nat} {v1 : Int32} {res : Int32 × Int32 × (Nat → Int32) × Int32}, F 2 x_t_words x_t_at x_t_code x_t_size v1 = some res → MC l E0 D t yX6_readOne cX6_readOne 4 (some .boolean) (3 + 4 * d) 0 0 [.ref (a 97), .int v1] (cW a ar t x_q0_dials x_q0_spots x_q0_skies x_q0_reports x_q0_count x_q0_chime x_q0_end x_q0_score x_q0_reportCount x_q0_z x_q0_rules x_q0_shades x_q0_facts x_q1_dials x_q1_spots x_q1_skies x_q1_reports x_q1_count x_q1_chime x_q1_end x_q1_score x_q1_reportCount x_q1_z x_q1_rules x_q1_shades x_q1_facts x_q2_dials x_q2_spots x_q2_skies x_q2_reports x_q2_count x_q2_chime x_q2_end x_q2_score x_q2_reportCount x_q2_z x_q2_rules x_q2_shades x_q2_facts x_isKept x_marks x_p_first x_p_steps x_p_most x_p_many x_p_fewest x_p_everRight x_p_opening x_p_rows x_p_rowCount x_p_acts x_p_marks x_p_deepest x_p_wanted x_t_length x_t_tape x_t_words x_t_places x_t_at x_t_kinds x_t_wills x_t_starts x_t_code x_t_count x_t_size x_h_sorts x_h_lengths x_h_items x_h_held x_h_things x_h_sizes x_h_bodies x_h_traced x_h_number x_h_spot x_h_parted x_g_count x_g_kinds x_g_wills x_g_starts x_g_code x_g_stack x_g_kl x_g_wl x_g_sl x_g_cl x_nr) (Qi res.1 (cW a ar t x_q0_dials x_q0_spots x_q0_skies x_q0_reports x_q0_count x_q0_chime x_q0_end x_q0_score x_q0_reportCount x_q0_z x_q0_rules x_q0_shades x_q0_facts x_q1_dials x_q1_spots x_q1_skies x_q1_reports x_q1_count x_q1_chime x_q1_end x_q1_score x_q1_reportCount x_q1_z x_q1_rules x_q1_shades x_q1_facts x_q2_dials x_q2_spots x_q2_skies x_q2_reports x_q2_count x_q2_chime x_q2_end x_q2_score x_q2_reportCount x_q2_z x_q2_rules x_q2_shades x_q2_facts x_isKept x_marks x_p_first x_p_steps x_p_most x_p_many x_p_fewest x_p_everRight x_p_opening x_p_rows x_p_rowCount x_p_acts x_p_marks x_p_deepest x_p_wanted x_t_length x_t_tape x_t_words x_t_places res.2.1 x_t_kinds x_t_wills x_t_starts res.2.2.1 x_t_count res.2.2.2 x_h_sorts x_h_lengths x_h_items x_h_held x_h_things x_h_sizes x_h_bodies x_h_traced x_h_number x_h_spot x_h_parted x_g_count x_g_kinds x_g_wills x_g_starts x_g_code x_g_stack x_g_kl x_g_wl x_g_sl x_g_cl x_nr))) (hF3 : ∀ {x_q0_dials : Nat → Nat → Int32} {x_q0_spots : Nat → Nat → Int32} {x_q0_skies : Nat → Int32} {x_q0_reports : Nat → Nat → Int32} {x_q0_count : Int32} {x_q0_chime : Int32} {x_q0_end : Int32} {x_q0_score : Int32} {x_q0_reportCount : Int32} {x_q0_z : Int32} {x_q0_rules : Nat} {x_q0_shades : Nat → Int32} {x_q0_facts : Nat → Int32} {x_q1_dials : Nat → Nat → Int32} {x_q1_spots : Nat → Nat → Int32} {x_q1_skies : Nat → Int32} {x_q1_reports : Nat → Nat → Int32} {x_q1_count : Int32} {x_q1_chime : Int32} {x_q1_end : Int32} {x_q1_score : Int32} {x_q1_reportCount : Int32} {x_q1_z : Int32} {x_q1_rules : Nat} {x_q1_shades : Nat → Int32} {x_q1_facts : Nat → Int32} {x_q2_dials : Nat → Nat → Int32} {x_q2_spots : Nat → Nat → Int32} {x_q2_skies : Nat → Int32} {x_q2_reports : Nat → Nat → Int32} {x_q2_count : Int32} {x_q2_chime : Int32} {x_q2_end : Int32} {x_q2_score : Int32} {x_q2_reportCount : Int32} {x_q2_z : Int32} {x_q2_rules : Nat} {x_q2_shades : Nat → Int32} {x_q2_facts : Nat → Int32} {x_isKept : Int32} {x_marks : Nat → Int32} {x_p_first : Nat → Int32} {x_p_steps : Int32} {x_p_most : Int32} {x_p_many : Int32} {x_p_fewest : Int32} {x_p_everRight : Int32} {x_p_opening : Int32} {x_p_rows : Nat → Nat → Int32} {x_p_rowCount : Int32} {x_p_acts : Nat → Int32} {x_p_marks : Nat → Nat → Int32} {x_p_deepest : Int32} {x_p_wanted : Int32} {x_t_length : Int32} {x_t_tape : Nat → Int32} {x_t_words : Nat → Int32} {x_t_places : Nat → Int32} {x_t_at : Int32} {x_t_kinds : Nat → Int32} {x_t_wills : Nat → Int32} {x_t_starts : Nat → Int32} {x_t_code : Nat → Int32} {x_t_count : Int32} {x_t_size : Int32} {x_h_sorts : Nat → Int32} {x_h_lengths : Nat → Int32} {x_h_items : Nat → Nat → Int32} {x_h_held : Nat → Int32} {x_h_things : Nat → Int32} {x_h_sizes : Nat → Int32} {x_h_bodies : Nat → Int32} {x_h_traced : Int32} {x_h_number : Int32} {x_h_spot : Int32} {x_h_parted : Int32} {x_g_count : Nat → Int32} {x_g_kinds : Nat → Nat → Int32} {x_g_wills : Nat → Nat → Int32} {x_g_starts : Nat → Nat → Int32} {x_g_code : Nat → Nat → Int32} {x_g_stack : Nat → Nat → Int32} {x_g_kl : Nat → Nat} {x_g_wl : Nat → Nat} {x_g_sl : Nat → Nat} {x_g_cl : Nat → Nat} {x_nr : Nat} {v1 : Int32} {res : Int32 × Int32 × (Nat → Int32) × Int32}, F 3 x_t_words x_t_at x_t_code x_t_size v1 = some res → MC l E0 D t yX6_readOpened cX6_readOpened 2 (some .boolean) (3 + 4 * d) 0 0 [.ref (a 97), .int v1] (cW a ar t x_q0_dials x_q0_spots x_q0_skies x_q0_reports x_q0_count x_q0_chime x_q0_end x_q0_score x_q0_reportCount x_q0_z x_q0_rules x_q0_shades x_q0_facts x_q1_dials x_q1_spots x_q1_skies x_q1_reports x_q1_count x_q1_chime x_q1_end x_q1_score x_q1_reportCount x_q1_z x_q1_rules x_q1_shades x_q1_facts x_q2_dials x_q2_spots x_q2_skies x_q2_reports x_q2_count x_q2_chime x_q2_end x_q2_score x_q2_reportCount x_q2_z x_q2_rules x_q2_shades x_q2_facts x_isKept x_marks x_p_first x_p_steps x_p_most x_p_many x_p_fewest x_p_everRight x_p_opening x_p_rows x_p_rowCount x_p_acts x_p_marks x_p_deepest x_p_wanted x_t_length x_t_tape x_t_words x_t_places x_t_at x_t_kinds x_t_wills x_t_starts x_t_code x_t_count x_t_size x_h_sorts x_h_lengths x_h_items x_h_held x_h_things x_h_sizes x_h_bodies x_h_traced x_h_number x_h_spot x_h_parted x_g_count x_g_kinds x_g_wills x_g_starts x_g_code x_g_stack x_g_kl x_g_wl x_g_sl x_g_cl x_nr) (Qi res.1 (cW a ar t x_q0_dials x_q0_spots x_q0_skies x_q0_reports x_q0_count x_q0_chime x_q0_end x_q0_score x_q0_reportCount x_q0_z x_q0_rules x_q0_shades x_q0_facts x_q1_dials x_q1_spots x_q1_skies x_q1_reports x_q1_count x_q1_chime x_q1_end x_q1_score x_q1_reportCount x_q1_z x_q1_rules x_q1_shades x_q1_facts x_q2_dials x_q2_spots x_q2_skies x_q2_reports x_q2_count x_q2_chime x_q2_end x_q2_score x_q2_reportCount x_q2_z x_q2_rules x_q2_shades x_q2_facts x_isKept x_marks x_p_first x_p_steps x_p_most x_p_many x_p_fewest x_p_everRight x_p_opening x_p_rows x_p_rowCount x_p_acts x_p_marks x_p_deepest x_p_wanted x_t_length x_t_tape x_t_words x_t_places res.2.1 x_t_kinds x_t_wills x_t_starts res.2.2.1 x_t_count res.2.2.2 x_h_sorts x_h_lengths x_h_items x_h_held x_h_things x_h_sizes x_h_bodies x_h_traced x_h_number x_h_spot x_h_parted x_g_count x_g_kinds x_g_wills x_g_starts x_g_code x_g_stack x_g_kl x_g_wl x_g_sl x_g_cl x_nr))) {v1 : Int32} {res : Int32 × Int32 × (Nat → Int32) × Int32} (hf : X6_readOne_b n F x_t_words x_t_at x_t_code x_t_size v1 = some res) : MC l E0 D t yX6_readOne cX6_readOne 4 (some .boolean) (3 + 4 * (d + 1)) 0 0 [.ref (a 97), .int v1] (cW a ar t x_q0_dials x_q0_spots x_q0_skies x_q0_reports x_q0_count x_q0_chime x_q0_end x_q0_score x_q0_reportCount x_q0_z x_q0_rules x_q0_shades x_q0_facts x_q1_dials x_q1_spots x_q1_skies x_q1_reports x_q1_count x_q1_chime x_q1_end x_q1_score x_q1_reportCount x_q1_z x_q1_rules x_q1_shades x_q1_facts x_q2_dials x_q2_spots x_q2_skies x_q2_reports x_q2_count x_q2_chime x_q2_end x_q2_score x_q2_reportCount x_q2_z x_q2_rules x_q2_shades x_q2_facts x_isKept x_marks x_p_first x_p_steps x_p_most x_p_many x_p_fewest x_p_everRight x_p_opening x_p_rows x_p_rowCount x_p_acts x_p_marks x_p_deepest x_p_wanted x_t_length x_t_tape x_t_words x_t_places x_t_at x_t_kinds x_t_wills x_t_starts x_t_code x_t_count x_t_size x_h_sorts x_h_lengths x_h_items x_h_held x_h_things x_h_sizes x_h_bodies x_h_traced x_h_number x_h_spot x_h_parted x_g_count x_g_kinds x_g_wills x_g_starts x_g_code x_g_stack x_g_kl x_g_wl x_g_sl x_g_cl x_nr) (Qi res.1 (cW a ar t x_q0_dials x_q0_spots x_q0_skies x_q0_reports x_q0_count x_q0_chime x_q0_end x_q0_score x_q0_reportCount x_q0_z x_q0_rules x_q0_shades x_q0_facts x_q1_dials x_q1_spots x_q1_skies x_q1_reports x_q1_count x_q1_chime x_q1_end x_q1_score x_q1_reportCount x_q1_z x_q1_rules x_q1_shades x_q1_facts x_q2_dials x_q2_spots x_q2_skies x_q2_reports x_q2_count x_q2_chime x_q2_end x_q2_score x_q2_reportCount x_q2_z x_q2_rules x_q2_shades x_q2_facts x_isKept x_marks x_p_first x_p_steps x_p_most x_p_many x_p_fewest x_p_everRight x_p_opening x_p_rows x_p_rowCount x_p_acts x_p_marks x_p_deepest x_p_wanted x_t_length x_t_tape x_t_words x_t_places res.2.1 x_t_kinds x_t_wills x_t_starts res.2.2.1 x_t_count res.2.2.2 x_h_sorts x_h_lengths x_h_items x_h_held x_h_things x_h_sizes x_h_bodies x_h_traced x_h_number x_h_spot x_h_parted x_g_count x_g_kinds x_g_wills x_g_starts x_g_code x_g_stack x_g_kl x_g_wl x_g_sl x_g_cl x_nr)) := by
  unfold X6_readOne_b at hf
  refine MC.ofI pn_X6 (Nat.le_of_ble_eq_true rfl) ?_
  intro p e s m args below meth c A Q ls cx hR hw hl
  have hx := cx.1
  have hb := cx.2.1
  have hl : lv_has ls 4 [(0, .ref (a 97)), (1, .int v1)] := hl
  refine lv_iconst (v := 0) hx hb dX6_readOne_0 (by decide) ?_
  refine lv_istore_n (lv' := [(2, .int (0 : Int32)), (0, .ref (a 97)), (1, .int v1)]) hx hb dX6_readOne_1 rfl hl (by decide) rfl (fun ls hl => ?_)
  refine lv_iconst (v := 0) hx hb dX6_readOne_2 (by decide) ?_
  refine lv_istore_n (lv' := [(3, .int (0 : Int32)), (2, .int (0 : Int32)), (0, .ref (a 97)), (1, .int v1)]) hx hb dX6_readOne_3 rfl hl (by decide) rfl (fun ls hl => ?_)
  obtain ⟨o4, ho4, hf⟩ := bnS hf
  have wL1 : ∀ (k : Nat) {v1 : Int32} {v2 : Int32} {v3 : Int32} {x_t_at : Int32} {H : Heap} {locs : List Loc} {ls : Array Slot} {o : Int32 × Int32 × Int32}, X6_readOne_L1 n F x_t_words k v2 v3 x_t_at = some o → Wd D A s (cW a ar t x_q0_dials x_q0_spots x_q0_skies x_q0_reports x_q0_count x_q0_chime x_q0_end x_q0_score x_q0_reportCount x_q0_z x_q0_rules x_q0_shades x_q0_facts x_q1_dials x_q1_spots x_q1_skies x_q1_reports x_q1_count x_q1_chime x_q1_end x_q1_score x_q1_reportCount x_q1_z x_q1_rules x_q1_shades x_q1_facts x_q2_dials x_q2_spots x_q2_skies x_q2_reports x_q2_count x_q2_chime x_q2_end x_q2_score x_q2_reportCount x_q2_z x_q2_rules x_q2_shades x_q2_facts x_isKept x_marks x_p_first x_p_steps x_p_most x_p_many x_p_fewest x_p_everRight x_p_opening x_p_rows x_p_rowCount x_p_acts x_p_marks x_p_deepest x_p_wanted x_t_length x_t_tape x_t_words x_t_places x_t_at x_t_kinds x_t_wills x_t_starts x_t_code x_t_count x_t_size x_h_sorts x_h_lengths x_h_items x_h_held x_h_things x_h_sizes x_h_bodies x_h_traced x_h_number x_h_spot x_h_parted x_g_count x_g_kinds x_g_wills x_g_starts x_g_code x_g_stack x_g_kl x_g_wl x_g_sl x_g_cl x_nr) H locs → lv_has ls 4 [(0, .ref (a 97)), (1, .int v1), (2, .int v2), (3, .int v3)] → (∀ (H : Heap) (locs : List Loc) (ls : Array Slot), Wd D A s (cW a ar t x_q0_dials x_q0_spots x_q0_skies x_q0_reports x_q0_count x_q0_chime x_q0_end x_q0_score x_q0_reportCount x_q0_z x_q0_rules x_q0_shades x_q0_facts x_q1_dials x_q1_spots x_q1_skies x_q1_reports x_q1_count x_q1_chime x_q1_end x_q1_score x_q1_reportCount x_q1_z x_q1_rules x_q1_shades x_q1_facts x_q2_dials x_q2_spots x_q2_skies x_q2_reports x_q2_count x_q2_chime x_q2_end x_q2_score x_q2_reportCount x_q2_z x_q2_rules x_q2_shades x_q2_facts x_isKept x_marks x_p_first x_p_steps x_p_most x_p_many x_p_fewest x_p_everRight x_p_opening x_p_rows x_p_rowCount x_p_acts x_p_marks x_p_deepest x_p_wanted x_t_length x_t_tape x_t_words x_t_places o.2.2 x_t_kinds x_t_wills x_t_starts x_t_code x_t_count x_t_size x_h_sorts x_h_lengths x_h_items x_h_held x_h_things x_h_sizes x_h_bodies x_h_traced x_h_number x_h_spot x_h_parted x_g_count x_g_kinds x_g_wills x_g_starts x_g_code x_g_stack x_g_kl x_g_wl x_g_sl x_g_cl x_nr) H locs → lv_has ls 4 [(0, .ref (a 97)), (1, .int v1), (2, .int o.1), (3, .int o.2.1)] → W p l e (rmz (3 + 4 * (d + 1)) 0 0) s m args below meth c H locs 0 0 Q (F0 m 37 ls [])) → W p l e (rmz (3 + 4 * (d + 1)) 0 0) s m args below meth c H locs 0 0 Q (F0 m 4 ls []) := by
    clear hf ho4 hw hl
    intro k
    induction k with
    | zero => intro v1 v2 v3 x_t_at H locs ls o hf hw hl kx; simp [X6_readOne_L1] at hf
    | succ k ih =>
      intro v1 v2 v3 x_t_at H locs ls o hf hw hl kx
      rw [X6_readOne_L1] at hf
      refine lv_iload_n hx hb dX6_readOne_4 rfl (lv_at hl 3 rfl) ?_
      refine lv_sipush (v := 200) hx hb dX6_readOne_5 (by decide) ?_
      refine lv_icmp_ge (tgt := 37) hx hb dX6_readOne_8 (by decide) (fun hc => ?_) (fun hc => ?_)
      · have hf := ifT hf hc
        have hf := Option.some.inj hf
        subst hf
        exact kx _ _ _ hw (lv_sub hl [0, 1, 2, 3] rfl)
      · have hf := ifF hf hc
        refine lv_aload_n hx hb dX6_readOne_11 rfl (lv_at hl 0 rfl) ?_
        refine lv_sipush (v := 10008) hx hb dX6_readOne_12 (by decide) ?_
        obtain ⟨r1, h2, hf⟩ := bnS hf
        refine calVi cx hw hl.1 (c_X6_takes h2) q_613 k_X6_takes rfl rv_text rfl dX6_readOne_15 rfl (Nat.le_of_ble_eq_true rfl) ⟨by show _ ≤ 3 + 4 * (d + 1); omega, by show _ ≤ 64 * (3 + 4 * (d + 1)); omega⟩ ⟨Nat.le_refl _, Nat.le_refl _⟩ (fun H locs hw => ?_)
        refine lv_if_eq (tgt := 37) hx hb dX6_readOne_18 (by decide) (fun hc => ?_) (fun hc => ?_)
        · have hf := ifT hf hc
          have hf := Option.some.inj hf
          subst hf
          exact kx _ _ _ hw (lv_sub hl [0, 1, 2, 3] rfl)
        · have hf := ifF hf hc
          refine lv_iload_n hx hb dX6_readOne_21 rfl (lv_at hl 2 rfl) ?_
          obtain ⟨j3, hj3, hf⟩ := pbS hf
          have wj3 : ∀ (H : Heap) (locs : List Loc) (ls : Array Slot), Wd D A s (cW a ar t x_q0_dials x_q0_spots x_q0_skies x_q0_reports x_q0_count x_q0_chime x_q0_end x_q0_score x_q0_reportCount x_q0_z x_q0_rules x_q0_shades x_q0_facts x_q1_dials x_q1_spots x_q1_skies x_q1_reports x_q1_count x_q1_chime x_q1_end x_q1_score x_q1_reportCount x_q1_z x_q1_rules x_q1_shades x_q1_facts x_q2_dials x_q2_spots x_q2_skies x_q2_reports x_q2_count x_q2_chime x_q2_end x_q2_score x_q2_reportCount x_q2_z x_q2_rules x_q2_shades x_q2_facts x_isKept x_marks x_p_first x_p_steps x_p_most x_p_many x_p_fewest x_p_everRight x_p_opening x_p_rows x_p_rowCount x_p_acts x_p_marks x_p_deepest x_p_wanted x_t_length x_t_tape x_t_words x_t_places r1.2 x_t_kinds x_t_wills x_t_starts x_t_code x_t_count x_t_size x_h_sorts x_h_lengths x_h_items x_h_held x_h_things x_h_sizes x_h_bodies x_h_traced x_h_number x_h_spot x_h_parted x_g_count x_g_kinds x_g_wills x_g_starts x_g_code x_g_stack x_g_kl x_g_wl x_g_sl x_g_cl x_nr) H locs → lv_has ls 4 [(0, .ref (a 97)), (1, .int v1), (2, .int v2), (3, .int v3)] → W p l e (rmz (3 + 4 * (d + 1)) 0 0) s m args below meth c H locs 0 0 Q (F0 m 30 ls [.int j3]) := by
            intro H locs ls hw hl
            refine lv_istore_n (lv' := [(2, .int j3), (0, .ref (a 97)), (1, .int v1), (3, .int v3)]) hx hb dX6_readOne_30 rfl hl (by decide) rfl (fun ls hl => ?_)
            refine lv_iinc (v := (v3 + (1 : Int32))) (lv' := [(3, .int (v3 + (1 : Int32))), (2, .int j3), (0, .ref (a 97)), (1, .int v1)]) hx hb dX6_readOne_31 hl (k := 3) rfl rfl (by decide) rfl (fun ls hl => ?_)
            refine lv_goto (tgt := 4) hx hb dX6_readOne_34 (by decide) ?_
            exact ih hf hw (lv_sub hl [2, 3, 1, 0] rfl) kx
          clear hf
          have hf := hj3
          clear hj3
          refine lv_if_ne (tgt := 29) hx hb dX6_readOne_22 (by decide) (fun hc => ?_) (fun hc => ?_)
          · have hf := ifF hf hc
            refine lv_iconst (v := 0) hx hb dX6_readOne_29 (by decide) ?_
            subst hf
            exact wj3 _ _ _ hw (lv_sub hl [0, 1, 2, 3] rfl)
          · have hf := ifT hf hc
            refine lv_iconst (v := 1) hx hb dX6_readOne_25 (by decide) ?_
            refine lv_goto (tgt := 30) hx hb dX6_readOne_26 (by decide) ?_
            subst hf
            exact wj3 _ _ _ hw (lv_sub hl [0, 1, 2, 3] rfl)
  refine wL1 n ho4 hw (lv_sub hl [2, 3, 1, 0] rfl) (fun H locs ls hw hl => ?_)
  clear wL1 ho4
  refine lv_aload_n hx hb dX6_readOne_37 rfl (lv_at hl 0 rfl) ?_
  refine cg_X6_15_text cx hw dX6_readOne_38 ?_
  refine lv_aload_n hx hb dX6_readOne_41 rfl (lv_at hl 0 rfl) ?_
  refine cg_X6_41_text cx hw dX6_readOne_42 ?_
  obtain ⟨h5, hf⟩ := ckS hf
  refine cl_t_words (j := o4.2.2.toNatClampNeg) cx hw (ib_in h5) rfl dX6_readOne_45 ?_
  refine lv_sipush (v := 10012) hx hb dX6_readOne_46 (by decide) ?_
  obtain ⟨j10, hj10, hf⟩ := bnS hf
  have wj10 : ∀ (H : Heap) (locs : List Loc) (ls : Array Slot), Wd D A s (cW a ar t x_q0_dials x_q0_spots x_q0_skies x_q0_reports x_q0_count x_q0_chime x_q0_end x_q0_score x_q0_reportCount x_q0_z x_q0_rules x_q0_shades x_q0_facts x_q1_dials x_q1_spots x_q1_skies x_q1_reports x_q1_count x_q1_chime x_q1_end x_q1_score x_q1_reportCount x_q1_z x_q1_rules x_q1_shades x_q1_facts x_q2_dials x_q2_spots x_q2_skies x_q2_reports x_q2_count x_q2_chime x_q2_end x_q2_score x_q2_reportCount x_q2_z x_q2_rules x_q2_shades x_q2_facts x_isKept x_marks x_p_first x_p_steps x_p_most x_p_many x_p_fewest x_p_everRight x_p_opening x_p_rows x_p_rowCount x_p_acts x_p_marks x_p_deepest x_p_wanted x_t_length x_t_tape x_t_words x_t_places j10.2.1 x_t_kinds x_t_wills x_t_starts j10.2.2.1 x_t_count j10.2.2.2 x_h_sorts x_h_lengths x_h_items x_h_held x_h_things x_h_sizes x_h_bodies x_h_traced x_h_number x_h_spot x_h_parted x_g_count x_g_kinds x_g_wills x_g_starts x_g_code x_g_stack x_g_kl x_g_wl x_g_sl x_g_cl x_nr) H locs → lv_has ls 4 [(0, .ref (a 97)), (1, .int v1), (2, .int o4.1), (3, .int o4.2.1)] → W p l e (rmz (3 + 4 * (d + 1)) 0 0) s m args below meth c H locs 0 0 Q (F0 m 66 ls [.int j10.1]) := by
    intro H locs ls hw hl
    refine lv_istore_n (lv' := [(3, .int j10.1), (0, .ref (a 97)), (1, .int v1), (2, .int o4.1)]) hx hb dX6_readOne_66 rfl hl (by decide) rfl (fun ls hl => ?_)
    refine lv_iload_n hx hb dX6_readOne_67 rfl (lv_at hl 0 rfl) ?_
    refine lv_if_eq (tgt := 82) hx hb dX6_readOne_68 (by decide) (fun hc => ?_) (fun hc => ?_)
    · have hf := ifT hf hc
      refine lv_iload_n hx hb dX6_readOne_82 rfl (lv_at hl 0 rfl) ?_
      obtain ⟨h13, hf⟩ := ckS hf
      have hf := Option.some.inj hf
      subst hf
      exact hR _ _ _ _ _ _ hw (nb (bkS h13)) ⟨rfl, rfl⟩ dX6_readOne_83
    · have hf := ifF hf hc
      refine lv_iload_n hx hb dX6_readOne_71 rfl (lv_at hl 3 rfl) ?_
      refine lv_if_eq (tgt := 82) hx hb dX6_readOne_72 (by decide) (fun hc => ?_) (fun hc => ?_)
      · have hf := ifT hf hc
        refine lv_iload_n hx hb dX6_readOne_82 rfl (lv_at hl 0 rfl) ?_
        obtain ⟨h14, hf⟩ := ckS hf
        have hf := Option.some.inj hf
        subst hf
        exact hR _ _ _ _ _ _ hw (nb (bkS h14)) ⟨rfl, rfl⟩ dX6_readOne_83
      · have hf := ifF hf hc
        refine lv_aload_n hx hb dX6_readOne_75 rfl (lv_at hl 1 rfl) ?_
        refine lv_sipush (v := 10008) hx hb dX6_readOne_76 (by decide) ?_
        obtain ⟨r11, h12, hf⟩ := bnS hf
        refine calVv cx hw hl.1 (c_X6_emit h12) q_637 k_X6_emit rfl rv_text rfl dX6_readOne_79 rfl (Nat.le_of_ble_eq_true rfl) ⟨by show _ ≤ 3 + 4 * (d + 1); omega, by show _ ≤ 64 * (3 + 4 * (d + 1)); omega⟩ ⟨Nat.le_refl _, Nat.le_refl _⟩ (fun H locs hw => ?_)
        refine lv_iload_n hx hb dX6_readOne_82 rfl (lv_at hl 0 rfl) ?_
        obtain ⟨h15, hf⟩ := ckS hf
        have hf := Option.some.inj hf
        subst hf
        exact hR _ _ _ _ _ _ hw (nb (bkS h15)) ⟨rfl, rfl⟩ dX6_readOne_83
  clear hf
  have hf := hj10
  clear hj10
  refine lv_icmp_ne (tgt := 62) hx hb dX6_readOne_49 (by decide) (fun hc => ?_) (fun hc => ?_)
  · have hf := ifF hf hc
    refine lv_aload_n hx hb dX6_readOne_62 rfl (lv_at hl 0 rfl) ?_
    obtain ⟨r8, h9, hf⟩ := bnS hf
    refine calVi cx hw hl.1 (c_X6_readCompared h9) q_633 k_X6_readCompared rfl rv_text rfl dX6_readOne_63 rfl (Nat.le_of_ble_eq_true rfl) ⟨by show _ ≤ 3 + 4 * (d + 1); omega, by show _ ≤ 64 * (3 + 4 * (d + 1)); omega⟩ ⟨Nat.le_refl _, Nat.le_refl _⟩ (fun H locs hw => ?_)
    have hf := Option.some.inj hf
    subst hf
    exact wj10 _ _ _ hw (lv_sub hl [0, 1, 2, 3] rfl)
  · have hf := ifT hf hc
    refine lv_aload_n hx hb dX6_readOne_52 rfl (lv_at hl 0 rfl) ?_
    refine lv_iload_n hx hb dX6_readOne_53 rfl (lv_at hl 1 rfl) ?_
    refine lv_iconst (v := 1) hx hb dX6_readOne_54 (by decide) ?_
    refine lv_iadd hx hb dX6_readOne_55 ?_
    obtain ⟨r6, h7, hf⟩ := bnS hf
    refine calVi cx hw hl.1 (hF3 h7) q_629 k_X6_readOpened rfl rv_text rfl dX6_readOne_56 rfl (Nat.le_of_ble_eq_true rfl) ⟨by show _ ≤ 3 + 4 * (d + 1); omega, by show _ ≤ 64 * (3 + 4 * (d + 1)); omega⟩ ⟨Nat.le_refl _, Nat.le_refl _⟩ (fun H locs hw => ?_)
    refine lv_goto (tgt := 66) hx hb dX6_readOne_59 (by decide) ?_
    have hf := Option.some.inj hf
    subst hf
    exact wj10 _ _ _ hw (lv_sub hl [0, 1, 2, 3] rfl)
theorem cb_X6_readOpened {F : Nat → (Nat → Int32) → Int32 → (Nat → Int32) → Int32 → Int32 → Option (Int32 × Int32 × (Nat → Int32) × Int32)} {d : Nat} (hF0 : ∀ {x_q0_dials : Nat → Nat → Int32} {x_q0_spots : Nat → Nat → Int32} {x_q0_skies : Nat → Int32} {x_q0_reports : Nat → Nat → Int32} {x_q0_count : Int32} {x_q0_chime : Int32} {x_q0_end : Int32} {x_q0_score : Int32} {x_q0_reportCount : Int32} {x_q0_z : Int32} {x_q0_rules : Nat} {x_q0_shades : Nat → Int32} {x_q0_facts : Nat → Int32} {x_q1_dials : Nat → Nat → Int32} {x_q1_spots : Nat → Nat → Int32} {x_q1_skies : Nat → Int32} {x_q1_reports : Nat → Nat → Int32} {x_q1_count : Int32} {x_q1_chime : Int32} {x_q1_end : Int32} {x_q1_score : Int32} {x_q1_reportCount : Int32} {x_q1_z : Int32} {x_q1_rules : Nat} {x_q1_shades : Nat → Int32} {x_q1_facts : Nat → Int32} {x_q2_dials : Nat → Nat → Int32} {x_q2_spots : Nat → Nat → Int32} {x_q2_skies : Nat → Int32} {x_q2_reports : Nat → Nat → Int32} {x_q2_count : Int32} {x_q2_chime : Int32} {x_q2_end : Int32} {x_q2_score : Int32} {x_q2_reportCount : Int32} {x_q2_z : Int32} {x_q2_rules : Nat} {x_q2_shades : Nat → Int32} {x_q2_facts : Nat → Int32} {x_isKept : Int32} {x_marks : Nat → Int32} {x_p_first : Nat → Int32} {x_p_steps : Int32} {x_p_most : Int32} {x_p_many : Int32} {x_p_fewest : Int32} {x_p_everRight : Int32} {x_p_opening : Int32} {x_p_rows : Nat → Nat → Int32} {x_p_rowCount : Int32} {x_p_acts : Nat → Int32} {x_p_marks : Nat → Nat → Int32} {x_p_deepest : Int32} {x_p_wanted : Int32} {x_t_length : Int32} {x_t_tape : Nat → Int32} {x_t_words : Nat → Int32} {x_t_places : Nat → Int32} {x_t_at : Int32} {x_t_kinds : Nat → Int32} {x_t_wills : Nat → Int32} {x_t_starts : Nat → Int32} {x_t_code : Nat → Int32} {x_t_count : Int32} {x_t_size : Int32} {x_h_sorts : Nat → Int32} {x_h_lengths : Nat → Int32} {x_h_items : Nat → Nat → Int32} {x_h_held : Nat → Int32} {x_h_things : Nat → Int32} {x_h_sizes : Nat → Int32} {x_h_bodies : Nat → Int32} {x_h_traced : Int32} {x_h_number : Int32} {x_h_spot : Int32} {x_h_parted : Int32} {x_g_count : Nat → Int32} {x_g_kinds : Nat → Nat → Int32} {x_g_wills : Nat → Nat → Int32} {x_g_starts : Nat → Nat → Int32} {x_g_code : Nat → Nat → Int32} {x_g_stack : Nat → Nat → Int32} {x_g_kl : Nat → Nat} {x_g_wl : Nat → Nat} {x_g_sl : Nat → Nat} {x_g_cl : Nat → Nat} {x_nr : Nat} {v1 : Int32} {res : Int32 × Int32 × (Nat → Int32) × Int32}, F 0 x_t_words x_t_at x_t_code x_t_size v1 = some res → MC l E0 D t yX6_readCondition cX6_readCondition 3 (some .boolean) (3 + 4 * d) 0 0 [.ref (a 97), .int v1] (cW a ar t x_q0_dials x_q0_spots x_q0_skies x_q0_reports x_q0_count x_q0_chime x_q0_end x_q0_score x_q0_reportCount x_q0_z x_q0_rules x_q0_shades x_q0_facts x_q1_dials x_q1_spots x_q1_skies x_q1_reports x_q1_count x_q1_chime x_q1_end x_q1_score x_q1_reportCount x_q1_z x_q1_rules x_q1_shades x_q1_facts x_q2_dials x_q2_spots x_q2_skies x_q2_reports x_q2_count x_q2_chime x_q2_end x_q2_score x_q2_reportCount x_q2_z x_q2_rules x_q2_shades x_q2_facts x_isKept x_marks x_p_first x_p_steps x_p_most x_p_many x_p_fewest x_p_everRight x_p_opening x_p_rows x_p_rowCount x_p_acts x_p_marks x_p_deepest x_p_wanted x_t_length x_t_tape x_t_words x_t_places x_t_at x_t_kinds x_t_wills x_t_starts x_t_code x_t_count x_t_size x_h_sorts x_h_lengths x_h_items x_h_held x_h_things x_h_sizes x_h_bodies x_h_traced x_h_number x_h_spot x_h_parted x_g_count x_g_kinds x_g_wills x_g_starts x_g_code x_g_stack x_g_kl x_g_wl x_g_sl x_g_cl x_nr) (Qi res.1 (cW a ar t x_q0_dials x_q0_spots x_q0_skies x_q0_reports x_q0_count x_q0_chime x_q0_end x_q0_score x_q0_reportCount x_q0_z x_q0_rules x_q0_shades x_q0_facts x_q1_dials x_q1_spots x_q1_skies x_q1_reports x_q1_count x_q1_chime x_q1_end x_q1_score x_q1_reportCount x_q1_z x_q1_rules x_q1_shades x_q1_facts x_q2_dials x_q2_spots x_q2_skies x_q2_reports x_q2_count x_q2_chime x_q2_end x_q2_score x_q2_reportCount x_q2_z x_q2_rules x_q2_shades x_q2_facts x_isKept x_marks x_p_first x_p_steps x_p_most x_p_many x_p_fewest x_p_everRight x_p_opening x_p_rows x_p_rowCount x_p_acts x_p_marks x_p_deepest x_p_wanted x_t_length x_t_tape x_t_words x_t_places res.2.1 x_t_kinds x_t_wills x_t_starts res.2.2.1 x_t_count res.2.2.2 x_h_sorts x_h_lengths x_h_items x_h_held x_h_things x_h_sizes x_h_bodies x_h_traced x_h_number x_h_spot x_h_parted x_g_count x_g_kinds x_g_wills x_g_starts x_g_code x_g_stack x_g_kl x_g_wl x_g_sl x_g_cl x_nr))) (hF1 : ∀ {x_q0_dials : Nat → Nat → Int32} {x_q0_spots : Nat → Nat → Int32} {x_q0_skies : Nat → Int32} {x_q0_reports : Nat → Nat → Int32} {x_q0_count : Int32} {x_q0_chime : Int32} {x_q0_end : Int32} {x_q0_score : Int32} {x_q0_reportCount : Int32} {x_q0_z : Int32} {x_q0_rules : Nat} {x_q0_shades : Nat → Int32} {x_q0_facts : Nat → Int32} {x_q1_dials : Nat → Nat → Int32} {x_q1_spots : Nat → Nat → Int32} {x_q1_skies : Nat → Int32} {x_q1_reports : Nat → Nat → Int32} {x_q1_count : Int32} {x_q1_chime : Int32} {x_q1_end : Int32} {x_q1_score : Int32} {x_q1_reportCount : Int32} {x_q1_z : Int32} {x_q1_rules : Nat} {x_q1_shades : Nat → Int32} {x_q1_facts : Nat → Int32} {x_q2_dials : Nat → Nat → Int32} {x_q2_spots : Nat → Nat → Int32} {x_q2_skies : Nat → Int32} {x_q2_reports : Nat → Nat → Int32} {x_q2_count : Int32} {x_q2_chime : Int32} {x_q2_end : Int32} {x_q2_score : Int32} {x_q2_reportCount : Int32} {x_q2_z : Int32} {x_q2_rules : Nat} {x_q2_shades : Nat → Int32} {x_q2_facts : Nat → Int32} {x_isKept : Int32} {x_marks : Nat → Int32} {x_p_first : Nat → Int32} {x_p_steps : Int32} {x_p_most : Int32} {x_p_many : Int32} {x_p_fewest : Int32} {x_p_everRight : Int32} {x_p_opening : Int32} {x_p_rows : Nat → Nat → Int32} {x_p_rowCount : Int32} {x_p_acts : Nat → Int32} {x_p_marks : Nat → Nat → Int32} {x_p_deepest : Int32} {x_p_wanted : Int32} {x_t_length : Int32} {x_t_tape : Nat → Int32} {x_t_words : Nat → Int32} {x_t_places : Nat → Int32} {x_t_at : Int32} {x_t_kinds : Nat → Int32} {x_t_wills : Nat → Int32} {x_t_starts : Nat → Int32} {x_t_code : Nat → Int32} {x_t_count : Int32} {x_t_size : Int32} {x_h_sorts : Nat → Int32} {x_h_lengths : Nat → Int32} {x_h_items : Nat → Nat → Int32} {x_h_held : Nat → Int32} {x_h_things : Nat → Int32} {x_h_sizes : Nat → Int32} {x_h_bodies : Nat → Int32} {x_h_traced : Int32} {x_h_number : Int32} {x_h_spot : Int32} {x_h_parted : Int32} {x_g_count : Nat → Int32} {x_g_kinds : Nat → Nat → Int32} {x_g_wills : Nat → Nat → Int32} {x_g_starts : Nat → Nat → Int32} {x_g_code : Nat → Nat → Int32} {x_g_stack : Nat → Nat → Int32} {x_g_kl : Nat → Nat} {x_g_wl : Nat → Nat} {x_g_sl : Nat → Nat} {x_g_cl : Nat → Nat} {x_nr : Nat} {v1 : Int32} {res : Int32 × Int32 × (Nat → Int32) × Int32}, F 1 x_t_words x_t_at x_t_code x_t_size v1 = some res → MC l E0 D t yX6_readAll cX6_readAll 3 (some .boolean) (3 + 4 * d) 0 0 [.ref (a 97), .int v1] (cW a ar t x_q0_dials x_q0_spots x_q0_skies x_q0_reports x_q0_count x_q0_chime x_q0_end x_q0_score x_q0_reportCount x_q0_z x_q0_rules x_q0_shades x_q0_facts x_q1_dials x_q1_spots x_q1_skies x_q1_reports x_q1_count x_q1_chime x_q1_end x_q1_score x_q1_reportCount x_q1_z x_q1_rules x_q1_shades x_q1_facts x_q2_dials x_q2_spots x_q2_skies x_q2_reports x_q2_count x_q2_chime x_q2_end x_q2_score x_q2_reportCount x_q2_z x_q2_rules x_q2_shades x_q2_facts x_isKept x_marks x_p_first x_p_steps x_p_most x_p_many x_p_fewest x_p_everRight x_p_opening x_p_rows x_p_rowCount x_p_acts x_p_marks x_p_deepest x_p_wanted x_t_length x_t_tape x_t_words x_t_places x_t_at x_t_kinds x_t_wills x_t_starts x_t_code x_t_count x_t_size x_h_sorts x_h_lengths x_h_items x_h_held x_h_things x_h_sizes x_h_bodies x_h_traced x_h_number x_h_spot x_h_parted x_g_count x_g_kinds x_g_wills x_g_starts x_g_code x_g_stack x_g_kl x_g_wl x_g_sl x_g_cl x_nr) (Qi res.1 (cW a ar t x_q0_dials x_q0_spots x_q0_skies x_q0_reports x_q0_count x_q0_chime x_q0_end x_q0_score x_q0_reportCount x_q0_z x_q0_rules x_q0_shades x_q0_facts x_q1_dials x_q1_spots x_q1_skies x_q1_reports x_q1_count x_q1_chime x_q1_end x_q1_score x_q1_reportCount x_q1_z x_q1_rules x_q1_shades x_q1_facts x_q2_dials x_q2_spots x_q2_skies x_q2_reports x_q2_count x_q2_chime x_q2_end x_q2_score x_q2_reportCount x_q2_z x_q2_rules x_q2_shades x_q2_facts x_isKept x_marks x_p_first x_p_steps x_p_most x_p_many x_p_fewest x_p_everRight x_p_opening x_p_rows x_p_rowCount x_p_acts x_p_marks x_p_deepest x_p_wanted x_t_length x_t_tape x_t_words x_t_places res.2.1 x_t_kinds x_t_wills x_t_starts res.2.2.1 x_t_count res.2.2.2 x_h_sorts x_h_lengths x_h_items x_h_held x_h_things x_h_sizes x_h_bodies x_h_traced x_h_number x_h_spot x_h_parted x_g_count x_g_kinds x_g_wills x_g_starts x_g_code x_g_stack x_g_kl x_g_wl x_g_sl x_g_cl x_nr))) (hF2 : ∀ {x_q0_dials : Nat → Nat → Int32} {x_q0_spots : Nat → Nat → Int32} {x_q0_skies : Nat → Int32} {x_q0_reports : Nat → Nat → Int32} {x_q0_count : Int32} {x_q0_chime : Int32} {x_q0_end : Int32} {x_q0_score : Int32} {x_q0_reportCount : Int32} {x_q0_z : Int32} {x_q0_rules : Nat} {x_q0_shades : Nat → Int32} {x_q0_facts : Nat → Int32} {x_q1_dials : Nat → Nat → Int32} {x_q1_spots : Nat → Nat → Int32} {x_q1_skies : Nat → Int32} {x_q1_reports : Nat → Nat → Int32} {x_q1_count : Int32} {x_q1_chime : Int32} {x_q1_end : Int32} {x_q1_score : Int32} {x_q1_reportCount : Int32} {x_q1_z : Int32} {x_q1_rules : Nat} {x_q1_shades : Nat → Int32} {x_q1_facts : Nat → Int32} {x_q2_dials : Nat → Nat → Int32} {x_q2_spots : Nat → Nat → Int32} {x_q2_skies : Nat → Int32} {x_q2_reports : Nat → Nat → Int32} {x_q2_count : Int32} {x_q2_chime : Int32} {x_q2_end : Int32} {x_q2_score : Int32} {x_q2_reportCount : Int32} {x_q2_z : Int32} {x_q2_rules : Nat} {x_q2_shades : Nat → Int32} {x_q2_facts : Nat → Int32} {x_isKept : Int32} {x_marks : Nat → Int32} {x_p_first : Nat → Int32} {x_p_steps : Int32} {x_p_most : Int32} {x_p_many : Int32} {x_p_fewest : Int32} {x_p_everRight : Int32} {x_p_opening : Int32} {x_p_rows : Nat → Nat → Int32} {x_p_rowCount : Int32} {x_p_acts : Nat → Int32} {x_p_marks : Nat → Nat → Int32} {x_p_deepest : Int32} {x_p_wanted : Int32} {x_t_length : Int32} {x_t_tape : Nat → Int32} {x_t_words : Nat → Int32} {x_t_places : Nat → Int32} {x_t_at : Int32} {x_t_kinds : Nat → Int32} {x_t_wills : Nat → Int32} {x_t_starts : Nat → Int32} {x_t_code : Nat → Int32} {x_t_count : Int32} {x_t_size : Int32} {x_h_sorts : Nat → Int32} {x_h_lengths : Nat → Int32} {x_h_items : Nat → Nat → Int32} {x_h_held : Nat → Int32} {x_h_things : Nat → Int32} {x_h_sizes : Nat → Int32} {x_h_bodies : Nat → Int32} {x_h_traced : Int32} {x_h_number : Int32} {x_h_spot : Int32} {x_h_parted : Int32} {x_g_count : Nat → Int32} {x_g_kinds : Nat → Nat → Int32} {x_g_wills : Nat → Nat → Int32} {x_g_starts : Nat → Nat → Int32} {x_g_code : Nat → Nat → Int32} {x_g_stack : Nat → Nat → Int32} {x_g_kl : Nat → Nat} {x_g_wl : Nat → Nat} {x_g_sl : Nat → Nat} {x_g_cl : Nat → Nat} {x_nr : Nat} {v1 : Int32} {res : Int32 × Int32 × (Nat → Int32) × Int32}, F 2 x_t_words x_t_at x_t_code x_t_size v1 = some res → MC l E0 D t yX6_readOne cX6_readOne 4 (some .boolean) (3 + 4 * d) 0 0 [.ref (a 97), .int v1] (cW a ar t x_q0_dials x_q0_spots x_q0_skies x_q0_reports x_q0_count x_q0_chime x_q0_end x_q0_score x_q0_reportCount x_q0_z x_q0_rules x_q0_shades x_q0_facts x_q1_dials x_q1_spots x_q1_skies x_q1_reports x_q1_count x_q1_chime x_q1_end x_q1_score x_q1_reportCount x_q1_z x_q1_rules x_q1_shades x_q1_facts x_q2_dials x_q2_spots x_q2_skies x_q2_reports x_q2_count x_q2_chime x_q2_end x_q2_score x_q2_reportCount x_q2_z x_q2_rules x_q2_shades x_q2_facts x_isKept x_marks x_p_first x_p_steps x_p_most x_p_many x_p_fewest x_p_everRight x_p_opening x_p_rows x_p_rowCount x_p_acts x_p_marks x_p_deepest x_p_wanted x_t_length x_t_tape x_t_words x_t_places x_t_at x_t_kinds x_t_wills x_t_starts x_t_code x_t_count x_t_size x_h_sorts x_h_lengths x_h_items x_h_held x_h_things x_h_sizes x_h_bodies x_h_traced x_h_number x_h_spot x_h_parted x_g_count x_g_kinds x_g_wills x_g_starts x_g_code x_g_stack x_g_kl x_g_wl x_g_sl x_g_cl x_nr) (Qi res.1 (cW a ar t x_q0_dials x_q0_spots x_q0_skies x_q0_reports x_q0_count x_q0_chime x_q0_end x_q0_score x_q0_reportCount x_q0_z x_q0_rules x_q0_shades x_q0_facts x_q1_dials x_q1_spots x_q1_skies x_q1_reports x_q1_count x_q1_chime x_q1_end x_q1_score x_q1_reportCount x_q1_z x_q1_rules x_q1_shades x_q1_facts x_q2_dials x_q2_spots x_q2_skies x_q2_reports x_q2_count x_q2_chime x_q2_end x_q2_score x_q2_reportCount x_q2_z x_q2_rules x_q2_shades x_q2_facts x_isKept x_marks x_p_first x_p_steps x_p_most x_p_many x_p_fewest x_p_everRight x_p_opening x_p_rows x_p_rowCount x_p_acts x_p_marks x_p_deepest x_p_wanted x_t_length x_t_tape x_t_words x_t_places res.2.1 x_t_kinds x_t_wills x_t_starts res.2.2.1 x_t_count res.2.2.2 x_h_sorts x_h_lengths x_h_items x_h_held x_h_things x_h_sizes x_h_bodies x_h_traced x_h_number x_h_spot x_h_parted x_g_count x_g_kinds x_g_wills x_g_starts x_g_code x_g_stack x_g_kl x_g_wl x_g_sl x_g_cl x_nr))) (hF3 : ∀ {x_q0_dials : Nat → Nat → Int32} {x_q0_spots : Nat → Nat → Int32} {x_q0_skies : Nat → Int32} {x_q0_reports : Nat → Nat → Int32} {x_q0_count : Int32} {x_q0_chime : Int32} {x_q0_end : Int32} {x_q0_score : Int32} {x_q0_reportCount : Int32} {x_q0_z : Int32} {x_q0_rules : Nat} {x_q0_shades : Nat → Int32} {x_q0_facts : Nat → Int32} {x_q1_dials : Nat → Nat → Int32} {x_q1_spots : Nat → Nat → Int32} {x_q1_skies : Nat → Int32} {x_q1_reports : Nat → Nat → Int32} {x_q1_count : Int32} {x_q1_chime : Int32} {x_q1_end : Int32} {x_q1_score : Int32} {x_q1_reportCount : Int32} {x_q1_z : Int32} {x_q1_rules : Nat} {x_q1_shades : Nat → Int32} {x_q1_facts : Nat → Int32} {x_q2_dials : Nat → Nat → Int32} {x_q2_spots : Nat → Nat → Int32} {x_q2_skies : Nat → Int32} {x_q2_reports : Nat → Nat → Int32} {x_q2_count : Int32} {x_q2_chime : Int32} {x_q2_end : Int32} {x_q2_score : Int32} {x_q2_reportCount : Int32} {x_q2_z : Int32} {x_q2_rules : Nat} {x_q2_shades : Nat → Int32} {x_q2_facts : Nat → Int32} {x_isKept : Int32} {x_marks : Nat → Int32} {x_p_first : Nat → Int32} {x_p_steps : Int32} {x_p_most : Int32} {x_p_many : Int32} {x_p_fewest : Int32} {x_p_everRight : Int32} {x_p_opening : Int32} {x_p_rows : Nat → Nat → Int32} {x_p_rowCount : Int32} {x_p_acts : Nat → Int32} {x_p_marks : Nat → Nat → Int32} {x_p_deepest : Int32} {x_p_wanted : Int32} {x_t_length : Int32} {x_t_tape : Nat → Int32} {x_t_words : Nat → Int32} {x_t_places : Nat → Int32} {x_t_at : Int32} {x_t_kinds : Nat → Int32} {x_t_wills : Nat → Int32} {x_t_starts : Nat → Int32} {x_t_code : Nat → Int32} {x_t_count : Int32} {x_t_size : Int32} {x_h_sorts : Nat → Int32} {x_h_lengths : Nat → Int32} {x_h_items : Nat → Nat → Int32} {x_h_held : Nat → Int32} {x_h_things : Nat → Int32} {x_h_sizes : Nat → Int32} {x_h_bodies : Nat → Int32} {x_h_traced : Int32} {x_h_number : Int32} {x_h_spot : Int32} {x_h_parted : Int32} {x_g_count : Nat → Int32} {x_g_kinds : Nat → Nat → Int32} {x_g_wills : Nat → Nat → Int32} {x_g_starts : Nat → Nat → Int32} {x_g_code : Nat → Nat → Int32} {x_g_stack : Nat → Nat → Int32} {x_g_kl : Nat → Nat} {x_g_wl : Nat → Nat} {x_g_sl : Nat → Nat} {x_g_cl : Nat → Nat} {x_nr : Nat} {v1 : Int32} {res : Int32 × Int32 × (Nat → Int32) × Int32}, F 3 x_t_words x_t_at x_t_code x_t_size v1 = some res → MC l E0 D t yX6_readOpened cX6_readOpened 2 (some .boolean) (3 + 4 * d) 0 0 [.ref (a 97), .int v1] (cW a ar t x_q0_dials x_q0_spots x_q0_skies x_q0_reports x_q0_count x_q0_chime x_q0_end x_q0_score x_q0_reportCount x_q0_z x_q0_rules x_q0_shades x_q0_facts x_q1_dials x_q1_spots x_q1_skies x_q1_reports x_q1_count x_q1_chime x_q1_end x_q1_score x_q1_reportCount x_q1_z x_q1_rules x_q1_shades x_q1_facts x_q2_dials x_q2_spots x_q2_skies x_q2_reports x_q2_count x_q2_chime x_q2_end x_q2_score x_q2_reportCount x_q2_z x_q2_rules x_q2_shades x_q2_facts x_isKept x_marks x_p_first x_p_steps x_p_most x_p_many x_p_fewest x_p_everRight x_p_opening x_p_rows x_p_rowCount x_p_acts x_p_marks x_p_deepest x_p_wanted x_t_length x_t_tape x_t_words x_t_places x_t_at x_t_kinds x_t_wills x_t_starts x_t_code x_t_count x_t_size x_h_sorts x_h_lengths x_h_items x_h_held x_h_things x_h_sizes x_h_bodies x_h_traced x_h_number x_h_spot x_h_parted x_g_count x_g_kinds x_g_wills x_g_starts x_g_code x_g_stack x_g_kl x_g_wl x_g_sl x_g_cl x_nr) (Qi res.1 (cW a ar t x_q0_dials x_q0_spots x_q0_skies x_q0_reports x_q0_count x_q0_chime x_q0_end x_q0_score x_q0_reportCount x_q0_z x_q0_rules x_q0_shades x_q0_facts x_q1_dials x_q1_spots x_q1_skies x_q1_reports x_q1_count x_q1_chime x_q1_end x_q1_score x_q1_reportCount x_q1_z x_q1_rules x_q1_shades x_q1_facts x_q2_dials x_q2_spots x_q2_skies x_q2_reports x_q2_count x_q2_chime x_q2_end x_q2_score x_q2_reportCount x_q2_z x_q2_rules x_q2_shades x_q2_facts x_isKept x_marks x_p_first x_p_steps x_p_most x_p_many x_p_fewest x_p_everRight x_p_opening x_p_rows x_p_rowCount x_p_acts x_p_marks x_p_deepest x_p_wanted x_t_length x_t_tape x_t_words x_t_places res.2.1 x_t_kinds x_t_wills x_t_starts res.2.2.1 x_t_count res.2.2.2 x_h_sorts x_h_lengths x_h_items x_h_held x_h_things x_h_sizes x_h_bodies x_h_traced x_h_number x_h_spot x_h_parted x_g_count x_g_kinds x_g_wills x_g_starts x_g_code x_g_stack x_g_kl x_g_wl x_g_sl x_g_cl x_nr))) {v1 : Int32} {res : Int32 × Int32 × (Nat → Int32) × Int32} (hf : X6_readOpened_b n F x_t_words x_t_at x_t_code x_t_size v1 = some res) : MC l E0 D t yX6_readOpened cX6_readOpened 2 (some .boolean) (3 + 4 * (d + 1)) 0 0 [.ref (a 97), .int v1] (cW a ar t x_q0_dials x_q0_spots x_q0_skies x_q0_reports x_q0_count x_q0_chime x_q0_end x_q0_score x_q0_reportCount x_q0_z x_q0_rules x_q0_shades x_q0_facts x_q1_dials x_q1_spots x_q1_skies x_q1_reports x_q1_count x_q1_chime x_q1_end x_q1_score x_q1_reportCount x_q1_z x_q1_rules x_q1_shades x_q1_facts x_q2_dials x_q2_spots x_q2_skies x_q2_reports x_q2_count x_q2_chime x_q2_end x_q2_score x_q2_reportCount x_q2_z x_q2_rules x_q2_shades x_q2_facts x_isKept x_marks x_p_first x_p_steps x_p_most x_p_many x_p_fewest x_p_everRight x_p_opening x_p_rows x_p_rowCount x_p_acts x_p_marks x_p_deepest x_p_wanted x_t_length x_t_tape x_t_words x_t_places x_t_at x_t_kinds x_t_wills x_t_starts x_t_code x_t_count x_t_size x_h_sorts x_h_lengths x_h_items x_h_held x_h_things x_h_sizes x_h_bodies x_h_traced x_h_number x_h_spot x_h_parted x_g_count x_g_kinds x_g_wills x_g_starts x_g_code x_g_stack x_g_kl x_g_wl x_g_sl x_g_cl x_nr) (Qi res.1 (cW a ar t x_q0_dials x_q0_spots x_q0_skies x_q0_reports x_q0_count x_q0_chime x_q0_end x_q0_score x_q0_reportCount x_q0_z x_q0_rules x_q0_shades x_q0_facts x_q1_dials x_q1_spots x_q1_skies x_q1_reports x_q1_count x_q1_chime x_q1_end x_q1_score x_q1_reportCount x_q1_z x_q1_rules x_q1_shades x_q1_facts x_q2_dials x_q2_spots x_q2_skies x_q2_reports x_q2_count x_q2_chime x_q2_end x_q2_score x_q2_reportCount x_q2_z x_q2_rules x_q2_shades x_q2_facts x_isKept x_marks x_p_first x_p_steps x_p_most x_p_many x_p_fewest x_p_everRight x_p_opening x_p_rows x_p_rowCount x_p_acts x_p_marks x_p_deepest x_p_wanted x_t_length x_t_tape x_t_words x_t_places res.2.1 x_t_kinds x_t_wills x_t_starts res.2.2.1 x_t_count res.2.2.2 x_h_sorts x_h_lengths x_h_items x_h_held x_h_things x_h_sizes x_h_bodies x_h_traced x_h_number x_h_spot x_h_parted x_g_count x_g_kinds x_g_wills x_g_starts x_g_code x_g_stack x_g_kl x_g_wl x_g_sl x_g_cl x_nr)) := by
  unfold X6_readOpened_b at hf
  refine MC.ofI pn_X6 (Nat.le_of_ble_eq_true rfl) ?_
  intro p e s m args below meth c A Q ls cx hR hw hl
  have hx := cx.1
  have hb := cx.2.1
  have hl : lv_has ls 2 [(0, .ref (a 97)), (1, .int v1)] := hl
  refine lv_iload_n hx hb dX6_readOpened_0 rfl (lv_at hl 1 rfl) ?_
  refine lv_iconst (v := 3) hx hb dX6_readOpened_1 (by decide) ?_
  refine lv_icmp_le (tgt := 7) hx hb dX6_readOpened_2 (by decide) (fun hc => ?_) (fun hc => ?_)
  · have hf := ifT hf hc
    refine lv_aload_n hx hb dX6_readOpened_7 rfl (lv_at hl 0 rfl) ?_
    refine lv_dup hx hb dX6_readOpened_8 rfl ?_
    refine cg_X6_41_text cx hw dX6_readOpened_9 ?_
    refine lv_iconst (v := 1) hx hb dX6_readOpened_12 (by decide) ?_
    refine lv_iadd hx hb dX6_readOpened_13 ?_
    refine cp_X6_41_text cx hw dX6_readOpened_14 (fun H locs hw => ?_)
    refine lv_aload_n hx hb dX6_readOpened_17 rfl (lv_at hl 0 rfl) ?_
    refine lv_iload_n hx hb dX6_readOpened_18 rfl (lv_at hl 1 rfl) ?_
    obtain ⟨r1, h2, hf⟩ := bnS hf
    refine calVi cx hw hl.1 (hF0 h2) q_617 k_X6_readCondition rfl rv_text rfl dX6_readOpened_19 rfl (Nat.le_of_ble_eq_true rfl) ⟨by show _ ≤ 3 + 4 * (d + 1); omega, by show _ ≤ 64 * (3 + 4 * (d + 1)); omega⟩ ⟨Nat.le_refl _, Nat.le_refl _⟩ (fun H locs hw => ?_)
    refine lv_if_eq (tgt := 39) hx hb dX6_readOpened_22 (by decide) (fun hc => ?_) (fun hc => ?_)
    · have hf := ifT hf hc
      refine lv_iconst (v := 0) hx hb dX6_readOpened_39 (by decide) ?_
      have hf := Option.some.inj hf
      subst hf
      exact hR _ _ _ _ _ _ hw rfl ⟨rfl, rfl⟩ dX6_readOpened_40
    · have hf := ifF hf hc
      refine lv_aload_n hx hb dX6_readOpened_25 rfl (lv_at hl 0 rfl) ?_
      refine lv_sipush (v := 10013) hx hb dX6_readOpened_26 (by decide) ?_
      obtain ⟨r3, h4, hf⟩ := bnS hf
      refine calVi cx hw hl.1 (c_X6_takes h4) q_613 k_X6_takes rfl rv_text rfl dX6_readOpened_29 rfl (Nat.le_of_ble_eq_true rfl) ⟨by show _ ≤ 3 + 4 * (d + 1); omega, by show _ ≤ 64 * (3 + 4 * (d + 1)); omega⟩ ⟨Nat.le_refl _, Nat.le_refl _⟩ (fun H locs hw => ?_)
      refine lv_if_eq (tgt := 39) hx hb dX6_readOpened_32 (by decide) (fun hc => ?_) (fun hc => ?_)
      · have hf := ifT hf hc
        refine lv_iconst (v := 0) hx hb dX6_readOpened_39 (by decide) ?_
        have hf := Option.some.inj hf
        subst hf
        exact hR _ _ _ _ _ _ hw rfl ⟨rfl, rfl⟩ dX6_readOpened_40
      · have hf := ifF hf hc
        refine lv_iconst (v := 1) hx hb dX6_readOpened_35 (by decide) ?_
        refine lv_goto (tgt := 40) hx hb dX6_readOpened_36 (by decide) ?_
        have hf := Option.some.inj hf
        subst hf
        exact hR _ _ _ _ _ _ hw rfl ⟨rfl, rfl⟩ dX6_readOpened_40
  · have hf := ifF hf hc
    refine lv_iconst (v := 0) hx hb dX6_readOpened_5 (by decide) ?_
    have hf := Option.some.inj hf
    subst hf
    exact hR _ _ _ _ _ _ hw rfl ⟨rfl, rfl⟩ dX6_readOpened_6
theorem cg_X6_readCondition_G : ∀ d : Nat, (∀ {x_q0_dials : Nat → Nat → Int32} {x_q0_spots : Nat → Nat → Int32} {x_q0_skies : Nat → Int32} {x_q0_reports : Nat → Nat → Int32} {x_q0_count : Int32} {x_q0_chime : Int32} {x_q0_end : Int32} {x_q0_score : Int32} {x_q0_reportCount : Int32} {x_q0_z : Int32} {x_q0_rules : Nat} {x_q0_shades : Nat → Int32} {x_q0_facts : Nat → Int32} {x_q1_dials : Nat → Nat → Int32} {x_q1_spots : Nat → Nat → Int32} {x_q1_skies : Nat → Int32} {x_q1_reports : Nat → Nat → Int32} {x_q1_count : Int32} {x_q1_chime : Int32} {x_q1_end : Int32} {x_q1_score : Int32} {x_q1_reportCount : Int32} {x_q1_z : Int32} {x_q1_rules : Nat} {x_q1_shades : Nat → Int32} {x_q1_facts : Nat → Int32} {x_q2_dials : Nat → Nat → Int32} {x_q2_spots : Nat → Nat → Int32} {x_q2_skies : Nat → Int32} {x_q2_reports : Nat → Nat → Int32} {x_q2_count : Int32} {x_q2_chime : Int32} {x_q2_end : Int32} {x_q2_score : Int32} {x_q2_reportCount : Int32} {x_q2_z : Int32} {x_q2_rules : Nat} {x_q2_shades : Nat → Int32} {x_q2_facts : Nat → Int32} {x_isKept : Int32} {x_marks : Nat → Int32} {x_p_first : Nat → Int32} {x_p_steps : Int32} {x_p_most : Int32} {x_p_many : Int32} {x_p_fewest : Int32} {x_p_everRight : Int32} {x_p_opening : Int32} {x_p_rows : Nat → Nat → Int32} {x_p_rowCount : Int32} {x_p_acts : Nat → Int32} {x_p_marks : Nat → Nat → Int32} {x_p_deepest : Int32} {x_p_wanted : Int32} {x_t_length : Int32} {x_t_tape : Nat → Int32} {x_t_words : Nat → Int32} {x_t_places : Nat → Int32} {x_t_at : Int32} {x_t_kinds : Nat → Int32} {x_t_wills : Nat → Int32} {x_t_starts : Nat → Int32} {x_t_code : Nat → Int32} {x_t_count : Int32} {x_t_size : Int32} {x_h_sorts : Nat → Int32} {x_h_lengths : Nat → Int32} {x_h_items : Nat → Nat → Int32} {x_h_held : Nat → Int32} {x_h_things : Nat → Int32} {x_h_sizes : Nat → Int32} {x_h_bodies : Nat → Int32} {x_h_traced : Int32} {x_h_number : Int32} {x_h_spot : Int32} {x_h_parted : Int32} {x_g_count : Nat → Int32} {x_g_kinds : Nat → Nat → Int32} {x_g_wills : Nat → Nat → Int32} {x_g_starts : Nat → Nat → Int32} {x_g_code : Nat → Nat → Int32} {x_g_stack : Nat → Nat → Int32} {x_g_kl : Nat → Nat} {x_g_wl : Nat → Nat} {x_g_sl : Nat → Nat} {x_g_cl : Nat → Nat} {x_nr : Nat} {v1 : Int32} {res : Int32 × Int32 × (Nat → Int32) × Int32}, X6_readCondition_G n d 0 x_t_words x_t_at x_t_code x_t_size v1 = some res → MC l E0 D t yX6_readCondition cX6_readCondition 3 (some .boolean) (3 + 4 * d) 0 0 [.ref (a 97), .int v1] (cW a ar t x_q0_dials x_q0_spots x_q0_skies x_q0_reports x_q0_count x_q0_chime x_q0_end x_q0_score x_q0_reportCount x_q0_z x_q0_rules x_q0_shades x_q0_facts x_q1_dials x_q1_spots x_q1_skies x_q1_reports x_q1_count x_q1_chime x_q1_end x_q1_score x_q1_reportCount x_q1_z x_q1_rules x_q1_shades x_q1_facts x_q2_dials x_q2_spots x_q2_skies x_q2_reports x_q2_count x_q2_chime x_q2_end x_q2_score x_q2_reportCount x_q2_z x_q2_rules x_q2_shades x_q2_facts x_isKept x_marks x_p_first x_p_steps x_p_most x_p_many x_p_fewest x_p_everRight x_p_opening x_p_rows x_p_rowCount x_p_acts x_p_marks x_p_deepest x_p_wanted x_t_length x_t_tape x_t_words x_t_places x_t_at x_t_kinds x_t_wills x_t_starts x_t_code x_t_count x_t_size x_h_sorts x_h_lengths x_h_items x_h_held x_h_things x_h_sizes x_h_bodies x_h_traced x_h_number x_h_spot x_h_parted x_g_count x_g_kinds x_g_wills x_g_starts x_g_code x_g_stack x_g_kl x_g_wl x_g_sl x_g_cl x_nr) (Qi res.1 (cW a ar t x_q0_dials x_q0_spots x_q0_skies x_q0_reports x_q0_count x_q0_chime x_q0_end x_q0_score x_q0_reportCount x_q0_z x_q0_rules x_q0_shades x_q0_facts x_q1_dials x_q1_spots x_q1_skies x_q1_reports x_q1_count x_q1_chime x_q1_end x_q1_score x_q1_reportCount x_q1_z x_q1_rules x_q1_shades x_q1_facts x_q2_dials x_q2_spots x_q2_skies x_q2_reports x_q2_count x_q2_chime x_q2_end x_q2_score x_q2_reportCount x_q2_z x_q2_rules x_q2_shades x_q2_facts x_isKept x_marks x_p_first x_p_steps x_p_most x_p_many x_p_fewest x_p_everRight x_p_opening x_p_rows x_p_rowCount x_p_acts x_p_marks x_p_deepest x_p_wanted x_t_length x_t_tape x_t_words x_t_places res.2.1 x_t_kinds x_t_wills x_t_starts res.2.2.1 x_t_count res.2.2.2 x_h_sorts x_h_lengths x_h_items x_h_held x_h_things x_h_sizes x_h_bodies x_h_traced x_h_number x_h_spot x_h_parted x_g_count x_g_kinds x_g_wills x_g_starts x_g_code x_g_stack x_g_kl x_g_wl x_g_sl x_g_cl x_nr))) ∧ (∀ {x_q0_dials : Nat → Nat → Int32} {x_q0_spots : Nat → Nat → Int32} {x_q0_skies : Nat → Int32} {x_q0_reports : Nat → Nat → Int32} {x_q0_count : Int32} {x_q0_chime : Int32} {x_q0_end : Int32} {x_q0_score : Int32} {x_q0_reportCount : Int32} {x_q0_z : Int32} {x_q0_rules : Nat} {x_q0_shades : Nat → Int32} {x_q0_facts : Nat → Int32} {x_q1_dials : Nat → Nat → Int32} {x_q1_spots : Nat → Nat → Int32} {x_q1_skies : Nat → Int32} {x_q1_reports : Nat → Nat → Int32} {x_q1_count : Int32} {x_q1_chime : Int32} {x_q1_end : Int32} {x_q1_score : Int32} {x_q1_reportCount : Int32} {x_q1_z : Int32} {x_q1_rules : Nat} {x_q1_shades : Nat → Int32} {x_q1_facts : Nat → Int32} {x_q2_dials : Nat → Nat → Int32} {x_q2_spots : Nat → Nat → Int32} {x_q2_skies : Nat → Int32} {x_q2_reports : Nat → Nat → Int32} {x_q2_count : Int32} {x_q2_chime : Int32} {x_q2_end : Int32} {x_q2_score : Int32} {x_q2_reportCount : Int32} {x_q2_z : Int32} {x_q2_rules : Nat} {x_q2_shades : Nat → Int32} {x_q2_facts : Nat → Int32} {x_isKept : Int32} {x_marks : Nat → Int32} {x_p_first : Nat → Int32} {x_p_steps : Int32} {x_p_most : Int32} {x_p_many : Int32} {x_p_fewest : Int32} {x_p_everRight : Int32} {x_p_opening : Int32} {x_p_rows : Nat → Nat → Int32} {x_p_rowCount : Int32} {x_p_acts : Nat → Int32} {x_p_marks : Nat → Nat → Int32} {x_p_deepest : Int32} {x_p_wanted : Int32} {x_t_length : Int32} {x_t_tape : Nat → Int32} {x_t_words : Nat → Int32} {x_t_places : Nat → Int32} {x_t_at : Int32} {x_t_kinds : Nat → Int32} {x_t_wills : Nat → Int32} {x_t_starts : Nat → Int32} {x_t_code : Nat → Int32} {x_t_count : Int32} {x_t_size : Int32} {x_h_sorts : Nat → Int32} {x_h_lengths : Nat → Int32} {x_h_items : Nat → Nat → Int32} {x_h_held : Nat → Int32} {x_h_things : Nat → Int32} {x_h_sizes : Nat → Int32} {x_h_bodies : Nat → Int32} {x_h_traced : Int32} {x_h_number : Int32} {x_h_spot : Int32} {x_h_parted : Int32} {x_g_count : Nat → Int32} {x_g_kinds : Nat → Nat → Int32} {x_g_wills : Nat → Nat → Int32} {x_g_starts : Nat → Nat → Int32} {x_g_code : Nat → Nat → Int32} {x_g_stack : Nat → Nat → Int32} {x_g_kl : Nat → Nat} {x_g_wl : Nat → Nat} {x_g_sl : Nat → Nat} {x_g_cl : Nat → Nat} {x_nr : Nat} {v1 : Int32} {res : Int32 × Int32 × (Nat → Int32) × Int32}, X6_readCondition_G n d 1 x_t_words x_t_at x_t_code x_t_size v1 = some res → MC l E0 D t yX6_readAll cX6_readAll 3 (some .boolean) (3 + 4 * d) 0 0 [.ref (a 97), .int v1] (cW a ar t x_q0_dials x_q0_spots x_q0_skies x_q0_reports x_q0_count x_q0_chime x_q0_end x_q0_score x_q0_reportCount x_q0_z x_q0_rules x_q0_shades x_q0_facts x_q1_dials x_q1_spots x_q1_skies x_q1_reports x_q1_count x_q1_chime x_q1_end x_q1_score x_q1_reportCount x_q1_z x_q1_rules x_q1_shades x_q1_facts x_q2_dials x_q2_spots x_q2_skies x_q2_reports x_q2_count x_q2_chime x_q2_end x_q2_score x_q2_reportCount x_q2_z x_q2_rules x_q2_shades x_q2_facts x_isKept x_marks x_p_first x_p_steps x_p_most x_p_many x_p_fewest x_p_everRight x_p_opening x_p_rows x_p_rowCount x_p_acts x_p_marks x_p_deepest x_p_wanted x_t_length x_t_tape x_t_words x_t_places x_t_at x_t_kinds x_t_wills x_t_starts x_t_code x_t_count x_t_size x_h_sorts x_h_lengths x_h_items x_h_held x_h_things x_h_sizes x_h_bodies x_h_traced x_h_number x_h_spot x_h_parted x_g_count x_g_kinds x_g_wills x_g_starts x_g_code x_g_stack x_g_kl x_g_wl x_g_sl x_g_cl x_nr) (Qi res.1 (cW a ar t x_q0_dials x_q0_spots x_q0_skies x_q0_reports x_q0_count x_q0_chime x_q0_end x_q0_score x_q0_reportCount x_q0_z x_q0_rules x_q0_shades x_q0_facts x_q1_dials x_q1_spots x_q1_skies x_q1_reports x_q1_count x_q1_chime x_q1_end x_q1_score x_q1_reportCount x_q1_z x_q1_rules x_q1_shades x_q1_facts x_q2_dials x_q2_spots x_q2_skies x_q2_reports x_q2_count x_q2_chime x_q2_end x_q2_score x_q2_reportCount x_q2_z x_q2_rules x_q2_shades x_q2_facts x_isKept x_marks x_p_first x_p_steps x_p_most x_p_many x_p_fewest x_p_everRight x_p_opening x_p_rows x_p_rowCount x_p_acts x_p_marks x_p_deepest x_p_wanted x_t_length x_t_tape x_t_words x_t_places res.2.1 x_t_kinds x_t_wills x_t_starts res.2.2.1 x_t_count res.2.2.2 x_h_sorts x_h_lengths x_h_items x_h_held x_h_things x_h_sizes x_h_bodies x_h_traced x_h_number x_h_spot x_h_parted x_g_count x_g_kinds x_g_wills x_g_starts x_g_code x_g_stack x_g_kl x_g_wl x_g_sl x_g_cl x_nr))) ∧ (∀ {x_q0_dials : Nat → Nat → Int32} {x_q0_spots : Nat → Nat → Int32} {x_q0_skies : Nat → Int32} {x_q0_reports : Nat → Nat → Int32} {x_q0_count : Int32} {x_q0_chime : Int32} {x_q0_end : Int32} {x_q0_score : Int32} {x_q0_reportCount : Int32} {x_q0_z : Int32} {x_q0_rules : Nat} {x_q0_shades : Nat → Int32} {x_q0_facts : Nat → Int32} {x_q1_dials : Nat → Nat → Int32} {x_q1_spots : Nat → Nat → Int32} {x_q1_skies : Nat → Int32} {x_q1_reports : Nat → Nat → Int32} {x_q1_count : Int32} {x_q1_chime : Int32} {x_q1_end : Int32} {x_q1_score : Int32} {x_q1_reportCount : Int32} {x_q1_z : Int32} {x_q1_rules : Nat} {x_q1_shades : Nat → Int32} {x_q1_facts : Nat → Int32} {x_q2_dials : Nat → Nat → Int32} {x_q2_spots : Nat → Nat → Int32} {x_q2_skies : Nat → Int32} {x_q2_reports : Nat → Nat → Int32} {x_q2_count : Int32} {x_q2_chime : Int32} {x_q2_end : Int32} {x_q2_score : Int32} {x_q2_reportCount : Int32} {x_q2_z : Int32} {x_q2_rules : Nat} {x_q2_shades : Nat → Int32} {x_q2_facts : Nat → Int32} {x_isKept : Int32} {x_marks : Nat → Int32} {x_p_first : Nat → Int32} {x_p_steps : Int32} {x_p_most : Int32} {x_p_many : Int32} {x_p_fewest : Int32} {x_p_everRight : Int32} {x_p_opening : Int32} {x_p_rows : Nat → Nat → Int32} {x_p_rowCount : Int32} {x_p_acts : Nat → Int32} {x_p_marks : Nat → Nat → Int32} {x_p_deepest : Int32} {x_p_wanted : Int32} {x_t_length : Int32} {x_t_tape : Nat → Int32} {x_t_words : Nat → Int32} {x_t_places : Nat → Int32} {x_t_at : Int32} {x_t_kinds : Nat → Int32} {x_t_wills : Nat → Int32} {x_t_starts : Nat → Int32} {x_t_code : Nat → Int32} {x_t_count : Int32} {x_t_size : Int32} {x_h_sorts : Nat → Int32} {x_h_lengths : Nat → Int32} {x_h_items : Nat → Nat → Int32} {x_h_held : Nat → Int32} {x_h_things : Nat → Int32} {x_h_sizes : Nat → Int32} {x_h_bodies : Nat → Int32} {x_h_traced : Int32} {x_h_number : Int32} {x_h_spot : Int32} {x_h_parted : Int32} {x_g_count : Nat → Int32} {x_g_kinds : Nat → Nat → Int32} {x_g_wills : Nat → Nat → Int32} {x_g_starts : Nat → Nat → Int32} {x_g_code : Nat → Nat → Int32} {x_g_stack : Nat → Nat → Int32} {x_g_kl : Nat → Nat} {x_g_wl : Nat → Nat} {x_g_sl : Nat → Nat} {x_g_cl : Nat → Nat} {x_nr : Nat} {v1 : Int32} {res : Int32 × Int32 × (Nat → Int32) × Int32}, X6_readCondition_G n d 2 x_t_words x_t_at x_t_code x_t_size v1 = some res → MC l E0 D t yX6_readOne cX6_readOne 4 (some .boolean) (3 + 4 * d) 0 0 [.ref (a 97), .int v1] (cW a ar t x_q0_dials x_q0_spots x_q0_skies x_q0_reports x_q0_count x_q0_chime x_q0_end x_q0_score x_q0_reportCount x_q0_z x_q0_rules x_q0_shades x_q0_facts x_q1_dials x_q1_spots x_q1_skies x_q1_reports x_q1_count x_q1_chime x_q1_end x_q1_score x_q1_reportCount x_q1_z x_q1_rules x_q1_shades x_q1_facts x_q2_dials x_q2_spots x_q2_skies x_q2_reports x_q2_count x_q2_chime x_q2_end x_q2_score x_q2_reportCount x_q2_z x_q2_rules x_q2_shades x_q2_facts x_isKept x_marks x_p_first x_p_steps x_p_most x_p_many x_p_fewest x_p_everRight x_p_opening x_p_rows x_p_rowCount x_p_acts x_p_marks x_p_deepest x_p_wanted x_t_length x_t_tape x_t_words x_t_places x_t_at x_t_kinds x_t_wills x_t_starts x_t_code x_t_count x_t_size x_h_sorts x_h_lengths x_h_items x_h_held x_h_things x_h_sizes x_h_bodies x_h_traced x_h_number x_h_spot x_h_parted x_g_count x_g_kinds x_g_wills x_g_starts x_g_code x_g_stack x_g_kl x_g_wl x_g_sl x_g_cl x_nr) (Qi res.1 (cW a ar t x_q0_dials x_q0_spots x_q0_skies x_q0_reports x_q0_count x_q0_chime x_q0_end x_q0_score x_q0_reportCount x_q0_z x_q0_rules x_q0_shades x_q0_facts x_q1_dials x_q1_spots x_q1_skies x_q1_reports x_q1_count x_q1_chime x_q1_end x_q1_score x_q1_reportCount x_q1_z x_q1_rules x_q1_shades x_q1_facts x_q2_dials x_q2_spots x_q2_skies x_q2_reports x_q2_count x_q2_chime x_q2_end x_q2_score x_q2_reportCount x_q2_z x_q2_rules x_q2_shades x_q2_facts x_isKept x_marks x_p_first x_p_steps x_p_most x_p_many x_p_fewest x_p_everRight x_p_opening x_p_rows x_p_rowCount x_p_acts x_p_marks x_p_deepest x_p_wanted x_t_length x_t_tape x_t_words x_t_places res.2.1 x_t_kinds x_t_wills x_t_starts res.2.2.1 x_t_count res.2.2.2 x_h_sorts x_h_lengths x_h_items x_h_held x_h_things x_h_sizes x_h_bodies x_h_traced x_h_number x_h_spot x_h_parted x_g_count x_g_kinds x_g_wills x_g_starts x_g_code x_g_stack x_g_kl x_g_wl x_g_sl x_g_cl x_nr))) ∧ (∀ {x_q0_dials : Nat → Nat → Int32} {x_q0_spots : Nat → Nat → Int32} {x_q0_skies : Nat → Int32} {x_q0_reports : Nat → Nat → Int32} {x_q0_count : Int32} {x_q0_chime : Int32} {x_q0_end : Int32} {x_q0_score : Int32} {x_q0_reportCount : Int32} {x_q0_z : Int32} {x_q0_rules : Nat} {x_q0_shades : Nat → Int32} {x_q0_facts : Nat → Int32} {x_q1_dials : Nat → Nat → Int32} {x_q1_spots : Nat → Nat → Int32} {x_q1_skies : Nat → Int32} {x_q1_reports : Nat → Nat → Int32} {x_q1_count : Int32} {x_q1_chime : Int32} {x_q1_end : Int32} {x_q1_score : Int32} {x_q1_reportCount : Int32} {x_q1_z : Int32} {x_q1_rules : Nat} {x_q1_shades : Nat → Int32} {x_q1_facts : Nat → Int32} {x_q2_dials : Nat → Nat → Int32} {x_q2_spots : Nat → Nat → Int32} {x_q2_skies : Nat → Int32} {x_q2_reports : Nat → Nat → Int32} {x_q2_count : Int32} {x_q2_chime : Int32} {x_q2_end : Int32} {x_q2_score : Int32} {x_q2_reportCount : Int32} {x_q2_z : Int32} {x_q2_rules : Nat} {x_q2_shades : Nat → Int32} {x_q2_facts : Nat → Int32} {x_isKept : Int32} {x_marks : Nat → Int32} {x_p_first : Nat → Int32} {x_p_steps : Int32} {x_p_most : Int32} {x_p_many : Int32} {x_p_fewest : Int32} {x_p_everRight : Int32} {x_p_opening : Int32} {x_p_rows : Nat → Nat → Int32} {x_p_rowCount : Int32} {x_p_acts : Nat → Int32} {x_p_marks : Nat → Nat → Int32} {x_p_deepest : Int32} {x_p_wanted : Int32} {x_t_length : Int32} {x_t_tape : Nat → Int32} {x_t_words : Nat → Int32} {x_t_places : Nat → Int32} {x_t_at : Int32} {x_t_kinds : Nat → Int32} {x_t_wills : Nat → Int32} {x_t_starts : Nat → Int32} {x_t_code : Nat → Int32} {x_t_count : Int32} {x_t_size : Int32} {x_h_sorts : Nat → Int32} {x_h_lengths : Nat → Int32} {x_h_items : Nat → Nat → Int32} {x_h_held : Nat → Int32} {x_h_things : Nat → Int32} {x_h_sizes : Nat → Int32} {x_h_bodies : Nat → Int32} {x_h_traced : Int32} {x_h_number : Int32} {x_h_spot : Int32} {x_h_parted : Int32} {x_g_count : Nat → Int32} {x_g_kinds : Nat → Nat → Int32} {x_g_wills : Nat → Nat → Int32} {x_g_starts : Nat → Nat → Int32} {x_g_code : Nat → Nat → Int32} {x_g_stack : Nat → Nat → Int32} {x_g_kl : Nat → Nat} {x_g_wl : Nat → Nat} {x_g_sl : Nat → Nat} {x_g_cl : Nat → Nat} {x_nr : Nat} {v1 : Int32} {res : Int32 × Int32 × (Nat → Int32) × Int32}, X6_readCondition_G n d 3 x_t_words x_t_at x_t_code x_t_size v1 = some res → MC l E0 D t yX6_readOpened cX6_readOpened 2 (some .boolean) (3 + 4 * d) 0 0 [.ref (a 97), .int v1] (cW a ar t x_q0_dials x_q0_spots x_q0_skies x_q0_reports x_q0_count x_q0_chime x_q0_end x_q0_score x_q0_reportCount x_q0_z x_q0_rules x_q0_shades x_q0_facts x_q1_dials x_q1_spots x_q1_skies x_q1_reports x_q1_count x_q1_chime x_q1_end x_q1_score x_q1_reportCount x_q1_z x_q1_rules x_q1_shades x_q1_facts x_q2_dials x_q2_spots x_q2_skies x_q2_reports x_q2_count x_q2_chime x_q2_end x_q2_score x_q2_reportCount x_q2_z x_q2_rules x_q2_shades x_q2_facts x_isKept x_marks x_p_first x_p_steps x_p_most x_p_many x_p_fewest x_p_everRight x_p_opening x_p_rows x_p_rowCount x_p_acts x_p_marks x_p_deepest x_p_wanted x_t_length x_t_tape x_t_words x_t_places x_t_at x_t_kinds x_t_wills x_t_starts x_t_code x_t_count x_t_size x_h_sorts x_h_lengths x_h_items x_h_held x_h_things x_h_sizes x_h_bodies x_h_traced x_h_number x_h_spot x_h_parted x_g_count x_g_kinds x_g_wills x_g_starts x_g_code x_g_stack x_g_kl x_g_wl x_g_sl x_g_cl x_nr) (Qi res.1 (cW a ar t x_q0_dials x_q0_spots x_q0_skies x_q0_reports x_q0_count x_q0_chime x_q0_end x_q0_score x_q0_reportCount x_q0_z x_q0_rules x_q0_shades x_q0_facts x_q1_dials x_q1_spots x_q1_skies x_q1_reports x_q1_count x_q1_chime x_q1_end x_q1_score x_q1_reportCount x_q1_z x_q1_rules x_q1_shades x_q1_facts x_q2_dials x_q2_spots x_q2_skies x_q2_reports x_q2_count x_q2_chime x_q2_end x_q2_score x_q2_reportCount x_q2_z x_q2_rules x_q2_shades x_q2_facts x_isKept x_marks x_p_first x_p_steps x_p_most x_p_many x_p_fewest x_p_everRight x_p_opening x_p_rows x_p_rowCount x_p_acts x_p_marks x_p_deepest x_p_wanted x_t_length x_t_tape x_t_words x_t_places res.2.1 x_t_kinds x_t_wills x_t_starts res.2.2.1 x_t_count res.2.2.2 x_h_sorts x_h_lengths x_h_items x_h_held x_h_things x_h_sizes x_h_bodies x_h_traced x_h_number x_h_spot x_h_parted x_g_count x_g_kinds x_g_wills x_g_starts x_g_code x_g_stack x_g_kl x_g_wl x_g_sl x_g_cl x_nr))) := by
  intro d
  induction d with
  | zero => refine ⟨?_, ?_, ?_, ?_⟩ <;> (intros; rename_i hf; simp [X6_readCondition_G] at hf)
  | succ d ih =>
    obtain ⟨i0, i1, i2, i3⟩ := ih
    refine ⟨?_, ?_, ?_, ?_⟩
    · intros; rename_i hf; rw [X6_readCondition_G] at hf; exact cb_X6_readCondition (fun h => i0 h) (fun h => i1 h) (fun h => i2 h) (fun h => i3 h) hf
    · intros; rename_i hf; rw [X6_readCondition_G] at hf; exact cb_X6_readAll (fun h => i0 h) (fun h => i1 h) (fun h => i2 h) (fun h => i3 h) hf
    · intros; rename_i hf; rw [X6_readCondition_G] at hf; exact cb_X6_readOne (fun h => i0 h) (fun h => i1 h) (fun h => i2 h) (fun h => i3 h) hf
    · intros; rename_i hf; rw [X6_readCondition_G] at hf; exact cb_X6_readOpened (fun h => i0 h) (fun h => i1 h) (fun h => i2 h) (fun h => i3 h) hf
theorem c_X6_readCondition {d : Nat} {v1 : Int32} {res : Int32 × Int32 × (Nat → Int32) × Int32} (hf : X6_readCondition n d x_t_words x_t_at x_t_code x_t_size v1 = some res) : MC l E0 D t yX6_readCondition cX6_readCondition 3 (some .boolean) (3 + 4 * d) 0 0 [.ref (a 97), .int v1] (cW a ar t x_q0_dials x_q0_spots x_q0_skies x_q0_reports x_q0_count x_q0_chime x_q0_end x_q0_score x_q0_reportCount x_q0_z x_q0_rules x_q0_shades x_q0_facts x_q1_dials x_q1_spots x_q1_skies x_q1_reports x_q1_count x_q1_chime x_q1_end x_q1_score x_q1_reportCount x_q1_z x_q1_rules x_q1_shades x_q1_facts x_q2_dials x_q2_spots x_q2_skies x_q2_reports x_q2_count x_q2_chime x_q2_end x_q2_score x_q2_reportCount x_q2_z x_q2_rules x_q2_shades x_q2_facts x_isKept x_marks x_p_first x_p_steps x_p_most x_p_many x_p_fewest x_p_everRight x_p_opening x_p_rows x_p_rowCount x_p_acts x_p_marks x_p_deepest x_p_wanted x_t_length x_t_tape x_t_words x_t_places x_t_at x_t_kinds x_t_wills x_t_starts x_t_code x_t_count x_t_size x_h_sorts x_h_lengths x_h_items x_h_held x_h_things x_h_sizes x_h_bodies x_h_traced x_h_number x_h_spot x_h_parted x_g_count x_g_kinds x_g_wills x_g_starts x_g_code x_g_stack x_g_kl x_g_wl x_g_sl x_g_cl x_nr) (Qi res.1 (cW a ar t x_q0_dials x_q0_spots x_q0_skies x_q0_reports x_q0_count x_q0_chime x_q0_end x_q0_score x_q0_reportCount x_q0_z x_q0_rules x_q0_shades x_q0_facts x_q1_dials x_q1_spots x_q1_skies x_q1_reports x_q1_count x_q1_chime x_q1_end x_q1_score x_q1_reportCount x_q1_z x_q1_rules x_q1_shades x_q1_facts x_q2_dials x_q2_spots x_q2_skies x_q2_reports x_q2_count x_q2_chime x_q2_end x_q2_score x_q2_reportCount x_q2_z x_q2_rules x_q2_shades x_q2_facts x_isKept x_marks x_p_first x_p_steps x_p_most x_p_many x_p_fewest x_p_everRight x_p_opening x_p_rows x_p_rowCount x_p_acts x_p_marks x_p_deepest x_p_wanted x_t_length x_t_tape x_t_words x_t_places res.2.1 x_t_kinds x_t_wills x_t_starts res.2.2.1 x_t_count res.2.2.2 x_h_sorts x_h_lengths x_h_items x_h_held x_h_things x_h_sizes x_h_bodies x_h_traced x_h_number x_h_spot x_h_parted x_g_count x_g_kinds x_g_wills x_g_starts x_g_code x_g_stack x_g_kl x_g_wl x_g_sl x_g_cl x_nr)) := (cg_X6_readCondition_G d).1 hf
theorem c_X6_readAll {d : Nat} {v1 : Int32} {res : Int32 × Int32 × (Nat → Int32) × Int32} (hf : X6_readAll n d x_t_words x_t_at x_t_code x_t_size v1 = some res) : MC l E0 D t yX6_readAll cX6_readAll 3 (some .boolean) (3 + 4 * d) 0 0 [.ref (a 97), .int v1] (cW a ar t x_q0_dials x_q0_spots x_q0_skies x_q0_reports x_q0_count x_q0_chime x_q0_end x_q0_score x_q0_reportCount x_q0_z x_q0_rules x_q0_shades x_q0_facts x_q1_dials x_q1_spots x_q1_skies x_q1_reports x_q1_count x_q1_chime x_q1_end x_q1_score x_q1_reportCount x_q1_z x_q1_rules x_q1_shades x_q1_facts x_q2_dials x_q2_spots x_q2_skies x_q2_reports x_q2_count x_q2_chime x_q2_end x_q2_score x_q2_reportCount x_q2_z x_q2_rules x_q2_shades x_q2_facts x_isKept x_marks x_p_first x_p_steps x_p_most x_p_many x_p_fewest x_p_everRight x_p_opening x_p_rows x_p_rowCount x_p_acts x_p_marks x_p_deepest x_p_wanted x_t_length x_t_tape x_t_words x_t_places x_t_at x_t_kinds x_t_wills x_t_starts x_t_code x_t_count x_t_size x_h_sorts x_h_lengths x_h_items x_h_held x_h_things x_h_sizes x_h_bodies x_h_traced x_h_number x_h_spot x_h_parted x_g_count x_g_kinds x_g_wills x_g_starts x_g_code x_g_stack x_g_kl x_g_wl x_g_sl x_g_cl x_nr) (Qi res.1 (cW a ar t x_q0_dials x_q0_spots x_q0_skies x_q0_reports x_q0_count x_q0_chime x_q0_end x_q0_score x_q0_reportCount x_q0_z x_q0_rules x_q0_shades x_q0_facts x_q1_dials x_q1_spots x_q1_skies x_q1_reports x_q1_count x_q1_chime x_q1_end x_q1_score x_q1_reportCount x_q1_z x_q1_rules x_q1_shades x_q1_facts x_q2_dials x_q2_spots x_q2_skies x_q2_reports x_q2_count x_q2_chime x_q2_end x_q2_score x_q2_reportCount x_q2_z x_q2_rules x_q2_shades x_q2_facts x_isKept x_marks x_p_first x_p_steps x_p_most x_p_many x_p_fewest x_p_everRight x_p_opening x_p_rows x_p_rowCount x_p_acts x_p_marks x_p_deepest x_p_wanted x_t_length x_t_tape x_t_words x_t_places res.2.1 x_t_kinds x_t_wills x_t_starts res.2.2.1 x_t_count res.2.2.2 x_h_sorts x_h_lengths x_h_items x_h_held x_h_things x_h_sizes x_h_bodies x_h_traced x_h_number x_h_spot x_h_parted x_g_count x_g_kinds x_g_wills x_g_starts x_g_code x_g_stack x_g_kl x_g_wl x_g_sl x_g_cl x_nr)) := (cg_X6_readCondition_G d).2.1 hf
theorem c_X6_readOne {d : Nat} {v1 : Int32} {res : Int32 × Int32 × (Nat → Int32) × Int32} (hf : X6_readOne n d x_t_words x_t_at x_t_code x_t_size v1 = some res) : MC l E0 D t yX6_readOne cX6_readOne 4 (some .boolean) (3 + 4 * d) 0 0 [.ref (a 97), .int v1] (cW a ar t x_q0_dials x_q0_spots x_q0_skies x_q0_reports x_q0_count x_q0_chime x_q0_end x_q0_score x_q0_reportCount x_q0_z x_q0_rules x_q0_shades x_q0_facts x_q1_dials x_q1_spots x_q1_skies x_q1_reports x_q1_count x_q1_chime x_q1_end x_q1_score x_q1_reportCount x_q1_z x_q1_rules x_q1_shades x_q1_facts x_q2_dials x_q2_spots x_q2_skies x_q2_reports x_q2_count x_q2_chime x_q2_end x_q2_score x_q2_reportCount x_q2_z x_q2_rules x_q2_shades x_q2_facts x_isKept x_marks x_p_first x_p_steps x_p_most x_p_many x_p_fewest x_p_everRight x_p_opening x_p_rows x_p_rowCount x_p_acts x_p_marks x_p_deepest x_p_wanted x_t_length x_t_tape x_t_words x_t_places x_t_at x_t_kinds x_t_wills x_t_starts x_t_code x_t_count x_t_size x_h_sorts x_h_lengths x_h_items x_h_held x_h_things x_h_sizes x_h_bodies x_h_traced x_h_number x_h_spot x_h_parted x_g_count x_g_kinds x_g_wills x_g_starts x_g_code x_g_stack x_g_kl x_g_wl x_g_sl x_g_cl x_nr) (Qi res.1 (cW a ar t x_q0_dials x_q0_spots x_q0_skies x_q0_reports x_q0_count x_q0_chime x_q0_end x_q0_score x_q0_reportCount x_q0_z x_q0_rules x_q0_shades x_q0_facts x_q1_dials x_q1_spots x_q1_skies x_q1_reports x_q1_count x_q1_chime x_q1_end x_q1_score x_q1_reportCount x_q1_z x_q1_rules x_q1_shades x_q1_facts x_q2_dials x_q2_spots x_q2_skies x_q2_reports x_q2_count x_q2_chime x_q2_end x_q2_score x_q2_reportCount x_q2_z x_q2_rules x_q2_shades x_q2_facts x_isKept x_marks x_p_first x_p_steps x_p_most x_p_many x_p_fewest x_p_everRight x_p_opening x_p_rows x_p_rowCount x_p_acts x_p_marks x_p_deepest x_p_wanted x_t_length x_t_tape x_t_words x_t_places res.2.1 x_t_kinds x_t_wills x_t_starts res.2.2.1 x_t_count res.2.2.2 x_h_sorts x_h_lengths x_h_items x_h_held x_h_things x_h_sizes x_h_bodies x_h_traced x_h_number x_h_spot x_h_parted x_g_count x_g_kinds x_g_wills x_g_starts x_g_code x_g_stack x_g_kl x_g_wl x_g_sl x_g_cl x_nr)) := (cg_X6_readCondition_G d).2.2.1 hf
theorem c_X6_readOpened {d : Nat} {v1 : Int32} {res : Int32 × Int32 × (Nat → Int32) × Int32} (hf : X6_readOpened n d x_t_words x_t_at x_t_code x_t_size v1 = some res) : MC l E0 D t yX6_readOpened cX6_readOpened 2 (some .boolean) (3 + 4 * d) 0 0 [.ref (a 97), .int v1] (cW a ar t x_q0_dials x_q0_spots x_q0_skies x_q0_reports x_q0_count x_q0_chime x_q0_end x_q0_score x_q0_reportCount x_q0_z x_q0_rules x_q0_shades x_q0_facts x_q1_dials x_q1_spots x_q1_skies x_q1_reports x_q1_count x_q1_chime x_q1_end x_q1_score x_q1_reportCount x_q1_z x_q1_rules x_q1_shades x_q1_facts x_q2_dials x_q2_spots x_q2_skies x_q2_reports x_q2_count x_q2_chime x_q2_end x_q2_score x_q2_reportCount x_q2_z x_q2_rules x_q2_shades x_q2_facts x_isKept x_marks x_p_first x_p_steps x_p_most x_p_many x_p_fewest x_p_everRight x_p_opening x_p_rows x_p_rowCount x_p_acts x_p_marks x_p_deepest x_p_wanted x_t_length x_t_tape x_t_words x_t_places x_t_at x_t_kinds x_t_wills x_t_starts x_t_code x_t_count x_t_size x_h_sorts x_h_lengths x_h_items x_h_held x_h_things x_h_sizes x_h_bodies x_h_traced x_h_number x_h_spot x_h_parted x_g_count x_g_kinds x_g_wills x_g_starts x_g_code x_g_stack x_g_kl x_g_wl x_g_sl x_g_cl x_nr) (Qi res.1 (cW a ar t x_q0_dials x_q0_spots x_q0_skies x_q0_reports x_q0_count x_q0_chime x_q0_end x_q0_score x_q0_reportCount x_q0_z x_q0_rules x_q0_shades x_q0_facts x_q1_dials x_q1_spots x_q1_skies x_q1_reports x_q1_count x_q1_chime x_q1_end x_q1_score x_q1_reportCount x_q1_z x_q1_rules x_q1_shades x_q1_facts x_q2_dials x_q2_spots x_q2_skies x_q2_reports x_q2_count x_q2_chime x_q2_end x_q2_score x_q2_reportCount x_q2_z x_q2_rules x_q2_shades x_q2_facts x_isKept x_marks x_p_first x_p_steps x_p_most x_p_many x_p_fewest x_p_everRight x_p_opening x_p_rows x_p_rowCount x_p_acts x_p_marks x_p_deepest x_p_wanted x_t_length x_t_tape x_t_words x_t_places res.2.1 x_t_kinds x_t_wills x_t_starts res.2.2.1 x_t_count res.2.2.2 x_h_sorts x_h_lengths x_h_items x_h_held x_h_things x_h_sizes x_h_bodies x_h_traced x_h_number x_h_spot x_h_parted x_g_count x_g_kinds x_g_wills x_g_starts x_g_code x_g_stack x_g_kl x_g_wl x_g_sl x_g_cl x_nr)) := (cg_X6_readCondition_G d).2.2.2 hf
theorem dX6_readRule_0 : decode cX6_readRule 0 = .ok (.aload_n 0, 1) := by decide +kernel
theorem dX6_readRule_1 : decode cX6_readRule 1 = .ok (.getfield 15, 3) := by decide +kernel
theorem dX6_readRule_4 : decode cX6_readRule 4 = .ok (.aload_n 0, 1) := by decide +kernel
theorem dX6_readRule_5 : decode cX6_readRule 5 = .ok (.getfield 41, 3) := by decide +kernel
theorem dX6_readRule_8 : decode cX6_readRule 8 = .ok (.iaload, 1) := by decide +kernel
theorem dX6_readRule_9 : decode cX6_readRule 9 = .ok (.sipush 10018, 3) := by decide +kernel
theorem dX6_readRule_12 : decode cX6_readRule 12 = .ok (.sipush 10023, 3) := by decide +kernel
theorem dX6_readRule_15 : decode cX6_readRule 15 = .ok (.invokestatic 94, 3) := by decide +kernel
theorem dX6_readRule_18 : decode cX6_readRule 18 = .ok (.ifCond .ne 5, 3) := by decide +kernel
theorem dX6_readRule_21 : decode cX6_readRule 21 = .ok (.iconst 0, 1) := by decide +kernel
theorem dX6_readRule_22 : decode cX6_readRule 22 = .ok (.ireturn, 1) := by decide +kernel
theorem dX6_readRule_23 : decode cX6_readRule 23 = .ok (.aload_n 0, 1) := by decide +kernel
theorem dX6_readRule_24 : decode cX6_readRule 24 = .ok (.getfield 22, 3) := by decide +kernel
theorem dX6_readRule_27 : decode cX6_readRule 27 = .ok (.iload_n 1, 1) := by decide +kernel
theorem dX6_readRule_28 : decode cX6_readRule 28 = .ok (.aload_n 0, 1) := by decide +kernel
theorem dX6_readRule_29 : decode cX6_readRule 29 = .ok (.getfield 15, 3) := by decide +kernel
theorem dX6_readRule_32 : decode cX6_readRule 32 = .ok (.aload_n 0, 1) := by decide +kernel
theorem dX6_readRule_33 : decode cX6_readRule 33 = .ok (.getfield 41, 3) := by decide +kernel
theorem dX6_readRule_36 : decode cX6_readRule 36 = .ok (.iaload, 1) := by decide +kernel
theorem dX6_readRule_37 : decode cX6_readRule 37 = .ok (.sipush 10018, 3) := by decide +kernel
theorem dX6_readRule_40 : decode cX6_readRule 40 = .ok (.isub, 1) := by decide +kernel
theorem dX6_readRule_41 : decode cX6_readRule 41 = .ok (.iastore, 1) := by decide +kernel
theorem dX6_readRule_42 : decode cX6_readRule 42 = .ok (.aload_n 0, 1) := by decide +kernel
theorem dX6_readRule_43 : decode cX6_readRule 43 = .ok (.getfield 28, 3) := by decide +kernel
theorem dX6_readRule_46 : decode cX6_readRule 46 = .ok (.iload_n 1, 1) := by decide +kernel
theorem dX6_readRule_47 : decode cX6_readRule 47 = .ok (.aload_n 0, 1) := by decide +kernel
theorem dX6_readRule_48 : decode cX6_readRule 48 = .ok (.getfield 47, 3) := by decide +kernel
theorem dX6_readRule_51 : decode cX6_readRule 51 = .ok (.iastore, 1) := by decide +kernel
theorem dX6_readRule_52 : decode cX6_readRule 52 = .ok (.aload_n 0, 1) := by decide +kernel
theorem dX6_readRule_53 : decode cX6_readRule 53 = .ok (.dup, 1) := by decide +kernel
theorem dX6_readRule_54 : decode cX6_readRule 54 = .ok (.getfield 41, 3) := by decide +kernel
theorem dX6_readRule_57 : decode cX6_readRule 57 = .ok (.iconst 1, 1) := by decide +kernel
theorem dX6_readRule_58 : decode cX6_readRule 58 = .ok (.iadd, 1) := by decide +kernel
theorem dX6_readRule_59 : decode cX6_readRule 59 = .ok (.putfield 41, 3) := by decide +kernel
theorem dX6_readRule_62 : decode cX6_readRule 62 = .ok (.aload_n 0, 1) := by decide +kernel
theorem dX6_readRule_63 : decode cX6_readRule 63 = .ok (.sipush 10011, 3) := by decide +kernel
theorem dX6_readRule_66 : decode cX6_readRule 66 = .ok (.invokevirtual 97, 3) := by decide +kernel
theorem dX6_readRule_69 : decode cX6_readRule 69 = .ok (.ifCond .eq 13, 3) := by decide +kernel
theorem dX6_readRule_72 : decode cX6_readRule 72 = .ok (.aload_n 0, 1) := by decide +kernel
theorem dX6_readRule_73 : decode cX6_readRule 73 = .ok (.iconst 0, 1) := by decide +kernel
theorem dX6_readRule_74 : decode cX6_readRule 74 = .ok (.invokevirtual 100, 3) := by decide +kernel
theorem dX6_readRule_77 : decode cX6_readRule 77 = .ok (.ifCond .ne 5, 3) := by decide +kernel
theorem dX6_readRule_80 : decode cX6_readRule 80 = .ok (.iconst 0, 1) := by decide +kernel
theorem dX6_readRule_81 : decode cX6_readRule 81 = .ok (.ireturn, 1) := by decide +kernel
theorem dX6_readRule_82 : decode cX6_readRule 82 = .ok (.aload_n 0, 1) := by decide +kernel
theorem dX6_readRule_83 : decode cX6_readRule 83 = .ok (.getfield 15, 3) := by decide +kernel
theorem dX6_readRule_86 : decode cX6_readRule 86 = .ok (.aload_n 0, 1) := by decide +kernel
theorem dX6_readRule_87 : decode cX6_readRule 87 = .ok (.getfield 41, 3) := by decide +kernel
theorem dX6_readRule_90 : decode cX6_readRule 90 = .ok (.iaload, 1) := by decide +kernel
theorem dX6_readRule_91 : decode cX6_readRule 91 = .ok (.sipush 10015, 3) := by decide +kernel
theorem dX6_readRule_94 : decode cX6_readRule 94 = .ok (.sipush 10017, 3) := by decide +kernel
theorem dX6_readRule_97 : decode cX6_readRule 97 = .ok (.invokestatic 94, 3) := by decide +kernel
theorem dX6_readRule_100 : decode cX6_readRule 100 = .ok (.ifCond .ne 5, 3) := by decide +kernel
theorem dX6_readRule_103 : decode cX6_readRule 103 = .ok (.iconst 0, 1) := by decide +kernel
theorem dX6_readRule_104 : decode cX6_readRule 104 = .ok (.ireturn, 1) := by decide +kernel
theorem dX6_readRule_105 : decode cX6_readRule 105 = .ok (.aload_n 0, 1) := by decide +kernel
theorem dX6_readRule_106 : decode cX6_readRule 106 = .ok (.getfield 25, 3) := by decide +kernel
theorem dX6_readRule_109 : decode cX6_readRule 109 = .ok (.iload_n 1, 1) := by decide +kernel
theorem dX6_readRule_110 : decode cX6_readRule 110 = .ok (.aload_n 0, 1) := by decide +kernel
theorem dX6_readRule_111 : decode cX6_readRule 111 = .ok (.getfield 15, 3) := by decide +kernel
theorem dX6_readRule_114 : decode cX6_readRule 114 = .ok (.aload_n 0, 1) := by decide +kernel
theorem dX6_readRule_115 : decode cX6_readRule 115 = .ok (.getfield 41, 3) := by decide +kernel
theorem dX6_readRule_118 : decode cX6_readRule 118 = .ok (.iaload, 1) := by decide +kernel
theorem dX6_readRule_119 : decode cX6_readRule 119 = .ok (.sipush 10015, 3) := by decide +kernel
theorem dX6_readRule_122 : decode cX6_readRule 122 = .ok (.isub, 1) := by decide +kernel
theorem dX6_readRule_123 : decode cX6_readRule 123 = .ok (.iastore, 1) := by decide +kernel
theorem dX6_readRule_124 : decode cX6_readRule 124 = .ok (.aload_n 0, 1) := by decide +kernel
theorem dX6_readRule_125 : decode cX6_readRule 125 = .ok (.dup, 1) := by decide +kernel
theorem dX6_readRule_126 : decode cX6_readRule 126 = .ok (.getfield 41, 3) := by decide +kernel
theorem dX6_readRule_129 : decode cX6_readRule 129 = .ok (.iconst 1, 1) := by decide +kernel
theorem dX6_readRule_130 : decode cX6_readRule 130 = .ok (.iadd, 1) := by decide +kernel
theorem dX6_readRule_131 : decode cX6_readRule 131 = .ok (.putfield 41, 3) := by decide +kernel
theorem dX6_readRule_134 : decode cX6_readRule 134 = .ok (.aload_n 0, 1) := by decide +kernel
theorem dX6_readRule_135 : decode cX6_readRule 135 = .ok (.dup, 1) := by decide +kernel
theorem dX6_readRule_136 : decode cX6_readRule 136 = .ok (.getfield 44, 3) := by decide +kernel
theorem dX6_readRule_139 : decode cX6_readRule 139 = .ok (.iconst 1, 1) := by decide +kernel
theorem dX6_readRule_140 : decode cX6_readRule 140 = .ok (.iadd, 1) := by decide +kernel
theorem dX6_readRule_141 : decode cX6_readRule 141 = .ok (.putfield 44, 3) := by decide +kernel
theorem dX6_readRule_144 : decode cX6_readRule 144 = .ok (.aload_n 0, 1) := by decide +kernel
theorem dX6_readRule_145 : decode cX6_readRule 145 = .ok (.sipush 10014, 3) := by decide +kernel
theorem dX6_readRule_148 : decode cX6_readRule 148 = .ok (.invokevirtual 97, 3) := by decide +kernel
theorem dX6_readRule_151 : decode cX6_readRule 151 = .ok (.ireturn, 1) := by decide +kernel
theorem k_X6_readRule : MV yX6_readRule cX6_readRule 2 (some .boolean) 1 := ⟨q_610, qs_6, q_2, q_611, ⟨by decide, by decide, by decide +kernel⟩⟩
theorem c_X6_readRule {v1 : Int32} {res : Int32 × Int32 × (Nat → Int32) × (Nat → Int32) × (Nat → Int32) × (Nat → Int32) × Int32 × Int32} (hf : X6_readRule n x_t_words x_t_at x_t_kinds x_t_wills x_t_starts x_t_code x_t_count x_t_size v1 = some res) : MC l E0 D t yX6_readRule cX6_readRule 2 (some .boolean) 84 0 0 [.ref (a 97), .int v1] (cW a ar t x_q0_dials x_q0_spots x_q0_skies x_q0_reports x_q0_count x_q0_chime x_q0_end x_q0_score x_q0_reportCount x_q0_z x_q0_rules x_q0_shades x_q0_facts x_q1_dials x_q1_spots x_q1_skies x_q1_reports x_q1_count x_q1_chime x_q1_end x_q1_score x_q1_reportCount x_q1_z x_q1_rules x_q1_shades x_q1_facts x_q2_dials x_q2_spots x_q2_skies x_q2_reports x_q2_count x_q2_chime x_q2_end x_q2_score x_q2_reportCount x_q2_z x_q2_rules x_q2_shades x_q2_facts x_isKept x_marks x_p_first x_p_steps x_p_most x_p_many x_p_fewest x_p_everRight x_p_opening x_p_rows x_p_rowCount x_p_acts x_p_marks x_p_deepest x_p_wanted x_t_length x_t_tape x_t_words x_t_places x_t_at x_t_kinds x_t_wills x_t_starts x_t_code x_t_count x_t_size x_h_sorts x_h_lengths x_h_items x_h_held x_h_things x_h_sizes x_h_bodies x_h_traced x_h_number x_h_spot x_h_parted x_g_count x_g_kinds x_g_wills x_g_starts x_g_code x_g_stack x_g_kl x_g_wl x_g_sl x_g_cl x_nr) (Qi res.1 (cW a ar t x_q0_dials x_q0_spots x_q0_skies x_q0_reports x_q0_count x_q0_chime x_q0_end x_q0_score x_q0_reportCount x_q0_z x_q0_rules x_q0_shades x_q0_facts x_q1_dials x_q1_spots x_q1_skies x_q1_reports x_q1_count x_q1_chime x_q1_end x_q1_score x_q1_reportCount x_q1_z x_q1_rules x_q1_shades x_q1_facts x_q2_dials x_q2_spots x_q2_skies x_q2_reports x_q2_count x_q2_chime x_q2_end x_q2_score x_q2_reportCount x_q2_z x_q2_rules x_q2_shades x_q2_facts x_isKept x_marks x_p_first x_p_steps x_p_most x_p_many x_p_fewest x_p_everRight x_p_opening x_p_rows x_p_rowCount x_p_acts x_p_marks x_p_deepest x_p_wanted x_t_length x_t_tape x_t_words x_t_places res.2.1 res.2.2.1 res.2.2.2.1 res.2.2.2.2.1 res.2.2.2.2.2.1 res.2.2.2.2.2.2.1 res.2.2.2.2.2.2.2 x_h_sorts x_h_lengths x_h_items x_h_held x_h_things x_h_sizes x_h_bodies x_h_traced x_h_number x_h_spot x_h_parted x_g_count x_g_kinds x_g_wills x_g_starts x_g_code x_g_stack x_g_kl x_g_wl x_g_sl x_g_cl x_nr)) := by
  unfold X6_readRule at hf
  refine MC.ofI pn_X6 (Nat.le_of_ble_eq_true rfl) ?_
  intro p e s m args below meth c A Q ls cx hR hw hl
  have hx := cx.1
  have hb := cx.2.1
  have hl : lv_has ls 2 [(0, .ref (a 97)), (1, .int v1)] := hl
  refine lv_aload_n hx hb dX6_readRule_0 rfl (lv_at hl 0 rfl) ?_
  refine cg_X6_15_text cx hw dX6_readRule_1 ?_
  refine lv_aload_n hx hb dX6_readRule_4 rfl (lv_at hl 0 rfl) ?_
  refine cg_X6_41_text cx hw dX6_readRule_5 ?_
  obtain ⟨h1, hf⟩ := ckS hf
  refine cl_t_words (j := x_t_at.toNatClampNeg) cx hw (ib_in h1) rfl dX6_readRule_8 ?_
  refine lv_sipush (v := 10018) hx hb dX6_readRule_9 (by decide) ?_
  refine lv_sipush (v := 10023) hx hb dX6_readRule_12 (by decide) ?_
  refine calSNi cx hw hl.1 (c_X11_isIn rfl) (List.mem_of_getElem? (i := 14) rfl) k_X11_isIn rfl dX6_readRule_15 rfl (Nat.le_of_ble_eq_true rfl) ⟨Nat.le_of_ble_eq_true rfl, Nat.le_of_ble_eq_true rfl⟩ ⟨Nat.le_refl _, Nat.le_refl _⟩ (fun H locs hw => ?_)
  refine lv_if_ne (tgt := 23) hx hb dX6_readRule_18 (by decide) (fun hc => ?_) (fun hc => ?_)
  · have hf := ifF hf hc
    refine lv_aload_n hx hb dX6_readRule_23 rfl (lv_at hl 0 rfl) ?_
    refine cg_X6_22_text cx hw dX6_readRule_24 ?_
    refine lv_iload_n hx hb dX6_readRule_27 rfl (lv_at hl 1 rfl) ?_
    refine lv_aload_n hx hb dX6_readRule_28 rfl (lv_at hl 0 rfl) ?_
    refine cg_X6_15_text cx hw dX6_readRule_29 ?_
    refine lv_aload_n hx hb dX6_readRule_32 rfl (lv_at hl 0 rfl) ?_
    refine cg_X6_41_text cx hw dX6_readRule_33 ?_
    obtain ⟨h2, hf⟩ := ckS hf
    refine cl_t_words (j := x_t_at.toNatClampNeg) cx hw (ib_in h2) rfl dX6_readRule_36 ?_
    refine lv_sipush (v := 10018) hx hb dX6_readRule_37 (by decide) ?_
    refine lv_isub hx hb dX6_readRule_40 ?_
    obtain ⟨h3, hf⟩ := ckS hf
    refine cs_t_kinds (j := v1.toNatClampNeg) cx hw (ib_in h3) rfl dX6_readRule_41 (fun H locs hw => ?_)
    refine lv_aload_n hx hb dX6_readRule_42 rfl (lv_at hl 0 rfl) ?_
    refine cg_X6_28_text cx hw dX6_readRule_43 ?_
    refine lv_iload_n hx hb dX6_readRule_46 rfl (lv_at hl 1 rfl) ?_
    refine lv_aload_n hx hb dX6_readRule_47 rfl (lv_at hl 0 rfl) ?_
    refine cg_X6_47_text cx hw dX6_readRule_48 ?_
    obtain ⟨h4, hf⟩ := ckS hf
    refine cs_t_starts (j := v1.toNatClampNeg) cx hw (ib_in h4) rfl dX6_readRule_51 (fun H locs hw => ?_)
    refine lv_aload_n hx hb dX6_readRule_52 rfl (lv_at hl 0 rfl) ?_
    refine lv_dup hx hb dX6_readRule_53 rfl ?_
    refine cg_X6_41_text cx hw dX6_readRule_54 ?_
    refine lv_iconst (v := 1) hx hb dX6_readRule_57 (by decide) ?_
    refine lv_iadd hx hb dX6_readRule_58 ?_
    refine cp_X6_41_text cx hw dX6_readRule_59 (fun H locs hw => ?_)
    refine lv_aload_n hx hb dX6_readRule_62 rfl (lv_at hl 0 rfl) ?_
    refine lv_sipush (v := 10011) hx hb dX6_readRule_63 (by decide) ?_
    obtain ⟨r5, h6, hf⟩ := bnS hf
    refine calVi cx hw hl.1 (c_X6_takes h6) q_613 k_X6_takes rfl rv_text rfl dX6_readRule_66 rfl (Nat.le_of_ble_eq_true rfl) ⟨Nat.le_of_ble_eq_true rfl, Nat.le_of_ble_eq_true rfl⟩ ⟨Nat.le_refl _, Nat.le_refl _⟩ (fun H locs hw => ?_)
    obtain ⟨J9, hJ9, hf⟩ := jnS hf
    have wj9 : ∀ (j9 : Int32 × (Nat → Int32) × Int32) (H : Heap) (locs : List Loc) (ls : Array Slot), J9 j9 = some res → Wd D A s (cW a ar t x_q0_dials x_q0_spots x_q0_skies x_q0_reports x_q0_count x_q0_chime x_q0_end x_q0_score x_q0_reportCount x_q0_z x_q0_rules x_q0_shades x_q0_facts x_q1_dials x_q1_spots x_q1_skies x_q1_reports x_q1_count x_q1_chime x_q1_end x_q1_score x_q1_reportCount x_q1_z x_q1_rules x_q1_shades x_q1_facts x_q2_dials x_q2_spots x_q2_skies x_q2_reports x_q2_count x_q2_chime x_q2_end x_q2_score x_q2_reportCount x_q2_z x_q2_rules x_q2_shades x_q2_facts x_isKept x_marks x_p_first x_p_steps x_p_most x_p_many x_p_fewest x_p_everRight x_p_opening x_p_rows x_p_rowCount x_p_acts x_p_marks x_p_deepest x_p_wanted x_t_length x_t_tape x_t_words x_t_places j9.1 (upd x_t_kinds v1.toNatClampNeg ((x_t_words x_t_at.toNatClampNeg) - (10018 : Int32))) x_t_wills (upd x_t_starts v1.toNatClampNeg x_t_size) j9.2.1 x_t_count j9.2.2 x_h_sorts x_h_lengths x_h_items x_h_held x_h_things x_h_sizes x_h_bodies x_h_traced x_h_number x_h_spot x_h_parted x_g_count x_g_kinds x_g_wills x_g_starts x_g_code x_g_stack x_g_kl x_g_wl x_g_sl x_g_cl x_nr) H locs → lv_has ls 2 [(0, .ref (a 97)), (1, .int v1)] → W p l e (rmz 84 0 0) s m args below meth c H locs 0 0 Q (F0 m 82 ls []) := by
      intro j9 H locs ls hf hw hl
      have hf := hJ9 _ hf
      refine lv_aload_n hx hb dX6_readRule_82 rfl (lv_at hl 0 rfl) ?_
      refine cg_X6_15_text cx hw dX6_readRule_83 ?_
      refine lv_aload_n hx hb dX6_readRule_86 rfl (lv_at hl 0 rfl) ?_
      refine cg_X6_41_text cx hw dX6_readRule_87 ?_
      obtain ⟨h10, hf⟩ := ckS hf
      refine cl_t_words (j := j9.1.toNatClampNeg) cx hw (ib_in h10) rfl dX6_readRule_90 ?_
      refine lv_sipush (v := 10015) hx hb dX6_readRule_91 (by decide) ?_
      refine lv_sipush (v := 10017) hx hb dX6_readRule_94 (by decide) ?_
      refine calSNi cx hw hl.1 (c_X11_isIn rfl) (List.mem_of_getElem? (i := 14) rfl) k_X11_isIn rfl dX6_readRule_97 rfl (Nat.le_of_ble_eq_true rfl) ⟨Nat.le_of_ble_eq_true rfl, Nat.le_of_ble_eq_true rfl⟩ ⟨Nat.le_refl _, Nat.le_refl _⟩ (fun H locs hw => ?_)
      refine lv_if_ne (tgt := 105) hx hb dX6_readRule_100 (by decide) (fun hc => ?_) (fun hc => ?_)
      · have hf := ifF hf hc
        refine lv_aload_n hx hb dX6_readRule_105 rfl (lv_at hl 0 rfl) ?_
        refine cg_X6_25_text cx hw dX6_readRule_106 ?_
        refine lv_iload_n hx hb dX6_readRule_109 rfl (lv_at hl 1 rfl) ?_
        refine lv_aload_n hx hb dX6_readRule_110 rfl (lv_at hl 0 rfl) ?_
        refine cg_X6_15_text cx hw dX6_readRule_111 ?_
        refine lv_aload_n hx hb dX6_readRule_114 rfl (lv_at hl 0 rfl) ?_
        refine cg_X6_41_text cx hw dX6_readRule_115 ?_
        obtain ⟨h11, hf⟩ := ckS hf
        refine cl_t_words (j := j9.1.toNatClampNeg) cx hw (ib_in h11) rfl dX6_readRule_118 ?_
        refine lv_sipush (v := 10015) hx hb dX6_readRule_119 (by decide) ?_
        refine lv_isub hx hb dX6_readRule_122 ?_
        obtain ⟨h12, hf⟩ := ckS hf
        refine cs_t_wills (j := v1.toNatClampNeg) cx hw (ib_in h12) rfl dX6_readRule_123 (fun H locs hw => ?_)
        refine lv_aload_n hx hb dX6_readRule_124 rfl (lv_at hl 0 rfl) ?_
        refine lv_dup hx hb dX6_readRule_125 rfl ?_
        refine cg_X6_41_text cx hw dX6_readRule_126 ?_
        refine lv_iconst (v := 1) hx hb dX6_readRule_129 (by decide) ?_
        refine lv_iadd hx hb dX6_readRule_130 ?_
        refine cp_X6_41_text cx hw dX6_readRule_131 (fun H locs hw => ?_)
        refine lv_aload_n hx hb dX6_readRule_134 rfl (lv_at hl 0 rfl) ?_
        refine lv_dup hx hb dX6_readRule_135 rfl ?_
        refine cg_X6_44_text cx hw dX6_readRule_136 ?_
        refine lv_iconst (v := 1) hx hb dX6_readRule_139 (by decide) ?_
        refine lv_iadd hx hb dX6_readRule_140 ?_
        refine cp_X6_44_text cx hw dX6_readRule_141 (fun H locs hw => ?_)
        refine lv_aload_n hx hb dX6_readRule_144 rfl (lv_at hl 0 rfl) ?_
        refine lv_sipush (v := 10014) hx hb dX6_readRule_145 (by decide) ?_
        obtain ⟨r13, h14, hf⟩ := bnS hf
        refine calVi cx hw hl.1 (c_X6_takes h14) q_613 k_X6_takes rfl rv_text rfl dX6_readRule_148 rfl (Nat.le_of_ble_eq_true rfl) ⟨Nat.le_of_ble_eq_true rfl, Nat.le_of_ble_eq_true rfl⟩ ⟨Nat.le_refl _, Nat.le_refl _⟩ (fun H locs hw => ?_)
        obtain ⟨h15, hf⟩ := ckS hf
        have hf := Option.some.inj hf
        subst hf
        exact hR _ _ _ _ _ _ hw (nb (bkS h15)) ⟨rfl, rfl⟩ dX6_readRule_151
      · have hf := ifT hf hc
        refine lv_iconst (v := 0) hx hb dX6_readRule_103 (by decide) ?_
        have hf := Option.some.inj hf
        subst hf
        exact hR _ _ _ _ _ _ hw rfl ⟨rfl, rfl⟩ dX6_readRule_104
    clear hJ9
    refine lv_if_eq (tgt := 82) hx hb dX6_readRule_69 (by decide) (fun hc => ?_) (fun hc => ?_)
    · have hf := ifT hf hc
      exact wj9 _ _ _ _ hf hw (lv_sub hl [0, 1] rfl)
    · have hf := ifF hf hc
      refine lv_aload_n hx hb dX6_readRule_72 rfl (lv_at hl 0 rfl) ?_
      refine lv_iconst (v := 0) hx hb dX6_readRule_73 (by decide) ?_
      obtain ⟨r7, h8, hf⟩ := bnS hf
      refine calVi cx hw hl.1 (c_X6_readCondition h8) q_617 k_X6_readCondition rfl rv_text rfl dX6_readRule_74 rfl (Nat.le_of_ble_eq_true rfl) ⟨Nat.le_of_ble_eq_true rfl, Nat.le_of_ble_eq_true rfl⟩ ⟨Nat.le_refl _, Nat.le_refl _⟩ (fun H locs hw => ?_)
      refine lv_if_ne (tgt := 82) hx hb dX6_readRule_77 (by decide) (fun hc => ?_) (fun hc => ?_)
      · have hf := ifF hf hc
        exact wj9 _ _ _ _ hf hw (lv_sub hl [0, 1] rfl)
      · have hf := ifT hf hc
        refine lv_iconst (v := 0) hx hb dX6_readRule_80 (by decide) ?_
        have hf := Option.some.inj hf
        subst hf
        exact hR _ _ _ _ _ _ hw rfl ⟨rfl, rfl⟩ dX6_readRule_81
  · have hf := ifT hf hc
    refine lv_iconst (v := 0) hx hb dX6_readRule_21 (by decide) ?_
    have hf := Option.some.inj hf
    subst hf
    exact hR _ _ _ _ _ _ hw rfl ⟨rfl, rfl⟩ dX6_readRule_22
theorem dX6_read_0 : decode cX6_read 0 = .ok (.aload_n 0, 1) := by decide +kernel
theorem dX6_read_1 : decode cX6_read 1 = .ok (.invokevirtual 38, 3) := by decide +kernel
theorem dX6_read_4 : decode cX6_read 4 = .ok (.aload_n 0, 1) := by decide +kernel
theorem dX6_read_5 : decode cX6_read 5 = .ok (.iconst 0, 1) := by decide +kernel
theorem dX6_read_6 : decode cX6_read 6 = .ok (.putfield 41, 3) := by decide +kernel
theorem dX6_read_9 : decode cX6_read 9 = .ok (.aload_n 0, 1) := by decide +kernel
theorem dX6_read_10 : decode cX6_read 10 = .ok (.iconst 0, 1) := by decide +kernel
theorem dX6_read_11 : decode cX6_read 11 = .ok (.putfield 44, 3) := by decide +kernel
theorem dX6_read_14 : decode cX6_read 14 = .ok (.aload_n 0, 1) := by decide +kernel
theorem dX6_read_15 : decode cX6_read 15 = .ok (.iconst 0, 1) := by decide +kernel
theorem dX6_read_16 : decode cX6_read 16 = .ok (.putfield 47, 3) := by decide +kernel
theorem dX6_read_19 : decode cX6_read 19 = .ok (.iconst 0, 1) := by decide +kernel
theorem dX6_read_20 : decode cX6_read 20 = .ok (.istore_n 1, 1) := by decide +kernel
theorem dX6_read_21 : decode cX6_read 21 = .ok (.iload_n 1, 1) := by decide +kernel
theorem dX6_read_22 : decode cX6_read 22 = .ok (.bipush 8, 2) := by decide +kernel
theorem dX6_read_24 : decode cX6_read 24 = .ok (.if_icmp .ge 33, 3) := by decide +kernel
theorem dX6_read_27 : decode cX6_read 27 = .ok (.aload_n 0, 1) := by decide +kernel
theorem dX6_read_28 : decode cX6_read 28 = .ok (.getfield 15, 3) := by decide +kernel
theorem dX6_read_31 : decode cX6_read 31 = .ok (.aload_n 0, 1) := by decide +kernel
theorem dX6_read_32 : decode cX6_read 32 = .ok (.getfield 41, 3) := by decide +kernel
theorem dX6_read_35 : decode cX6_read 35 = .ok (.iaload, 1) := by decide +kernel
theorem dX6_read_36 : decode cX6_read 36 = .ok (.bipush (-2), 2) := by decide +kernel
theorem dX6_read_38 : decode cX6_read 38 = .ok (.if_icmp .eq 19, 3) := by decide +kernel
theorem dX6_read_41 : decode cX6_read 41 = .ok (.aload_n 0, 1) := by decide +kernel
theorem dX6_read_42 : decode cX6_read 42 = .ok (.iload_n 1, 1) := by decide +kernel
theorem dX6_read_43 : decode cX6_read 43 = .ok (.invokevirtual 50, 3) := by decide +kernel
theorem dX6_read_46 : decode cX6_read 46 = .ok (.ifCond .ne 5, 3) := by decide +kernel
theorem dX6_read_49 : decode cX6_read 49 = .ok (.iconst 0, 1) := by decide +kernel
theorem dX6_read_50 : decode cX6_read 50 = .ok (.ireturn, 1) := by decide +kernel
theorem dX6_read_51 : decode cX6_read 51 = .ok (.iinc 1 1, 3) := by decide +kernel
theorem dX6_read_54 : decode cX6_read 54 = .ok (.goto (-33), 3) := by decide +kernel
theorem dX6_read_57 : decode cX6_read 57 = .ok (.aload_n 0, 1) := by decide +kernel
theorem dX6_read_58 : decode cX6_read 58 = .ok (.getfield 15, 3) := by decide +kernel
theorem dX6_read_61 : decode cX6_read 61 = .ok (.aload_n 0, 1) := by decide +kernel
theorem dX6_read_62 : decode cX6_read 62 = .ok (.getfield 41, 3) := by decide +kernel
theorem dX6_read_65 : decode cX6_read 65 = .ok (.iaload, 1) := by decide +kernel
theorem dX6_read_66 : decode cX6_read 66 = .ok (.bipush (-2), 2) := by decide +kernel
theorem dX6_read_68 : decode cX6_read 68 = .ok (.if_icmp .ne 7, 3) := by decide +kernel
theorem dX6_read_71 : decode cX6_read 71 = .ok (.iconst 1, 1) := by decide +kernel
theorem dX6_read_72 : decode cX6_read 72 = .ok (.goto 4, 3) := by decide +kernel
theorem dX6_read_75 : decode cX6_read 75 = .ok (.iconst 0, 1) := by decide +kernel
theorem dX6_read_76 : decode cX6_read 76 = .ok (.ireturn, 1) := by decide +kernel
theorem k_X6_read : MV yX6_read cX6_read 2 (some .boolean) 0 := ⟨q_533, q_534, q_2, q_535, ⟨by decide, by decide, by decide +kernel⟩⟩
theorem c_X6_read {res : Int32 × (Nat → Int32) × (Nat → Int32) × Int32 × (Nat → Int32) × (Nat → Int32) × (Nat → Int32) × (Nat → Int32) × Int32 × Int32} (hf : X6_read n x_t_length x_t_tape x_t_words x_t_places x_t_kinds x_t_wills x_t_starts x_t_code = some res) : MC l (EW sa sv) D t yX6_read cX6_read 2 (some .boolean) 85 0 0 [.ref (a 97)] (cW a ar t x_q0_dials x_q0_spots x_q0_skies x_q0_reports x_q0_count x_q0_chime x_q0_end x_q0_score x_q0_reportCount x_q0_z x_q0_rules x_q0_shades x_q0_facts x_q1_dials x_q1_spots x_q1_skies x_q1_reports x_q1_count x_q1_chime x_q1_end x_q1_score x_q1_reportCount x_q1_z x_q1_rules x_q1_shades x_q1_facts x_q2_dials x_q2_spots x_q2_skies x_q2_reports x_q2_count x_q2_chime x_q2_end x_q2_score x_q2_reportCount x_q2_z x_q2_rules x_q2_shades x_q2_facts x_isKept x_marks x_p_first x_p_steps x_p_most x_p_many x_p_fewest x_p_everRight x_p_opening x_p_rows x_p_rowCount x_p_acts x_p_marks x_p_deepest x_p_wanted x_t_length x_t_tape x_t_words x_t_places x_t_at x_t_kinds x_t_wills x_t_starts x_t_code x_t_count x_t_size x_h_sorts x_h_lengths x_h_items x_h_held x_h_things x_h_sizes x_h_bodies x_h_traced x_h_number x_h_spot x_h_parted x_g_count x_g_kinds x_g_wills x_g_starts x_g_code x_g_stack x_g_kl x_g_wl x_g_sl x_g_cl x_nr) (Qi res.1 (cW a ar t x_q0_dials x_q0_spots x_q0_skies x_q0_reports x_q0_count x_q0_chime x_q0_end x_q0_score x_q0_reportCount x_q0_z x_q0_rules x_q0_shades x_q0_facts x_q1_dials x_q1_spots x_q1_skies x_q1_reports x_q1_count x_q1_chime x_q1_end x_q1_score x_q1_reportCount x_q1_z x_q1_rules x_q1_shades x_q1_facts x_q2_dials x_q2_spots x_q2_skies x_q2_reports x_q2_count x_q2_chime x_q2_end x_q2_score x_q2_reportCount x_q2_z x_q2_rules x_q2_shades x_q2_facts x_isKept x_marks x_p_first x_p_steps x_p_most x_p_many x_p_fewest x_p_everRight x_p_opening x_p_rows x_p_rowCount x_p_acts x_p_marks x_p_deepest x_p_wanted x_t_length x_t_tape res.2.1 res.2.2.1 res.2.2.2.1 res.2.2.2.2.1 res.2.2.2.2.2.1 res.2.2.2.2.2.2.1 res.2.2.2.2.2.2.2.1 res.2.2.2.2.2.2.2.2.1 res.2.2.2.2.2.2.2.2.2 x_h_sorts x_h_lengths x_h_items x_h_held x_h_things x_h_sizes x_h_bodies x_h_traced x_h_number x_h_spot x_h_parted x_g_count x_g_kinds x_g_wills x_g_starts x_g_code x_g_stack x_g_kl x_g_wl x_g_sl x_g_cl x_nr)) := by
  unfold X6_read at hf
  refine MC.ofI pn_X6 (Nat.le_of_ble_eq_true rfl) ?_
  intro p e s m args below meth c A Q ls cx hR hw hl
  have hx := cx.1
  have hb := cx.2.1
  have hl : lv_has ls 2 [(0, .ref (a 97))] := hl
  refine lv_aload_n hx hb dX6_read_0 rfl (lv_at hl 0 rfl) ?_
  obtain ⟨r1, h2, hf⟩ := bnS hf
  refine calEv cx hw hl.1 (c_X6_cutWords h2) q_536 k_X6_cutWords rfl (va_recv cx.2.2.2.2.2.1.1 hw.1 (rfl : cls[6]? = some _) rv_text) dX6_read_1 rfl (Nat.le_of_ble_eq_true rfl) ⟨Nat.le_of_ble_eq_true rfl, Nat.le_of_ble_eq_true rfl⟩ ⟨Nat.le_refl _, Nat.le_refl _⟩ (fun H locs hw => ?_)
  refine lv_aload_n hx hb dX6_read_4 rfl (lv_at hl 0 rfl) ?_
  refine lv_iconst (v := 0) hx hb dX6_read_5 (by decide) ?_
  refine cp_X6_41_text cx hw dX6_read_6 (fun H locs hw => ?_)
  refine lv_aload_n hx hb dX6_read_9 rfl (lv_at hl 0 rfl) ?_
  refine lv_iconst (v := 0) hx hb dX6_read_10 (by decide) ?_
  refine cp_X6_44_text cx hw dX6_read_11 (fun H locs hw => ?_)
  refine lv_aload_n hx hb dX6_read_14 rfl (lv_at hl 0 rfl) ?_
  refine lv_iconst (v := 0) hx hb dX6_read_15 (by decide) ?_
  refine cp_X6_47_text cx hw dX6_read_16 (fun H locs hw => ?_)
  refine lv_iconst (v := 0) hx hb dX6_read_19 (by decide) ?_
  refine lv_istore_n (lv' := [(1, .int (0 : Int32)), (0, .ref (a 97))]) hx hb dX6_read_20 rfl hl (by decide) rfl (fun ls hl => ?_)
  obtain ⟨K1, hK1, hf⟩ := jnS hf
  have kx1 : ∀ (o6 : Int32 × Int32 × (Nat → Int32) × (Nat → Int32) × (Nat → Int32) × (Nat → Int32) × Int32 × Int32) (H : Heap) (locs : List Loc) (ls : Array Slot), K1 o6 = some res → Wd D A s (cW a ar t x_q0_dials x_q0_spots x_q0_skies x_q0_reports x_q0_count x_q0_chime x_q0_end x_q0_score x_q0_reportCount x_q0_z x_q0_rules x_q0_shades x_q0_facts x_q1_dials x_q1_spots x_q1_skies x_q1_reports x_q1_count x_q1_chime x_q1_end x_q1_score x_q1_reportCount x_q1_z x_q1_rules x_q1_shades x_q1_facts x_q2_dials x_q2_spots x_q2_skies x_q2_reports x_q2_count x_q2_chime x_q2_end x_q2_score x_q2_reportCount x_q2_z x_q2_rules x_q2_shades x_q2_facts x_isKept x_marks x_p_first x_p_steps x_p_most x_p_many x_p_fewest x_p_everRight x_p_opening x_p_rows x_p_rowCount x_p_acts x_p_marks x_p_deepest x_p_wanted x_t_length x_t_tape r1.1 r1.2 o6.2.1 o6.2.2.1 o6.2.2.2.1 o6.2.2.2.2.1 o6.2.2.2.2.2.1 o6.2.2.2.2.2.2.1 o6.2.2.2.2.2.2.2 x_h_sorts x_h_lengths x_h_items x_h_held x_h_things x_h_sizes x_h_bodies x_h_traced x_h_number x_h_spot x_h_parted x_g_count x_g_kinds x_g_wills x_g_starts x_g_code x_g_stack x_g_kl x_g_wl x_g_sl x_g_cl x_nr) H locs → lv_has ls 2 [(0, .ref (a 97)), (1, .int o6.1)] → W p l e (rmz 85 0 0) s m args below meth c H locs 0 0 Q (F0 m 57 ls []) := by
    intro o6 H locs ls hf hw hl
    have hf := hK1 _ hf
    refine lv_aload_n hx hb dX6_read_57 rfl (lv_at hl 0 rfl) ?_
    refine cg_X6_15_text cx hw dX6_read_58 ?_
    refine lv_aload_n hx hb dX6_read_61 rfl (lv_at hl 0 rfl) ?_
    refine cg_X6_41_text cx hw dX6_read_62 ?_
    obtain ⟨h7, hf⟩ := ckS hf
    refine cl_t_words (j := o6.2.1.toNatClampNeg) cx hw (ib_in h7) rfl dX6_read_65 ?_
    refine lv_bipush (v := (-2)) hx hb dX6_read_66 (by decide) ?_
    refine lv_icmp_ne (tgt := 75) hx hb dX6_read_68 (by decide) (fun hc => ?_) (fun hc => ?_)
    · have hf := ifF hf hc
      refine lv_iconst (v := 0) hx hb dX6_read_75 (by decide) ?_
      have hf := Option.some.inj hf
      subst hf
      exact hR _ _ _ _ _ _ hw rfl ⟨rfl, rfl⟩ dX6_read_76
    · have hf := ifT hf hc
      refine lv_iconst (v := 1) hx hb dX6_read_71 (by decide) ?_
      refine lv_goto (tgt := 76) hx hb dX6_read_72 (by decide) ?_
      have hf := Option.some.inj hf
      subst hf
      exact hR _ _ _ _ _ _ hw rfl ⟨rfl, rfl⟩ dX6_read_76
  have wL1 : ∀ (k : Nat) {v1 : Int32} {x_t_words : Nat → Int32} {x_t_places : Nat → Int32} {x_t_at : Int32} {x_t_kinds : Nat → Int32} {x_t_wills : Nat → Int32} {x_t_starts : Nat → Int32} {x_t_code : Nat → Int32} {x_t_count : Int32} {x_t_size : Int32} {H : Heap} {locs : List Loc} {ls : Array Slot}, X6_read_L1 n x_t_words x_t_places K1 k v1 x_t_at x_t_kinds x_t_wills x_t_starts x_t_code x_t_count x_t_size = some res → Wd D A s (cW a ar t x_q0_dials x_q0_spots x_q0_skies x_q0_reports x_q0_count x_q0_chime x_q0_end x_q0_score x_q0_reportCount x_q0_z x_q0_rules x_q0_shades x_q0_facts x_q1_dials x_q1_spots x_q1_skies x_q1_reports x_q1_count x_q1_chime x_q1_end x_q1_score x_q1_reportCount x_q1_z x_q1_rules x_q1_shades x_q1_facts x_q2_dials x_q2_spots x_q2_skies x_q2_reports x_q2_count x_q2_chime x_q2_end x_q2_score x_q2_reportCount x_q2_z x_q2_rules x_q2_shades x_q2_facts x_isKept x_marks x_p_first x_p_steps x_p_most x_p_many x_p_fewest x_p_everRight x_p_opening x_p_rows x_p_rowCount x_p_acts x_p_marks x_p_deepest x_p_wanted x_t_length x_t_tape x_t_words x_t_places x_t_at x_t_kinds x_t_wills x_t_starts x_t_code x_t_count x_t_size x_h_sorts x_h_lengths x_h_items x_h_held x_h_things x_h_sizes x_h_bodies x_h_traced x_h_number x_h_spot x_h_parted x_g_count x_g_kinds x_g_wills x_g_starts x_g_code x_g_stack x_g_kl x_g_wl x_g_sl x_g_cl x_nr) H locs → lv_has ls 2 [(0, .ref (a 97)), (1, .int v1)] → (∀ (o : Int32 × Int32 × (Nat → Int32) × (Nat → Int32) × (Nat → Int32) × (Nat → Int32) × Int32 × Int32) (H : Heap) (locs : List Loc) (ls : Array Slot), K1 o = some res → Wd D A s (cW a ar t x_q0_dials x_q0_spots x_q0_skies x_q0_reports x_q0_count x_q0_chime x_q0_end x_q0_score x_q0_reportCount x_q0_z x_q0_rules x_q0_shades x_q0_facts x_q1_dials x_q1_spots x_q1_skies x_q1_reports x_q1_count x_q1_chime x_q1_end x_q1_score x_q1_reportCount x_q1_z x_q1_rules x_q1_shades x_q1_facts x_q2_dials x_q2_spots x_q2_skies x_q2_reports x_q2_count x_q2_chime x_q2_end x_q2_score x_q2_reportCount x_q2_z x_q2_rules x_q2_shades x_q2_facts x_isKept x_marks x_p_first x_p_steps x_p_most x_p_many x_p_fewest x_p_everRight x_p_opening x_p_rows x_p_rowCount x_p_acts x_p_marks x_p_deepest x_p_wanted x_t_length x_t_tape x_t_words x_t_places o.2.1 o.2.2.1 o.2.2.2.1 o.2.2.2.2.1 o.2.2.2.2.2.1 o.2.2.2.2.2.2.1 o.2.2.2.2.2.2.2 x_h_sorts x_h_lengths x_h_items x_h_held x_h_things x_h_sizes x_h_bodies x_h_traced x_h_number x_h_spot x_h_parted x_g_count x_g_kinds x_g_wills x_g_starts x_g_code x_g_stack x_g_kl x_g_wl x_g_sl x_g_cl x_nr) H locs → lv_has ls 2 [(0, .ref (a 97)), (1, .int o.1)] → W p l e (rmz 85 0 0) s m args below meth c H locs 0 0 Q (F0 m 57 ls [])) → W p l e (rmz 85 0 0) s m args below meth c H locs 0 0 Q (F0 m 21 ls []) := by
    clear hf hw hl hK1 kx1
    intro k
    induction k with
    | zero => intro v1 x_t_words x_t_places x_t_at x_t_kinds x_t_wills x_t_starts x_t_code x_t_count x_t_size H locs ls hf hw hl kx; simp [X6_read_L1] at hf
    | succ k ih =>
      intro v1 x_t_words x_t_places x_t_at x_t_kinds x_t_wills x_t_starts x_t_code x_t_count x_t_size H locs ls hf hw hl kx
      rw [X6_read_L1] at hf
      refine lv_iload_n hx hb dX6_read_21 rfl (lv_at hl 1 rfl) ?_
      refine lv_bipush (v := 8) hx hb dX6_read_22 (by decide) ?_
      refine lv_icmp_ge (tgt := 57) hx hb dX6_read_24 (by decide) (fun hc => ?_) (fun hc => ?_)
      · have hf := ifT hf hc
        exact kx _ _ _ _ hf hw (lv_sub hl [0, 1] rfl)
      · have hf := ifF hf hc
        refine lv_aload_n hx hb dX6_read_27 rfl (lv_at hl 0 rfl) ?_
        refine cg_X6_15_text cx hw dX6_read_28 ?_
        refine lv_aload_n hx hb dX6_read_31 rfl (lv_at hl 0 rfl) ?_
        refine cg_X6_41_text cx hw dX6_read_32 ?_
        obtain ⟨h3, hf⟩ := ckS hf
        refine cl_t_words (j := x_t_at.toNatClampNeg) cx hw (ib_in h3) rfl dX6_read_35 ?_
        refine lv_bipush (v := (-2)) hx hb dX6_read_36 (by decide) ?_
        refine lv_icmp_eq (tgt := 57) hx hb dX6_read_38 (by decide) (fun hc => ?_) (fun hc => ?_)
        · have hf := ifT hf hc
          exact kx _ _ _ _ hf hw (lv_sub hl [0, 1] rfl)
        · have hf := ifF hf hc
          refine lv_aload_n hx hb dX6_read_41 rfl (lv_at hl 0 rfl) ?_
          refine lv_iload_n hx hb dX6_read_42 rfl (lv_at hl 1 rfl) ?_
          obtain ⟨r4, h5, hf⟩ := bnS hf
          refine calVi cx hw hl.1 (c_X6_readRule h5) q_608 k_X6_readRule rfl rv_text rfl dX6_read_43 rfl (Nat.le_of_ble_eq_true rfl) ⟨Nat.le_of_ble_eq_true rfl, Nat.le_of_ble_eq_true rfl⟩ ⟨Nat.le_refl _, Nat.le_refl _⟩ (fun H locs hw => ?_)
          refine lv_if_ne (tgt := 51) hx hb dX6_read_46 (by decide) (fun hc => ?_) (fun hc => ?_)
          · have hf := ifF hf hc
            refine lv_iinc (v := (v1 + (1 : Int32))) (lv' := [(1, .int (v1 + (1 : Int32))), (0, .ref (a 97))]) hx hb dX6_read_51 hl (k := 1) rfl rfl (by decide) rfl (fun ls hl => ?_)
            refine lv_goto (tgt := 21) hx hb dX6_read_54 (by decide) ?_
            exact ih hf hw (lv_sub hl [1, 0] rfl) kx
          · have hf := ifT hf hc
            refine lv_iconst (v := 0) hx hb dX6_read_49 (by decide) ?_
            have hf := Option.some.inj hf
            subst hf
            exact hR _ _ _ _ _ _ hw rfl ⟨rfl, rfl⟩ dX6_read_50
  exact wL1 n hf hw (lv_sub hl [1, 0] rfl) kx1
theorem dX6_fault_0 : decode cX6_fault 0 = .ok (.aload_n 0, 1) := by decide +kernel
theorem dX6_fault_1 : decode cX6_fault 1 = .ok (.getfield 19, 3) := by decide +kernel
theorem dX6_fault_4 : decode cX6_fault 4 = .ok (.aload_n 0, 1) := by decide +kernel
theorem dX6_fault_5 : decode cX6_fault 5 = .ok (.getfield 41, 3) := by decide +kernel
theorem dX6_fault_8 : decode cX6_fault 8 = .ok (.iaload, 1) := by decide +kernel
theorem dX6_fault_9 : decode cX6_fault 9 = .ok (.ireturn, 1) := by decide +kernel
theorem k_X6_fault : MV yX6_fault cX6_fault 1 (some .int) 0 := ⟨q_642, q_643, q_2, q_644, ⟨by decide, by decide, by decide +kernel⟩⟩
theorem c_X6_fault {res : Int32} (hf : X6_fault x_t_places x_t_at = some res) : MC l E0 D t yX6_fault cX6_fault 1 (some .int) 1 0 0 [.ref (a 97)] (cW a ar t x_q0_dials x_q0_spots x_q0_skies x_q0_reports x_q0_count x_q0_chime x_q0_end x_q0_score x_q0_reportCount x_q0_z x_q0_rules x_q0_shades x_q0_facts x_q1_dials x_q1_spots x_q1_skies x_q1_reports x_q1_count x_q1_chime x_q1_end x_q1_score x_q1_reportCount x_q1_z x_q1_rules x_q1_shades x_q1_facts x_q2_dials x_q2_spots x_q2_skies x_q2_reports x_q2_count x_q2_chime x_q2_end x_q2_score x_q2_reportCount x_q2_z x_q2_rules x_q2_shades x_q2_facts x_isKept x_marks x_p_first x_p_steps x_p_most x_p_many x_p_fewest x_p_everRight x_p_opening x_p_rows x_p_rowCount x_p_acts x_p_marks x_p_deepest x_p_wanted x_t_length x_t_tape x_t_words x_t_places x_t_at x_t_kinds x_t_wills x_t_starts x_t_code x_t_count x_t_size x_h_sorts x_h_lengths x_h_items x_h_held x_h_things x_h_sizes x_h_bodies x_h_traced x_h_number x_h_spot x_h_parted x_g_count x_g_kinds x_g_wills x_g_starts x_g_code x_g_stack x_g_kl x_g_wl x_g_sl x_g_cl x_nr) (Qi res (cW a ar t x_q0_dials x_q0_spots x_q0_skies x_q0_reports x_q0_count x_q0_chime x_q0_end x_q0_score x_q0_reportCount x_q0_z x_q0_rules x_q0_shades x_q0_facts x_q1_dials x_q1_spots x_q1_skies x_q1_reports x_q1_count x_q1_chime x_q1_end x_q1_score x_q1_reportCount x_q1_z x_q1_rules x_q1_shades x_q1_facts x_q2_dials x_q2_spots x_q2_skies x_q2_reports x_q2_count x_q2_chime x_q2_end x_q2_score x_q2_reportCount x_q2_z x_q2_rules x_q2_shades x_q2_facts x_isKept x_marks x_p_first x_p_steps x_p_most x_p_many x_p_fewest x_p_everRight x_p_opening x_p_rows x_p_rowCount x_p_acts x_p_marks x_p_deepest x_p_wanted x_t_length x_t_tape x_t_words x_t_places x_t_at x_t_kinds x_t_wills x_t_starts x_t_code x_t_count x_t_size x_h_sorts x_h_lengths x_h_items x_h_held x_h_things x_h_sizes x_h_bodies x_h_traced x_h_number x_h_spot x_h_parted x_g_count x_g_kinds x_g_wills x_g_starts x_g_code x_g_stack x_g_kl x_g_wl x_g_sl x_g_cl x_nr)) := by
  unfold X6_fault at hf
  refine MC.ofI pn_X6 (Nat.le_of_ble_eq_true rfl) ?_
  intro p e s m args below meth c A Q ls cx hR hw hl
  have hx := cx.1
  have hb := cx.2.1
  have hl : lv_has ls 1 [(0, .ref (a 97))] := hl
  refine lv_aload_n hx hb dX6_fault_0 rfl (lv_at hl 0 rfl) ?_
  refine cg_X6_19_text cx hw dX6_fault_1 ?_
  refine lv_aload_n hx hb dX6_fault_4 rfl (lv_at hl 0 rfl) ?_
  refine cg_X6_41_text cx hw dX6_fault_5 ?_
  obtain ⟨h1, hf⟩ := ckS hf
  refine cl_t_places (j := x_t_at.toNatClampNeg) cx hw (ib_in h1) rfl dX6_fault_8 ?_
  have hf := Option.some.inj hf
  subst hf
  exact hR _ _ _ _ _ _ hw rfl ⟨rfl, rfl⟩ dX6_fault_9
end CREAD
