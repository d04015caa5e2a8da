def X12_in1 (v0 : Int32) (v1 : Int32) (v2 : Int32) : Int32 :=
  (if v0 < v1 then (0 : Int32) else (if v2 < v0 then (0 : Int32) else (1 : Int32)))
def X12_held (v0 : Int32) (v1 : Int32) : Int32 :=
  (if 0 ≤ v0 then (if v0 ≤ v1 then v0 else v1) else (0 : Int32))
def X12_layDown_L1 (n : Nat) (x_s : Nat → Int32) : Nat → Int32 → (Nat → Int32) → Option (Int32 × (Nat → Int32))
  | 0, _, _ => none
  | k + 1, v1, x_laid => (if (65 : Int32) ≤ v1 then some (v1, x_laid) else (if (ib v1 313) = true then (if (ib v1 65) = true then (X12_layDown_L1 n x_s k (v1 + (1 : Int32)) (upd x_laid v1.toNatClampNeg (x_s v1.toNatClampNeg))) else none) else none))
def X12_layDown (n : Nat) (x_s : Nat → Int32) (x_laid : Nat → Int32) : Option ((Nat → Int32)) :=
  ((X12_layDown_L1 n x_s n (0 : Int32) x_laid).bind fun o3 => some o3.2)
def X12_layBack_L1 (n : Nat) (x_laid : Nat → Int32) : Nat → Int32 → (Nat → Int32) → Option (Int32 × (Nat → Int32))
  | 0, _, _ => none
  | k + 1, v1, x_s => (if (65 : Int32) ≤ v1 then some (v1, x_s) else (if (ib v1 65) = true then (if (ib v1 313) = true then (X12_layBack_L1 n x_laid k (v1 + (1 : Int32)) (upd x_s v1.toNatClampNeg (x_laid v1.toNatClampNeg))) else none) else none))
def X12_layBack (n : Nat) (x_s : Nat → Int32) (x_laid : Nat → Int32) : Option ((Nat → Int32)) :=
  ((X12_layBack_L1 n x_laid n (0 : Int32) x_s).bind fun o3 => some o3.2)
def X12_get (x_s : Nat → Int32) (v1 : Int32) (v2 : Int32) : Option (Int32) :=
  (if (ib (((35 : Int32) + ((5 : Int32) * v1)) + v2) 313) = true then some (x_s ((((35 : Int32) + ((5 : Int32) * v1)) + v2).toNatClampNeg)) else none)
def X12_puts (x_s : Nat → Int32) (v1 : Int32) (v2 : Int32) (v3 : Int32) : Option ((Nat → Int32)) :=
  (if (ib (((35 : Int32) + ((5 : Int32) * v1)) + v2) 313) = true then some (upd x_s ((((35 : Int32) + ((5 : Int32) * v1)) + v2).toNatClampNeg) v3) else none)
def X12_isDial (x_s : Nat → Int32) (v1 : Int32) : Int32 :=
  (X12_in1 v1 (0 : Int32) ((x_s 4) - (1 : Int32)))
def X12_isAct (x_s : Nat → Int32) (v1 : Int32) : Int32 :=
  (X12_in1 v1 (0 : Int32) (x_s 4))
def X12_isOver (x_s : Nat → Int32) : Int32 :=
  (if (x_s 0) < (x_s 1) then (0 : Int32) else (1 : Int32))
def X12_becomes (x_s : Nat → Int32) (v1 : Int32) (v2 : Int32) : Option (Int32 × (Nat → Int32)) :=
  (if (ib v1 313) = true then (if (ib v1 313) = true then some ((x_s v1.toNatClampNeg), (upd x_s v1.toNatClampNeg v2)) else none) else none)
def X12_above (v0 : Int32) : Int32 :=
  (if v0 = (3 : Int32) then (2 : Int32) else (if v0 = (5 : Int32) then (4 : Int32) else (0 : Int32)))
def X12_isUnder_L1 (n : Nat) (v1 : Int32) : Nat → Int32 → Option (Int32)
  | 0, _ => none
  | k + 1, v2 => (if v2 = v1 then some v2 else (if v2 = 0 then some v2 else (X12_isUnder_L1 n v1 k (X12_above v2))))
def X12_isUnder (n : Nat) (v0 : Int32) (v1 : Int32) : Option (Int32) :=
  ((X12_isUnder_L1 n v1 n v0).bind fun o1 => (if o1 = v1 then some (1 : Int32) else some (0 : Int32)))
def X12_shadesBy (v0 : Int32) (v1 : Int32) (v2 : Int32) : Int32 :=
  (if v0 = (1 : Int32) then (2 : Int32) else (if v0 = (2 : Int32) then ((2 : Int32) * ((4 : Int32) - v1)) else (if v0 = (3 : Int32) then (((2 : Int32) * ((4 : Int32) - v1)) + (v2 / (5 : Int32))) else (if v0 = (4 : Int32) then (1 : Int32) else (if v0 = (5 : Int32) then (if (irm v2 (3 : Int32)) = 0 then (0 : Int32) else (1 : Int32)) else ((4 : Int32) - v1))))))
def X12_slipsBy (v0 : Int32) (v1 : Int32) (v2 : Int32) : Int32 :=
  (pb (if (v1 + (1 : Int32)) ≤ v2 then (0 : Int32) else ((v1 + (1 : Int32)) - v2)) fun j1 => (if v0 = (1 : Int32) then (0 : Int32) else (if v0 = (2 : Int32) then (j1 / (2 : Int32)) else (if v0 = (3 : Int32) then (if (j1 / (2 : Int32)) ≤ 0 then (0 : Int32) else ((j1 / (2 : Int32)) - (1 : Int32))) else (if v0 = (4 : Int32) then (j1 + v1) else (if v0 = (5 : Int32) then (if (j1 + v1) ≤ (9 : Int32) then (j1 + v1) else (9 : Int32)) else j1))))))
def X12_skyNow (x_s : Nat → Int32) : Option (Int32) :=
  (if (16 : Int32) ≤ (x_s 0) then some (0 : Int32) else (if (ib ((7 : Int32) + (x_s 0)) 313) = true then some (x_s (((7 : Int32) + (x_s 0)).toNatClampNeg)) else none))
def X12_shadesOf (x_s : Nat → Int32) (v1 : Int32) : Option (Int32) :=
  ((X12_get x_s v1 (0 : Int32)).bind fun r1 => ((X12_skyNow x_s).bind fun r3 => some (X12_shadesBy r1 (r3 / (4 : Int32)) (x_s 0))))
def X12_shadeAt_L1 (n : Nat) (x_s : Nat → Int32) (v1 : Int32) : Nat → Int32 → Int32 → Option (Int32 × Int32)
  | 0, _, _ => none
  | k + 1, v2, v3 => (if (x_s 4) ≤ v3 then some (v2, v3) else ((X12_get x_s v3 (3 : Int32)).bind fun r2 => ((if r2 = (v1 - (1 : Int32)) then ((X12_shadesOf x_s v3).bind fun r4 => some r4) else some (0 : Int32)).bind fun j6 => (X12_shadeAt_L1 n x_s v1 k (v2 + j6) (v3 + (1 : Int32))))))
def X12_shadeAt (n : Nat) (x_s : Nat → Int32) (v1 : Int32) : Option (Int32) :=
  (if (ib ((23 : Int32) + v1) 313) = true then ((X12_shadeAt_L1 n x_s v1 n (x_s (((23 : Int32) + v1).toNatClampNeg)) (0 : Int32)).bind fun o7 => some o7.1) else none)
def X12_slipsOf (n : Nat) (x_s : Nat → Int32) (v1 : Int32) : Option (Int32) :=
  ((X12_get x_s v1 (0 : Int32)).bind fun r1 => ((X12_get x_s v1 (3 : Int32)).bind fun r3 => ((X12_shadeAt n x_s r3).bind fun r5 => ((X12_skyNow x_s).bind fun r7 => some (X12_slipsBy r1 r5 (irm r7 (4 : Int32)))))))
def X12_paysOf (x_s : Nat → Int32) (v1 : Int32) : Option (Int32) :=
  ((X12_get x_s v1 (2 : Int32)).bind fun r1 => ((X12_get x_s v1 (1 : Int32)).bind fun r3 => ((X12_get x_s v1 (4 : Int32)).bind fun r5 => (jn (fun J7 => (if r5 = (1 : Int32) then (J7 ()) else (if 0 ≤ (((9 : Int32) + r1) - (r3 / (6 : Int32))) then some (((9 : Int32) + r1) - (r3 / (6 : Int32))) else (J7 ())))) fun j7 => some (0 : Int32)))))
def X12_ruleOf (x_s : Nat → Int32) (v1 : Int32) (v2 : Int32) : Option (Int32) :=
  (if (ib (((89 : Int32) + ((3 : Int32) * v1)) + v2) 313) = true then some (x_s ((((89 : Int32) + ((3 : Int32) * v1)) + v2).toNatClampNeg)) else none)
def X12_knownOf (x_s : Nat → Int32) (v1 : Int32) (v2 : Int32) : Option (Int32) :=
  (if v1 = 0 then some (x_s 0) else (if v1 = (1 : Int32) then ((X12_get x_s v2 (1 : Int32)).bind fun r1 => some r1) else (if v1 = (2 : Int32) then ((X12_get x_s v2 (2 : Int32)).bind fun r3 => some r3) else (if v1 = (3 : Int32) then ((X12_skyNow x_s).bind fun r5 => some (r5 / (4 : Int32))) else some v2))))
def X12_joined (v0 : Int32) (v1 : Int32) (v2 : Int32) : Option (Int32) :=
  (if v0 = (10010 : Int32) then (if v2 ≤ v1 then some (0 : Int32) else some (1 : Int32)) else (if v0 = (10011 : Int32) then (if v1 = v2 then some (1 : Int32) else some (0 : Int32)) else (if v0 = (10012 : Int32) then (if v1 ≤ v2 then some (0 : Int32) else some (1 : Int32)) else (if v0 = (10013 : Int32) then (if v1 = 0 then some (0 : Int32) else (if v2 = 0 then some (0 : Int32) else some (1 : Int32))) else (jn (fun J1 => (if v1 = 0 then (if v2 = 0 then some (0 : Int32) else (J1 ())) else (J1 ()))) fun j1 => some (1 : Int32))))))
def X12_holdsFor_L1 (n : Nat) (x_s : Nat → Int32) (v1 : Int32) (v2 : Int32) : Nat → Int32 → Int32 → (Nat → Int32) → Option (Int32 × Int32 × (Nat → Int32))
  | 0, _, _, _ => none
  | k + 1, v3, v4, x_pile => ((X12_ruleOf x_s v1 (2 : Int32)).bind fun r4 => (if r4 ≤ v4 then some (v3, v4, x_pile) else (if (ib ((113 : Int32) + v4) 313) = true then ((if (10010 : Int32) ≤ (x_s (((113 : Int32) + v4).toNatClampNeg)) then (if (x_s (((113 : Int32) + v4).toNatClampNeg)) = (10015 : Int32) then (if (ib (v3 - (1 : Int32)) 200) = true then (if (ib (v3 - (1 : Int32)) 200) = true then some (v3, (upd x_pile ((v3 - (1 : Int32)).toNatClampNeg) ((1 : Int32) - (x_pile ((v3 - (1 : Int32)).toNatClampNeg))))) else none) else none) else (if (ib ((v3 + (-1 : Int32)) - (1 : Int32)) 200) = true then (if (ib (v3 + (-1 : Int32)) 200) = true then ((X12_joined (x_s (((113 : Int32) + v4).toNatClampNeg)) (x_pile (((v3 + (-1 : Int32)) - (1 : Int32)).toNatClampNeg)) (x_pile ((v3 + (-1 : Int32)).toNatClampNeg))).bind fun r11 => (if (ib ((v3 + (-1 : Int32)) - (1 : Int32)) 200) = true then some ((v3 + (-1 : Int32)), (upd x_pile (((v3 + (-1 : Int32)) - (1 : Int32)).toNatClampNeg) r11)) else none)) else none) else none)) else ((if (10000 : Int32) ≤ (x_s (((113 : Int32) + v4).toNatClampNeg)) then ((X12_knownOf x_s ((x_s (((113 : Int32) + v4).toNatClampNeg)) - (10000 : Int32)) v2).bind fun r14 => some r14) else some (x_s (((113 : Int32) + v4).toNatClampNeg))).bind fun j16 => (if (ib v3 200) = true then some ((v3 + (1 : Int32)), (upd x_pile v3.toNatClampNeg j16)) else none))).bind fun j18 => (X12_holdsFor_L1 n x_s v1 v2 k j18.1 (v4 + (1 : Int32)) j18.2)) else none)))
def X12_holdsFor (n : Nat) (x_s : Nat → Int32) (x_pile : Nat → Int32) (v1 : Int32) (v2 : Int32) : Option (Int32 × (Nat → Int32)) :=
  ((if v1 = 0 then some (0 : Int32) else ((X12_ruleOf x_s (v1 - (1 : Int32)) (2 : Int32)).bind fun r1 => some r1)).bind fun j3 => ((X12_holdsFor_L1 n x_s v1 v2 n (0 : Int32) j3 x_pile).bind fun o19 => (jn (fun J20 => (if o19.1 = 0 then (J20 ()) else (if (o19.2.2 0) = 0 then some ((0 : Int32), o19.2.2) else (J20 ())))) fun j20 => some ((1 : Int32), o19.2.2))))
def X12_willOf_L1 (n : Nat) (x_s : Nat → Int32) (v1 : Int32) (K1 : (Int32 × (Nat → Int32)) → Option (Int32 × (Nat → Int32))) : Nat → Int32 → (Nat → Int32) → Option (Int32 × (Nat → Int32))
  | 0, _, _ => none
  | k + 1, v2, x_pile => (if (x_s 5) ≤ v2 then (K1 (v2, x_pile)) else ((X12_get x_s v1 (0 : Int32)).bind fun r1 => ((X12_ruleOf x_s v2 (0 : Int32)).bind fun r3 => ((X12_isUnder n r1 r3).bind fun r5 => (jn (fun J11 => (if r5 = 0 then (J11 x_pile) else ((X12_holdsFor n x_s x_pile v2 v1).bind fun r7 => (if r7.1 = 0 then (J11 r7.2) else ((X12_ruleOf x_s v2 (1 : Int32)).bind fun r9 => some (r9, r7.2)))))) fun j11 => (X12_willOf_L1 n x_s v1 K1 k (v2 + (1 : Int32)) j11))))))
def X12_willOf (n : Nat) (x_s : Nat → Int32) (x_pile : Nat → Int32) (v1 : Int32) : Option (Int32 × (Nat → Int32)) :=
  (jn (fun K1 => X12_willOf_L1 n x_s v1 K1 n (0 : Int32) x_pile) fun o12 => some ((0 : Int32), o12.2))
def X12_maySet (n : Nat) (x_s : Nat → Int32) (x_pile : Nat → Int32) (v1 : Int32) : Option (Int32 × (Nat → Int32)) :=
  ((X12_willOf n x_s x_pile v1).bind fun r1 => (if r1.1 = 0 then ((X12_paysOf x_s v1).bind fun r3 => (if r3 ≤ 0 then some ((0 : Int32), r1.2) else some ((1 : Int32), r1.2))) else some ((0 : Int32), r1.2)))
def X12_apart (v0 : Int32) (v1 : Int32) : Int32 :=
  (if v1 ≤ v0 then (v0 - v1) else (v1 - v0))
def X12_doAgree (x_s : Nat → Int32) (v1 : Int32) (v2 : Int32) : Option (Int32) :=
  ((X12_get x_s v1 (1 : Int32)).bind fun r1 => ((X12_get x_s v2 (1 : Int32)).bind fun r3 => (if (5 : Int32) < (X12_apart r1 r3) then some (0 : Int32) else some (1 : Int32))))
def X12_pairsNow_L2 (n : Nat) (x_s : Nat → Int32) (v2 : Int32) : Nat → Int32 → Int32 → Option (Int32 × Int32)
  | 0, _, _ => none
  | k + 1, v1, v3 => (if (x_s 4) ≤ v3 then some (v1, v3) else ((X12_doAgree x_s v2 v3).bind fun r1 => (pb (if r1 = 0 then (0 : Int32) else (1 : Int32)) fun j3 => (X12_pairsNow_L2 n x_s v2 k (v1 + j3) (v3 + (1 : Int32))))))
def X12_pairsNow_L1 (n : Nat) (x_s : Nat → Int32) : Nat → Int32 → Int32 → Option (Int32 × Int32)
  | 0, _, _ => none
  | k + 1, v1, v2 => (if (x_s 4) ≤ v2 then some (v1, v2) else ((X12_pairsNow_L2 n x_s v2 n v1 (v2 + (1 : Int32))).bind fun o4 => (X12_pairsNow_L1 n x_s k o4.1 (v2 + (1 : Int32)))))
def X12_pairsNow (n : Nat) (x_s : Nat → Int32) : Option (Int32) :=
  ((X12_pairsNow_L1 n x_s n (0 : Int32) (0 : Int32)).bind fun o5 => some o5.1)
def X12_byteAt (x_tape : Nat → Int32) (x_taped : Int32) (v1 : Int32) : Option (Int32) :=
  (if x_taped ≤ v1 then some (-1 : Int32) else (if (ib v1 200) = true then some (x_tape v1.toNatClampNeg) else none))
def X12_isNameOf_L1 (n : Nat) (x_tape : Nat → Int32) (x_taped : Int32) (x_letters : Nat → Int32) (x_at : Int32) (x_begun : Int32) (v1 : Int32) : Nat → Int32 → Int32 → Option (Int32 × Int32)
  | 0, _, _ => none
  | k + 1, v2, v3 => (if (8 : Int32) ≤ v3 then some (v2, v3) else (if v2 = 0 then some (v2, v3) else (if (ib (((8 : Int32) * v1) + v3) 144) = true then ((if x_at ≤ (x_begun + v3) then some (32 : Int32) else ((X12_byteAt x_tape x_taped (x_begun + v3)).bind fun r3 => some r3)).bind fun j5 => (pb (if (x_letters ((((8 : Int32) * v1) + v3).toNatClampNeg)) = j5 then (1 : Int32) else (0 : Int32)) fun j6 => (X12_isNameOf_L1 n x_tape x_taped x_letters x_at x_begun v1 k j6 (v3 + (1 : Int32))))) else none)))
def X12_isNameOf (n : Nat) (x_tape : Nat → Int32) (x_taped : Int32) (x_letters : Nat → Int32) (x_at : Int32) (x_begun : Int32) (v1 : Int32) : Option (Int32) :=
  (pb (if (8 : Int32) < (x_at - x_begun) then (0 : Int32) else (1 : Int32)) fun j1 => ((X12_isNameOf_L1 n x_tape x_taped x_letters x_at x_begun v1 n j1 (0 : Int32)).bind fun o7 => (if (bk o7.1) = true then some o7.1 else none)))
def X12_readsName_L1 (n : Nat) (x_tape : Nat → Int32) (x_taped : Int32) : Nat → Int32 → Option (Int32)
  | 0, _ => none
  | k + 1, x_at => ((X12_byteAt x_tape x_taped x_at).bind fun r1 => (if (X12_in1 r1 (97 : Int32) (122 : Int32)) = 0 then some x_at else (X12_readsName_L1 n x_tape x_taped k (x_at + (1 : Int32)))))
def X12_readsName_L2 (n : Nat) (x_tape : Nat → Int32) (x_taped : Int32) (x_letters : Nat → Int32) (x_at : Int32) (x_begun : Int32) : Nat → Int32 → Int32 → Option (Int32 × Int32)
  | 0, _, _ => none
  | k + 1, v1, x_token => (if (18 : Int32) ≤ v1 then some (v1, x_token) else ((X12_isNameOf n x_tape x_taped x_letters x_at x_begun v1).bind fun r4 => (pb (if r4 = 0 then x_token else v1) fun j6 => (X12_readsName_L2 n x_tape x_taped x_letters x_at x_begun k (v1 + (1 : Int32)) j6))))
def X12_readsName (n : Nat) (x_tape : Nat → Int32) (x_taped : Int32) (x_letters : Nat → Int32) (x_at : Int32) (x_begun : Int32) : Option (Int32 × Int32) :=
  ((X12_readsName_L1 n x_tape x_taped n x_at).bind fun o3 => ((X12_readsName_L2 n x_tape x_taped x_letters o3 x_begun n (0 : Int32) (101 : Int32)).bind fun o7 => some (o3, o7.2)))
def X12_readsNumber_L1 (n : Nat) (x_tape : Nat → Int32) (x_taped : Int32) (x_begun : Int32) : Nat → Int32 → Int32 → Option (Int32 × Int32)
  | 0, _, _ => none
  | k + 1, x_at, x_value => ((X12_byteAt x_tape x_taped x_at).bind fun r1 => (if (X12_in1 r1 (48 : Int32) (57 : Int32)) = 0 then some (x_at, x_value) else ((if (4 : Int32) ≤ (x_at - x_begun) then some x_value else ((X12_byteAt x_tape x_taped x_at).bind fun r3 => some ((((10 : Int32) * x_value) + r3) - (48 : Int32)))).bind fun j5 => (X12_readsNumber_L1 n x_tape x_taped x_begun k (x_at + (1 : Int32)) j5))))
def X12_readsNumber (n : Nat) (x_tape : Nat → Int32) (x_taped : Int32) (x_at : Int32) (x_begun : Int32) : Option (Int32 × Int32 × Int32) :=
  ((X12_readsNumber_L1 n x_tape x_taped x_begun n x_at (0 : Int32)).bind fun o6 => (if (o6.1 - x_begun) ≤ (4 : Int32) then some (o6.1, (100 : Int32), o6.2) else some (o6.1, (101 : Int32), o6.2)))
def X12_next_L1 (n : Nat) (x_tape : Nat → Int32) (x_taped : Int32) : Nat → Int32 → Option (Int32)
  | 0, _ => none
  | k + 1, x_at => ((X12_byteAt x_tape x_taped x_at).bind fun r1 => (if r1 = (32 : Int32) then (X12_next_L1 n x_tape x_taped k (x_at + (1 : Int32))) else some x_at))
def X12_next (n : Nat) (x_tape : Nat → Int32) (x_taped : Int32) (x_letters : Nat → Int32) (x_at : Int32) (x_value : Int32) : Option (Int32 × Int32 × Int32 × Int32) :=
  ((X12_next_L1 n x_tape x_taped n x_at).bind fun o3 => ((X12_byteAt x_tape x_taped o3).bind fun r4 => (if 0 ≤ r4 then (if (X12_in1 r4 (97 : Int32) (122 : Int32)) = 0 then (if (X12_in1 r4 (48 : Int32) (57 : Int32)) = 0 then some ((o3 + (1 : Int32)), o3, ((200 : Int32) + r4), x_value) else ((X12_readsNumber n x_tape x_taped o3 o3).bind fun r6 => some (r6.1, o3, r6.2.1, r6.2.2))) else ((X12_readsName n x_tape x_taped x_letters o3 o3).bind fun r8 => some (r8.1, o3, r8.2, x_value))) else some (o3, o3, (-1 : Int32), x_value))))
def X12_takes (n : Nat) (x_tape : Nat → Int32) (x_taped : Int32) (x_letters : Nat → Int32) (x_at : Int32) (x_begun : Int32) (x_token : Int32) (x_value : Int32) (v1 : Int32) : Option (Int32 × Int32 × Int32 × Int32 × Int32) :=
  (pb (if x_token = v1 then (1 : Int32) else (0 : Int32)) fun j1 => (if j1 = 0 then (if (bk j1) = true then some (j1, x_at, x_begun, x_token, x_value) else none) else ((X12_next n x_tape x_taped x_letters x_at x_value).bind fun r2 => (if (bk j1) = true then some (j1, r2.1, r2.2.1, r2.2.2.1, r2.2.2.2) else none))))
def X12_lays (x_steps : Int32) (x_code0 : Nat → Int32) (v1 : Int32) : Option (Int32 × (Nat → Int32)) :=
  (if (ib x_steps 200) = true then some ((x_steps + (1 : Int32)), (upd x_code0 x_steps.toNatClampNeg v1)) else none)
def X12_readsValue (n : Nat) (x_tape : Nat → Int32) (x_taped : Int32) (x_letters : Nat → Int32) (x_at : Int32) (x_begun : Int32) (x_token : Int32) (x_value : Int32) (x_steps : Int32) (x_code0 : Nat → Int32) : Option (Int32 × Int32 × Int32 × Int32 × Int32 × Int32 × (Nat → Int32)) :=
  (pb (if x_token = (100 : Int32) then (1 : Int32) else (if (X12_in1 x_token (13 : Int32) (17 : Int32)) = 0 then (0 : Int32) else (1 : Int32))) fun j1 => (if j1 = 0 then (if (bk j1) = true then some (j1, x_at, x_begun, x_token, x_value, x_steps, x_code0) else none) else (pb (if x_token = (100 : Int32) then x_value else (((10000 : Int32) + x_token) - (13 : Int32))) fun j2 => ((X12_lays x_steps x_code0 j2).bind fun r3 => ((X12_next n x_tape x_taped x_letters x_at x_value).bind fun r5 => (if (bk j1) = true then some (j1, r5.1, r5.2.1, r5.2.2.1, r5.2.2.2, r3.1, r3.2) else none))))))
def X12_readsLike (n : Nat) (x_tape : Nat → Int32) (x_taped : Int32) (x_letters : Nat → Int32) (x_at : Int32) (x_begun : Int32) (x_token : Int32) (x_value : Int32) (x_steps : Int32) (x_code0 : Nat → Int32) : Option (Int32 × Int32 × Int32 × Int32 × Int32 × Int32 × (Nat → Int32)) :=
  ((X12_readsValue n x_tape x_taped x_letters x_at x_begun x_token x_value x_steps x_code0).bind fun r1 => (if r1.1 = 0 then some ((0 : Int32), r1.2.1, r1.2.2.1, r1.2.2.2.1, r1.2.2.2.2.1, r1.2.2.2.2.2.1, r1.2.2.2.2.2.2) else (pb (if r1.2.2.2.1 = (260 : Int32) then (10010 : Int32) else (if r1.2.2.2.1 = (261 : Int32) then (10011 : Int32) else (if r1.2.2.2.1 = (262 : Int32) then (10012 : Int32) else (0 : Int32)))) fun j3 => (if j3 = 0 then some ((0 : Int32), r1.2.1, r1.2.2.1, r1.2.2.2.1, r1.2.2.2.2.1, r1.2.2.2.2.2.1, r1.2.2.2.2.2.2) else ((X12_next n x_tape x_taped x_letters r1.2.1 r1.2.2.2.2.1).bind fun r4 => ((X12_readsValue n x_tape x_taped x_letters r4.1 r4.2.1 r4.2.2.1 r4.2.2.2 r1.2.2.2.2.2.1 r1.2.2.2.2.2.2).bind fun r6 => (if r6.1 = 0 then some ((0 : Int32), r6.2.1, r6.2.2.1, r6.2.2.2.1, r6.2.2.2.2.1, r6.2.2.2.2.2.1, r6.2.2.2.2.2.2) else ((X12_lays r6.2.2.2.2.2.1 r6.2.2.2.2.2.2 j3).bind fun r8 => some ((1 : Int32), r6.2.1, r6.2.2.1, r6.2.2.2.1, r6.2.2.2.2.1, r8.1, r8.2)))))))))
def X12_feed_L1 (n : Nat) (v1 : Int64) (v3 : Int32) : Nat → Int32 → (Nat → Int32) → Int32 → Option (Int32 × (Nat → Int32) × Int32)
  | 0, _, _, _ => none
  | k + 1, v4, x_tape, x_taped => (if v3 ≤ v4 then some (v4, x_tape, x_taped) else (if (ib x_taped 200) = true then (X12_feed_L1 n v1 v3 k (v4 + (1 : Int32)) (upd x_tape x_taped.toNatClampNeg (((v1 >>> (((8 : Int32) * v4).toInt64 &&& 63)) &&& (255 : Int64)).toInt32)) (x_taped + (1 : Int32))) else none))
def X12_feed (n : Nat) (x_tape : Nat → Int32) (x_taped : Int32) (v1 : Int64) (v3 : Int32) : Option (Int32 × (Nat → Int32) × Int32) :=
  (if (X12_in1 v3 (1 : Int32) (8 : Int32)) = 0 then some ((-1 : Int32), x_tape, x_taped) else (if (x_taped + v3) ≤ (200 : Int32) then ((X12_feed_L1 n v1 v3 n (0 : Int32) x_tape x_taped).bind fun o2 => some (o2.2.2, o2.2.1, o2.2.2)) else some ((-2 : Int32), x_tape, x_taped)))
def X12_setsRight (x_s : Nat → Int32) (v1 : Int32) : Option (Int32 × (Nat → Int32)) :=
  ((X12_paysOf x_s v1).bind fun r1 => (if r1 ≤ 0 then some (r1, x_s) else ((X12_puts x_s v1 (4 : Int32) (1 : Int32)).bind fun r3 => ((X12_puts r3 v1 (1 : Int32) (0 : Int32)).bind fun r5 => some (r1, r5)))))
def X12_argues_L1 (n : Nat) (v1 : Int32) : Nat → Int32 → Int32 → (Nat → Int32) → Option (Int32 × Int32 × (Nat → Int32))
  | 0, _, _, _ => none
  | k + 1, v2, v3, x_s => (if (x_s 4) ≤ v3 then some (v2, v3, x_s) else ((if v3 = v1 then some (0 : Int32) else ((X12_get x_s v3 (4 : Int32)).bind fun r1 => (jn (fun J7 => (if r1 = 0 then ((X12_get x_s v3 (3 : Int32)).bind fun r3 => ((X12_get x_s v1 (3 : Int32)).bind fun r5 => (if (1 : Int32) < (X12_apart r3 r5) then (J7 ()) else some (1 : Int32)))) else (J7 ()))) fun j7 => some (0 : Int32)))).bind fun j8 => ((if j8 = 0 then some (0 : Int32) else ((X12_get x_s v1 (1 : Int32)).bind fun r9 => ((X12_get x_s v3 (1 : Int32)).bind fun r11 => some ((r9 - r11) / (2 : Int32))))).bind fun j13 => ((X12_get x_s v3 (1 : Int32)).bind fun r14 => ((X12_puts x_s v3 (1 : Int32) (r14 + j13)).bind fun r16 => (pb (if j13 = 0 then (0 : Int32) else (1 : Int32)) fun j18 => (X12_argues_L1 n v1 k (v2 + j18) (v3 + (1 : Int32)) r16)))))))
def X12_argues (n : Nat) (x_s : Nat → Int32) (v1 : Int32) : Option (Int32 × (Nat → Int32)) :=
  ((X12_argues_L1 n v1 n (0 : Int32) (0 : Int32) x_s).bind fun o19 => some (o19.1, o19.2.2))
def X12_meets (n : Nat) (x_s : Nat → Int32) (x_pile : Nat → Int32) (v1 : Int32) : Option (Int32 × (Nat → Int32) × (Nat → Int32)) :=
  ((X12_willOf n x_s x_pile v1).bind fun r1 => (if r1.1 = 0 then ((X12_setsRight x_s v1).bind fun r3 => some (r3.1, r3.2, r1.2)) else (if r1.1 = (2 : Int32) then ((X12_argues n x_s v1).bind fun r5 => some (r5.1, r5.2, r1.2)) else some ((0 : Int32), x_s, r1.2))))
def X12_restOne_L1 (n : Nat) (x_s : Nat → Int32) (K1 : (Int32 × (Nat → Int32)) → Option (Int32 × (Nat → Int32))) : Nat → Int32 → (Nat → Int32) → Option (Int32 × (Nat → Int32))
  | 0, _, _ => none
  | k + 1, v1, x_pile => (if (x_s 4) ≤ v1 then (K1 (v1, x_pile)) else ((X12_maySet n x_s x_pile v1).bind fun r1 => (if r1.1 = 0 then (X12_restOne_L1 n x_s K1 k (v1 + (1 : Int32)) r1.2) else some (v1, r1.2))))
def X12_restOne (n : Nat) (x_s : Nat → Int32) (x_pile : Nat → Int32) : Option (Int32 × (Nat → Int32)) :=
  (jn (fun K1 => X12_restOne_L1 n x_s K1 n (0 : Int32) x_pile) fun o3 => some ((-1 : Int32), o3.2))
def X12_goesBy_L1 (n : Nat) : Nat → Int32 → (Nat → Int32) → Option (Int32 × (Nat → Int32))
  | 0, _, _ => none
  | k + 1, v4, x_s => (if (x_s 4) ≤ v4 then some (v4, x_s) else ((X12_get x_s v4 (1 : Int32)).bind fun r9 => ((X12_slipsOf n x_s v4).bind fun r11 => ((X12_get x_s v4 (4 : Int32)).bind fun r13 => ((if r13 = (1 : Int32) then ((X12_get x_s v4 (1 : Int32)).bind fun r15 => some r15) else some (X12_held (r9 + r11) (99 : Int32))).bind fun j17 => ((X12_puts x_s v4 (1 : Int32) j17).bind fun r18 => (X12_goesBy_L1 n k (v4 + (1 : Int32)) r18)))))))
def X12_goesBy (n : Nat) (x_s : Nat → Int32) (x_pile : Nat → Int32) (v1 : Int32) : Option (Int32 × (Nat → Int32) × (Nat → Int32)) :=
  ((if 0 ≤ v1 then some ((v1 - (1 : Int32)), x_pile) else ((X12_restOne n x_s x_pile).bind fun r1 => some (r1.1, r1.2))).bind fun j3 => ((if j3.1 < 0 then some ((0 : Int32), x_s, j3.2) else ((X12_meets n x_s j3.2 j3.1).bind fun r4 => some (r4.1, r4.2.1, r4.2.2))).bind fun j6 => ((X12_pairsNow n j6.2.1).bind fun r7 => ((X12_goesBy_L1 n n (0 : Int32) j6.2.1).bind fun o20 => some ((j6.1 + (r7 / (2 : Int32))), (upd (upd o20.2 0 ((o20.2 0) + (1 : Int32))) 2 (((upd o20.2 0 ((o20.2 0) + (1 : Int32))) 2) + (j6.1 + (r7 / (2 : Int32))))), j6.2.2)))))
def X12_isDigit (v0 : Int32) : Int32 :=
  (X12_in1 v0 (0 : Int32) (9 : Int32))
def X12_isSpot (v0 : Int32) : Int32 :=
  (X12_in1 v0 (0 : Int32) (5 : Int32))
def X12_dial (x_s : Nat → Int32) (v1 : Int32) (v2 : Int32) (v3 : Int32) (v4 : Int32) : Option (Int32 × (Nat → Int32)) :=
  (if (X12_in1 v1 (1 : Int32) (5 : Int32)) = 0 then some ((-1 : Int32), x_s) else (if (X12_in1 v2 (0 : Int32) (99 : Int32)) = 0 then some ((-1 : Int32), x_s) else (if (X12_isDigit v3) = 0 then some ((-1 : Int32), x_s) else (if (X12_isSpot v4) = 0 then some ((-1 : Int32), x_s) else (if (x_s 4) = (6 : Int32) then some ((-2 : Int32), x_s) else ((X12_puts x_s (x_s 4) (0 : Int32) v1).bind fun r1 => ((X12_puts r1 (x_s 4) (1 : Int32) v2).bind fun r3 => ((X12_puts r3 (x_s 4) (2 : Int32) v3).bind fun r5 => ((X12_puts r5 (x_s 4) (3 : Int32) v4).bind fun r7 => ((X12_puts r7 (x_s 4) (4 : Int32) (0 : Int32)).bind fun r9 => some ((x_s 4), (upd r9 4 ((r9 4) + (1 : Int32))))))))))))))
def X12_dialOf (n : Nat) (x_s : Nat → Int32) (x_pile : Nat → Int32) (v1 : Int32) (v2 : Int32) : Option (Int32 × (Nat → Int32)) :=
  (if (X12_isDial x_s v1) = 0 then some ((-1 : Int32), x_pile) else (if (X12_in1 v2 (0 : Int32) (9 : Int32)) = 0 then some ((-1 : Int32), x_pile) else (if v2 = (5 : Int32) then ((X12_shadesOf x_s v1).bind fun r1 => some (r1, x_pile)) else (if v2 = (6 : Int32) then ((X12_slipsOf n x_s v1).bind fun r3 => some (r3, x_pile)) else (if v2 = (7 : Int32) then ((X12_paysOf x_s v1).bind fun r5 => some (r5, x_pile)) else (if v2 = (8 : Int32) then ((X12_maySet n x_s x_pile v1).bind fun r7 => (if r7.1 = 0 then some ((0 : Int32), r7.2) else some ((1 : Int32), r7.2))) else (if v2 = (9 : Int32) then ((X12_willOf n x_s x_pile v1).bind fun r9 => some (r9.1, r9.2)) else ((X12_get x_s v1 v2).bind fun r11 => some (r11, x_pile)))))))))
def X12_change (x_s : Nat → Int32) (v1 : Int32) (v2 : Int32) (v3 : Int32) : Option (Int32 × (Nat → Int32)) :=
  (pb (if v2 = (1 : Int32) then (99 : Int32) else (if v2 = (3 : Int32) then (5 : Int32) else (if v2 = (4 : Int32) then (1 : Int32) else (9 : Int32)))) fun j1 => (if (X12_isDial x_s v1) = 0 then some ((-1 : Int32), x_s) else (if (X12_in1 v2 (1 : Int32) (4 : Int32)) = 0 then some ((-1 : Int32), x_s) else (if (X12_in1 v3 (0 : Int32) j1) = 0 then some ((-1 : Int32), x_s) else ((X12_becomes x_s (((35 : Int32) + ((5 : Int32) * v1)) + v2) v3).bind fun r2 => some (r2.1, r2.2))))))
def X12_remake (x_s : Nat → Int32) (v1 : Int32) (v2 : Int32) : Option (Int32 × (Nat → Int32)) :=
  (if (X12_isDial x_s v1) = 0 then some ((-1 : Int32), x_s) else (if (X12_in1 v2 (1 : Int32) (5 : Int32)) = 0 then some ((-1 : Int32), x_s) else ((X12_becomes x_s ((35 : Int32) + ((5 : Int32) * v1)) v2).bind fun r1 => some (r1.1, r1.2))))
def X12_sky (x_s : Nat → Int32) (v1 : Int32) (v2 : Int32) : Option (Int32 × (Nat → Int32)) :=
  (if (X12_in1 v1 (0 : Int32) (15 : Int32)) = 0 then some ((-1 : Int32), x_s) else (if (X12_in1 v2 (0 : Int32) (15 : Int32)) = 0 then some ((-1 : Int32), x_s) else ((X12_becomes x_s ((7 : Int32) + v1) v2).bind fun r1 => some (r1.1, r1.2))))
def X12_spot (x_s : Nat → Int32) (v1 : Int32) (v2 : Int32) (v3 : Int32) : Option (Int32 × (Nat → Int32)) :=
  (if (X12_isSpot v1) = 0 then some ((-1 : Int32), x_s) else (if (X12_in1 v2 (0 : Int32) (1 : Int32)) = 0 then some ((-1 : Int32), x_s) else (if (X12_isDigit v3) = 0 then some ((-1 : Int32), x_s) else (pb (if v2 = 0 then (23 : Int32) else (29 : Int32)) fun j1 => ((X12_becomes x_s (j1 + v1) v3).bind fun r2 => some (r2.1, r2.2))))))
def X12_spotOf (n : Nat) (x_s : Nat → Int32) (v1 : Int32) (v2 : Int32) : Option (Int32) :=
  (if (X12_isSpot v1) = 0 then some (-1 : Int32) else (if (X12_in1 v2 (0 : Int32) (2 : Int32)) = 0 then some (-1 : Int32) else (if v2 = (2 : Int32) then ((X12_shadeAt n x_s v1).bind fun r1 => some r1) else (pb (if v2 = 0 then (23 : Int32) else (29 : Int32)) fun j3 => (if (ib (j3 + v1) 313) = true then some (x_s ((j3 + v1).toNatClampNeg)) else none)))))
def X12_ends (x_s : Nat → Int32) (v1 : Int32) : Option (Int32 × (Nat → Int32)) :=
  (if (X12_in1 v1 (1 : Int32) (16 : Int32)) = 0 then some ((-1 : Int32), x_s) else (if (x_s 0) ≤ v1 then ((X12_becomes x_s (1 : Int32) v1).bind fun r1 => some (r1.1, r1.2)) else some ((-4 : Int32), x_s)))
def X12_anew_L1 (n : Nat) : Nat → Int32 → (Nat → Int32) → Option (Int32 × (Nat → Int32))
  | 0, _, _ => none
  | k + 1, v1, x_s => (if (x_s 4) ≤ v1 then some (v1, x_s) else ((X12_puts x_s v1 (4 : Int32) (0 : Int32)).bind fun r1 => (X12_anew_L1 n k (v1 + (1 : Int32)) r1)))
def X12_anew (n : Nat) (x_s : Nat → Int32) : Option (Int32 × (Nat → Int32)) :=
  ((X12_anew_L1 n n (0 : Int32) (upd x_s 2 (0 : Int32))).bind fun o3 => ((X12_becomes o3.2 (0 : Int32) (0 : Int32)).bind fun r4 => some (r4.1, r4.2)))
def X12_those_L1 (n : Nat) (x_s : Nat → Int32) (v1 : Int32) : Nat → Int32 → Int32 → Option (Int32 × Int32)
  | 0, _, _ => none
  | k + 1, v2, v3 => (if (x_s 4) ≤ v3 then some (v2, v3) else ((X12_get x_s v3 v1).bind fun r1 => (pb (if r1 ≤ 0 then (0 : Int32) else ((1 : Int32) <<< (v3 &&& 31))) fun j3 => (X12_those_L1 n x_s v1 k (v2 ||| j3) (v3 + (1 : Int32))))))
def X12_those (n : Nat) (x_s : Nat → Int32) (v1 : Int32) : Option (Int32) :=
  ((X12_those_L1 n x_s v1 n (0 : Int32) (0 : Int32)).bind fun o4 => some o4.1)
def X12_state (n : Nat) (x_s : Nat → Int32) (v1 : Int32) : Option (Int32) :=
  (if v1 = (0 : Int32) then some (x_s 0) else (if v1 = (1 : Int32) then some (x_s 1) else (if v1 = (2 : Int32) then some (x_s 2) else (if v1 = (3 : Int32) then (if (X12_isOver x_s) = 0 then some (0 : Int32) else some (1 : Int32)) else (if v1 = (4 : Int32) then ((X12_those n x_s (4 : Int32)).bind fun r1 => some r1) else (if v1 = (5 : Int32) then ((X12_skyNow x_s).bind fun r3 => some r3) else (if v1 = (6 : Int32) then ((X12_pairsNow n x_s).bind fun r5 => some r5) else some (-1 : Int32))))))))
def X12_chime (n : Nat) (x_s : Nat → Int32) (x_pile : Nat → Int32) : Option (Int32 × (Nat → Int32) × (Nat → Int32)) :=
  (if (X12_isOver x_s) = 0 then ((X12_goesBy n x_s x_pile (-1 : Int32)).bind fun r1 => some (r1.1, r1.2.1, r1.2.2)) else some ((-4 : Int32), x_s, x_pile))
def X12_restOf_L1 (n : Nat) (v1 : Int32) : Nat → Int32 → Int32 → (Nat → Int32) → (Nat → Int32) → Option (Int32 × Int32 × (Nat → Int32) × (Nat → Int32))
  | 0, _, _, _, _ => none
  | k + 1, v2, v3, x_s, x_pile => (if v1 ≤ v3 then some (v2, v3, x_s, x_pile) else (if (X12_isOver x_s) = 0 then ((X12_goesBy n x_s x_pile (-1 : Int32)).bind fun r1 => (X12_restOf_L1 n v1 k (v2 + r1.1) (v3 + (1 : Int32)) r1.2.1 r1.2.2)) else some (v2, v3, x_s, x_pile)))
def X12_restOf (n : Nat) (x_s : Nat → Int32) (x_pile : Nat → Int32) (v1 : Int32) : Option (Int32 × (Nat → Int32) × (Nat → Int32)) :=
  ((X12_restOf_L1 n v1 n (0 : Int32) (0 : Int32) x_s x_pile).bind fun o3 => some (o3.1, o3.2.2.1, o3.2.2.2))
def X12_on (n : Nat) (x_s : Nat → Int32) (x_laid : Nat → Int32) (x_pile : Nat → Int32) (v1 : Int32) : Option (Int32 × (Nat → Int32) × (Nat → Int32) × (Nat → Int32)) :=
  (if (X12_in1 v1 (0 : Int32) (16 : Int32)) = 0 then some ((-1 : Int32), x_s, x_laid, x_pile) else ((X12_layDown n x_s x_laid).bind fun r1 => ((X12_restOf n x_s x_pile v1).bind fun r3 => ((X12_layBack n r3.2.1 r1).bind fun r5 => some (r3.1, r5, r1, r3.2.2)))))
def X12_when_L1 (n : Nat) (v1 : Int32) : Nat → Int32 → Int32 → (Nat → Int32) → (Nat → Int32) → Option (Int32 × Int32 × (Nat → Int32) × (Nat → Int32))
  | 0, _, _, _, _ => none
  | k + 1, v2, v3, x_s, x_pile => (if v3 = 0 then some (v2, v3, x_s, x_pile) else (if (X12_isOver x_s) = 0 then ((X12_goesBy n x_s x_pile (-1 : Int32)).bind fun r6 => ((X12_get r6.2.1 v1 (4 : Int32)).bind fun r8 => (pb (if r8 = 0 then (1 : Int32) else (0 : Int32)) fun j10 => (pb (if j10 = 0 then (if 0 ≤ r6.1 then ((r6.2.1 0) - (1 : Int32)) else (-3 : Int32)) else (-3 : Int32)) fun j11 => (X12_when_L1 n v1 k j11 j10 r6.2.1 r6.2.2))))) else some (v2, v3, x_s, x_pile)))
def X12_when (n : Nat) (x_s : Nat → Int32) (x_laid : Nat → Int32) (x_pile : Nat → Int32) (v1 : Int32) : Option (Int32 × (Nat → Int32) × (Nat → Int32) × (Nat → Int32)) :=
  (if (X12_isDial x_s v1) = 0 then some ((-1 : Int32), x_s, x_laid, x_pile) else ((X12_layDown n x_s x_laid).bind fun r1 => ((X12_get x_s v1 (4 : Int32)).bind fun r3 => (pb (if r3 = 0 then (1 : Int32) else (0 : Int32)) fun j5 => ((X12_when_L1 n v1 n (-3 : Int32) j5 x_s x_pile).bind fun o12 => ((X12_layBack n o12.2.2.1 r1).bind fun r13 => some (o12.1, r13, r1, o12.2.2.2)))))))
def X12_bestFor_L1 (n : Nat) (x_laid : Nat → Int32) (v1 : Int32) (v2 : Int32) (v3 : Int32) : Nat → Int32 → Int32 → Int32 → (Nat → Int32) → (Nat → Int32) → Option (Int32 × Int32 × Int32 × (Nat → Int32) × (Nat → Int32))
  | 0, _, _, _, _, _ => none
  | k + 1, v4, v5, v6, x_s, x_pile => (if v3 < v6 then some (v4, v5, v6, x_s, x_pile) else ((X12_puts x_s v1 v2 v6).bind fun r3 => ((X12_restOf n r3 x_pile (16 : Int32)).bind fun r5 => (pb (if r5.1 ≤ v5 then v4 else v6) fun j7 => (pb (if r5.1 ≤ v5 then v5 else r5.1) fun j8 => ((X12_layBack n r5.2.1 x_laid).bind fun r9 => (X12_bestFor_L1 n x_laid v1 v2 v3 k j7 j8 (v6 + (1 : Int32)) r9 r5.2.2)))))))
def X12_bestFor (n : Nat) (x_s : Nat → Int32) (x_laid : Nat → Int32) (x_pile : Nat → Int32) (v1 : Int32) (v2 : Int32) (v3 : Int32) : Option (Int32 × (Nat → Int32) × (Nat → Int32) × (Nat → Int32)) :=
  (if (X12_isDial x_s v1) = 0 then some ((-1 : Int32), x_s, x_laid, x_pile) else ((X12_layDown n x_s x_laid).bind fun r1 => ((X12_bestFor_L1 n r1 v1 v2 v3 n (0 : Int32) (-1 : Int32) (0 : Int32) x_s x_pile).bind fun o11 => some (o11.1, o11.2.2.2.1, r1, o11.2.2.2.2))))
def X12_prideFor (n : Nat) (x_s : Nat → Int32) (x_laid : Nat → Int32) (x_pile : Nat → Int32) (v1 : Int32) : Option (Int32 × (Nat → Int32) × (Nat → Int32) × (Nat → Int32)) :=
  ((X12_bestFor n x_s x_laid x_pile v1 (2 : Int32) (9 : Int32)).bind fun r1 => some (r1.1, r1.2.1, r1.2.2.1, r1.2.2.2))
def X12_spotFor (n : Nat) (x_s : Nat → Int32) (x_laid : Nat → Int32) (x_pile : Nat → Int32) (v1 : Int32) : Option (Int32 × (Nat → Int32) × (Nat → Int32) × (Nat → Int32)) :=
  ((X12_bestFor n x_s x_laid x_pile v1 (3 : Int32) (5 : Int32)).bind fun r1 => some (r1.1, r1.2.1, r1.2.2.1, r1.2.2.2))
def X12_late_L1 (n : Nat) (v1 : Int32) : Nat → Int32 → (Nat → Int32) → (Nat → Int32) → Option (Int32 × (Nat → Int32) × (Nat → Int32))
  | 0, _, _, _ => none
  | k + 1, v2, x_s, x_pile => ((X12_get x_s v1 (1 : Int32)).bind fun r3 => (if (50 : Int32) ≤ r3 then some (v2, x_s, x_pile) else (if (X12_isOver x_s) = 0 then ((X12_goesBy n x_s x_pile (-1 : Int32)).bind fun r5 => (X12_late_L1 n v1 k (v2 + r5.1) r5.2.1 r5.2.2)) else some (v2, x_s, x_pile))))
def X12_late (n : Nat) (x_s : Nat → Int32) (x_laid : Nat → Int32) (x_pile : Nat → Int32) (v1 : Int32) : Option (Int32 × (Nat → Int32) × (Nat → Int32) × (Nat → Int32)) :=
  (if (X12_isDial x_s v1) = 0 then some ((-1 : Int32), x_s, x_laid, x_pile) else ((X12_layDown n x_s x_laid).bind fun r1 => ((X12_late_L1 n v1 n (0 : Int32) x_s x_pile).bind fun o7 => ((X12_get o7.2.1 v1 (1 : Int32)).bind fun r8 => (pb (if r8 < (50 : Int32) then (-3 : Int32) else (if o7.1 < 0 then (-3 : Int32) else (o7.2.1 0))) fun j10 => ((X12_layBack n o7.2.1 r1).bind fun r11 => some (j10, r11, r1, o7.2.2)))))))
def X12_middle_L2 (n : Nat) (x_s : Nat → Int32) (v3 : Int32) : Nat → Int32 → Int32 → Option (Int32 × Int32)
  | 0, _, _ => none
  | k + 1, v4, v5 => (if (x_s 4) ≤ v5 then some (v4, v5) else ((X12_get x_s v3 (1 : Int32)).bind fun r1 => ((X12_get x_s v5 (1 : Int32)).bind fun r3 => (X12_middle_L2 n x_s v3 k (v4 + (X12_apart r1 r3)) (v5 + (1 : Int32))))))
def X12_middle_L1 (n : Nat) (x_s : Nat → Int32) : Nat → Int32 → Int32 → Int32 → Option (Int32 × Int32 × Int32)
  | 0, _, _, _ => none
  | k + 1, v1, v2, v3 => (if (x_s 4) ≤ v3 then some (v1, v2, v3) else ((X12_middle_L2 n x_s v3 n (0 : Int32) (0 : Int32)).bind fun o5 => (pb (if v1 < 0 then (1 : Int32) else (if v2 ≤ o5.1 then (0 : Int32) else (1 : Int32))) fun j6 => (pb (if j6 = 0 then v1 else v3) fun j7 => (pb (if j6 = 0 then v2 else o5.1) fun j8 => (X12_middle_L1 n x_s k j7 j8 (v3 + (1 : Int32))))))))
def X12_middle (n : Nat) (x_s : Nat → Int32) : Option (Int32) :=
  ((X12_middle_L1 n x_s n (-3 : Int32) (0 : Int32) (0 : Int32)).bind fun o9 => some o9.1)
def X12_areClose (x_s : Nat → Int32) (v1 : Int32) (v2 : Int32) : Option (Int32) :=
  ((X12_get x_s v1 (4 : Int32)).bind fun r1 => (if r1 = 0 then ((X12_get x_s v2 (4 : Int32)).bind fun r3 => (if r3 = 0 then ((X12_doAgree x_s v1 v2).bind fun r5 => (if r5 = 0 then some (0 : Int32) else some (1 : Int32))) else some (0 : Int32))) else some (0 : Int32)))
def X12_knotOf_L3 (n : Nat) (x_s : Nat → Int32) (v4 : Int32) : Nat → Int32 → Int32 → Option (Int32 × Int32)
  | 0, _, _ => none
  | k + 1, v2, v5 => (if (x_s 4) ≤ v5 then some (v2, v5) else ((if ((v2 >>> (v4 &&& 31)) &&& (1 : Int32)) = (1 : Int32) then ((X12_areClose x_s v4 v5).bind fun r1 => (if r1 = 0 then some (0 : Int32) else some ((1 : Int32) <<< (v5 &&& 31)))) else some (0 : Int32)).bind fun j3 => (X12_knotOf_L3 n x_s v4 k (v2 ||| j3) (v5 + (1 : Int32)))))
def X12_knotOf_L2 (n : Nat) (x_s : Nat → Int32) : Nat → Int32 → Int32 → Option (Int32 × Int32)
  | 0, _, _ => none
  | k + 1, v2, v4 => (if (x_s 4) ≤ v4 then some (v2, v4) else ((X12_knotOf_L3 n x_s v4 n v2 (0 : Int32)).bind fun o4 => (X12_knotOf_L2 n x_s k o4.1 (v4 + (1 : Int32)))))
def X12_knotOf_L1 (n : Nat) (x_s : Nat → Int32) : Nat → Int32 → Int32 → Option (Int32 × Int32)
  | 0, _, _ => none
  | k + 1, v2, v3 => (if (x_s 4) ≤ v3 then some (v2, v3) else ((X12_knotOf_L2 n x_s n v2 (0 : Int32)).bind fun o5 => (X12_knotOf_L1 n x_s k o5.1 (v3 + (1 : Int32)))))
def X12_knotOf (n : Nat) (x_s : Nat → Int32) (v1 : Int32) : Option (Int32) :=
  ((X12_knotOf_L1 n x_s n ((1 : Int32) <<< (v1 &&& 31)) (0 : Int32)).bind fun o6 => ((X12_get x_s v1 (4 : Int32)).bind fun r7 => (if r7 = (1 : Int32) then some (0 : Int32) else some o6.1)))
def X12_knots_L1 (n : Nat) (x_s : Nat → Int32) : Nat → Int32 → Int32 → Option (Int32 × Int32)
  | 0, _, _ => none
  | k + 1, v2, v3 => (if (x_s 4) ≤ v3 then some (v2, v3) else ((X12_knotOf n x_s v3).bind fun r2 => ((if r2 = 0 then some (0 : Int32) else (if (!(decide (((1 : Int32) <<< (v3 &&& 31)) = 0))) = true then (if (irm r2 ((1 : Int32) <<< (v3 &&& 31))) = 0 then some (1 : Int32) else some (0 : Int32)) else none)).bind fun j5 => (X12_knots_L1 n x_s k (v2 + j5) (v3 + (1 : Int32))))))
def X12_knots (n : Nat) (x_s : Nat → Int32) (v1 : Int32) : Option (Int32) :=
  (jn (fun J1 => (if v1 = (-1 : Int32) then (J1 ()) else (if (X12_isDial x_s v1) = 0 then some (-1 : Int32) else (J1 ())))) fun j1 => (if v1 < 0 then ((X12_knots_L1 n x_s n (0 : Int32) (0 : Int32)).bind fun o6 => some o6.1) else ((X12_knotOf n x_s v1).bind fun r7 => some r7)))
def X12_seats_L2 (n : Nat) (x_s : Nat → Int32) (v1 : Int32) (v5 : Int32) : Nat → Int32 → Int32 → Int32 → Option (Int32 × Int32 × Int32)
  | 0, _, _, _ => none
  | k + 1, v6, v7, v8 => (if (6 : Int32) ≤ v8 then some (v6, v7, v8) else (pb (if ((v5 >>> (v8 &&& 31)) &&& (1 : Int32)) = (1 : Int32) then (1 : Int32) else (0 : Int32)) fun j2 => ((if v6 = 0 then some (0 : Int32) else (jn (fun J5 => (if j2 = 0 then (J5 ()) else ((X12_shadeAt n x_s v8).bind fun r3 => (if v1 < r3 then some (0 : Int32) else (J5 ()))))) fun j5 => some (1 : Int32))).bind fun j6 => ((if j2 = 0 then some (0 : Int32) else (if (ib ((29 : Int32) + v8) 313) = true then some (x_s (((29 : Int32) + v8).toNatClampNeg)) else none)).bind fun j8 => (X12_seats_L2 n x_s v1 v5 k j6 (v7 + j8) (v8 + (1 : Int32)))))))
def X12_seats_L1 (n : Nat) (x_s : Nat → Int32) (v1 : Int32) : Nat → Int32 → Int32 → Int32 → Option (Int32 × Int32 × Int32)
  | 0, _, _, _ => none
  | k + 1, v3, v4, v5 => (if (64 : Int32) ≤ v5 then some (v3, v4, v5) else (pb (if (v5 &&& (v5 <<< ((1 : Int32) &&& 31))) = 0 then (1 : Int32) else (0 : Int32)) fun j1 => ((X12_seats_L2 n x_s v1 v5 n j1 (0 : Int32) (0 : Int32)).bind fun o9 => (pb (if o9.1 = 0 then v3 else (if o9.2.1 ≤ v4 then v3 else v5)) fun j10 => (pb (if o9.1 = 0 then v4 else (if o9.2.1 ≤ v4 then v4 else o9.2.1)) fun j11 => (X12_seats_L1 n x_s v1 k j10 j11 (v5 + (1 : Int32))))))))
def X12_seats (n : Nat) (x_s : Nat → Int32) (v1 : Int32) (v2 : Int32) : Option (Int32) :=
  (if (X12_in1 v1 (0 : Int32) (99 : Int32)) = 0 then some (-1 : Int32) else (if (X12_in1 v2 (0 : Int32) (1 : Int32)) = 0 then some (-1 : Int32) else ((X12_seats_L1 n x_s v1 n (0 : Int32) (0 : Int32) (1 : Int32)).bind fun o12 => (if v2 = 0 then some o12.2.1 else some o12.1))))
def X12_saves_L1 (n : Nat) (x_s : Nat → Int32) (v1 : Int32) : Nat → Int32 → (Nat → Int32) → Option (Int32 × (Nat → Int32))
  | 0, _, _ => none
  | k + 1, v2, x_saved => (if (65 : Int32) ≤ v2 then some (v2, x_saved) else (if (ib v2 313) = true then (if (ib (((65 : Int32) * v1) + v2) 325) = true then (X12_saves_L1 n x_s v1 k (v2 + (1 : Int32)) (upd x_saved ((((65 : Int32) * v1) + v2).toNatClampNeg) (x_s v2.toNatClampNeg))) else none) else none))
def X12_saves (n : Nat) (x_s : Nat → Int32) (x_saved : Nat → Int32) (v1 : Int32) : Option ((Nat → Int32)) :=
  ((X12_saves_L1 n x_s v1 n (0 : Int32) x_saved).bind fun o3 => some o3.2)
def X12_restores_L1 (n : Nat) (x_saved : Nat → Int32) (v1 : Int32) : Nat → Int32 → (Nat → Int32) → Option (Int32 × (Nat → Int32))
  | 0, _, _ => none
  | k + 1, v2, x_s => (if (65 : Int32) ≤ v2 then some (v2, x_s) else (if (ib (((65 : Int32) * v1) + v2) 325) = true then (if (ib v2 313) = true then (X12_restores_L1 n x_saved v1 k (v2 + (1 : Int32)) (upd x_s v2.toNatClampNeg (x_saved ((((65 : Int32) * v1) + v2).toNatClampNeg)))) else none) else none))
def X12_restores (n : Nat) (x_s : Nat → Int32) (x_saved : Nat → Int32) (v1 : Int32) : Option ((Nat → Int32)) :=
  ((X12_restores_L1 n x_saved v1 n (0 : Int32) x_s).bind fun o3 => some o3.2)
def X12_daysOf (x_s : Nat → Int32) (v1 : Int32) : Int32 :=
  (pb (if (X12_isOver x_s) = 0 then ((x_s 1) - (x_s 0)) else (0 : Int32)) fun j1 => (if j1 ≤ v1 then j1 else v1))
def X12_endsPlan_L1 (n : Nat) (x_plan : Nat → Int32) (v1 : Int32) : Nat → Int32 → (Nat → Int32) → Option (Int32 × (Nat → Int32))
  | 0, _, _ => none
  | k + 1, v5, x_bestPlan => (if v1 ≤ v5 then some (v5, x_bestPlan) else (if (ib v5 4) = true then (if (ib v5 4) = true then (X12_endsPlan_L1 n x_plan v1 k (v5 + (1 : Int32)) (upd x_bestPlan v5.toNatClampNeg (x_plan v5.toNatClampNeg))) else none) else none))
def X12_endsPlan (n : Nat) (x_s : Nat → Int32) (x_plan : Nat → Int32) (x_bestPlan : Nat → Int32) (x_most : Int32) (x_many : Int32) (x_few : Int32) (x_everRight : Int32) (v1 : Int32) (v2 : Int32) (v3 : Int32) (v4 : Int32) : Option ((Nat → Int32) × Int32 × Int32 × Int32 × Int32) :=
  ((if v2 ≤ x_most then some (x_bestPlan, x_most, x_many) else ((X12_endsPlan_L1 n x_plan v1 n (0 : Int32) x_bestPlan).bind fun o3 => some (o3.2, v2, (0 : Int32)))).bind fun j4 => (pb (if v2 = j4.2.1 then (1 : Int32) else (0 : Int32)) fun j5 => ((X12_those n x_s (4 : Int32)).bind fun r6 => (pb (if (v4 &&& (r6 ^^^ (-1 : Int32))) = 0 then (if x_few ≤ v3 then x_few else v3) else x_few) fun j8 => some (j4.1, j4.2.1, (j4.2.2 + j5), j8, (x_everRight ||| r6))))))
def X12_isPlan (v0 : Int32) : Int32 :=
  (X12_in1 v0 (0 : Int32) (4 : Int32))
def X12_isSet (x_s : Nat → Int32) (v1 : Int32) : Int32 :=
  (X12_in1 v1 (0 : Int32) (((1 : Int32) <<< ((x_s 4) &&& 31)) - (1 : Int32)))
def X12_report (x_s : Nat → Int32) (v1 : Int32) (v2 : Int32) (v3 : Int32) (v4 : Int32) : Option (Int32 × (Nat → Int32)) :=
  (if (X12_in1 v1 (0 : Int32) (15 : Int32)) = 0 then some ((-1 : Int32), x_s) else (if (X12_in1 v2 (0 : Int32) (1 : Int32)) = 0 then some ((-1 : Int32), x_s) else (if (X12_in1 v3 (0 : Int32) (99 : Int32)) = 0 then some ((-1 : Int32), x_s) else (if (X12_in1 v4 v3 (99 : Int32)) = 0 then some ((-1 : Int32), x_s) else (if (x_s 6) = (6 : Int32) then some ((-2 : Int32), x_s) else (if (ib ((65 : Int32) + ((4 : Int32) * (x_s 6))) 313) = true then (if (ib (((65 : Int32) + ((4 : Int32) * (x_s 6))) + (1 : Int32)) 313) = true then (if (ib (((65 : Int32) + ((4 : Int32) * (x_s 6))) + (2 : Int32)) 313) = true then (if (ib (((65 : Int32) + ((4 : Int32) * (x_s 6))) + (3 : Int32)) 313) = true then some ((((upd (upd (upd (upd (upd x_s (((65 : Int32) + ((4 : Int32) * (x_s 6))).toNatClampNeg) v1) ((((65 : Int32) + ((4 : Int32) * (x_s 6))) + (1 : Int32)).toNatClampNeg) v2) ((((65 : Int32) + ((4 : Int32) * (x_s 6))) + (2 : Int32)).toNatClampNeg) v3) ((((65 : Int32) + ((4 : Int32) * (x_s 6))) + (3 : Int32)).toNatClampNeg) v4) 6 (((upd (upd (upd (upd x_s (((65 : Int32) + ((4 : Int32) * (x_s 6))).toNatClampNeg) v1) ((((65 : Int32) + ((4 : Int32) * (x_s 6))) + (1 : Int32)).toNatClampNeg) v2) ((((65 : Int32) + ((4 : Int32) * (x_s 6))) + (2 : Int32)).toNatClampNeg) v3) ((((65 : Int32) + ((4 : Int32) * (x_s 6))) + (3 : Int32)).toNatClampNeg) v4) 6) + (1 : Int32))) 6) - (1 : Int32)), (upd (upd (upd (upd (upd x_s (((65 : Int32) + ((4 : Int32) * (x_s 6))).toNatClampNeg) v1) ((((65 : Int32) + ((4 : Int32) * (x_s 6))) + (1 : Int32)).toNatClampNeg) v2) ((((65 : Int32) + ((4 : Int32) * (x_s 6))) + (2 : Int32)).toNatClampNeg) v3) ((((65 : Int32) + ((4 : Int32) * (x_s 6))) + (3 : Int32)).toNatClampNeg) v4) 6 (((upd (upd (upd (upd x_s (((65 : Int32) + ((4 : Int32) * (x_s 6))).toNatClampNeg) v1) ((((65 : Int32) + ((4 : Int32) * (x_s 6))) + (1 : Int32)).toNatClampNeg) v2) ((((65 : Int32) + ((4 : Int32) * (x_s 6))) + (2 : Int32)).toNatClampNeg) v3) ((((65 : Int32) + ((4 : Int32) * (x_s 6))) + (3 : Int32)).toNatClampNeg) v4) 6) + (1 : Int32)))) else none) else none) else none) else none))))))
def X12_forget (x_s : Nat → Int32) : Option (Int32 × (Nat → Int32)) :=
  ((X12_becomes x_s (6 : Int32) (0 : Int32)).bind fun r1 => some (r1.1, r1.2))
def X12_tellsLone_L1 (n : Nat) (x_s : Nat → Int32) (v1 : Int32) (v2 : Int32) : Nat → Int32 → Int32 → Int32 → (Nat → Int32) → (Nat → Int32) → Option (Int32 × Int32 × Int32 × (Nat → Int32) × (Nat → Int32))
  | 0, _, _, _, _, _ => none
  | k + 1, v4, v5, v6, x_lagThen, x_shadedThen => (if (16 : Int32) ≤ v6 then some (v4, v5, v6, x_lagThen, x_shadedThen) else (if (ib v6 16) = true then (if (ib v6 16) = true then (if (ib ((7 : Int32) + v6) 313) = true then (X12_tellsLone_L1 n x_s v1 v2 k (X12_held (v4 + (X12_slipsBy v1 v2 (irm (x_s (((7 : Int32) + v6).toNatClampNeg)) (4 : Int32)))) (99 : Int32)) (X12_held (v5 + (X12_shadesBy v1 ((x_s (((7 : Int32) + v6).toNatClampNeg)) / (4 : Int32)) v6)) (99 : Int32)) (v6 + (1 : Int32)) (upd x_lagThen v6.toNatClampNeg v4) (upd x_shadedThen v6.toNatClampNeg v5)) else none) else none) else none))
def X12_tellsLone (n : Nat) (x_s : Nat → Int32) (x_lagThen : Nat → Int32) (x_shadedThen : Nat → Int32) (v1 : Int32) (v2 : Int32) (v3 : Int32) : Option ((Nat → Int32) × (Nat → Int32)) :=
  ((X12_tellsLone_L1 n x_s v1 v2 n v3 (0 : Int32) (0 : Int32) x_lagThen x_shadedThen).bind fun o4 => some (o4.2.2.2.1, o4.2.2.2.2))
def X12_isSo (x_s : Nat → Int32) (x_lagThen : Nat → Int32) (x_shadedThen : Nat → Int32) (v1 : Int32) : Option (Int32) :=
  (if (ib (((65 : Int32) + ((4 : Int32) * v1)) + (1 : Int32)) 313) = true then ((if (x_s ((((65 : Int32) + ((4 : Int32) * v1)) + (1 : Int32)).toNatClampNeg)) = 0 then (if (ib ((65 : Int32) + ((4 : Int32) * v1)) 313) = true then (if (ib (x_s (((65 : Int32) + ((4 : Int32) * v1)).toNatClampNeg)) 16) = true then some (x_lagThen ((x_s (((65 : Int32) + ((4 : Int32) * v1)).toNatClampNeg)).toNatClampNeg)) else none) else none) else (if (ib ((65 : Int32) + ((4 : Int32) * v1)) 313) = true then (if (ib (x_s (((65 : Int32) + ((4 : Int32) * v1)).toNatClampNeg)) 16) = true then some (x_shadedThen ((x_s (((65 : Int32) + ((4 : Int32) * v1)).toNatClampNeg)).toNatClampNeg)) else none) else none)).bind fun j6 => (if (ib (((65 : Int32) + ((4 : Int32) * v1)) + (2 : Int32)) 313) = true then (if (ib (((65 : Int32) + ((4 : Int32) * v1)) + (3 : Int32)) 313) = true then some (X12_in1 j6 (x_s ((((65 : Int32) + ((4 : Int32) * v1)) + (2 : Int32)).toNatClampNeg)) (x_s ((((65 : Int32) + ((4 : Int32) * v1)) + (3 : Int32)).toNatClampNeg))) else none) else none)) else none)
def X12_fitting_L2 (n : Nat) (x_s : Nat → Int32) (x_lagThen : Nat → Int32) (x_shadedThen : Nat → Int32) (v1 : Int32) : Nat → Int32 → Int32 → Option (Int32 × Int32)
  | 0, _, _ => none
  | k + 1, v4, v5 => (if (x_s 6) ≤ v5 then some (v4, v5) else (if v4 = 0 then some (v4, v5) else ((if v5 = v1 then some (1 : Int32) else ((X12_isSo x_s x_lagThen x_shadedThen v5).bind fun r3 => (if r3 = 0 then some (0 : Int32) else some (1 : Int32)))).bind fun j5 => (X12_fitting_L2 n x_s x_lagThen x_shadedThen v1 k j5 (v5 + (1 : Int32))))))
def X12_fitting_L1 (n : Nat) (x_s : Nat → Int32) (v1 : Int32) : Nat → Int32 → Int32 → (Nat → Int32) → (Nat → Int32) → Int32 → Option (Int32 × Int32 × (Nat → Int32) × (Nat → Int32) × Int32)
  | 0, _, _, _, _, _ => none
  | k + 1, v2, v3, x_lagThen, x_shadedThen, x_firstFit => (if (500 : Int32) ≤ v3 then some (v2, v3, x_lagThen, x_shadedThen, x_firstFit) else ((X12_tellsLone n x_s x_lagThen x_shadedThen ((1 : Int32) + (v3 / (100 : Int32))) (irm (v3 / (10 : Int32)) (10 : Int32)) ((10 : Int32) * (irm v3 (10 : Int32)))).bind fun r1 => ((X12_fitting_L2 n x_s r1.1 r1.2 v1 n (1 : Int32) (0 : Int32)).bind fun o6 => (pb (if o6.1 = 0 then (0 : Int32) else (1 : Int32)) fun j7 => (pb (if o6.1 = 0 then x_firstFit else (if 0 ≤ x_firstFit then x_firstFit else v3)) fun j8 => (X12_fitting_L1 n x_s v1 k (v2 + j7) (v3 + (1 : Int32)) r1.1 r1.2 j8))))))
def X12_fitting (n : Nat) (x_s : Nat → Int32) (x_lagThen : Nat → Int32) (x_shadedThen : Nat → Int32) (v1 : Int32) : Option (Int32 × (Nat → Int32) × (Nat → Int32) × Int32) :=
  ((X12_fitting_L1 n x_s v1 n (0 : Int32) (0 : Int32) x_lagThen x_shadedThen (-1 : Int32)).bind fun o9 => some (o9.1, o9.2.2.1, o9.2.2.2.1, o9.2.2.2.2))
def X12_lone (n : Nat) (x_s : Nat → Int32) (x_lagThen : Nat → Int32) (x_shadedThen : Nat → Int32) (x_firstFit : Int32) (v1 : Int32) : Option (Int32 × (Nat → Int32) × (Nat → Int32) × Int32) :=
  (if (X12_in1 v1 (0 : Int32) (3 : Int32)) = 0 then some ((-1 : Int32), x_lagThen, x_shadedThen, x_firstFit) else ((X12_fitting n x_s x_lagThen x_shadedThen (-1 : Int32)).bind fun r1 => (jn (fun J3 => (if v1 ≤ 0 then (J3 ()) else (if r1.1 = 0 then some ((-3 : Int32), r1.2.1, r1.2.2.1, r1.2.2.2) else (J3 ())))) fun j3 => (if v1 = 0 then some (r1.1, r1.2.1, r1.2.2.1, r1.2.2.2) else (if v1 = (1 : Int32) then some (((1 : Int32) + (r1.2.2.2 / (100 : Int32))), r1.2.1, r1.2.2.1, r1.2.2.2) else (if v1 = (2 : Int32) then some ((irm (r1.2.2.2 / (10 : Int32)) (10 : Int32)), r1.2.1, r1.2.2.1, r1.2.2.2) else some (((10 : Int32) * (irm r1.2.2.2 (10 : Int32))), r1.2.1, r1.2.2.1, r1.2.2.2)))))))
def X12_liar_L1 (n : Nat) (x_s : Nat → Int32) (K1 : (Int32 × (Nat → Int32) × (Nat → Int32) × Int32) → Option (Int32 × (Nat → Int32) × (Nat → Int32) × Int32)) : Nat → Int32 → (Nat → Int32) → (Nat → Int32) → Int32 → Option (Int32 × (Nat → Int32) × (Nat → Int32) × Int32)
  | 0, _, _, _, _ => none
  | k + 1, v1, x_lagThen, x_shadedThen, x_firstFit => (if (x_s 6) ≤ v1 then (K1 (v1, x_lagThen, x_shadedThen, x_firstFit)) else ((X12_fitting n x_s x_lagThen x_shadedThen v1).bind fun r3 => (if r3.1 ≤ 0 then (X12_liar_L1 n x_s K1 k (v1 + (1 : Int32)) r3.2.1 r3.2.2.1 r3.2.2.2) else some (v1, r3.2.1, r3.2.2.1, r3.2.2.2))))
def X12_liar (n : Nat) (x_s : Nat → Int32) (x_lagThen : Nat → Int32) (x_shadedThen : Nat → Int32) : Option (Int32 × (Nat → Int32) × (Nat → Int32) × Int32) :=
  ((X12_fitting n x_s x_lagThen x_shadedThen (-1 : Int32)).bind fun r1 => (if r1.1 ≤ 0 then (jn (fun K1 => X12_liar_L1 n x_s K1 n (0 : Int32) r1.2.1 r1.2.2.1 r1.2.2.2) fun o5 => some ((-3 : Int32), o5.2.1, o5.2.2.1, o5.2.2.2)) else some ((-3 : Int32), r1.2.1, r1.2.2.1, r1.2.2.2)))
def X12_seed (x_s : Nat → Int32) (v1 : Int32) : Option (Int32 × (Nat → Int32)) :=
  ((X12_becomes x_s (3 : Int32) v1).bind fun r1 => some (r1.1, r1.2))
def X12_byLot (n : Nat) (x_s : Nat → Int32) (x_pile : Nat → Int32) : Option (Int32 × (Nat → Int32) × (Nat → Int32)) :=
  (if (!(decide ((((upd x_s 3 (((x_s 3) * (1103515245 : Int32)) + (12345 : Int32))) 4) + (1 : Int32)) = 0))) = true then ((X12_goesBy n (upd x_s 3 (((x_s 3) * (1103515245 : Int32)) + (12345 : Int32))) x_pile (irm ((((upd x_s 3 (((x_s 3) * (1103515245 : Int32)) + (12345 : Int32))) 3).toUInt32 >>> ((16 : Int32).toUInt32 &&& Int32.toUInt32 31)).toInt32) (((upd x_s 3 (((x_s 3) * (1103515245 : Int32)) + (12345 : Int32))) 4) + (1 : Int32)))).bind fun r2 => some (r2.1, r2.2.1, r2.2.2)) else none)
def X12_lot (n : Nat) (x_s : Nat → Int32) (x_pile : Nat → Int32) : Option (Int32 × (Nat → Int32) × (Nat → Int32)) :=
  (if (X12_isOver x_s) = 0 then ((X12_byLot n x_s x_pile).bind fun r1 => some (r1.1, r1.2.1, r1.2.2)) else some ((-4 : Int32), x_s, x_pile))
def X12_times_L2 (n : Nat) : Nat → Int32 → (Nat → Int32) → (Nat → Int32) → Option (Int32 × (Nat → Int32) × (Nat → Int32))
  | 0, _, _, _ => none
  | k + 1, v5, x_s, x_pile => (if (X12_isOver x_s) = 0 then ((X12_byLot n x_s x_pile).bind fun r3 => (X12_times_L2 n k (v5 + r3.1) r3.2.1 r3.2.2)) else some (v5, x_s, x_pile))
def X12_times_L1 (n : Nat) (x_laid : Nat → Int32) (v1 : Int32) (v2 : Int32) : Nat → Int32 → Int32 → (Nat → Int32) → (Nat → Int32) → Option (Int32 × Int32 × (Nat → Int32) × (Nat → Int32))
  | 0, _, _, _, _ => none
  | k + 1, v3, v4, x_s, x_pile => (if v1 ≤ v4 then some (v3, v4, x_s, x_pile) else ((X12_times_L2 n n (0 : Int32) x_s x_pile).bind fun o5 => (pb (if o5.1 < v2 then (0 : Int32) else (1 : Int32)) fun j6 => ((X12_layBack n o5.2.1 x_laid).bind fun r7 => (X12_times_L1 n x_laid v1 v2 k (v3 + j6) (v4 + (1 : Int32)) (upd r7 3 (o5.2.1 3)) o5.2.2)))))
def X12_times (n : Nat) (x_s : Nat → Int32) (x_laid : Nat → Int32) (x_pile : Nat → Int32) (v1 : Int32) (v2 : Int32) : Option (Int32 × (Nat → Int32) × (Nat → Int32) × (Nat → Int32)) :=
  (if (X12_in1 v1 (1 : Int32) (40 : Int32)) = 0 then some ((-1 : Int32), x_s, x_laid, x_pile) else (if (X12_in1 v2 (0 : Int32) (999 : Int32)) = 0 then some ((-1 : Int32), x_s, x_laid, x_pile) else ((X12_layDown n x_s x_laid).bind fun r1 => ((X12_times_L1 n r1 v1 v2 n (0 : Int32) (0 : Int32) x_s x_pile).bind fun o9 => ((X12_layBack n o9.2.2.1 r1).bind fun r10 => some (o9.1, r10, r1, o9.2.2.2))))))
def X12_isRow (x_rowMany : Int32) (v1 : Int32) (v2 : Int32) : Int32 :=
  (if (X12_in1 v1 (0 : Int32) (x_rowMany - (1 : Int32))) = 0 then (0 : Int32) else (if (X12_in1 v2 (0 : Int32) (2 : Int32)) = 0 then (0 : Int32) else (1 : Int32)))
def X12_row (x_rows : Nat → Int32) (x_rowMany : Int32) (v1 : Int32) (v2 : Int32) : Option (Int32) :=
  (if (X12_isRow x_rowMany v1 v2) = 0 then some (-9 : Int32) else (if (ib (((3 : Int32) * v1) + v2) 12) = true then some (x_rows ((((3 : Int32) * v1) + v2).toNatClampNeg)) else none))
def X12_alterRow (x_rows : Nat → Int32) (x_rowMany : Int32) (v1 : Int32) (v2 : Int32) (v3 : Int32) : Option (Int32 × (Nat → Int32)) :=
  (if (X12_isRow x_rowMany v1 v2) = 0 then some ((-9 : Int32), x_rows) else (if (ib (((3 : Int32) * v1) + v2) 12) = true then (if (ib (((3 : Int32) * v1) + v2) 12) = true then some ((x_rows ((((3 : Int32) * v1) + v2).toNatClampNeg)), (upd x_rows ((((3 : Int32) * v1) + v2).toNatClampNeg) v3)) else none) else none))
def X12_judge_L1 (n : Nat) (x_rows : Nat → Int32) (x_rowMany : Int32) : Nat → Int32 → Int32 → (Nat → Int32) → (Nat → Int32) → Option (Int32 × Int32 × (Nat → Int32) × (Nat → Int32))
  | 0, _, _, _, _ => none
  | k + 1, v1, v2, x_s, x_pile => (if x_rowMany ≤ v2 then some (v1, v2, x_s, x_pile) else (if v1 = 0 then (if (ib ((3 : Int32) * v2) 12) = true then (pb (if (X12_isAct x_s (x_rows (((3 : Int32) * v2).toNatClampNeg))) = 0 then (0 : Int32) else (if (X12_isOver x_s) = 0 then (1 : Int32) else (0 : Int32))) fun j4 => ((if j4 = 0 then some ((0 : Int32), x_s, x_pile) else (if (ib ((3 : Int32) * v2) 12) = true then ((X12_goesBy n x_s x_pile (x_rows (((3 : Int32) * v2).toNatClampNeg))).bind fun r6 => some (r6.1, r6.2.1, r6.2.2)) else none)).bind fun j8 => ((if j4 = 0 then some (0 : Int32) else (if (ib (((3 : Int32) * v2) + (1 : Int32)) 12) = true then (jn (fun J13 => (if j8.1 = (x_rows ((((3 : Int32) * v2) + (1 : Int32)).toNatClampNeg)) then ((X12_those n j8.2.1 (4 : Int32)).bind fun r10 => (if (ib (((3 : Int32) * v2) + (2 : Int32)) 12) = true then (if r10 = (x_rows ((((3 : Int32) * v2) + (2 : Int32)).toNatClampNeg)) then some (1 : Int32) else (J13 ())) else none)) else (J13 ()))) fun j13 => some (0 : Int32)) else none)).bind fun j14 => (pb (if j14 = 0 then ((1 : Int32) + v2) else (0 : Int32)) fun j15 => (X12_judge_L1 n x_rows x_rowMany k j15 (v2 + (1 : Int32)) j8.2.1 j8.2.2))))) else none) else some (v1, v2, x_s, x_pile)))
def X12_judge (n : Nat) (x_s : Nat → Int32) (x_laid : Nat → Int32) (x_pile : Nat → Int32) (x_rows : Nat → Int32) (x_rowMany : Int32) : Option (Int32 × (Nat → Int32) × (Nat → Int32) × (Nat → Int32)) :=
  ((X12_layDown n x_s x_laid).bind fun r1 => ((X12_judge_L1 n x_rows x_rowMany n (0 : Int32) (0 : Int32) x_s x_pile).bind fun o16 => ((X12_layBack n o16.2.2.1 r1).bind fun r17 => some (o16.1, r17, r1, o16.2.2.2))))
def X12_isSheet (v0 : Int32) : Int32 :=
  (X12_in1 v0 (0 : Int32) (3 : Int32))
def X12_sheet_L1 (n : Nat) (v1 : Int32) : Nat → Int32 → (Nat → Int32) → Option (Int32 × (Nat → Int32))
  | 0, _, _ => none
  | k + 1, v4, x_number => (if (40 : Int32) ≤ v4 then some (v4, x_number) else (if (ib (((40 : Int32) * v1) + v4) 160) = true then (X12_sheet_L1 n v1 k (v4 + (1 : Int32)) (upd x_number ((((40 : Int32) * v1) + v4).toNatClampNeg) (0 : Int32))) else none))
def X12_sheet (n : Nat) (x_sorts : Nat → Int32) (x_sizes : Nat → Int32) (x_number : Nat → Int32) (v1 : Int32) (v2 : Int32) (v3 : Int32) : Option (Int32 × (Nat → Int32) × (Nat → Int32) × (Nat → Int32)) :=
  (if (X12_isSheet v1) = 0 then some ((-1 : Int32), x_sorts, x_sizes, x_number) else (if (X12_in1 v2 (-1 : Int32) (4 : Int32)) = 0 then some ((-1 : Int32), x_sorts, x_sizes, x_number) else (jn (fun J1 => (if v2 < 0 then (J1 ()) else (if v3 ≤ (40 : Int32) then (J1 ()) else some ((-1 : Int32), x_sorts, x_sizes, x_number)))) fun j1 => (jn (fun J2 => (if v2 < 0 then (J2 ()) else (if 0 ≤ v3 then (J2 ()) else some ((-14 : Int32), x_sorts, x_sizes, x_number)))) fun j2 => (if (ib v1 4) = true then (pb (if 0 ≤ v2 then v3 else (0 : Int32)) fun j4 => (if (ib v1 4) = true then ((X12_sheet_L1 n v1 n (0 : Int32) x_number).bind fun o7 => some ((1 : Int32), (upd x_sorts v1.toNatClampNeg v2), (upd x_sizes v1.toNatClampNeg j4), o7.2)) else none)) else none)))))
def X12_narrowed (v0 : Int32) (v1 : Int32) : Int32 :=
  (if v1 = 0 then v0.toInt8.toInt32 else (if v1 = (1 : Int32) then v0.toInt16.toInt32 else (if v1 = (4 : Int32) then (if v0 = 0 then (0 : Int32) else (1 : Int32)) else v0)))
def X12_write (x_sorts : Nat → Int32) (x_sizes : Nat → Int32) (x_number : Nat → Int32) (v1 : Int32) (v2 : Int32) (v3 : Int32) : Option (Int32 × (Nat → Int32)) :=
  (if (X12_isSheet v1) = 0 then some ((-1 : Int32), x_number) else (if (ib v1 4) = true then (if 0 ≤ (x_sorts v1.toNatClampNeg) then (if (ib v1 4) = true then (if (X12_in1 v2 (0 : Int32) ((x_sizes v1.toNatClampNeg) - (1 : Int32))) = 0 then some ((-12 : Int32), x_number) else (if (ib v1 4) = true then (if (ib (((40 : Int32) * v1) + v2) 160) = true then some ((1 : Int32), (upd x_number ((((40 : Int32) * v1) + v2).toNatClampNeg) (X12_narrowed v3 (x_sorts v1.toNatClampNeg)))) else none) else none)) else none) else some ((-11 : Int32), x_number)) else none))
def X12_lacks (x_sorts : Nat → Int32) (v1 : Int32) (v2 : Int32) : Option (Int32) :=
  (if (ib v1 4) = true then (if 0 ≤ (x_sorts v1.toNatClampNeg) then (if (ib v1 4) = true then (if (x_sorts v1.toNatClampNeg) = v2 then some (0 : Int32) else some (-13 : Int32)) else none) else some (-11 : Int32)) else none)
def X12_item (x_sorts : Nat → Int32) (x_sizes : Nat → Int32) (x_number : Nat → Int32) (v1 : Int32) (v2 : Int32) (v3 : Int32) : Option (Int32) :=
  (if (X12_isSheet v1) = 0 then some (-1 : Int32) else (if (X12_in1 v2 (0 : Int32) (4 : Int32)) = 0 then some (-1 : Int32) else ((X12_lacks x_sorts v1 v2).bind fun r1 => (if r1 = 0 then (if (ib v1 4) = true then (if (X12_in1 v3 (0 : Int32) ((x_sizes v1.toNatClampNeg) - (1 : Int32))) = 0 then some (-12 : Int32) else (if (ib (((40 : Int32) * v1) + v3) 160) = true then some (x_number ((((40 : Int32) * v1) + v3).toNatClampNeg)) else none)) else none) else some r1))))
def X12_isItem (x_sizes : Nat → Int32) (v1 : Int32) (v2 : Int32) (v3 : Int32) : Option (Int32) :=
  (if v2 < 0 then some (0 : Int32) else (if (ib v1 4) = true then (if ((x_sizes v1.toNatClampNeg) - v3) ≤ v2 then some (0 : Int32) else some (1 : Int32)) else none))
def X12_goAll_L1 (n : Nat) (x_sizes : Nat → Int32) (x_number : Nat → Int32) (v1 : Int32) (v2 : Int32) (v3 : Int32) (K1 : (Int32 × Int32 × (Nat → Int32) × (Nat → Int32)) → Option (Int32 × (Nat → Int32) × (Nat → Int32))) : Nat → Int32 → Int32 → (Nat → Int32) → (Nat → Int32) → Option (Int32 × (Nat → Int32) × (Nat → Int32))
  | 0, _, _, _, _ => none
  | k + 1, v5, v6, x_s, x_pile => (if v3 ≤ v6 then (K1 (v5, v6, x_s, x_pile)) else ((X12_isItem x_sizes v1 v2 v6).bind fun r3 => (if r3 = 0 then some ((-12 : Int32), x_s, x_pile) else (if (ib ((((40 : Int32) * v1) + v2) + v6) 160) = true then ((if (X12_isAct x_s (x_number (((((40 : Int32) * v1) + v2) + v6).toNatClampNeg))) = 0 then some ((0 : Int32), x_s, x_pile) else (if (X12_isOver x_s) = 0 then ((X12_goesBy n x_s x_pile (x_number (((((40 : Int32) * v1) + v2) + v6).toNatClampNeg))).bind fun r6 => some (r6.1, r6.2.1, r6.2.2)) else some ((0 : Int32), x_s, x_pile))).bind fun j8 => (X12_goAll_L1 n x_sizes x_number v1 v2 v3 K1 k (v5 + j8.1) (v6 + (1 : Int32)) j8.2.1 j8.2.2)) else none))))
def X12_goAll (n : Nat) (x_s : Nat → Int32) (x_pile : Nat → Int32) (x_sorts : Nat → Int32) (x_sizes : Nat → Int32) (x_number : Nat → Int32) (v1 : Int32) (v2 : Int32) (v3 : Int32) : Option (Int32 × (Nat → Int32) × (Nat → Int32)) :=
  (if (X12_isSheet v1) = 0 then some ((-1 : Int32), x_s, x_pile) else (if (X12_in1 v3 (0 : Int32) (20 : Int32)) = 0 then some ((-1 : Int32), x_s, x_pile) else ((X12_lacks x_sorts v1 (0 : Int32)).bind fun r1 => (if r1 = 0 then (jn (fun K1 => X12_goAll_L1 n x_sizes x_number v1 v2 v3 K1 n (0 : Int32) (0 : Int32) x_s x_pile) fun o9 => some (o9.1, o9.2.2.1, o9.2.2.2)) else some (r1, x_s, x_pile)))))
def X12_wouldBe_L1 (n : Nat) (x_sizes : Nat → Int32) (x_number : Nat → Int32) (v1 : Int32) (v2 : Int32) (v3 : Int32) : Nat → Int32 → Int32 → Int32 → (Nat → Int32) → (Nat → Int32) → Option (Int32 × Int32 × Int32 × (Nat → Int32) × (Nat → Int32))
  | 0, _, _, _, _, _ => none
  | k + 1, v4, v5, v6, x_s, x_pile => (if v3 ≤ v6 then some (v4, v5, v6, x_s, x_pile) else (if v4 = 0 then ((X12_isItem x_sizes v1 v2 v6).bind fun r5 => ((if r5 = 0 then some (-1 : Int32) else (if (ib ((((40 : Int32) * v1) + v2) + v6) 160) = true then some (x_number (((((40 : Int32) * v1) + v2) + v6).toNatClampNeg)) else none)).bind fun j8 => ((X12_isItem x_sizes v1 v2 v6).bind fun r9 => ((if r9 = 0 then some (-12 : Int32) else (jn (fun J11 => (if (X12_isAct x_s j8) = 0 then (J11 ()) else (if (X12_isOver x_s) = 0 then some (0 : Int32) else (J11 ())))) fun j11 => some (-4 : Int32))).bind fun j12 => ((if j12 = 0 then ((X12_goesBy n x_s x_pile j8).bind fun r13 => some (r13.1, r13.2.1, r13.2.2)) else some ((0 : Int32), x_s, x_pile)).bind fun j15 => (X12_wouldBe_L1 n x_sizes x_number v1 v2 v3 k j12 (v5 + j15.1) (v6 + (1 : Int32)) j15.2.1 j15.2.2)))))) else some (v4, v5, v6, x_s, x_pile)))
def X12_wouldBe (n : Nat) (x_s : Nat → Int32) (x_laid : Nat → Int32) (x_pile : Nat → Int32) (x_sorts : Nat → Int32) (x_sizes : Nat → Int32) (x_number : Nat → Int32) (v1 : Int32) (v2 : Int32) (v3 : Int32) : Option (Int32 × (Nat → Int32) × (Nat → Int32) × (Nat → Int32)) :=
  (if (X12_isSheet v1) = 0 then some ((-1 : Int32), x_s, x_laid, x_pile) else (if (X12_in1 v3 (0 : Int32) (20 : Int32)) = 0 then some ((-1 : Int32), x_s, x_laid, x_pile) else ((X12_lacks x_sorts v1 (0 : Int32)).bind fun r1 => ((X12_layDown n x_s x_laid).bind fun r3 => ((X12_wouldBe_L1 n x_sizes x_number v1 v2 v3 n r1 (0 : Int32) (0 : Int32) x_s x_pile).bind fun o16 => ((X12_layBack n o16.2.2.2.1 r3).bind fun r17 => (if o16.1 = 0 then some (o16.2.1, r17, r3, o16.2.2.2.2) else some (o16.1, r17, r3, o16.2.2.2.2))))))))
def X12_shelf (x_s : Nat → Int32) (x_sorts : Nat → Int32) (x_sizes : Nat → Int32) (x_holds : Nat → Int32) (x_heldOne : Nat → Int32) (v1 : Int32) (v2 : Int32) (v3 : Int32) : Option (Int32 × (Nat → Int32) × (Nat → Int32)) :=
  (if (X12_isSheet v1) = 0 then some ((-1 : Int32), x_holds, x_heldOne) else (if (X12_in1 v2 (0 : Int32) (2 : Int32)) = 0 then some ((-1 : Int32), x_holds, x_heldOne) else (jn (fun J1 => (if v2 = 0 then (if (X12_isDial x_s v3) = 0 then some ((-1 : Int32), x_holds, x_heldOne) else (J1 ())) else (J1 ()))) fun j1 => (jn (fun J2 => (if v2 = (1 : Int32) then (if (X12_isSheet v3) = 0 then some ((-1 : Int32), x_holds, x_heldOne) else (J2 ())) else (J2 ()))) fun j2 => ((if v2 = 0 then some (0 : Int32) else (jn (fun J5 => (if v2 = (1 : Int32) then (if (ib v3 4) = true then (if (x_sorts v3.toNatClampNeg) < 0 then (J5 ()) else (if (ib v3 4) = true then some ((10 : Int32) + (x_sorts v3.toNatClampNeg)) else none)) else none) else (J5 ()))) fun j5 => some (-1 : Int32))).bind fun j6 => (if (ib v1 4) = true then ((if v2 = 0 then some v3 else (if v2 = (1 : Int32) then (if (ib v3 4) = true then some (x_sizes v3.toNatClampNeg) else none) else some (0 : Int32))).bind fun j9 => (if (ib v1 4) = true then some ((1 : Int32), (upd x_holds v1.toNatClampNeg j6), (upd x_heldOne v1.toNatClampNeg j9)) else none)) else none))))))
def X12_heldOn (x_s : Nat → Int32) (x_holds : Nat → Int32) (x_heldOne : Nat → Int32) (v1 : Int32) : Option (Int32) :=
  (if (ib v1 4) = true then (jn (fun J3 => (if (x_holds v1.toNatClampNeg) = 0 then (if (ib v1 4) = true then (if (X12_isDial x_s (x_heldOne v1.toNatClampNeg)) = 0 then some (-1 : Int32) else (J3 ())) else none) else (J3 ()))) fun j3 => (if (ib v1 4) = true then some (x_holds v1.toNatClampNeg) else none)) else none)
def X12_taken (n : Nat) (x_s : Nat → Int32) (x_holds : Nat → Int32) (x_heldOne : Nat → Int32) (v1 : Int32) (v2 : Int32) : Option (Int32) :=
  (if (X12_isSheet v1) = 0 then some (-1 : Int32) else (jn (fun J1 => (if (X12_in1 v2 (0 : Int32) (5 : Int32)) = 0 then (if (X12_in1 v2 (10 : Int32) (14 : Int32)) = 0 then some (-1 : Int32) else (J1 ())) else (J1 ()))) fun j1 => ((X12_heldOn x_s x_holds x_heldOne v1).bind fun r2 => (if 0 ≤ r2 then ((if r2 = 0 then (jn (fun J9 => (if (10 : Int32) ≤ v2 then (J9 ()) else (if (ib v1 4) = true then ((X12_get x_s (x_heldOne v1.toNatClampNeg) (0 : Int32)).bind fun r5 => ((X12_isUnder n r5 v2).bind fun r7 => (if r7 = 0 then (J9 ()) else some (1 : Int32)))) else none))) fun j9 => some (0 : Int32)) else (if r2 = v2 then some (1 : Int32) else some (0 : Int32))).bind fun j10 => (if j10 = 0 then some (-13 : Int32) else (if (ib v1 4) = true then some (x_heldOne v1.toNatClampNeg) else none))) else some (-11 : Int32)))))
def X12_starts (x_trace : Nat → Int32) (x_traced : Int32) (v1 : Int32) : Option ((Nat → Int32) × Int32) :=
  (if (30 : Int32) ≤ x_traced then some (x_trace, x_traced) else (if (ib x_traced 30) = true then some ((upd x_trace x_traced.toNatClampNeg v1), (x_traced + (1 : Int32))) else none))
def X12_trace (x_trace : Nat → Int32) (x_traced : Int32) (v1 : Int32) : Option (Int32) :=
  (if (X12_in1 v1 (0 : Int32) (x_traced - (1 : Int32))) = 0 then some (-3 : Int32) else (if (ib v1 30) = true then some (x_trace v1.toNatClampNeg) else none))
def X12_ones_L1 (n : Nat) : Nat → Int32 → Int32 → Option (Int32 × Int32)
  | 0, _, _ => none
  | k + 1, v1, v2 => (if v2 = 0 then some (v1, v2) else (X12_ones_L1 n k (v1 + (1 : Int32)) (v2 &&& (v2 - (1 : Int32)))))
def X12_ones (n : Nat) (v0 : Int32) : Option (Int32) :=
  ((X12_ones_L1 n n (0 : Int32) v0).bind fun o1 => some o1.1)
def X12_many (n : Nat) (x_s : Nat → Int32) (x_taped : Int32) (x_rowMany : Int32) (x_traced : Int32) (v1 : Int32) : Option (Int32) :=
  (if v1 = (0 : Int32) then some (x_s 4) else (if v1 = (1 : Int32) then some (x_s 5) else (if v1 = (2 : Int32) then ((X12_those n x_s (4 : Int32)).bind fun r1 => ((X12_ones n r1).bind fun r3 => some r3)) else (if v1 = (3 : Int32) then some (x_s 6) else (if v1 = (4 : Int32) then some x_rowMany else (if v1 = (5 : Int32) then some x_taped else (if v1 = (6 : Int32) then some x_traced else some (-1 : Int32))))))))
def X12_keep_L1 (n : Nat) (x_s : Nat → Int32) : Nat → Int32 → (Nat → Int32) → Option (Int32 × (Nat → Int32))
  | 0, _, _ => none
  | k + 1, v1, x_kept => (if (313 : Int32) ≤ v1 then some (v1, x_kept) else (if (ib v1 313) = true then (if (ib v1 313) = true then (X12_keep_L1 n x_s k (v1 + (1 : Int32)) (upd x_kept v1.toNatClampNeg (x_s v1.toNatClampNeg))) else none) else none))
def X12_keep (n : Nat) (x_s : Nat → Int32) (x_kept : Nat → Int32) : Option (Int32 × (Nat → Int32) × Int32) :=
  ((X12_keep_L1 n x_s n (0 : Int32) x_kept).bind fun o3 => some ((1 : Int32), o3.2, (1 : Int32)))
def X12_again_L1 (n : Nat) (x_kept : Nat → Int32) : Nat → Int32 → (Nat → Int32) → Option (Int32 × (Nat → Int32))
  | 0, _, _ => none
  | k + 1, v1, x_s => (if (313 : Int32) ≤ v1 then some (v1, x_s) else (if (ib v1 313) = true then (if (ib v1 313) = true then (X12_again_L1 n x_kept k (v1 + (1 : Int32)) (upd x_s v1.toNatClampNeg (x_kept v1.toNatClampNeg))) else none) else none))
def X12_again (n : Nat) (x_s : Nat → Int32) (x_kept : Nat → Int32) (x_isKept : Int32) : Option (Int32 × (Nat → Int32)) :=
  (if x_isKept = 0 then some ((-3 : Int32), x_s) else ((X12_again_L1 n x_kept n (0 : Int32) x_s).bind fun o3 => some ((o3.2 4), o3.2)))
