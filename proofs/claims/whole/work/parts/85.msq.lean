def lt0 : List Int32 := [100, 105, 97, 108, 32, 32, 32, 32, 110, 111, 111, 110, 32, 32, 32, 32, 116, 97, 108, 108, 32, 32, 32, 32, 103, 117, 105, 108, 100, 32, 32, 32, 108, 111, 119, 32, 32, 32, 32, 32, 115, 108, 105, 116, 32, 32, 32, 32, 115, 101, 116, 32, 32, 32, 32, 32, 107, 101, 101, 112, 32, 32, 32, 32, 97, 114, 103, 117, 101, 32, 32, 32, 105, 102, 32, 32, 32, 32, 32, 32, 110, 111, 116, 32, 32, 32, 32, 32, 97, 110, 100, 32, 32, 32, 32, 32, 111, 114, 32, 32, 32, 32, 32, 32, 99, 104, 105, 109, 101, 32, 32, 32, 108, 97, 103, 32, 32, 32, 32, 32, 112, 114, 105, 100, 101, 32, 32, 32, 115, 117, 110, 32, 32, 32, 32, 32, 110, 117, 109, 98, 101, 114, 32, 32]
def lf (k : Nat) : Nat → Int32 := fun i => if i < k then ltr i else 0
theorem lt0_ltr : ∀ k, k < 144 → ltr k = lt0.getD k 0 := by decide +kernel
theorem lf_s {k : Nat} {i x : Int32} (hk : k < 144) (hi : i.toNatClampNeg = k) (hx : vp_nar .char x = lt0.getD k 0) : upd (lf k) i.toNatClampNeg (vp_nar .char x) = lf (k + 1) := by
  rw [hi, hx, ← lt0_ltr k hk]
  funext j
  unfold upd lf
  by_cases h : j = k
  · subst h
    rw [if_pos rfl, if_pos (Nat.lt_succ_self j)]
  · rw [if_neg h]
    by_cases h2 : j < k
    · rw [if_pos h2, if_pos (by omega)]
    · rw [if_neg h2, if_neg (by omega)]
theorem lf_0 : (fun _ => 0 : Nat → Int32) = lf 0 := by
  funext j
  unfold lf
  rw [if_neg (by omega)]
theorem lf_all : lf 144 = ltr := by
  funext j
  unfold lf
  by_cases h : j < 144
  · rw [if_pos h]
  · rw [if_neg h]
    unfold ltr
    rw [if_neg h]
section MAKE5
variable {p : Program} {l : Launch} {e : Env} {R : Room} {s : State} {m : MethodId} {args : Array Value} {below : List Frame} {meth : Method} {c : Code} {H : Heap} {locs : List Loc} {cells slots : Nat} {Q : State → Prop}
variable {E : EX} {D : va_G} {t : Nat → ClassId} {cc : ByteArray} {own nm : String} {nL pc : Nat} {A : Nat → Prop} {ws w1 : va_W} {ls : Array Slot} {rest st : List Value} {r : Int32}
theorem castL (cx : Cx E D t p s m args meth c cc own nm nL A) {S : va_W} {q k k2 : Nat} {i x : Int32} (hw : Wd D A s (S ++ [(q, .inl (t 2, 144, .inl (lf k)))]) H locs) (hk : k < 144) (hk2 : k + 1 = k2) (hi : i.toNatClampNeg = k) (hi0 : ¬ i < 0) (hx : vp_nar .char x = lt0.getD k 0) (hdg : decode cc pc = .ok (.castore, 1))
    (kk : ∀ (H : Heap) (locs : List Loc), Wd D A s (S ++ [(q, .inl (t 2, 144, .inl (lf k2)))]) H locs → W p l e R s m args below meth c H locs cells slots Q (F0 m (pc + 1) ls rest)) : W p l e R s m args below meth c H locs cells slots Q (F0 m pc ls (.int x :: .int i :: .ref q :: rest)) := by
  have hs : (S ++ [((q, .inl (t 2, 144, .inl (lf k))) : Nat × va_E)])[S.length]? = some (q, .inl (t 2, 144, .inl (lf k))) := by
    rw [List.getElem?_append_right (Nat.le_refl _), Nat.sub_self]
    rfl
  refine va_cast cx.1 cx.2.1 cx.2.2.2.2.2.1.1 hw.1 hw.2.1 hw.2.2 S.length 2 hs rfl (fun h => by rcases h with h | h; exact hi0 h; omega) hdg (fun H l1 hP hD hS => ?_)
  subst hk2
  rw [lf_s hk hi hx] at hP hD
  have e : ∀ v : Nat × va_E, (S ++ [((q, .inl (t 2, 144, .inl (lf k))) : Nat × va_E)]).set S.length v = S ++ [v] := fun v => by
    rw [List.set_append_right _ _ (Nat.le_refl _), Nat.sub_self]
    rfl
  rw [e] at hP hD
  exact kk H l1 ⟨hP, hD, hS⟩
end MAKE5
theorem dX12_init_0 : decode cX12_init 0 = .ok (.aload_n 0, 1) := by decide +kernel
theorem dX12_init_1 : decode cX12_init 1 = .ok (.invokespecial 1, 3) := by decide +kernel
theorem dX12_init_4 : decode cX12_init 4 = .ok (.aload_n 0, 1) := by decide +kernel
theorem dX12_init_5 : decode cX12_init 5 = .ok (.sipush 313, 3) := by decide +kernel
theorem dX12_init_8 : decode cX12_init 8 = .ok (.newarray .int, 2) := by decide +kernel
theorem dX12_init_10 : decode cX12_init 10 = .ok (.putfield 9, 3) := by decide +kernel
theorem dX12_init_13 : decode cX12_init 13 = .ok (.aload_n 0, 1) := by decide +kernel
theorem dX12_init_14 : decode cX12_init 14 = .ok (.sipush 313, 3) := by decide +kernel
theorem dX12_init_17 : decode cX12_init 17 = .ok (.newarray .int, 2) := by decide +kernel
theorem dX12_init_19 : decode cX12_init 19 = .ok (.putfield 13, 3) := by decide +kernel
theorem dX12_init_22 : decode cX12_init 22 = .ok (.aload_n 0, 1) := by decide +kernel
theorem dX12_init_23 : decode cX12_init 23 = .ok (.bipush 65, 2) := by decide +kernel
theorem dX12_init_25 : decode cX12_init 25 = .ok (.newarray .int, 2) := by decide +kernel
theorem dX12_init_27 : decode cX12_init 27 = .ok (.putfield 16, 3) := by decide +kernel
theorem dX12_init_30 : decode cX12_init 30 = .ok (.aload_n 0, 1) := by decide +kernel
theorem dX12_init_31 : decode cX12_init 31 = .ok (.sipush 200, 3) := by decide +kernel
theorem dX12_init_34 : decode cX12_init 34 = .ok (.newarray .int, 2) := by decide +kernel
theorem dX12_init_36 : decode cX12_init 36 = .ok (.putfield 19, 3) := by decide +kernel
theorem dX12_init_39 : decode cX12_init 39 = .ok (.aload_n 0, 1) := by decide +kernel
theorem dX12_init_40 : decode cX12_init 40 = .ok (.sipush 200, 3) := by decide +kernel
theorem dX12_init_43 : decode cX12_init 43 = .ok (.newarray .int, 2) := by decide +kernel
theorem dX12_init_45 : decode cX12_init 45 = .ok (.putfield 22, 3) := by decide +kernel
theorem dX12_init_48 : decode cX12_init 48 = .ok (.aload_n 0, 1) := by decide +kernel
theorem dX12_init_49 : decode cX12_init 49 = .ok (.sipush 144, 3) := by decide +kernel
theorem dX12_init_52 : decode cX12_init 52 = .ok (.newarray .char, 2) := by decide +kernel
theorem dX12_init_54 : decode cX12_init 54 = .ok (.dup, 1) := by decide +kernel
theorem dX12_init_55 : decode cX12_init 55 = .ok (.iconst 0, 1) := by decide +kernel
theorem dX12_init_56 : decode cX12_init 56 = .ok (.bipush 100, 2) := by decide +kernel
theorem dX12_init_58 : decode cX12_init 58 = .ok (.castore, 1) := by decide +kernel
theorem dX12_init_59 : decode cX12_init 59 = .ok (.dup, 1) := by decide +kernel
theorem dX12_init_60 : decode cX12_init 60 = .ok (.iconst 1, 1) := by decide +kernel
theorem dX12_init_61 : decode cX12_init 61 = .ok (.bipush 105, 2) := by decide +kernel
theorem dX12_init_63 : decode cX12_init 63 = .ok (.castore, 1) := by decide +kernel
theorem dX12_init_64 : decode cX12_init 64 = .ok (.dup, 1) := by decide +kernel
theorem dX12_init_65 : decode cX12_init 65 = .ok (.iconst 2, 1) := by decide +kernel
theorem dX12_init_66 : decode cX12_init 66 = .ok (.bipush 97, 2) := by decide +kernel
theorem dX12_init_68 : decode cX12_init 68 = .ok (.castore, 1) := by decide +kernel
theorem dX12_init_69 : decode cX12_init 69 = .ok (.dup, 1) := by decide +kernel
theorem dX12_init_70 : decode cX12_init 70 = .ok (.iconst 3, 1) := by decide +kernel
theorem dX12_init_71 : decode cX12_init 71 = .ok (.bipush 108, 2) := by decide +kernel
theorem dX12_init_73 : decode cX12_init 73 = .ok (.castore, 1) := by decide +kernel
theorem dX12_init_74 : decode cX12_init 74 = .ok (.dup, 1) := by decide +kernel
theorem dX12_init_75 : decode cX12_init 75 = .ok (.iconst 4, 1) := by decide +kernel
theorem dX12_init_76 : decode cX12_init 76 = .ok (.bipush 32, 2) := by decide +kernel
theorem dX12_init_78 : decode cX12_init 78 = .ok (.castore, 1) := by decide +kernel
theorem dX12_init_79 : decode cX12_init 79 = .ok (.dup, 1) := by decide +kernel
theorem dX12_init_80 : decode cX12_init 80 = .ok (.iconst 5, 1) := by decide +kernel
theorem dX12_init_81 : decode cX12_init 81 = .ok (.bipush 32, 2) := by decide +kernel
theorem dX12_init_83 : decode cX12_init 83 = .ok (.castore, 1) := by decide +kernel
theorem dX12_init_84 : decode cX12_init 84 = .ok (.dup, 1) := by decide +kernel
theorem dX12_init_85 : decode cX12_init 85 = .ok (.bipush 6, 2) := by decide +kernel
theorem dX12_init_87 : decode cX12_init 87 = .ok (.bipush 32, 2) := by decide +kernel
theorem dX12_init_89 : decode cX12_init 89 = .ok (.castore, 1) := by decide +kernel
theorem dX12_init_90 : decode cX12_init 90 = .ok (.dup, 1) := by decide +kernel
theorem dX12_init_91 : decode cX12_init 91 = .ok (.bipush 7, 2) := by decide +kernel
theorem dX12_init_93 : decode cX12_init 93 = .ok (.bipush 32, 2) := by decide +kernel
theorem dX12_init_95 : decode cX12_init 95 = .ok (.castore, 1) := by decide +kernel
theorem dX12_init_96 : decode cX12_init 96 = .ok (.dup, 1) := by decide +kernel
theorem dX12_init_97 : decode cX12_init 97 = .ok (.bipush 8, 2) := by decide +kernel
theorem dX12_init_99 : decode cX12_init 99 = .ok (.bipush 110, 2) := by decide +kernel
theorem dX12_init_101 : decode cX12_init 101 = .ok (.castore, 1) := by decide +kernel
theorem dX12_init_102 : decode cX12_init 102 = .ok (.dup, 1) := by decide +kernel
theorem dX12_init_103 : decode cX12_init 103 = .ok (.bipush 9, 2) := by decide +kernel
theorem dX12_init_105 : decode cX12_init 105 = .ok (.bipush 111, 2) := by decide +kernel
theorem dX12_init_107 : decode cX12_init 107 = .ok (.castore, 1) := by decide +kernel
theorem dX12_init_108 : decode cX12_init 108 = .ok (.dup, 1) := by decide +kernel
theorem dX12_init_109 : decode cX12_init 109 = .ok (.bipush 10, 2) := by decide +kernel
theorem dX12_init_111 : decode cX12_init 111 = .ok (.bipush 111, 2) := by decide +kernel
theorem dX12_init_113 : decode cX12_init 113 = .ok (.castore, 1) := by decide +kernel
theorem dX12_init_114 : decode cX12_init 114 = .ok (.dup, 1) := by decide +kernel
theorem dX12_init_115 : decode cX12_init 115 = .ok (.bipush 11, 2) := by decide +kernel
theorem dX12_init_117 : decode cX12_init 117 = .ok (.bipush 110, 2) := by decide +kernel
theorem dX12_init_119 : decode cX12_init 119 = .ok (.castore, 1) := by decide +kernel
theorem dX12_init_120 : decode cX12_init 120 = .ok (.dup, 1) := by decide +kernel
theorem dX12_init_121 : decode cX12_init 121 = .ok (.bipush 12, 2) := by decide +kernel
theorem dX12_init_123 : decode cX12_init 123 = .ok (.bipush 32, 2) := by decide +kernel
theorem dX12_init_125 : decode cX12_init 125 = .ok (.castore, 1) := by decide +kernel
theorem dX12_init_126 : decode cX12_init 126 = .ok (.dup, 1) := by decide +kernel
theorem dX12_init_127 : decode cX12_init 127 = .ok (.bipush 13, 2) := by decide +kernel
theorem dX12_init_129 : decode cX12_init 129 = .ok (.bipush 32, 2) := by decide +kernel
theorem dX12_init_131 : decode cX12_init 131 = .ok (.castore, 1) := by decide +kernel
theorem dX12_init_132 : decode cX12_init 132 = .ok (.dup, 1) := by decide +kernel
theorem dX12_init_133 : decode cX12_init 133 = .ok (.bipush 14, 2) := by decide +kernel
theorem dX12_init_135 : decode cX12_init 135 = .ok (.bipush 32, 2) := by decide +kernel
theorem dX12_init_137 : decode cX12_init 137 = .ok (.castore, 1) := by decide +kernel
theorem dX12_init_138 : decode cX12_init 138 = .ok (.dup, 1) := by decide +kernel
theorem dX12_init_139 : decode cX12_init 139 = .ok (.bipush 15, 2) := by decide +kernel
theorem dX12_init_141 : decode cX12_init 141 = .ok (.bipush 32, 2) := by decide +kernel
theorem dX12_init_143 : decode cX12_init 143 = .ok (.castore, 1) := by decide +kernel
theorem dX12_init_144 : decode cX12_init 144 = .ok (.dup, 1) := by decide +kernel
theorem dX12_init_145 : decode cX12_init 145 = .ok (.bipush 16, 2) := by decide +kernel
theorem dX12_init_147 : decode cX12_init 147 = .ok (.bipush 116, 2) := by decide +kernel
theorem dX12_init_149 : decode cX12_init 149 = .ok (.castore, 1) := by decide +kernel
theorem dX12_init_150 : decode cX12_init 150 = .ok (.dup, 1) := by decide +kernel
theorem dX12_init_151 : decode cX12_init 151 = .ok (.bipush 17, 2) := by decide +kernel
theorem dX12_init_153 : decode cX12_init 153 = .ok (.bipush 97, 2) := by decide +kernel
theorem dX12_init_155 : decode cX12_init 155 = .ok (.castore, 1) := by decide +kernel
theorem dX12_init_156 : decode cX12_init 156 = .ok (.dup, 1) := by decide +kernel
theorem dX12_init_157 : decode cX12_init 157 = .ok (.bipush 18, 2) := by decide +kernel
theorem dX12_init_159 : decode cX12_init 159 = .ok (.bipush 108, 2) := by decide +kernel
theorem dX12_init_161 : decode cX12_init 161 = .ok (.castore, 1) := by decide +kernel
theorem dX12_init_162 : decode cX12_init 162 = .ok (.dup, 1) := by decide +kernel
theorem dX12_init_163 : decode cX12_init 163 = .ok (.bipush 19, 2) := by decide +kernel
theorem dX12_init_165 : decode cX12_init 165 = .ok (.bipush 108, 2) := by decide +kernel
theorem dX12_init_167 : decode cX12_init 167 = .ok (.castore, 1) := by decide +kernel
theorem dX12_init_168 : decode cX12_init 168 = .ok (.dup, 1) := by decide +kernel
theorem dX12_init_169 : decode cX12_init 169 = .ok (.bipush 20, 2) := by decide +kernel
theorem dX12_init_171 : decode cX12_init 171 = .ok (.bipush 32, 2) := by decide +kernel
theorem dX12_init_173 : decode cX12_init 173 = .ok (.castore, 1) := by decide +kernel
theorem dX12_init_174 : decode cX12_init 174 = .ok (.dup, 1) := by decide +kernel
theorem dX12_init_175 : decode cX12_init 175 = .ok (.bipush 21, 2) := by decide +kernel
theorem dX12_init_177 : decode cX12_init 177 = .ok (.bipush 32, 2) := by decide +kernel
theorem dX12_init_179 : decode cX12_init 179 = .ok (.castore, 1) := by decide +kernel
theorem dX12_init_180 : decode cX12_init 180 = .ok (.dup, 1) := by decide +kernel
theorem dX12_init_181 : decode cX12_init 181 = .ok (.bipush 22, 2) := by decide +kernel
theorem dX12_init_183 : decode cX12_init 183 = .ok (.bipush 32, 2) := by decide +kernel
theorem dX12_init_185 : decode cX12_init 185 = .ok (.castore, 1) := by decide +kernel
theorem dX12_init_186 : decode cX12_init 186 = .ok (.dup, 1) := by decide +kernel
theorem dX12_init_187 : decode cX12_init 187 = .ok (.bipush 23, 2) := by decide +kernel
theorem dX12_init_189 : decode cX12_init 189 = .ok (.bipush 32, 2) := by decide +kernel
theorem dX12_init_191 : decode cX12_init 191 = .ok (.castore, 1) := by decide +kernel
theorem dX12_init_192 : decode cX12_init 192 = .ok (.dup, 1) := by decide +kernel
theorem dX12_init_193 : decode cX12_init 193 = .ok (.bipush 24, 2) := by decide +kernel
theorem dX12_init_195 : decode cX12_init 195 = .ok (.bipush 103, 2) := by decide +kernel
theorem dX12_init_197 : decode cX12_init 197 = .ok (.castore, 1) := by decide +kernel
theorem dX12_init_198 : decode cX12_init 198 = .ok (.dup, 1) := by decide +kernel
theorem dX12_init_199 : decode cX12_init 199 = .ok (.bipush 25, 2) := by decide +kernel
theorem dX12_init_201 : decode cX12_init 201 = .ok (.bipush 117, 2) := by decide +kernel
theorem dX12_init_203 : decode cX12_init 203 = .ok (.castore, 1) := by decide +kernel
theorem dX12_init_204 : decode cX12_init 204 = .ok (.dup, 1) := by decide +kernel
theorem dX12_init_205 : decode cX12_init 205 = .ok (.bipush 26, 2) := by decide +kernel
theorem dX12_init_207 : decode cX12_init 207 = .ok (.bipush 105, 2) := by decide +kernel
theorem dX12_init_209 : decode cX12_init 209 = .ok (.castore, 1) := by decide +kernel
theorem dX12_init_210 : decode cX12_init 210 = .ok (.dup, 1) := by decide +kernel
theorem dX12_init_211 : decode cX12_init 211 = .ok (.bipush 27, 2) := by decide +kernel
theorem dX12_init_213 : decode cX12_init 213 = .ok (.bipush 108, 2) := by decide +kernel
theorem dX12_init_215 : decode cX12_init 215 = .ok (.castore, 1) := by decide +kernel
theorem dX12_init_216 : decode cX12_init 216 = .ok (.dup, 1) := by decide +kernel
theorem dX12_init_217 : decode cX12_init 217 = .ok (.bipush 28, 2) := by decide +kernel
theorem dX12_init_219 : decode cX12_init 219 = .ok (.bipush 100, 2) := by decide +kernel
theorem dX12_init_221 : decode cX12_init 221 = .ok (.castore, 1) := by decide +kernel
theorem dX12_init_222 : decode cX12_init 222 = .ok (.dup, 1) := by decide +kernel
theorem dX12_init_223 : decode cX12_init 223 = .ok (.bipush 29, 2) := by decide +kernel
theorem dX12_init_225 : decode cX12_init 225 = .ok (.bipush 32, 2) := by decide +kernel
theorem dX12_init_227 : decode cX12_init 227 = .ok (.castore, 1) := by decide +kernel
theorem dX12_init_228 : decode cX12_init 228 = .ok (.dup, 1) := by decide +kernel
theorem dX12_init_229 : decode cX12_init 229 = .ok (.bipush 30, 2) := by decide +kernel
theorem dX12_init_231 : decode cX12_init 231 = .ok (.bipush 32, 2) := by decide +kernel
theorem dX12_init_233 : decode cX12_init 233 = .ok (.castore, 1) := by decide +kernel
theorem dX12_init_234 : decode cX12_init 234 = .ok (.dup, 1) := by decide +kernel
theorem dX12_init_235 : decode cX12_init 235 = .ok (.bipush 31, 2) := by decide +kernel
theorem dX12_init_237 : decode cX12_init 237 = .ok (.bipush 32, 2) := by decide +kernel
theorem dX12_init_239 : decode cX12_init 239 = .ok (.castore, 1) := by decide +kernel
theorem dX12_init_240 : decode cX12_init 240 = .ok (.dup, 1) := by decide +kernel
theorem dX12_init_241 : decode cX12_init 241 = .ok (.bipush 32, 2) := by decide +kernel
theorem dX12_init_243 : decode cX12_init 243 = .ok (.bipush 108, 2) := by decide +kernel
theorem dX12_init_245 : decode cX12_init 245 = .ok (.castore, 1) := by decide +kernel
theorem dX12_init_246 : decode cX12_init 246 = .ok (.dup, 1) := by decide +kernel
theorem dX12_init_247 : decode cX12_init 247 = .ok (.bipush 33, 2) := by decide +kernel
theorem dX12_init_249 : decode cX12_init 249 = .ok (.bipush 111, 2) := by decide +kernel
theorem dX12_init_251 : decode cX12_init 251 = .ok (.castore, 1) := by decide +kernel
theorem dX12_init_252 : decode cX12_init 252 = .ok (.dup, 1) := by decide +kernel
theorem dX12_init_253 : decode cX12_init 253 = .ok (.bipush 34, 2) := by decide +kernel
theorem dX12_init_255 : decode cX12_init 255 = .ok (.bipush 119, 2) := by decide +kernel
theorem dX12_init_257 : decode cX12_init 257 = .ok (.castore, 1) := by decide +kernel
theorem dX12_init_258 : decode cX12_init 258 = .ok (.dup, 1) := by decide +kernel
theorem dX12_init_259 : decode cX12_init 259 = .ok (.bipush 35, 2) := by decide +kernel
theorem dX12_init_261 : decode cX12_init 261 = .ok (.bipush 32, 2) := by decide +kernel
theorem dX12_init_263 : decode cX12_init 263 = .ok (.castore, 1) := by decide +kernel
theorem dX12_init_264 : decode cX12_init 264 = .ok (.dup, 1) := by decide +kernel
theorem dX12_init_265 : decode cX12_init 265 = .ok (.bipush 36, 2) := by decide +kernel
theorem dX12_init_267 : decode cX12_init 267 = .ok (.bipush 32, 2) := by decide +kernel
theorem dX12_init_269 : decode cX12_init 269 = .ok (.castore, 1) := by decide +kernel
theorem dX12_init_270 : decode cX12_init 270 = .ok (.dup, 1) := by decide +kernel
theorem dX12_init_271 : decode cX12_init 271 = .ok (.bipush 37, 2) := by decide +kernel
theorem dX12_init_273 : decode cX12_init 273 = .ok (.bipush 32, 2) := by decide +kernel
theorem dX12_init_275 : decode cX12_init 275 = .ok (.castore, 1) := by decide +kernel
theorem dX12_init_276 : decode cX12_init 276 = .ok (.dup, 1) := by decide +kernel
theorem dX12_init_277 : decode cX12_init 277 = .ok (.bipush 38, 2) := by decide +kernel
theorem dX12_init_279 : decode cX12_init 279 = .ok (.bipush 32, 2) := by decide +kernel
theorem dX12_init_281 : decode cX12_init 281 = .ok (.castore, 1) := by decide +kernel
theorem dX12_init_282 : decode cX12_init 282 = .ok (.dup, 1) := by decide +kernel
theorem dX12_init_283 : decode cX12_init 283 = .ok (.bipush 39, 2) := by decide +kernel
theorem dX12_init_285 : decode cX12_init 285 = .ok (.bipush 32, 2) := by decide +kernel
theorem dX12_init_287 : decode cX12_init 287 = .ok (.castore, 1) := by decide +kernel
theorem dX12_init_288 : decode cX12_init 288 = .ok (.dup, 1) := by decide +kernel
theorem dX12_init_289 : decode cX12_init 289 = .ok (.bipush 40, 2) := by decide +kernel
theorem dX12_init_291 : decode cX12_init 291 = .ok (.bipush 115, 2) := by decide +kernel
theorem dX12_init_293 : decode cX12_init 293 = .ok (.castore, 1) := by decide +kernel
theorem dX12_init_294 : decode cX12_init 294 = .ok (.dup, 1) := by decide +kernel
theorem dX12_init_295 : decode cX12_init 295 = .ok (.bipush 41, 2) := by decide +kernel
theorem dX12_init_297 : decode cX12_init 297 = .ok (.bipush 108, 2) := by decide +kernel
theorem dX12_init_299 : decode cX12_init 299 = .ok (.castore, 1) := by decide +kernel
theorem dX12_init_300 : decode cX12_init 300 = .ok (.dup, 1) := by decide +kernel
theorem dX12_init_301 : decode cX12_init 301 = .ok (.bipush 42, 2) := by decide +kernel
theorem dX12_init_303 : decode cX12_init 303 = .ok (.bipush 105, 2) := by decide +kernel
theorem dX12_init_305 : decode cX12_init 305 = .ok (.castore, 1) := by decide +kernel
theorem dX12_init_306 : decode cX12_init 306 = .ok (.dup, 1) := by decide +kernel
theorem dX12_init_307 : decode cX12_init 307 = .ok (.bipush 43, 2) := by decide +kernel
theorem dX12_init_309 : decode cX12_init 309 = .ok (.bipush 116, 2) := by decide +kernel
theorem dX12_init_311 : decode cX12_init 311 = .ok (.castore, 1) := by decide +kernel
theorem dX12_init_312 : decode cX12_init 312 = .ok (.dup, 1) := by decide +kernel
theorem dX12_init_313 : decode cX12_init 313 = .ok (.bipush 44, 2) := by decide +kernel
theorem dX12_init_315 : decode cX12_init 315 = .ok (.bipush 32, 2) := by decide +kernel
theorem dX12_init_317 : decode cX12_init 317 = .ok (.castore, 1) := by decide +kernel
theorem dX12_init_318 : decode cX12_init 318 = .ok (.dup, 1) := by decide +kernel
theorem dX12_init_319 : decode cX12_init 319 = .ok (.bipush 45, 2) := by decide +kernel
theorem dX12_init_321 : decode cX12_init 321 = .ok (.bipush 32, 2) := by decide +kernel
theorem dX12_init_323 : decode cX12_init 323 = .ok (.castore, 1) := by decide +kernel
theorem dX12_init_324 : decode cX12_init 324 = .ok (.dup, 1) := by decide +kernel
theorem dX12_init_325 : decode cX12_init 325 = .ok (.bipush 46, 2) := by decide +kernel
theorem dX12_init_327 : decode cX12_init 327 = .ok (.bipush 32, 2) := by decide +kernel
theorem dX12_init_329 : decode cX12_init 329 = .ok (.castore, 1) := by decide +kernel
theorem dX12_init_330 : decode cX12_init 330 = .ok (.dup, 1) := by decide +kernel
theorem dX12_init_331 : decode cX12_init 331 = .ok (.bipush 47, 2) := by decide +kernel
theorem dX12_init_333 : decode cX12_init 333 = .ok (.bipush 32, 2) := by decide +kernel
theorem dX12_init_335 : decode cX12_init 335 = .ok (.castore, 1) := by decide +kernel
theorem dX12_init_336 : decode cX12_init 336 = .ok (.dup, 1) := by decide +kernel
theorem dX12_init_337 : decode cX12_init 337 = .ok (.bipush 48, 2) := by decide +kernel
theorem dX12_init_339 : decode cX12_init 339 = .ok (.bipush 115, 2) := by decide +kernel
theorem dX12_init_341 : decode cX12_init 341 = .ok (.castore, 1) := by decide +kernel
theorem dX12_init_342 : decode cX12_init 342 = .ok (.dup, 1) := by decide +kernel
theorem dX12_init_343 : decode cX12_init 343 = .ok (.bipush 49, 2) := by decide +kernel
theorem dX12_init_345 : decode cX12_init 345 = .ok (.bipush 101, 2) := by decide +kernel
theorem dX12_init_347 : decode cX12_init 347 = .ok (.castore, 1) := by decide +kernel
theorem dX12_init_348 : decode cX12_init 348 = .ok (.dup, 1) := by decide +kernel
theorem dX12_init_349 : decode cX12_init 349 = .ok (.bipush 50, 2) := by decide +kernel
theorem dX12_init_351 : decode cX12_init 351 = .ok (.bipush 116, 2) := by decide +kernel
theorem dX12_init_353 : decode cX12_init 353 = .ok (.castore, 1) := by decide +kernel
theorem dX12_init_354 : decode cX12_init 354 = .ok (.dup, 1) := by decide +kernel
theorem dX12_init_355 : decode cX12_init 355 = .ok (.bipush 51, 2) := by decide +kernel
theorem dX12_init_357 : decode cX12_init 357 = .ok (.bipush 32, 2) := by decide +kernel
theorem dX12_init_359 : decode cX12_init 359 = .ok (.castore, 1) := by decide +kernel
theorem dX12_init_360 : decode cX12_init 360 = .ok (.dup, 1) := by decide +kernel
theorem dX12_init_361 : decode cX12_init 361 = .ok (.bipush 52, 2) := by decide +kernel
theorem dX12_init_363 : decode cX12_init 363 = .ok (.bipush 32, 2) := by decide +kernel
theorem dX12_init_365 : decode cX12_init 365 = .ok (.castore, 1) := by decide +kernel
theorem dX12_init_366 : decode cX12_init 366 = .ok (.dup, 1) := by decide +kernel
theorem dX12_init_367 : decode cX12_init 367 = .ok (.bipush 53, 2) := by decide +kernel
theorem dX12_init_369 : decode cX12_init 369 = .ok (.bipush 32, 2) := by decide +kernel
theorem dX12_init_371 : decode cX12_init 371 = .ok (.castore, 1) := by decide +kernel
theorem dX12_init_372 : decode cX12_init 372 = .ok (.dup, 1) := by decide +kernel
theorem dX12_init_373 : decode cX12_init 373 = .ok (.bipush 54, 2) := by decide +kernel
theorem dX12_init_375 : decode cX12_init 375 = .ok (.bipush 32, 2) := by decide +kernel
theorem dX12_init_377 : decode cX12_init 377 = .ok (.castore, 1) := by decide +kernel
theorem dX12_init_378 : decode cX12_init 378 = .ok (.dup, 1) := by decide +kernel
theorem dX12_init_379 : decode cX12_init 379 = .ok (.bipush 55, 2) := by decide +kernel
theorem dX12_init_381 : decode cX12_init 381 = .ok (.bipush 32, 2) := by decide +kernel
theorem dX12_init_383 : decode cX12_init 383 = .ok (.castore, 1) := by decide +kernel
theorem dX12_init_384 : decode cX12_init 384 = .ok (.dup, 1) := by decide +kernel
theorem dX12_init_385 : decode cX12_init 385 = .ok (.bipush 56, 2) := by decide +kernel
theorem dX12_init_387 : decode cX12_init 387 = .ok (.bipush 107, 2) := by decide +kernel
theorem dX12_init_389 : decode cX12_init 389 = .ok (.castore, 1) := by decide +kernel
theorem dX12_init_390 : decode cX12_init 390 = .ok (.dup, 1) := by decide +kernel
theorem dX12_init_391 : decode cX12_init 391 = .ok (.bipush 57, 2) := by decide +kernel
theorem dX12_init_393 : decode cX12_init 393 = .ok (.bipush 101, 2) := by decide +kernel
theorem dX12_init_395 : decode cX12_init 395 = .ok (.castore, 1) := by decide +kernel
theorem dX12_init_396 : decode cX12_init 396 = .ok (.dup, 1) := by decide +kernel
theorem dX12_init_397 : decode cX12_init 397 = .ok (.bipush 58, 2) := by decide +kernel
theorem dX12_init_399 : decode cX12_init 399 = .ok (.bipush 101, 2) := by decide +kernel
theorem dX12_init_401 : decode cX12_init 401 = .ok (.castore, 1) := by decide +kernel
theorem dX12_init_402 : decode cX12_init 402 = .ok (.dup, 1) := by decide +kernel
theorem dX12_init_403 : decode cX12_init 403 = .ok (.bipush 59, 2) := by decide +kernel
theorem dX12_init_405 : decode cX12_init 405 = .ok (.bipush 112, 2) := by decide +kernel
theorem dX12_init_407 : decode cX12_init 407 = .ok (.castore, 1) := by decide +kernel
theorem dX12_init_408 : decode cX12_init 408 = .ok (.dup, 1) := by decide +kernel
theorem dX12_init_409 : decode cX12_init 409 = .ok (.bipush 60, 2) := by decide +kernel
theorem dX12_init_411 : decode cX12_init 411 = .ok (.bipush 32, 2) := by decide +kernel
theorem dX12_init_413 : decode cX12_init 413 = .ok (.castore, 1) := by decide +kernel
theorem dX12_init_414 : decode cX12_init 414 = .ok (.dup, 1) := by decide +kernel
theorem dX12_init_415 : decode cX12_init 415 = .ok (.bipush 61, 2) := by decide +kernel
theorem dX12_init_417 : decode cX12_init 417 = .ok (.bipush 32, 2) := by decide +kernel
theorem dX12_init_419 : decode cX12_init 419 = .ok (.castore, 1) := by decide +kernel
theorem dX12_init_420 : decode cX12_init 420 = .ok (.dup, 1) := by decide +kernel
theorem dX12_init_421 : decode cX12_init 421 = .ok (.bipush 62, 2) := by decide +kernel
theorem dX12_init_423 : decode cX12_init 423 = .ok (.bipush 32, 2) := by decide +kernel
theorem dX12_init_425 : decode cX12_init 425 = .ok (.castore, 1) := by decide +kernel
theorem dX12_init_426 : decode cX12_init 426 = .ok (.dup, 1) := by decide +kernel
theorem dX12_init_427 : decode cX12_init 427 = .ok (.bipush 63, 2) := by decide +kernel
theorem dX12_init_429 : decode cX12_init 429 = .ok (.bipush 32, 2) := by decide +kernel
theorem dX12_init_431 : decode cX12_init 431 = .ok (.castore, 1) := by decide +kernel
theorem dX12_init_432 : decode cX12_init 432 = .ok (.dup, 1) := by decide +kernel
theorem dX12_init_433 : decode cX12_init 433 = .ok (.bipush 64, 2) := by decide +kernel
theorem dX12_init_435 : decode cX12_init 435 = .ok (.bipush 97, 2) := by decide +kernel
theorem dX12_init_437 : decode cX12_init 437 = .ok (.castore, 1) := by decide +kernel
theorem dX12_init_438 : decode cX12_init 438 = .ok (.dup, 1) := by decide +kernel
theorem dX12_init_439 : decode cX12_init 439 = .ok (.bipush 65, 2) := by decide +kernel
theorem dX12_init_441 : decode cX12_init 441 = .ok (.bipush 114, 2) := by decide +kernel
theorem dX12_init_443 : decode cX12_init 443 = .ok (.castore, 1) := by decide +kernel
theorem dX12_init_444 : decode cX12_init 444 = .ok (.dup, 1) := by decide +kernel
theorem dX12_init_445 : decode cX12_init 445 = .ok (.bipush 66, 2) := by decide +kernel
theorem dX12_init_447 : decode cX12_init 447 = .ok (.bipush 103, 2) := by decide +kernel
theorem dX12_init_449 : decode cX12_init 449 = .ok (.castore, 1) := by decide +kernel
theorem dX12_init_450 : decode cX12_init 450 = .ok (.dup, 1) := by decide +kernel
theorem dX12_init_451 : decode cX12_init 451 = .ok (.bipush 67, 2) := by decide +kernel
theorem dX12_init_453 : decode cX12_init 453 = .ok (.bipush 117, 2) := by decide +kernel
theorem dX12_init_455 : decode cX12_init 455 = .ok (.castore, 1) := by decide +kernel
theorem dX12_init_456 : decode cX12_init 456 = .ok (.dup, 1) := by decide +kernel
theorem dX12_init_457 : decode cX12_init 457 = .ok (.bipush 68, 2) := by decide +kernel
theorem dX12_init_459 : decode cX12_init 459 = .ok (.bipush 101, 2) := by decide +kernel
theorem dX12_init_461 : decode cX12_init 461 = .ok (.castore, 1) := by decide +kernel
theorem dX12_init_462 : decode cX12_init 462 = .ok (.dup, 1) := by decide +kernel
theorem dX12_init_463 : decode cX12_init 463 = .ok (.bipush 69, 2) := by decide +kernel
theorem dX12_init_465 : decode cX12_init 465 = .ok (.bipush 32, 2) := by decide +kernel
theorem dX12_init_467 : decode cX12_init 467 = .ok (.castore, 1) := by decide +kernel
theorem dX12_init_468 : decode cX12_init 468 = .ok (.dup, 1) := by decide +kernel
theorem dX12_init_469 : decode cX12_init 469 = .ok (.bipush 70, 2) := by decide +kernel
theorem dX12_init_471 : decode cX12_init 471 = .ok (.bipush 32, 2) := by decide +kernel
theorem dX12_init_473 : decode cX12_init 473 = .ok (.castore, 1) := by decide +kernel
theorem dX12_init_474 : decode cX12_init 474 = .ok (.dup, 1) := by decide +kernel
theorem dX12_init_475 : decode cX12_init 475 = .ok (.bipush 71, 2) := by decide +kernel
theorem dX12_init_477 : decode cX12_init 477 = .ok (.bipush 32, 2) := by decide +kernel
theorem dX12_init_479 : decode cX12_init 479 = .ok (.castore, 1) := by decide +kernel
theorem dX12_init_480 : decode cX12_init 480 = .ok (.dup, 1) := by decide +kernel
theorem dX12_init_481 : decode cX12_init 481 = .ok (.bipush 72, 2) := by decide +kernel
theorem dX12_init_483 : decode cX12_init 483 = .ok (.bipush 105, 2) := by decide +kernel
theorem dX12_init_485 : decode cX12_init 485 = .ok (.castore, 1) := by decide +kernel
theorem dX12_init_486 : decode cX12_init 486 = .ok (.dup, 1) := by decide +kernel
theorem dX12_init_487 : decode cX12_init 487 = .ok (.bipush 73, 2) := by decide +kernel
theorem dX12_init_489 : decode cX12_init 489 = .ok (.bipush 102, 2) := by decide +kernel
theorem dX12_init_491 : decode cX12_init 491 = .ok (.castore, 1) := by decide +kernel
theorem dX12_init_492 : decode cX12_init 492 = .ok (.dup, 1) := by decide +kernel
theorem dX12_init_493 : decode cX12_init 493 = .ok (.bipush 74, 2) := by decide +kernel
theorem dX12_init_495 : decode cX12_init 495 = .ok (.bipush 32, 2) := by decide +kernel
theorem dX12_init_497 : decode cX12_init 497 = .ok (.castore, 1) := by decide +kernel
theorem dX12_init_498 : decode cX12_init 498 = .ok (.dup, 1) := by decide +kernel
theorem dX12_init_499 : decode cX12_init 499 = .ok (.bipush 75, 2) := by decide +kernel
theorem dX12_init_501 : decode cX12_init 501 = .ok (.bipush 32, 2) := by decide +kernel
theorem dX12_init_503 : decode cX12_init 503 = .ok (.castore, 1) := by decide +kernel
theorem dX12_init_504 : decode cX12_init 504 = .ok (.dup, 1) := by decide +kernel
theorem dX12_init_505 : decode cX12_init 505 = .ok (.bipush 76, 2) := by decide +kernel
theorem dX12_init_507 : decode cX12_init 507 = .ok (.bipush 32, 2) := by decide +kernel
theorem dX12_init_509 : decode cX12_init 509 = .ok (.castore, 1) := by decide +kernel
theorem dX12_init_510 : decode cX12_init 510 = .ok (.dup, 1) := by decide +kernel
theorem dX12_init_511 : decode cX12_init 511 = .ok (.bipush 77, 2) := by decide +kernel
theorem dX12_init_513 : decode cX12_init 513 = .ok (.bipush 32, 2) := by decide +kernel
theorem dX12_init_515 : decode cX12_init 515 = .ok (.castore, 1) := by decide +kernel
theorem dX12_init_516 : decode cX12_init 516 = .ok (.dup, 1) := by decide +kernel
theorem dX12_init_517 : decode cX12_init 517 = .ok (.bipush 78, 2) := by decide +kernel
theorem dX12_init_519 : decode cX12_init 519 = .ok (.bipush 32, 2) := by decide +kernel
theorem dX12_init_521 : decode cX12_init 521 = .ok (.castore, 1) := by decide +kernel
theorem dX12_init_522 : decode cX12_init 522 = .ok (.dup, 1) := by decide +kernel
theorem dX12_init_523 : decode cX12_init 523 = .ok (.bipush 79, 2) := by decide +kernel
theorem dX12_init_525 : decode cX12_init 525 = .ok (.bipush 32, 2) := by decide +kernel
theorem dX12_init_527 : decode cX12_init 527 = .ok (.castore, 1) := by decide +kernel
theorem dX12_init_528 : decode cX12_init 528 = .ok (.dup, 1) := by decide +kernel
theorem dX12_init_529 : decode cX12_init 529 = .ok (.bipush 80, 2) := by decide +kernel
theorem dX12_init_531 : decode cX12_init 531 = .ok (.bipush 110, 2) := by decide +kernel
theorem dX12_init_533 : decode cX12_init 533 = .ok (.castore, 1) := by decide +kernel
theorem dX12_init_534 : decode cX12_init 534 = .ok (.dup, 1) := by decide +kernel
theorem dX12_init_535 : decode cX12_init 535 = .ok (.bipush 81, 2) := by decide +kernel
theorem dX12_init_537 : decode cX12_init 537 = .ok (.bipush 111, 2) := by decide +kernel
theorem dX12_init_539 : decode cX12_init 539 = .ok (.castore, 1) := by decide +kernel
theorem dX12_init_540 : decode cX12_init 540 = .ok (.dup, 1) := by decide +kernel
theorem dX12_init_541 : decode cX12_init 541 = .ok (.bipush 82, 2) := by decide +kernel
theorem dX12_init_543 : decode cX12_init 543 = .ok (.bipush 116, 2) := by decide +kernel
theorem dX12_init_545 : decode cX12_init 545 = .ok (.castore, 1) := by decide +kernel
theorem dX12_init_546 : decode cX12_init 546 = .ok (.dup, 1) := by decide +kernel
theorem dX12_init_547 : decode cX12_init 547 = .ok (.bipush 83, 2) := by decide +kernel
theorem dX12_init_549 : decode cX12_init 549 = .ok (.bipush 32, 2) := by decide +kernel
theorem dX12_init_551 : decode cX12_init 551 = .ok (.castore, 1) := by decide +kernel
theorem dX12_init_552 : decode cX12_init 552 = .ok (.dup, 1) := by decide +kernel
theorem dX12_init_553 : decode cX12_init 553 = .ok (.bipush 84, 2) := by decide +kernel
theorem dX12_init_555 : decode cX12_init 555 = .ok (.bipush 32, 2) := by decide +kernel
theorem dX12_init_557 : decode cX12_init 557 = .ok (.castore, 1) := by decide +kernel
theorem dX12_init_558 : decode cX12_init 558 = .ok (.dup, 1) := by decide +kernel
theorem dX12_init_559 : decode cX12_init 559 = .ok (.bipush 85, 2) := by decide +kernel
theorem dX12_init_561 : decode cX12_init 561 = .ok (.bipush 32, 2) := by decide +kernel
theorem dX12_init_563 : decode cX12_init 563 = .ok (.castore, 1) := by decide +kernel
theorem dX12_init_564 : decode cX12_init 564 = .ok (.dup, 1) := by decide +kernel
theorem dX12_init_565 : decode cX12_init 565 = .ok (.bipush 86, 2) := by decide +kernel
theorem dX12_init_567 : decode cX12_init 567 = .ok (.bipush 32, 2) := by decide +kernel
theorem dX12_init_569 : decode cX12_init 569 = .ok (.castore, 1) := by decide +kernel
theorem dX12_init_570 : decode cX12_init 570 = .ok (.dup, 1) := by decide +kernel
theorem dX12_init_571 : decode cX12_init 571 = .ok (.bipush 87, 2) := by decide +kernel
theorem dX12_init_573 : decode cX12_init 573 = .ok (.bipush 32, 2) := by decide +kernel
theorem dX12_init_575 : decode cX12_init 575 = .ok (.castore, 1) := by decide +kernel
theorem dX12_init_576 : decode cX12_init 576 = .ok (.dup, 1) := by decide +kernel
theorem dX12_init_577 : decode cX12_init 577 = .ok (.bipush 88, 2) := by decide +kernel
theorem dX12_init_579 : decode cX12_init 579 = .ok (.bipush 97, 2) := by decide +kernel
theorem dX12_init_581 : decode cX12_init 581 = .ok (.castore, 1) := by decide +kernel
theorem dX12_init_582 : decode cX12_init 582 = .ok (.dup, 1) := by decide +kernel
theorem dX12_init_583 : decode cX12_init 583 = .ok (.bipush 89, 2) := by decide +kernel
theorem dX12_init_585 : decode cX12_init 585 = .ok (.bipush 110, 2) := by decide +kernel
theorem dX12_init_587 : decode cX12_init 587 = .ok (.castore, 1) := by decide +kernel
theorem dX12_init_588 : decode cX12_init 588 = .ok (.dup, 1) := by decide +kernel
theorem dX12_init_589 : decode cX12_init 589 = .ok (.bipush 90, 2) := by decide +kernel
theorem dX12_init_591 : decode cX12_init 591 = .ok (.bipush 100, 2) := by decide +kernel
theorem dX12_init_593 : decode cX12_init 593 = .ok (.castore, 1) := by decide +kernel
theorem dX12_init_594 : decode cX12_init 594 = .ok (.dup, 1) := by decide +kernel
theorem dX12_init_595 : decode cX12_init 595 = .ok (.bipush 91, 2) := by decide +kernel
theorem dX12_init_597 : decode cX12_init 597 = .ok (.bipush 32, 2) := by decide +kernel
theorem dX12_init_599 : decode cX12_init 599 = .ok (.castore, 1) := by decide +kernel
theorem dX12_init_600 : decode cX12_init 600 = .ok (.dup, 1) := by decide +kernel
theorem dX12_init_601 : decode cX12_init 601 = .ok (.bipush 92, 2) := by decide +kernel
theorem dX12_init_603 : decode cX12_init 603 = .ok (.bipush 32, 2) := by decide +kernel
theorem dX12_init_605 : decode cX12_init 605 = .ok (.castore, 1) := by decide +kernel
theorem dX12_init_606 : decode cX12_init 606 = .ok (.dup, 1) := by decide +kernel
theorem dX12_init_607 : decode cX12_init 607 = .ok (.bipush 93, 2) := by decide +kernel
theorem dX12_init_609 : decode cX12_init 609 = .ok (.bipush 32, 2) := by decide +kernel
theorem dX12_init_611 : decode cX12_init 611 = .ok (.castore, 1) := by decide +kernel
theorem dX12_init_612 : decode cX12_init 612 = .ok (.dup, 1) := by decide +kernel
theorem dX12_init_613 : decode cX12_init 613 = .ok (.bipush 94, 2) := by decide +kernel
theorem dX12_init_615 : decode cX12_init 615 = .ok (.bipush 32, 2) := by decide +kernel
theorem dX12_init_617 : decode cX12_init 617 = .ok (.castore, 1) := by decide +kernel
theorem dX12_init_618 : decode cX12_init 618 = .ok (.dup, 1) := by decide +kernel
theorem dX12_init_619 : decode cX12_init 619 = .ok (.bipush 95, 2) := by decide +kernel
theorem dX12_init_621 : decode cX12_init 621 = .ok (.bipush 32, 2) := by decide +kernel
theorem dX12_init_623 : decode cX12_init 623 = .ok (.castore, 1) := by decide +kernel
theorem dX12_init_624 : decode cX12_init 624 = .ok (.dup, 1) := by decide +kernel
theorem dX12_init_625 : decode cX12_init 625 = .ok (.bipush 96, 2) := by decide +kernel
theorem dX12_init_627 : decode cX12_init 627 = .ok (.bipush 111, 2) := by decide +kernel
theorem dX12_init_629 : decode cX12_init 629 = .ok (.castore, 1) := by decide +kernel
theorem dX12_init_630 : decode cX12_init 630 = .ok (.dup, 1) := by decide +kernel
theorem dX12_init_631 : decode cX12_init 631 = .ok (.bipush 97, 2) := by decide +kernel
theorem dX12_init_633 : decode cX12_init 633 = .ok (.bipush 114, 2) := by decide +kernel
theorem dX12_init_635 : decode cX12_init 635 = .ok (.castore, 1) := by decide +kernel
theorem dX12_init_636 : decode cX12_init 636 = .ok (.dup, 1) := by decide +kernel
theorem dX12_init_637 : decode cX12_init 637 = .ok (.bipush 98, 2) := by decide +kernel
theorem dX12_init_639 : decode cX12_init 639 = .ok (.bipush 32, 2) := by decide +kernel
theorem dX12_init_641 : decode cX12_init 641 = .ok (.castore, 1) := by decide +kernel
theorem dX12_init_642 : decode cX12_init 642 = .ok (.dup, 1) := by decide +kernel
theorem dX12_init_643 : decode cX12_init 643 = .ok (.bipush 99, 2) := by decide +kernel
theorem dX12_init_645 : decode cX12_init 645 = .ok (.bipush 32, 2) := by decide +kernel
theorem dX12_init_647 : decode cX12_init 647 = .ok (.castore, 1) := by decide +kernel
theorem dX12_init_648 : decode cX12_init 648 = .ok (.dup, 1) := by decide +kernel
theorem dX12_init_649 : decode cX12_init 649 = .ok (.bipush 100, 2) := by decide +kernel
theorem dX12_init_651 : decode cX12_init 651 = .ok (.bipush 32, 2) := by decide +kernel
theorem dX12_init_653 : decode cX12_init 653 = .ok (.castore, 1) := by decide +kernel
theorem dX12_init_654 : decode cX12_init 654 = .ok (.dup, 1) := by decide +kernel
theorem dX12_init_655 : decode cX12_init 655 = .ok (.bipush 101, 2) := by decide +kernel
theorem dX12_init_657 : decode cX12_init 657 = .ok (.bipush 32, 2) := by decide +kernel
theorem dX12_init_659 : decode cX12_init 659 = .ok (.castore, 1) := by decide +kernel
theorem dX12_init_660 : decode cX12_init 660 = .ok (.dup, 1) := by decide +kernel
theorem dX12_init_661 : decode cX12_init 661 = .ok (.bipush 102, 2) := by decide +kernel
theorem dX12_init_663 : decode cX12_init 663 = .ok (.bipush 32, 2) := by decide +kernel
theorem dX12_init_665 : decode cX12_init 665 = .ok (.castore, 1) := by decide +kernel
theorem dX12_init_666 : decode cX12_init 666 = .ok (.dup, 1) := by decide +kernel
theorem dX12_init_667 : decode cX12_init 667 = .ok (.bipush 103, 2) := by decide +kernel
theorem dX12_init_669 : decode cX12_init 669 = .ok (.bipush 32, 2) := by decide +kernel
theorem dX12_init_671 : decode cX12_init 671 = .ok (.castore, 1) := by decide +kernel
theorem dX12_init_672 : decode cX12_init 672 = .ok (.dup, 1) := by decide +kernel
theorem dX12_init_673 : decode cX12_init 673 = .ok (.bipush 104, 2) := by decide +kernel
theorem dX12_init_675 : decode cX12_init 675 = .ok (.bipush 99, 2) := by decide +kernel
theorem dX12_init_677 : decode cX12_init 677 = .ok (.castore, 1) := by decide +kernel
theorem dX12_init_678 : decode cX12_init 678 = .ok (.dup, 1) := by decide +kernel
theorem dX12_init_679 : decode cX12_init 679 = .ok (.bipush 105, 2) := by decide +kernel
theorem dX12_init_681 : decode cX12_init 681 = .ok (.bipush 104, 2) := by decide +kernel
theorem dX12_init_683 : decode cX12_init 683 = .ok (.castore, 1) := by decide +kernel
theorem dX12_init_684 : decode cX12_init 684 = .ok (.dup, 1) := by decide +kernel
theorem dX12_init_685 : decode cX12_init 685 = .ok (.bipush 106, 2) := by decide +kernel
theorem dX12_init_687 : decode cX12_init 687 = .ok (.bipush 105, 2) := by decide +kernel
theorem dX12_init_689 : decode cX12_init 689 = .ok (.castore, 1) := by decide +kernel
theorem dX12_init_690 : decode cX12_init 690 = .ok (.dup, 1) := by decide +kernel
theorem dX12_init_691 : decode cX12_init 691 = .ok (.bipush 107, 2) := by decide +kernel
theorem dX12_init_693 : decode cX12_init 693 = .ok (.bipush 109, 2) := by decide +kernel
theorem dX12_init_695 : decode cX12_init 695 = .ok (.castore, 1) := by decide +kernel
theorem dX12_init_696 : decode cX12_init 696 = .ok (.dup, 1) := by decide +kernel
theorem dX12_init_697 : decode cX12_init 697 = .ok (.bipush 108, 2) := by decide +kernel
theorem dX12_init_699 : decode cX12_init 699 = .ok (.bipush 101, 2) := by decide +kernel
theorem dX12_init_701 : decode cX12_init 701 = .ok (.castore, 1) := by decide +kernel
theorem dX12_init_702 : decode cX12_init 702 = .ok (.dup, 1) := by decide +kernel
theorem dX12_init_703 : decode cX12_init 703 = .ok (.bipush 109, 2) := by decide +kernel
theorem dX12_init_705 : decode cX12_init 705 = .ok (.bipush 32, 2) := by decide +kernel
theorem dX12_init_707 : decode cX12_init 707 = .ok (.castore, 1) := by decide +kernel
theorem dX12_init_708 : decode cX12_init 708 = .ok (.dup, 1) := by decide +kernel
theorem dX12_init_709 : decode cX12_init 709 = .ok (.bipush 110, 2) := by decide +kernel
theorem dX12_init_711 : decode cX12_init 711 = .ok (.bipush 32, 2) := by decide +kernel
theorem dX12_init_713 : decode cX12_init 713 = .ok (.castore, 1) := by decide +kernel
theorem dX12_init_714 : decode cX12_init 714 = .ok (.dup, 1) := by decide +kernel
theorem dX12_init_715 : decode cX12_init 715 = .ok (.bipush 111, 2) := by decide +kernel
theorem dX12_init_717 : decode cX12_init 717 = .ok (.bipush 32, 2) := by decide +kernel
theorem dX12_init_719 : decode cX12_init 719 = .ok (.castore, 1) := by decide +kernel
theorem dX12_init_720 : decode cX12_init 720 = .ok (.dup, 1) := by decide +kernel
theorem dX12_init_721 : decode cX12_init 721 = .ok (.bipush 112, 2) := by decide +kernel
theorem dX12_init_723 : decode cX12_init 723 = .ok (.bipush 108, 2) := by decide +kernel
theorem dX12_init_725 : decode cX12_init 725 = .ok (.castore, 1) := by decide +kernel
theorem dX12_init_726 : decode cX12_init 726 = .ok (.dup, 1) := by decide +kernel
theorem dX12_init_727 : decode cX12_init 727 = .ok (.bipush 113, 2) := by decide +kernel
theorem dX12_init_729 : decode cX12_init 729 = .ok (.bipush 97, 2) := by decide +kernel
theorem dX12_init_731 : decode cX12_init 731 = .ok (.castore, 1) := by decide +kernel
theorem dX12_init_732 : decode cX12_init 732 = .ok (.dup, 1) := by decide +kernel
theorem dX12_init_733 : decode cX12_init 733 = .ok (.bipush 114, 2) := by decide +kernel
theorem dX12_init_735 : decode cX12_init 735 = .ok (.bipush 103, 2) := by decide +kernel
theorem dX12_init_737 : decode cX12_init 737 = .ok (.castore, 1) := by decide +kernel
theorem dX12_init_738 : decode cX12_init 738 = .ok (.dup, 1) := by decide +kernel
theorem dX12_init_739 : decode cX12_init 739 = .ok (.bipush 115, 2) := by decide +kernel
theorem dX12_init_741 : decode cX12_init 741 = .ok (.bipush 32, 2) := by decide +kernel
theorem dX12_init_743 : decode cX12_init 743 = .ok (.castore, 1) := by decide +kernel
theorem dX12_init_744 : decode cX12_init 744 = .ok (.dup, 1) := by decide +kernel
theorem dX12_init_745 : decode cX12_init 745 = .ok (.bipush 116, 2) := by decide +kernel
theorem dX12_init_747 : decode cX12_init 747 = .ok (.bipush 32, 2) := by decide +kernel
theorem dX12_init_749 : decode cX12_init 749 = .ok (.castore, 1) := by decide +kernel
theorem dX12_init_750 : decode cX12_init 750 = .ok (.dup, 1) := by decide +kernel
theorem dX12_init_751 : decode cX12_init 751 = .ok (.bipush 117, 2) := by decide +kernel
theorem dX12_init_753 : decode cX12_init 753 = .ok (.bipush 32, 2) := by decide +kernel
theorem dX12_init_755 : decode cX12_init 755 = .ok (.castore, 1) := by decide +kernel
theorem dX12_init_756 : decode cX12_init 756 = .ok (.dup, 1) := by decide +kernel
theorem dX12_init_757 : decode cX12_init 757 = .ok (.bipush 118, 2) := by decide +kernel
theorem dX12_init_759 : decode cX12_init 759 = .ok (.bipush 32, 2) := by decide +kernel
theorem dX12_init_761 : decode cX12_init 761 = .ok (.castore, 1) := by decide +kernel
theorem dX12_init_762 : decode cX12_init 762 = .ok (.dup, 1) := by decide +kernel
theorem dX12_init_763 : decode cX12_init 763 = .ok (.bipush 119, 2) := by decide +kernel
theorem dX12_init_765 : decode cX12_init 765 = .ok (.bipush 32, 2) := by decide +kernel
theorem dX12_init_767 : decode cX12_init 767 = .ok (.castore, 1) := by decide +kernel
theorem dX12_init_768 : decode cX12_init 768 = .ok (.dup, 1) := by decide +kernel
theorem dX12_init_769 : decode cX12_init 769 = .ok (.bipush 120, 2) := by decide +kernel
theorem dX12_init_771 : decode cX12_init 771 = .ok (.bipush 112, 2) := by decide +kernel
theorem dX12_init_773 : decode cX12_init 773 = .ok (.castore, 1) := by decide +kernel
theorem dX12_init_774 : decode cX12_init 774 = .ok (.dup, 1) := by decide +kernel
theorem dX12_init_775 : decode cX12_init 775 = .ok (.bipush 121, 2) := by decide +kernel
theorem dX12_init_777 : decode cX12_init 777 = .ok (.bipush 114, 2) := by decide +kernel
theorem dX12_init_779 : decode cX12_init 779 = .ok (.castore, 1) := by decide +kernel
theorem dX12_init_780 : decode cX12_init 780 = .ok (.dup, 1) := by decide +kernel
theorem dX12_init_781 : decode cX12_init 781 = .ok (.bipush 122, 2) := by decide +kernel
theorem dX12_init_783 : decode cX12_init 783 = .ok (.bipush 105, 2) := by decide +kernel
theorem dX12_init_785 : decode cX12_init 785 = .ok (.castore, 1) := by decide +kernel
theorem dX12_init_786 : decode cX12_init 786 = .ok (.dup, 1) := by decide +kernel
theorem dX12_init_787 : decode cX12_init 787 = .ok (.bipush 123, 2) := by decide +kernel
theorem dX12_init_789 : decode cX12_init 789 = .ok (.bipush 100, 2) := by decide +kernel
theorem dX12_init_791 : decode cX12_init 791 = .ok (.castore, 1) := by decide +kernel
theorem dX12_init_792 : decode cX12_init 792 = .ok (.dup, 1) := by decide +kernel
theorem dX12_init_793 : decode cX12_init 793 = .ok (.bipush 124, 2) := by decide +kernel
theorem dX12_init_795 : decode cX12_init 795 = .ok (.bipush 101, 2) := by decide +kernel
theorem dX12_init_797 : decode cX12_init 797 = .ok (.castore, 1) := by decide +kernel
theorem dX12_init_798 : decode cX12_init 798 = .ok (.dup, 1) := by decide +kernel
theorem dX12_init_799 : decode cX12_init 799 = .ok (.bipush 125, 2) := by decide +kernel
theorem dX12_init_801 : decode cX12_init 801 = .ok (.bipush 32, 2) := by decide +kernel
theorem dX12_init_803 : decode cX12_init 803 = .ok (.castore, 1) := by decide +kernel
theorem dX12_init_804 : decode cX12_init 804 = .ok (.dup, 1) := by decide +kernel
theorem dX12_init_805 : decode cX12_init 805 = .ok (.bipush 126, 2) := by decide +kernel
theorem dX12_init_807 : decode cX12_init 807 = .ok (.bipush 32, 2) := by decide +kernel
theorem dX12_init_809 : decode cX12_init 809 = .ok (.castore, 1) := by decide +kernel
theorem dX12_init_810 : decode cX12_init 810 = .ok (.dup, 1) := by decide +kernel
theorem dX12_init_811 : decode cX12_init 811 = .ok (.bipush 127, 2) := by decide +kernel
theorem dX12_init_813 : decode cX12_init 813 = .ok (.bipush 32, 2) := by decide +kernel
theorem dX12_init_815 : decode cX12_init 815 = .ok (.castore, 1) := by decide +kernel
theorem dX12_init_816 : decode cX12_init 816 = .ok (.dup, 1) := by decide +kernel
theorem dX12_init_817 : decode cX12_init 817 = .ok (.sipush 128, 3) := by decide +kernel
theorem dX12_init_820 : decode cX12_init 820 = .ok (.bipush 115, 2) := by decide +kernel
theorem dX12_init_822 : decode cX12_init 822 = .ok (.castore, 1) := by decide +kernel
theorem dX12_init_823 : decode cX12_init 823 = .ok (.dup, 1) := by decide +kernel
theorem dX12_init_824 : decode cX12_init 824 = .ok (.sipush 129, 3) := by decide +kernel
theorem dX12_init_827 : decode cX12_init 827 = .ok (.bipush 117, 2) := by decide +kernel
theorem dX12_init_829 : decode cX12_init 829 = .ok (.castore, 1) := by decide +kernel
theorem dX12_init_830 : decode cX12_init 830 = .ok (.dup, 1) := by decide +kernel
theorem dX12_init_831 : decode cX12_init 831 = .ok (.sipush 130, 3) := by decide +kernel
theorem dX12_init_834 : decode cX12_init 834 = .ok (.bipush 110, 2) := by decide +kernel
theorem dX12_init_836 : decode cX12_init 836 = .ok (.castore, 1) := by decide +kernel
theorem dX12_init_837 : decode cX12_init 837 = .ok (.dup, 1) := by decide +kernel
theorem dX12_init_838 : decode cX12_init 838 = .ok (.sipush 131, 3) := by decide +kernel
theorem dX12_init_841 : decode cX12_init 841 = .ok (.bipush 32, 2) := by decide +kernel
theorem dX12_init_843 : decode cX12_init 843 = .ok (.castore, 1) := by decide +kernel
theorem dX12_init_844 : decode cX12_init 844 = .ok (.dup, 1) := by decide +kernel
theorem dX12_init_845 : decode cX12_init 845 = .ok (.sipush 132, 3) := by decide +kernel
theorem dX12_init_848 : decode cX12_init 848 = .ok (.bipush 32, 2) := by decide +kernel
theorem dX12_init_850 : decode cX12_init 850 = .ok (.castore, 1) := by decide +kernel
theorem dX12_init_851 : decode cX12_init 851 = .ok (.dup, 1) := by decide +kernel
theorem dX12_init_852 : decode cX12_init 852 = .ok (.sipush 133, 3) := by decide +kernel
theorem dX12_init_855 : decode cX12_init 855 = .ok (.bipush 32, 2) := by decide +kernel
theorem dX12_init_857 : decode cX12_init 857 = .ok (.castore, 1) := by decide +kernel
theorem dX12_init_858 : decode cX12_init 858 = .ok (.dup, 1) := by decide +kernel
theorem dX12_init_859 : decode cX12_init 859 = .ok (.sipush 134, 3) := by decide +kernel
theorem dX12_init_862 : decode cX12_init 862 = .ok (.bipush 32, 2) := by decide +kernel
theorem dX12_init_864 : decode cX12_init 864 = .ok (.castore, 1) := by decide +kernel
theorem dX12_init_865 : decode cX12_init 865 = .ok (.dup, 1) := by decide +kernel
theorem dX12_init_866 : decode cX12_init 866 = .ok (.sipush 135, 3) := by decide +kernel
theorem dX12_init_869 : decode cX12_init 869 = .ok (.bipush 32, 2) := by decide +kernel
theorem dX12_init_871 : decode cX12_init 871 = .ok (.castore, 1) := by decide +kernel
theorem dX12_init_872 : decode cX12_init 872 = .ok (.dup, 1) := by decide +kernel
theorem dX12_init_873 : decode cX12_init 873 = .ok (.sipush 136, 3) := by decide +kernel
theorem dX12_init_876 : decode cX12_init 876 = .ok (.bipush 110, 2) := by decide +kernel
theorem dX12_init_878 : decode cX12_init 878 = .ok (.castore, 1) := by decide +kernel
theorem dX12_init_879 : decode cX12_init 879 = .ok (.dup, 1) := by decide +kernel
theorem dX12_init_880 : decode cX12_init 880 = .ok (.sipush 137, 3) := by decide +kernel
theorem dX12_init_883 : decode cX12_init 883 = .ok (.bipush 117, 2) := by decide +kernel
theorem dX12_init_885 : decode cX12_init 885 = .ok (.castore, 1) := by decide +kernel
theorem dX12_init_886 : decode cX12_init 886 = .ok (.dup, 1) := by decide +kernel
theorem dX12_init_887 : decode cX12_init 887 = .ok (.sipush 138, 3) := by decide +kernel
theorem dX12_init_890 : decode cX12_init 890 = .ok (.bipush 109, 2) := by decide +kernel
theorem dX12_init_892 : decode cX12_init 892 = .ok (.castore, 1) := by decide +kernel
theorem dX12_init_893 : decode cX12_init 893 = .ok (.dup, 1) := by decide +kernel
theorem dX12_init_894 : decode cX12_init 894 = .ok (.sipush 139, 3) := by decide +kernel
theorem dX12_init_897 : decode cX12_init 897 = .ok (.bipush 98, 2) := by decide +kernel
theorem dX12_init_899 : decode cX12_init 899 = .ok (.castore, 1) := by decide +kernel
theorem dX12_init_900 : decode cX12_init 900 = .ok (.dup, 1) := by decide +kernel
theorem dX12_init_901 : decode cX12_init 901 = .ok (.sipush 140, 3) := by decide +kernel
theorem dX12_init_904 : decode cX12_init 904 = .ok (.bipush 101, 2) := by decide +kernel
theorem dX12_init_906 : decode cX12_init 906 = .ok (.castore, 1) := by decide +kernel
theorem dX12_init_907 : decode cX12_init 907 = .ok (.dup, 1) := by decide +kernel
theorem dX12_init_908 : decode cX12_init 908 = .ok (.sipush 141, 3) := by decide +kernel
theorem dX12_init_911 : decode cX12_init 911 = .ok (.bipush 114, 2) := by decide +kernel
theorem dX12_init_913 : decode cX12_init 913 = .ok (.castore, 1) := by decide +kernel
theorem dX12_init_914 : decode cX12_init 914 = .ok (.dup, 1) := by decide +kernel
theorem dX12_init_915 : decode cX12_init 915 = .ok (.sipush 142, 3) := by decide +kernel
theorem dX12_init_918 : decode cX12_init 918 = .ok (.bipush 32, 2) := by decide +kernel
theorem dX12_init_920 : decode cX12_init 920 = .ok (.castore, 1) := by decide +kernel
theorem dX12_init_921 : decode cX12_init 921 = .ok (.dup, 1) := by decide +kernel
theorem dX12_init_922 : decode cX12_init 922 = .ok (.sipush 143, 3) := by decide +kernel
theorem dX12_init_925 : decode cX12_init 925 = .ok (.bipush 32, 2) := by decide +kernel
theorem dX12_init_927 : decode cX12_init 927 = .ok (.castore, 1) := by decide +kernel
theorem dX12_init_928 : decode cX12_init 928 = .ok (.putfield 25, 3) := by decide +kernel
theorem dX12_init_931 : decode cX12_init 931 = .ok (.aload_n 0, 1) := by decide +kernel
theorem dX12_init_932 : decode cX12_init 932 = .ok (.sipush 200, 3) := by decide +kernel
theorem dX12_init_935 : decode cX12_init 935 = .ok (.newarray .int, 2) := by decide +kernel
theorem dX12_init_937 : decode cX12_init 937 = .ok (.putfield 29, 3) := by decide +kernel
theorem dX12_init_940 : decode cX12_init 940 = .ok (.aload_n 0, 1) := by decide +kernel
theorem dX12_init_941 : decode cX12_init 941 = .ok (.bipush 24, 2) := by decide +kernel
theorem dX12_init_943 : decode cX12_init 943 = .ok (.newarray .int, 2) := by decide +kernel
theorem dX12_init_945 : decode cX12_init 945 = .ok (.putfield 32, 3) := by decide +kernel
theorem dX12_init_948 : decode cX12_init 948 = .ok (.aload_n 0, 1) := by decide +kernel
theorem dX12_init_949 : decode cX12_init 949 = .ok (.sipush 325, 3) := by decide +kernel
theorem dX12_init_952 : decode cX12_init 952 = .ok (.newarray .int, 2) := by decide +kernel
theorem dX12_init_954 : decode cX12_init 954 = .ok (.putfield 35, 3) := by decide +kernel
theorem dX12_init_957 : decode cX12_init 957 = .ok (.aload_n 0, 1) := by decide +kernel
theorem dX12_init_958 : decode cX12_init 958 = .ok (.iconst 4, 1) := by decide +kernel
theorem dX12_init_959 : decode cX12_init 959 = .ok (.newarray .int, 2) := by decide +kernel
theorem dX12_init_961 : decode cX12_init 961 = .ok (.putfield 38, 3) := by decide +kernel
theorem dX12_init_964 : decode cX12_init 964 = .ok (.aload_n 0, 1) := by decide +kernel
theorem dX12_init_965 : decode cX12_init 965 = .ok (.iconst 4, 1) := by decide +kernel
theorem dX12_init_966 : decode cX12_init 966 = .ok (.newarray .int, 2) := by decide +kernel
theorem dX12_init_968 : decode cX12_init 968 = .ok (.putfield 41, 3) := by decide +kernel
theorem dX12_init_971 : decode cX12_init 971 = .ok (.aload_n 0, 1) := by decide +kernel
theorem dX12_init_972 : decode cX12_init 972 = .ok (.bipush 16, 2) := by decide +kernel
theorem dX12_init_974 : decode cX12_init 974 = .ok (.newarray .int, 2) := by decide +kernel
theorem dX12_init_976 : decode cX12_init 976 = .ok (.putfield 44, 3) := by decide +kernel
theorem dX12_init_979 : decode cX12_init 979 = .ok (.aload_n 0, 1) := by decide +kernel
theorem dX12_init_980 : decode cX12_init 980 = .ok (.bipush 16, 2) := by decide +kernel
theorem dX12_init_982 : decode cX12_init 982 = .ok (.newarray .int, 2) := by decide +kernel
theorem dX12_init_984 : decode cX12_init 984 = .ok (.putfield 47, 3) := by decide +kernel
theorem dX12_init_987 : decode cX12_init 987 = .ok (.aload_n 0, 1) := by decide +kernel
theorem dX12_init_988 : decode cX12_init 988 = .ok (.bipush 12, 2) := by decide +kernel
theorem dX12_init_990 : decode cX12_init 990 = .ok (.newarray .int, 2) := by decide +kernel
theorem dX12_init_992 : decode cX12_init 992 = .ok (.putfield 50, 3) := by decide +kernel
theorem dX12_init_995 : decode cX12_init 995 = .ok (.aload_n 0, 1) := by decide +kernel
theorem dX12_init_996 : decode cX12_init 996 = .ok (.iconst 4, 1) := by decide +kernel
theorem dX12_init_997 : decode cX12_init 997 = .ok (.newarray .int, 2) := by decide +kernel
theorem dX12_init_999 : decode cX12_init 999 = .ok (.dup, 1) := by decide +kernel
theorem dX12_init_1000 : decode cX12_init 1000 = .ok (.iconst 0, 1) := by decide +kernel
theorem dX12_init_1001 : decode cX12_init 1001 = .ok (.iconst (-1), 1) := by decide +kernel
theorem dX12_init_1002 : decode cX12_init 1002 = .ok (.iastore, 1) := by decide +kernel
theorem dX12_init_1003 : decode cX12_init 1003 = .ok (.dup, 1) := by decide +kernel
theorem dX12_init_1004 : decode cX12_init 1004 = .ok (.iconst 1, 1) := by decide +kernel
theorem dX12_init_1005 : decode cX12_init 1005 = .ok (.iconst (-1), 1) := by decide +kernel
theorem dX12_init_1006 : decode cX12_init 1006 = .ok (.iastore, 1) := by decide +kernel
theorem dX12_init_1007 : decode cX12_init 1007 = .ok (.dup, 1) := by decide +kernel
theorem dX12_init_1008 : decode cX12_init 1008 = .ok (.iconst 2, 1) := by decide +kernel
theorem dX12_init_1009 : decode cX12_init 1009 = .ok (.iconst (-1), 1) := by decide +kernel
theorem dX12_init_1010 : decode cX12_init 1010 = .ok (.iastore, 1) := by decide +kernel
theorem dX12_init_1011 : decode cX12_init 1011 = .ok (.dup, 1) := by decide +kernel
theorem dX12_init_1012 : decode cX12_init 1012 = .ok (.iconst 3, 1) := by decide +kernel
theorem dX12_init_1013 : decode cX12_init 1013 = .ok (.iconst (-1), 1) := by decide +kernel
theorem dX12_init_1014 : decode cX12_init 1014 = .ok (.iastore, 1) := by decide +kernel
theorem dX12_init_1015 : decode cX12_init 1015 = .ok (.putfield 53, 3) := by decide +kernel
theorem dX12_init_1018 : decode cX12_init 1018 = .ok (.aload_n 0, 1) := by decide +kernel
theorem dX12_init_1019 : decode cX12_init 1019 = .ok (.iconst 4, 1) := by decide +kernel
theorem dX12_init_1020 : decode cX12_init 1020 = .ok (.newarray .int, 2) := by decide +kernel
theorem dX12_init_1022 : decode cX12_init 1022 = .ok (.putfield 56, 3) := by decide +kernel
theorem dX12_init_1025 : decode cX12_init 1025 = .ok (.aload_n 0, 1) := by decide +kernel
theorem dX12_init_1026 : decode cX12_init 1026 = .ok (.sipush 160, 3) := by decide +kernel
theorem dX12_init_1029 : decode cX12_init 1029 = .ok (.newarray .int, 2) := by decide +kernel
theorem dX12_init_1031 : decode cX12_init 1031 = .ok (.putfield 59, 3) := by decide +kernel
theorem dX12_init_1034 : decode cX12_init 1034 = .ok (.aload_n 0, 1) := by decide +kernel
theorem dX12_init_1035 : decode cX12_init 1035 = .ok (.iconst 4, 1) := by decide +kernel
theorem dX12_init_1036 : decode cX12_init 1036 = .ok (.newarray .int, 2) := by decide +kernel
theorem dX12_init_1038 : decode cX12_init 1038 = .ok (.dup, 1) := by decide +kernel
theorem dX12_init_1039 : decode cX12_init 1039 = .ok (.iconst 0, 1) := by decide +kernel
theorem dX12_init_1040 : decode cX12_init 1040 = .ok (.iconst (-1), 1) := by decide +kernel
theorem dX12_init_1041 : decode cX12_init 1041 = .ok (.iastore, 1) := by decide +kernel
theorem dX12_init_1042 : decode cX12_init 1042 = .ok (.dup, 1) := by decide +kernel
theorem dX12_init_1043 : decode cX12_init 1043 = .ok (.iconst 1, 1) := by decide +kernel
theorem dX12_init_1044 : decode cX12_init 1044 = .ok (.iconst (-1), 1) := by decide +kernel
theorem dX12_init_1045 : decode cX12_init 1045 = .ok (.iastore, 1) := by decide +kernel
theorem dX12_init_1046 : decode cX12_init 1046 = .ok (.dup, 1) := by decide +kernel
theorem dX12_init_1047 : decode cX12_init 1047 = .ok (.iconst 2, 1) := by decide +kernel
theorem dX12_init_1048 : decode cX12_init 1048 = .ok (.iconst (-1), 1) := by decide +kernel
theorem dX12_init_1049 : decode cX12_init 1049 = .ok (.iastore, 1) := by decide +kernel
theorem dX12_init_1050 : decode cX12_init 1050 = .ok (.dup, 1) := by decide +kernel
theorem dX12_init_1051 : decode cX12_init 1051 = .ok (.iconst 3, 1) := by decide +kernel
theorem dX12_init_1052 : decode cX12_init 1052 = .ok (.iconst (-1), 1) := by decide +kernel
theorem dX12_init_1053 : decode cX12_init 1053 = .ok (.iastore, 1) := by decide +kernel
theorem dX12_init_1054 : decode cX12_init 1054 = .ok (.putfield 62, 3) := by decide +kernel
theorem dX12_init_1057 : decode cX12_init 1057 = .ok (.aload_n 0, 1) := by decide +kernel
theorem dX12_init_1058 : decode cX12_init 1058 = .ok (.iconst 4, 1) := by decide +kernel
theorem dX12_init_1059 : decode cX12_init 1059 = .ok (.newarray .int, 2) := by decide +kernel
theorem dX12_init_1061 : decode cX12_init 1061 = .ok (.putfield 65, 3) := by decide +kernel
theorem dX12_init_1064 : decode cX12_init 1064 = .ok (.aload_n 0, 1) := by decide +kernel
theorem dX12_init_1065 : decode cX12_init 1065 = .ok (.bipush 30, 2) := by decide +kernel
theorem dX12_init_1067 : decode cX12_init 1067 = .ok (.newarray .int, 2) := by decide +kernel
theorem dX12_init_1069 : decode cX12_init 1069 = .ok (.putfield 68, 3) := by decide +kernel
theorem dX12_init_1072 : decode cX12_init 1072 = .ok (.aload_n 0, 1) := by decide +kernel
theorem dX12_init_1073 : decode cX12_init 1073 = .ok (.getfield 9, 3) := by decide +kernel
theorem dX12_init_1076 : decode cX12_init 1076 = .ok (.iconst 1, 1) := by decide +kernel
theorem dX12_init_1077 : decode cX12_init 1077 = .ok (.bipush 12, 2) := by decide +kernel
theorem dX12_init_1079 : decode cX12_init 1079 = .ok (.iastore, 1) := by decide +kernel
theorem dX12_init_1080 : decode cX12_init 1080 = .ok (.aload_n 0, 1) := by decide +kernel
theorem dX12_init_1081 : decode cX12_init 1081 = .ok (.getfield 9, 3) := by decide +kernel
theorem dX12_init_1084 : decode cX12_init 1084 = .ok (.iconst 3, 1) := by decide +kernel
theorem dX12_init_1085 : decode cX12_init 1085 = .ok (.iconst 1, 1) := by decide +kernel
theorem dX12_init_1086 : decode cX12_init 1086 = .ok (.iastore, 1) := by decide +kernel
theorem dX12_init_1087 : decode cX12_init 1087 = .ok (.iconst 0, 1) := by decide +kernel
theorem dX12_init_1088 : decode cX12_init 1088 = .ok (.istore_n 1, 1) := by decide +kernel
theorem dX12_init_1089 : decode cX12_init 1089 = .ok (.iload_n 1, 1) := by decide +kernel
theorem dX12_init_1090 : decode cX12_init 1090 = .ok (.bipush 16, 2) := by decide +kernel
theorem dX12_init_1092 : decode cX12_init 1092 = .ok (.if_icmp .ge 20, 3) := by decide +kernel
theorem dX12_init_1095 : decode cX12_init 1095 = .ok (.aload_n 0, 1) := by decide +kernel
theorem dX12_init_1096 : decode cX12_init 1096 = .ok (.getfield 9, 3) := by decide +kernel
theorem dX12_init_1099 : decode cX12_init 1099 = .ok (.bipush 7, 2) := by decide +kernel
theorem dX12_init_1101 : decode cX12_init 1101 = .ok (.iload_n 1, 1) := by decide +kernel
theorem dX12_init_1102 : decode cX12_init 1102 = .ok (.iadd, 1) := by decide +kernel
theorem dX12_init_1103 : decode cX12_init 1103 = .ok (.bipush 6, 2) := by decide +kernel
theorem dX12_init_1105 : decode cX12_init 1105 = .ok (.iastore, 1) := by decide +kernel
theorem dX12_init_1106 : decode cX12_init 1106 = .ok (.iinc 1 1, 3) := by decide +kernel
theorem dX12_init_1109 : decode cX12_init 1109 = .ok (.goto (-20), 3) := by decide +kernel
theorem dX12_init_1112 : decode cX12_init 1112 = .ok (.return_, 1) := by decide +kernel
theorem k_X12_init : MI yX12_init cX12_init 2 0 := ⟨q_1094, q_14, q_1095, rfl, ⟨by decide, by decide, by decide +kernel⟩⟩
def s0 : Nat → Int32 := (upd (upd (upd (upd (upd (upd (upd (upd (upd (upd (upd (upd (upd (upd (upd (upd (upd (upd (fun _ => 0) 1 (12)) 3 (1)) 7 6) 8 6) 9 6) 10 6) 11 6) 12 6) 13 6) 14 6) 15 6) 16 6) 17 6) 18 6) 19 6) 20 6) 21 6) 22 6)
/-- the reference's world, new -/
def mW0 (a : Nat → Nat) (t : Nat → ClassId) : va_W := mW a t s0 (fun _ => 0) (fun _ => 0) 0 (fun _ => 0) (fun _ => 0) 0 ltr 0 0 0 0 0 0 (fun _ => 0) (fun _ => 0) (fun _ => 0) (fun _ => 0) (fun _ => 0) 0 0 0 0 (fun _ => 0) (fun _ => 0) 0 (fun _ => 0) 0 so0 (fun _ => 0) (fun _ => 0) so0 (fun _ => 0) (fun _ => 0) 0 0 0
section MSQ
variable {l : Launch} {D : va_G} {t : Nat → ClassId} {ws : va_W}
theorem c_X12_init {q0 : Nat} : MC l E0 D t yX12_init cX12_init 2 none 1 20 2042 [.ref q0] [(q0, .inr (12, [.null, .null, .null, .int 0, .null, .null, .int 0, .null, .int 0, .int 0, .int 0, .int 0, .int 0, .int 0, .null, .null, .null, .null, .null, .int 0, .int 0, .int 0, .int 0, .null, .null, .int 0, .null, .int 0, .null, .null, .null, .null, .null, .null, .int 0, .int 0, .int 0]))] (fun v ws' => v = none ∧ ∃ a : Nat → Nat, a 0 = q0 ∧ ws' = mW0 a t) := by
  refine MC.ofV pn_X12 (Nat.le_of_ble_eq_true rfl) ?_
  intro p e s m args below meth c A Q ls cx hR hw hl
  have hx := cx.1
  have hb := cx.2.1
  have hl : lv_has ls 2 [(0, .ref q0)] := hl
  refine lv_aload_n hx hb dX12_init_0 rfl (lv_at hl 0 rfl) ?_
  refine W.objInit hx hb cx.2.2.2.1 (cx.2.2.2.2.1 _ q_1096) (cx.2.2.2.2.1 _ q_28) (cx.2.2.2.2.1 _ q_29) rfl (hl.1.trans cx.2.2.1.symm) rfl dX12_init_1 (Nat.le_of_ble_eq_true rfl) (Nat.le_of_ble_eq_true rfl) ?_
  refine W.eq (g2 := F0 m 4 ls []) rfl ?_
  refine lv_aload_n hx hb dX12_init_4 rfl (lv_at hl 0 rfl) ?_
  refine lv_sipush (v := (313)) hx hb dX12_init_5 (by decide) ?_
  refine newI cx hw (by decide) (N := 313) (by decide) (by omega) (Nat.le_of_ble_eq_true rfl) (Nat.le_of_ble_eq_true rfl) dX12_init_8 (fun q11 H hw => ?_)
  have hw : Wd D A s ([(q0, .inr (12, [.null, .null, .null, .int 0, .null, .null, .int 0, .null, .int 0, .int 0, .int 0, .int 0, .int 0, .int 0, .null, .null, .null, .null, .null, .int 0, .int 0, .int 0, .int 0, .null, .null, .int 0, .null, .int 0, .null, .null, .null, .null, .null, .null, .int 0, .int 0, .int 0])), (q11, .inl (t 0, 313, .inl (fun _ => 0)))]) H [] := hw
  refine va_putF (ref := "DialSquareModel") (C := RX12) (T := TX12) (N := 37) (ci := 12) cx.1 cx.2.1 cx.2.2.2.2.1 lay_12 tyX12 tyX12_ok nmX12 cx.2.2.2.1 cx.2.2.2.2.2.1.1 hw.1 hw.2.1 hw.2.2 0 rfl rfl 0 (by decide) (cx.2.2.2.2.1 _ q_1097) (fun _ h => h) rfl cx.2.2.2.2.2.2.2.2.2 rfl rfl rfl rfl (Nat.le_of_ble_eq_true rfl) dX12_init_10 (fun H l1 hP hD hS => ?_)
  have hw : Wd D A s ([(q0, .inr (12, [.ref q11, .null, .null, .int 0, .null, .null, .int 0, .null, .int 0, .int 0, .int 0, .int 0, .int 0, .int 0, .null, .null, .null, .null, .null, .int 0, .int 0, .int 0, .int 0, .null, .null, .int 0, .null, .int 0, .null, .null, .null, .null, .null, .null, .int 0, .int 0, .int 0])), (q11, .inl (t 0, 313, .inl (fun _ => 0)))]) H l1 := ⟨hP, hD, hS⟩
  refine lv_aload_n hx hb dX12_init_13 rfl (lv_at hl 0 rfl) ?_
  refine lv_sipush (v := (313)) hx hb dX12_init_14 (by decide) ?_
  refine newI cx hw (by decide) (N := 313) (by decide) (by omega) (Nat.le_of_ble_eq_true rfl) (Nat.le_of_ble_eq_true rfl) dX12_init_17 (fun q12 H hw => ?_)
  have hw : Wd D A s ([(q0, .inr (12, [.ref q11, .null, .null, .int 0, .null, .null, .int 0, .null, .int 0, .int 0, .int 0, .int 0, .int 0, .int 0, .null, .null, .null, .null, .null, .int 0, .int 0, .int 0, .int 0, .null, .null, .int 0, .null, .int 0, .null, .null, .null, .null, .null, .null, .int 0, .int 0, .int 0])), (q11, .inl (t 0, 313, .inl (fun _ => 0))), (q12, .inl (t 0, 313, .inl (fun _ => 0)))]) H l1 := hw
  refine va_putF (ref := "DialSquareModel") (C := RX12) (T := TX12) (N := 37) (ci := 12) cx.1 cx.2.1 cx.2.2.2.2.1 lay_12 tyX12 tyX12_ok nmX12 cx.2.2.2.1 cx.2.2.2.2.2.1.1 hw.1 hw.2.1 hw.2.2 0 rfl rfl 1 (by decide) (cx.2.2.2.2.1 _ q_1098) (fun _ h => h) rfl cx.2.2.2.2.2.2.2.2.2 rfl rfl rfl rfl (Nat.le_of_ble_eq_true rfl) dX12_init_19 (fun H l1 hP hD hS => ?_)
  have hw : Wd D A s ([(q0, .inr (12, [.ref q11, .ref q12, .null, .int 0, .null, .null, .int 0, .null, .int 0, .int 0, .int 0, .int 0, .int 0, .int 0, .null, .null, .null, .null, .null, .int 0, .int 0, .int 0, .int 0, .null, .null, .int 0, .null, .int 0, .null, .null, .null, .null, .null, .null, .int 0, .int 0, .int 0])), (q11, .inl (t 0, 313, .inl (fun _ => 0))), (q12, .inl (t 0, 313, .inl (fun _ => 0)))]) H l1 := ⟨hP, hD, hS⟩
  refine lv_aload_n hx hb dX12_init_22 rfl (lv_at hl 0 rfl) ?_
  refine lv_bipush (v := (65)) hx hb dX12_init_23 (by decide) ?_
  refine newI cx hw (by decide) (N := 65) (by decide) (by omega) (Nat.le_of_ble_eq_true rfl) (Nat.le_of_ble_eq_true rfl) dX12_init_25 (fun q13 H hw => ?_)
  have hw : Wd D A s ([(q0, .inr (12, [.ref q11, .ref q12, .null, .int 0, .null, .null, .int 0, .null, .int 0, .int 0, .int 0, .int 0, .int 0, .int 0, .null, .null, .null, .null, .null, .int 0, .int 0, .int 0, .int 0, .null, .null, .int 0, .null, .int 0, .null, .null, .null, .null, .null, .null, .int 0, .int 0, .int 0])), (q11, .inl (t 0, 313, .inl (fun _ => 0))), (q12, .inl (t 0, 313, .inl (fun _ => 0))), (q13, .inl (t 0, 65, .inl (fun _ => 0)))]) H l1 := hw
  refine va_putF (ref := "DialSquareModel") (C := RX12) (T := TX12) (N := 37) (ci := 12) cx.1 cx.2.1 cx.2.2.2.2.1 lay_12 tyX12 tyX12_ok nmX12 cx.2.2.2.1 cx.2.2.2.2.2.1.1 hw.1 hw.2.1 hw.2.2 0 rfl rfl 2 (by decide) (cx.2.2.2.2.1 _ q_1099) (fun _ h => h) rfl cx.2.2.2.2.2.2.2.2.2 rfl rfl rfl rfl (Nat.le_of_ble_eq_true rfl) dX12_init_27 (fun H l1 hP hD hS => ?_)
  have hw : Wd D A s ([(q0, .inr (12, [.ref q11, .ref q12, .ref q13, .int 0, .null, .null, .int 0, .null, .int 0, .int 0, .int 0, .int 0, .int 0, .int 0, .null, .null, .null, .null, .null, .int 0, .int 0, .int 0, .int 0, .null, .null, .int 0, .null, .int 0, .null, .null, .null, .null, .null, .null, .int 0, .int 0, .int 0])), (q11, .inl (t 0, 313, .inl (fun _ => 0))), (q12, .inl (t 0, 313, .inl (fun _ => 0))), (q13, .inl (t 0, 65, .inl (fun _ => 0)))]) H l1 := ⟨hP, hD, hS⟩
  refine lv_aload_n hx hb dX12_init_30 rfl (lv_at hl 0 rfl) ?_
  refine lv_sipush (v := (200)) hx hb dX12_init_31 (by decide) ?_
  refine newI cx hw (by decide) (N := 200) (by decide) (by omega) (Nat.le_of_ble_eq_true rfl) (Nat.le_of_ble_eq_true rfl) dX12_init_34 (fun q14 H hw => ?_)
  have hw : Wd D A s ([(q0, .inr (12, [.ref q11, .ref q12, .ref q13, .int 0, .null, .null, .int 0, .null, .int 0, .int 0, .int 0, .int 0, .int 0, .int 0, .null, .null, .null, .null, .null, .int 0, .int 0, .int 0, .int 0, .null, .null, .int 0, .null, .int 0, .null, .null, .null, .null, .null, .null, .int 0, .int 0, .int 0])), (q11, .inl (t 0, 313, .inl (fun _ => 0))), (q12, .inl (t 0, 313, .inl (fun _ => 0))), (q13, .inl (t 0, 65, .inl (fun _ => 0))), (q14, .inl (t 0, 200, .inl (fun _ => 0)))]) H l1 := hw
  refine va_putF (ref := "DialSquareModel") (C := RX12) (T := TX12) (N := 37) (ci := 12) cx.1 cx.2.1 cx.2.2.2.2.1 lay_12 tyX12 tyX12_ok nmX12 cx.2.2.2.1 cx.2.2.2.2.2.1.1 hw.1 hw.2.1 hw.2.2 0 rfl rfl 4 (by decide) (cx.2.2.2.2.1 _ q_1101) (fun _ h => h) rfl cx.2.2.2.2.2.2.2.2.2 rfl rfl rfl rfl (Nat.le_of_ble_eq_true rfl) dX12_init_36 (fun H l1 hP hD hS => ?_)
  have hw : Wd D A s ([(q0, .inr (12, [.ref q11, .ref q12, .ref q13, .int 0, .ref q14, .null, .int 0, .null, .int 0, .int 0, .int 0, .int 0, .int 0, .int 0, .null, .null, .null, .null, .null, .int 0, .int 0, .int 0, .int 0, .null, .null, .int 0, .null, .int 0, .null, .null, .null, .null, .null, .null, .int 0, .int 0, .int 0])), (q11, .inl (t 0, 313, .inl (fun _ => 0))), (q12, .inl (t 0, 313, .inl (fun _ => 0))), (q13, .inl (t 0, 65, .inl (fun _ => 0))), (q14, .inl (t 0, 200, .inl (fun _ => 0)))]) H l1 := ⟨hP, hD, hS⟩
  refine lv_aload_n hx hb dX12_init_39 rfl (lv_at hl 0 rfl) ?_
  refine lv_sipush (v := (200)) hx hb dX12_init_40 (by decide) ?_
  refine newI cx hw (by decide) (N := 200) (by decide) (by omega) (Nat.le_of_ble_eq_true rfl) (Nat.le_of_ble_eq_true rfl) dX12_init_43 (fun q15 H hw => ?_)
  have hw : Wd D A s ([(q0, .inr (12, [.ref q11, .ref q12, .ref q13, .int 0, .ref q14, .null, .int 0, .null, .int 0, .int 0, .int 0, .int 0, .int 0, .int 0, .null, .null, .null, .null, .null, .int 0, .int 0, .int 0, .int 0, .null, .null, .int 0, .null, .int 0, .null, .null, .null, .null, .null, .null, .int 0, .int 0, .int 0])), (q11, .inl (t 0, 313, .inl (fun _ => 0))), (q12, .inl (t 0, 313, .inl (fun _ => 0))), (q13, .inl (t 0, 65, .inl (fun _ => 0))), (q14, .inl (t 0, 200, .inl (fun _ => 0))), (q15, .inl (t 0, 200, .inl (fun _ => 0)))]) H l1 := hw
  refine va_putF (ref := "DialSquareModel") (C := RX12) (T := TX12) (N := 37) (ci := 12) cx.1 cx.2.1 cx.2.2.2.2.1 lay_12 tyX12 tyX12_ok nmX12 cx.2.2.2.1 cx.2.2.2.2.2.1.1 hw.1 hw.2.1 hw.2.2 0 rfl rfl 5 (by decide) (cx.2.2.2.2.1 _ q_1102) (fun _ h => h) rfl cx.2.2.2.2.2.2.2.2.2 rfl rfl rfl rfl (Nat.le_of_ble_eq_true rfl) dX12_init_45 (fun H l1 hP hD hS => ?_)
  have hw : Wd D A s ([(q0, .inr (12, [.ref q11, .ref q12, .ref q13, .int 0, .ref q14, .ref q15, .int 0, .null, .int 0, .int 0, .int 0, .int 0, .int 0, .int 0, .null, .null, .null, .null, .null, .int 0, .int 0, .int 0, .int 0, .null, .null, .int 0, .null, .int 0, .null, .null, .null, .null, .null, .null, .int 0, .int 0, .int 0])), (q11, .inl (t 0, 313, .inl (fun _ => 0))), (q12, .inl (t 0, 313, .inl (fun _ => 0))), (q13, .inl (t 0, 65, .inl (fun _ => 0))), (q14, .inl (t 0, 200, .inl (fun _ => 0))), (q15, .inl (t 0, 200, .inl (fun _ => 0)))]) H l1 := ⟨hP, hD, hS⟩
  refine lv_aload_n hx hb dX12_init_48 rfl (lv_at hl 0 rfl) ?_
  refine lv_sipush (v := (144)) hx hb dX12_init_49 (by decide) ?_
  refine newC cx hw (by decide) (N := 144) (by decide) (by omega) (Nat.le_of_ble_eq_true rfl) (Nat.le_of_ble_eq_true rfl) dX12_init_52 (fun q16 H hw => ?_)
  have hw : Wd D A s ([(q0, .inr (12, [.ref q11, .ref q12, .ref q13, .int 0, .ref q14, .ref q15, .int 0, .null, .int 0, .int 0, .int 0, .int 0, .int 0, .int 0, .null, .null, .null, .null, .null, .int 0, .int 0, .int 0, .int 0, .null, .null, .int 0, .null, .int 0, .null, .null, .null, .null, .null, .null, .int 0, .int 0, .int 0])), (q11, .inl (t 0, 313, .inl (fun _ => 0))), (q12, .inl (t 0, 313, .inl (fun _ => 0))), (q13, .inl (t 0, 65, .inl (fun _ => 0))), (q14, .inl (t 0, 200, .inl (fun _ => 0))), (q15, .inl (t 0, 200, .inl (fun _ => 0)))] ++ [(q16, .inl (t 2, 144, .inl (lf 0)))]) H l1 := by rw [lf_0] at hw; exact hw
  refine lv_dup hx hb dX12_init_54 rfl ?_
  refine lv_iconst (v := (0)) hx hb dX12_init_55 (by decide) ?_
  refine lv_bipush (v := (100)) hx hb dX12_init_56 (by decide) ?_
  refine castL (k := 0) (k2 := 1) cx hw (by decide) rfl (by decide) (by decide) (by decide +kernel) dX12_init_58 (fun H locs hw => ?_)
  refine lv_dup hx hb dX12_init_59 rfl ?_
  refine lv_iconst (v := (1)) hx hb dX12_init_60 (by decide) ?_
  refine lv_bipush (v := (105)) hx hb dX12_init_61 (by decide) ?_
  refine castL (k := 1) (k2 := 2) cx hw (by decide) rfl (by decide) (by decide) (by decide +kernel) dX12_init_63 (fun H locs hw => ?_)
  refine lv_dup hx hb dX12_init_64 rfl ?_
  refine lv_iconst (v := (2)) hx hb dX12_init_65 (by decide) ?_
  refine lv_bipush (v := (97)) hx hb dX12_init_66 (by decide) ?_
  refine castL (k := 2) (k2 := 3) cx hw (by decide) rfl (by decide) (by decide) (by decide +kernel) dX12_init_68 (fun H locs hw => ?_)
  refine lv_dup hx hb dX12_init_69 rfl ?_
  refine lv_iconst (v := (3)) hx hb dX12_init_70 (by decide) ?_
  refine lv_bipush (v := (108)) hx hb dX12_init_71 (by decide) ?_
  refine castL (k := 3) (k2 := 4) cx hw (by decide) rfl (by decide) (by decide) (by decide +kernel) dX12_init_73 (fun H locs hw => ?_)
  refine lv_dup hx hb dX12_init_74 rfl ?_
  refine lv_iconst (v := (4)) hx hb dX12_init_75 (by decide) ?_
  refine lv_bipush (v := (32)) hx hb dX12_init_76 (by decide) ?_
  refine castL (k := 4) (k2 := 5) cx hw (by decide) rfl (by decide) (by decide) (by decide +kernel) dX12_init_78 (fun H locs hw => ?_)
  refine lv_dup hx hb dX12_init_79 rfl ?_
  refine lv_iconst (v := (5)) hx hb dX12_init_80 (by decide) ?_
  refine lv_bipush (v := (32)) hx hb dX12_init_81 (by decide) ?_
  refine castL (k := 5) (k2 := 6) cx hw (by decide) rfl (by decide) (by decide) (by decide +kernel) dX12_init_83 (fun H locs hw => ?_)
  refine lv_dup hx hb dX12_init_84 rfl ?_
  refine lv_bipush (v := (6)) hx hb dX12_init_85 (by decide) ?_
  refine lv_bipush (v := (32)) hx hb dX12_init_87 (by decide) ?_
  refine castL (k := 6) (k2 := 7) cx hw (by decide) rfl (by decide) (by decide) (by decide +kernel) dX12_init_89 (fun H locs hw => ?_)
  refine lv_dup hx hb dX12_init_90 rfl ?_
  refine lv_bipush (v := (7)) hx hb dX12_init_91 (by decide) ?_
  refine lv_bipush (v := (32)) hx hb dX12_init_93 (by decide) ?_
  refine castL (k := 7) (k2 := 8) cx hw (by decide) rfl (by decide) (by decide) (by decide +kernel) dX12_init_95 (fun H locs hw => ?_)
  refine lv_dup hx hb dX12_init_96 rfl ?_
  refine lv_bipush (v := (8)) hx hb dX12_init_97 (by decide) ?_
  refine lv_bipush (v := (110)) hx hb dX12_init_99 (by decide) ?_
  refine castL (k := 8) (k2 := 9) cx hw (by decide) rfl (by decide) (by decide) (by decide +kernel) dX12_init_101 (fun H locs hw => ?_)
  refine lv_dup hx hb dX12_init_102 rfl ?_
  refine lv_bipush (v := (9)) hx hb dX12_init_103 (by decide) ?_
  refine lv_bipush (v := (111)) hx hb dX12_init_105 (by decide) ?_
  refine castL (k := 9) (k2 := 10) cx hw (by decide) rfl (by decide) (by decide) (by decide +kernel) dX12_init_107 (fun H locs hw => ?_)
  refine lv_dup hx hb dX12_init_108 rfl ?_
  refine lv_bipush (v := (10)) hx hb dX12_init_109 (by decide) ?_
  refine lv_bipush (v := (111)) hx hb dX12_init_111 (by decide) ?_
  refine castL (k := 10) (k2 := 11) cx hw (by decide) rfl (by decide) (by decide) (by decide +kernel) dX12_init_113 (fun H locs hw => ?_)
  refine lv_dup hx hb dX12_init_114 rfl ?_
  refine lv_bipush (v := (11)) hx hb dX12_init_115 (by decide) ?_
  refine lv_bipush (v := (110)) hx hb dX12_init_117 (by decide) ?_
  refine castL (k := 11) (k2 := 12) cx hw (by decide) rfl (by decide) (by decide) (by decide +kernel) dX12_init_119 (fun H locs hw => ?_)
  refine lv_dup hx hb dX12_init_120 rfl ?_
  refine lv_bipush (v := (12)) hx hb dX12_init_121 (by decide) ?_
  refine lv_bipush (v := (32)) hx hb dX12_init_123 (by decide) ?_
  refine castL (k := 12) (k2 := 13) cx hw (by decide) rfl (by decide) (by decide) (by decide +kernel) dX12_init_125 (fun H locs hw => ?_)
  refine lv_dup hx hb dX12_init_126 rfl ?_
  refine lv_bipush (v := (13)) hx hb dX12_init_127 (by decide) ?_
  refine lv_bipush (v := (32)) hx hb dX12_init_129 (by decide) ?_
  refine castL (k := 13) (k2 := 14) cx hw (by decide) rfl (by decide) (by decide) (by decide +kernel) dX12_init_131 (fun H locs hw => ?_)
  refine lv_dup hx hb dX12_init_132 rfl ?_
  refine lv_bipush (v := (14)) hx hb dX12_init_133 (by decide) ?_
  refine lv_bipush (v := (32)) hx hb dX12_init_135 (by decide) ?_
  refine castL (k := 14) (k2 := 15) cx hw (by decide) rfl (by decide) (by decide) (by decide +kernel) dX12_init_137 (fun H locs hw => ?_)
  refine lv_dup hx hb dX12_init_138 rfl ?_
  refine lv_bipush (v := (15)) hx hb dX12_init_139 (by decide) ?_
  refine lv_bipush (v := (32)) hx hb dX12_init_141 (by decide) ?_
  refine castL (k := 15) (k2 := 16) cx hw (by decide) rfl (by decide) (by decide) (by decide +kernel) dX12_init_143 (fun H locs hw => ?_)
  refine lv_dup hx hb dX12_init_144 rfl ?_
  refine lv_bipush (v := (16)) hx hb dX12_init_145 (by decide) ?_
  refine lv_bipush (v := (116)) hx hb dX12_init_147 (by decide) ?_
  refine castL (k := 16) (k2 := 17) cx hw (by decide) rfl (by decide) (by decide) (by decide +kernel) dX12_init_149 (fun H locs hw => ?_)
  refine lv_dup hx hb dX12_init_150 rfl ?_
  refine lv_bipush (v := (17)) hx hb dX12_init_151 (by decide) ?_
  refine lv_bipush (v := (97)) hx hb dX12_init_153 (by decide) ?_
  refine castL (k := 17) (k2 := 18) cx hw (by decide) rfl (by decide) (by decide) (by decide +kernel) dX12_init_155 (fun H locs hw => ?_)
  refine lv_dup hx hb dX12_init_156 rfl ?_
  refine lv_bipush (v := (18)) hx hb dX12_init_157 (by decide) ?_
  refine lv_bipush (v := (108)) hx hb dX12_init_159 (by decide) ?_
  refine castL (k := 18) (k2 := 19) cx hw (by decide) rfl (by decide) (by decide) (by decide +kernel) dX12_init_161 (fun H locs hw => ?_)
  refine lv_dup hx hb dX12_init_162 rfl ?_
  refine lv_bipush (v := (19)) hx hb dX12_init_163 (by decide) ?_
  refine lv_bipush (v := (108)) hx hb dX12_init_165 (by decide) ?_
  refine castL (k := 19) (k2 := 20) cx hw (by decide) rfl (by decide) (by decide) (by decide +kernel) dX12_init_167 (fun H locs hw => ?_)
  refine lv_dup hx hb dX12_init_168 rfl ?_
  refine lv_bipush (v := (20)) hx hb dX12_init_169 (by decide) ?_
  refine lv_bipush (v := (32)) hx hb dX12_init_171 (by decide) ?_
  refine castL (k := 20) (k2 := 21) cx hw (by decide) rfl (by decide) (by decide) (by decide +kernel) dX12_init_173 (fun H locs hw => ?_)
  refine lv_dup hx hb dX12_init_174 rfl ?_
  refine lv_bipush (v := (21)) hx hb dX12_init_175 (by decide) ?_
  refine lv_bipush (v := (32)) hx hb dX12_init_177 (by decide) ?_
  refine castL (k := 21) (k2 := 22) cx hw (by decide) rfl (by decide) (by decide) (by decide +kernel) dX12_init_179 (fun H locs hw => ?_)
  refine lv_dup hx hb dX12_init_180 rfl ?_
  refine lv_bipush (v := (22)) hx hb dX12_init_181 (by decide) ?_
  refine lv_bipush (v := (32)) hx hb dX12_init_183 (by decide) ?_
  refine castL (k := 22) (k2 := 23) cx hw (by decide) rfl (by decide) (by decide) (by decide +kernel) dX12_init_185 (fun H locs hw => ?_)
  refine lv_dup hx hb dX12_init_186 rfl ?_
  refine lv_bipush (v := (23)) hx hb dX12_init_187 (by decide) ?_
  refine lv_bipush (v := (32)) hx hb dX12_init_189 (by decide) ?_
  refine castL (k := 23) (k2 := 24) cx hw (by decide) rfl (by decide) (by decide) (by decide +kernel) dX12_init_191 (fun H locs hw => ?_)
  refine lv_dup hx hb dX12_init_192 rfl ?_
  refine lv_bipush (v := (24)) hx hb dX12_init_193 (by decide) ?_
  refine lv_bipush (v := (103)) hx hb dX12_init_195 (by decide) ?_
  refine castL (k := 24) (k2 := 25) cx hw (by decide) rfl (by decide) (by decide) (by decide +kernel) dX12_init_197 (fun H locs hw => ?_)
  refine lv_dup hx hb dX12_init_198 rfl ?_
  refine lv_bipush (v := (25)) hx hb dX12_init_199 (by decide) ?_
  refine lv_bipush (v := (117)) hx hb dX12_init_201 (by decide) ?_
  refine castL (k := 25) (k2 := 26) cx hw (by decide) rfl (by decide) (by decide) (by decide +kernel) dX12_init_203 (fun H locs hw => ?_)
  refine lv_dup hx hb dX12_init_204 rfl ?_
  refine lv_bipush (v := (26)) hx hb dX12_init_205 (by decide) ?_
  refine lv_bipush (v := (105)) hx hb dX12_init_207 (by decide) ?_
  refine castL (k := 26) (k2 := 27) cx hw (by decide) rfl (by decide) (by decide) (by decide +kernel) dX12_init_209 (fun H locs hw => ?_)
  refine lv_dup hx hb dX12_init_210 rfl ?_
  refine lv_bipush (v := (27)) hx hb dX12_init_211 (by decide) ?_
  refine lv_bipush (v := (108)) hx hb dX12_init_213 (by decide) ?_
  refine castL (k := 27) (k2 := 28) cx hw (by decide) rfl (by decide) (by decide) (by decide +kernel) dX12_init_215 (fun H locs hw => ?_)
  refine lv_dup hx hb dX12_init_216 rfl ?_
  refine lv_bipush (v := (28)) hx hb dX12_init_217 (by decide) ?_
  refine lv_bipush (v := (100)) hx hb dX12_init_219 (by decide) ?_
  refine castL (k := 28) (k2 := 29) cx hw (by decide) rfl (by decide) (by decide) (by decide +kernel) dX12_init_221 (fun H locs hw => ?_)
  refine lv_dup hx hb dX12_init_222 rfl ?_
  refine lv_bipush (v := (29)) hx hb dX12_init_223 (by decide) ?_
  refine lv_bipush (v := (32)) hx hb dX12_init_225 (by decide) ?_
  refine castL (k := 29) (k2 := 30) cx hw (by decide) rfl (by decide) (by decide) (by decide +kernel) dX12_init_227 (fun H locs hw => ?_)
  refine lv_dup hx hb dX12_init_228 rfl ?_
  refine lv_bipush (v := (30)) hx hb dX12_init_229 (by decide) ?_
  refine lv_bipush (v := (32)) hx hb dX12_init_231 (by decide) ?_
  refine castL (k := 30) (k2 := 31) cx hw (by decide) rfl (by decide) (by decide) (by decide +kernel) dX12_init_233 (fun H locs hw => ?_)
  refine lv_dup hx hb dX12_init_234 rfl ?_
  refine lv_bipush (v := (31)) hx hb dX12_init_235 (by decide) ?_
  refine lv_bipush (v := (32)) hx hb dX12_init_237 (by decide) ?_
  refine castL (k := 31) (k2 := 32) cx hw (by decide) rfl (by decide) (by decide) (by decide +kernel) dX12_init_239 (fun H locs hw => ?_)
  refine lv_dup hx hb dX12_init_240 rfl ?_
  refine lv_bipush (v := (32)) hx hb dX12_init_241 (by decide) ?_
  refine lv_bipush (v := (108)) hx hb dX12_init_243 (by decide) ?_
  refine castL (k := 32) (k2 := 33) cx hw (by decide) rfl (by decide) (by decide) (by decide +kernel) dX12_init_245 (fun H locs hw => ?_)
  refine lv_dup hx hb dX12_init_246 rfl ?_
  refine lv_bipush (v := (33)) hx hb dX12_init_247 (by decide) ?_
  refine lv_bipush (v := (111)) hx hb dX12_init_249 (by decide) ?_
  refine castL (k := 33) (k2 := 34) cx hw (by decide) rfl (by decide) (by decide) (by decide +kernel) dX12_init_251 (fun H locs hw => ?_)
  refine lv_dup hx hb dX12_init_252 rfl ?_
  refine lv_bipush (v := (34)) hx hb dX12_init_253 (by decide) ?_
  refine lv_bipush (v := (119)) hx hb dX12_init_255 (by decide) ?_
  refine castL (k := 34) (k2 := 35) cx hw (by decide) rfl (by decide) (by decide) (by decide +kernel) dX12_init_257 (fun H locs hw => ?_)
  refine lv_dup hx hb dX12_init_258 rfl ?_
  refine lv_bipush (v := (35)) hx hb dX12_init_259 (by decide) ?_
  refine lv_bipush (v := (32)) hx hb dX12_init_261 (by decide) ?_
  refine castL (k := 35) (k2 := 36) cx hw (by decide) rfl (by decide) (by decide) (by decide +kernel) dX12_init_263 (fun H locs hw => ?_)
  refine lv_dup hx hb dX12_init_264 rfl ?_
  refine lv_bipush (v := (36)) hx hb dX12_init_265 (by decide) ?_
  refine lv_bipush (v := (32)) hx hb dX12_init_267 (by decide) ?_
  refine castL (k := 36) (k2 := 37) cx hw (by decide) rfl (by decide) (by decide) (by decide +kernel) dX12_init_269 (fun H locs hw => ?_)
  refine lv_dup hx hb dX12_init_270 rfl ?_
  refine lv_bipush (v := (37)) hx hb dX12_init_271 (by decide) ?_
  refine lv_bipush (v := (32)) hx hb dX12_init_273 (by decide) ?_
  refine castL (k := 37) (k2 := 38) cx hw (by decide) rfl (by decide) (by decide) (by decide +kernel) dX12_init_275 (fun H locs hw => ?_)
  refine lv_dup hx hb dX12_init_276 rfl ?_
  refine lv_bipush (v := (38)) hx hb dX12_init_277 (by decide) ?_
  refine lv_bipush (v := (32)) hx hb dX12_init_279 (by decide) ?_
  refine castL (k := 38) (k2 := 39) cx hw (by decide) rfl (by decide) (by decide) (by decide +kernel) dX12_init_281 (fun H locs hw => ?_)
  refine lv_dup hx hb dX12_init_282 rfl ?_
  refine lv_bipush (v := (39)) hx hb dX12_init_283 (by decide) ?_
  refine lv_bipush (v := (32)) hx hb dX12_init_285 (by decide) ?_
  refine castL (k := 39) (k2 := 40) cx hw (by decide) rfl (by decide) (by decide) (by decide +kernel) dX12_init_287 (fun H locs hw => ?_)
  refine lv_dup hx hb dX12_init_288 rfl ?_
  refine lv_bipush (v := (40)) hx hb dX12_init_289 (by decide) ?_
  refine lv_bipush (v := (115)) hx hb dX12_init_291 (by decide) ?_
  refine castL (k := 40) (k2 := 41) cx hw (by decide) rfl (by decide) (by decide) (by decide +kernel) dX12_init_293 (fun H locs hw => ?_)
  refine lv_dup hx hb dX12_init_294 rfl ?_
  refine lv_bipush (v := (41)) hx hb dX12_init_295 (by decide) ?_
  refine lv_bipush (v := (108)) hx hb dX12_init_297 (by decide) ?_
  refine castL (k := 41) (k2 := 42) cx hw (by decide) rfl (by decide) (by decide) (by decide +kernel) dX12_init_299 (fun H locs hw => ?_)
  refine lv_dup hx hb dX12_init_300 rfl ?_
  refine lv_bipush (v := (42)) hx hb dX12_init_301 (by decide) ?_
  refine lv_bipush (v := (105)) hx hb dX12_init_303 (by decide) ?_
  refine castL (k := 42) (k2 := 43) cx hw (by decide) rfl (by decide) (by decide) (by decide +kernel) dX12_init_305 (fun H locs hw => ?_)
  refine lv_dup hx hb dX12_init_306 rfl ?_
  refine lv_bipush (v := (43)) hx hb dX12_init_307 (by decide) ?_
  refine lv_bipush (v := (116)) hx hb dX12_init_309 (by decide) ?_
  refine castL (k := 43) (k2 := 44) cx hw (by decide) rfl (by decide) (by decide) (by decide +kernel) dX12_init_311 (fun H locs hw => ?_)
  refine lv_dup hx hb dX12_init_312 rfl ?_
  refine lv_bipush (v := (44)) hx hb dX12_init_313 (by decide) ?_
  refine lv_bipush (v := (32)) hx hb dX12_init_315 (by decide) ?_
  refine castL (k := 44) (k2 := 45) cx hw (by decide) rfl (by decide) (by decide) (by decide +kernel) dX12_init_317 (fun H locs hw => ?_)
  refine lv_dup hx hb dX12_init_318 rfl ?_
  refine lv_bipush (v := (45)) hx hb dX12_init_319 (by decide) ?_
  refine lv_bipush (v := (32)) hx hb dX12_init_321 (by decide) ?_
  refine castL (k := 45) (k2 := 46) cx hw (by decide) rfl (by decide) (by decide) (by decide +kernel) dX12_init_323 (fun H locs hw => ?_)
  refine lv_dup hx hb dX12_init_324 rfl ?_
  refine lv_bipush (v := (46)) hx hb dX12_init_325 (by decide) ?_
  refine lv_bipush (v := (32)) hx hb dX12_init_327 (by decide) ?_
  refine castL (k := 46) (k2 := 47) cx hw (by decide) rfl (by decide) (by decide) (by decide +kernel) dX12_init_329 (fun H locs hw => ?_)
  refine lv_dup hx hb dX12_init_330 rfl ?_
  refine lv_bipush (v := (47)) hx hb dX12_init_331 (by decide) ?_
  refine lv_bipush (v := (32)) hx hb dX12_init_333 (by decide) ?_
  refine castL (k := 47) (k2 := 48) cx hw (by decide) rfl (by decide) (by decide) (by decide +kernel) dX12_init_335 (fun H locs hw => ?_)
  refine lv_dup hx hb dX12_init_336 rfl ?_
  refine lv_bipush (v := (48)) hx hb dX12_init_337 (by decide) ?_
  refine lv_bipush (v := (115)) hx hb dX12_init_339 (by decide) ?_
  refine castL (k := 48) (k2 := 49) cx hw (by decide) rfl (by decide) (by decide) (by decide +kernel) dX12_init_341 (fun H locs hw => ?_)
  refine lv_dup hx hb dX12_init_342 rfl ?_
  refine lv_bipush (v := (49)) hx hb dX12_init_343 (by decide) ?_
  refine lv_bipush (v := (101)) hx hb dX12_init_345 (by decide) ?_
  refine castL (k := 49) (k2 := 50) cx hw (by decide) rfl (by decide) (by decide) (by decide +kernel) dX12_init_347 (fun H locs hw => ?_)
  refine lv_dup hx hb dX12_init_348 rfl ?_
  refine lv_bipush (v := (50)) hx hb dX12_init_349 (by decide) ?_
  refine lv_bipush (v := (116)) hx hb dX12_init_351 (by decide) ?_
  refine castL (k := 50) (k2 := 51) cx hw (by decide) rfl (by decide) (by decide) (by decide +kernel) dX12_init_353 (fun H locs hw => ?_)
  refine lv_dup hx hb dX12_init_354 rfl ?_
  refine lv_bipush (v := (51)) hx hb dX12_init_355 (by decide) ?_
  refine lv_bipush (v := (32)) hx hb dX12_init_357 (by decide) ?_
  refine castL (k := 51) (k2 := 52) cx hw (by decide) rfl (by decide) (by decide) (by decide +kernel) dX12_init_359 (fun H locs hw => ?_)
  refine lv_dup hx hb dX12_init_360 rfl ?_
  refine lv_bipush (v := (52)) hx hb dX12_init_361 (by decide) ?_
  refine lv_bipush (v := (32)) hx hb dX12_init_363 (by decide) ?_
  refine castL (k := 52) (k2 := 53) cx hw (by decide) rfl (by decide) (by decide) (by decide +kernel) dX12_init_365 (fun H locs hw => ?_)
  refine lv_dup hx hb dX12_init_366 rfl ?_
  refine lv_bipush (v := (53)) hx hb dX12_init_367 (by decide) ?_
  refine lv_bipush (v := (32)) hx hb dX12_init_369 (by decide) ?_
  refine castL (k := 53) (k2 := 54) cx hw (by decide) rfl (by decide) (by decide) (by decide +kernel) dX12_init_371 (fun H locs hw => ?_)
  refine lv_dup hx hb dX12_init_372 rfl ?_
  refine lv_bipush (v := (54)) hx hb dX12_init_373 (by decide) ?_
  refine lv_bipush (v := (32)) hx hb dX12_init_375 (by decide) ?_
  refine castL (k := 54) (k2 := 55) cx hw (by decide) rfl (by decide) (by decide) (by decide +kernel) dX12_init_377 (fun H locs hw => ?_)
  refine lv_dup hx hb dX12_init_378 rfl ?_
  refine lv_bipush (v := (55)) hx hb dX12_init_379 (by decide) ?_
  refine lv_bipush (v := (32)) hx hb dX12_init_381 (by decide) ?_
  refine castL (k := 55) (k2 := 56) cx hw (by decide) rfl (by decide) (by decide) (by decide +kernel) dX12_init_383 (fun H locs hw => ?_)
  refine lv_dup hx hb dX12_init_384 rfl ?_
  refine lv_bipush (v := (56)) hx hb dX12_init_385 (by decide) ?_
  refine lv_bipush (v := (107)) hx hb dX12_init_387 (by decide) ?_
  refine castL (k := 56) (k2 := 57) cx hw (by decide) rfl (by decide) (by decide) (by decide +kernel) dX12_init_389 (fun H locs hw => ?_)
  refine lv_dup hx hb dX12_init_390 rfl ?_
  refine lv_bipush (v := (57)) hx hb dX12_init_391 (by decide) ?_
  refine lv_bipush (v := (101)) hx hb dX12_init_393 (by decide) ?_
  refine castL (k := 57) (k2 := 58) cx hw (by decide) rfl (by decide) (by decide) (by decide +kernel) dX12_init_395 (fun H locs hw => ?_)
  refine lv_dup hx hb dX12_init_396 rfl ?_
  refine lv_bipush (v := (58)) hx hb dX12_init_397 (by decide) ?_
  refine lv_bipush (v := (101)) hx hb dX12_init_399 (by decide) ?_
  refine castL (k := 58) (k2 := 59) cx hw (by decide) rfl (by decide) (by decide) (by decide +kernel) dX12_init_401 (fun H locs hw => ?_)
  refine lv_dup hx hb dX12_init_402 rfl ?_
  refine lv_bipush (v := (59)) hx hb dX12_init_403 (by decide) ?_
  refine lv_bipush (v := (112)) hx hb dX12_init_405 (by decide) ?_
  refine castL (k := 59) (k2 := 60) cx hw (by decide) rfl (by decide) (by decide) (by decide +kernel) dX12_init_407 (fun H locs hw => ?_)
  refine lv_dup hx hb dX12_init_408 rfl ?_
  refine lv_bipush (v := (60)) hx hb dX12_init_409 (by decide) ?_
  refine lv_bipush (v := (32)) hx hb dX12_init_411 (by decide) ?_
  refine castL (k := 60) (k2 := 61) cx hw (by decide) rfl (by decide) (by decide) (by decide +kernel) dX12_init_413 (fun H locs hw => ?_)
  refine lv_dup hx hb dX12_init_414 rfl ?_
  refine lv_bipush (v := (61)) hx hb dX12_init_415 (by decide) ?_
  refine lv_bipush (v := (32)) hx hb dX12_init_417 (by decide) ?_
  refine castL (k := 61) (k2 := 62) cx hw (by decide) rfl (by decide) (by decide) (by decide +kernel) dX12_init_419 (fun H locs hw => ?_)
  refine lv_dup hx hb dX12_init_420 rfl ?_
  refine lv_bipush (v := (62)) hx hb dX12_init_421 (by decide) ?_
  refine lv_bipush (v := (32)) hx hb dX12_init_423 (by decide) ?_
  refine castL (k := 62) (k2 := 63) cx hw (by decide) rfl (by decide) (by decide) (by decide +kernel) dX12_init_425 (fun H locs hw => ?_)
  refine lv_dup hx hb dX12_init_426 rfl ?_
  refine lv_bipush (v := (63)) hx hb dX12_init_427 (by decide) ?_
  refine lv_bipush (v := (32)) hx hb dX12_init_429 (by decide) ?_
  refine castL (k := 63) (k2 := 64) cx hw (by decide) rfl (by decide) (by decide) (by decide +kernel) dX12_init_431 (fun H locs hw => ?_)
  refine lv_dup hx hb dX12_init_432 rfl ?_
  refine lv_bipush (v := (64)) hx hb dX12_init_433 (by decide) ?_
  refine lv_bipush (v := (97)) hx hb dX12_init_435 (by decide) ?_
  refine castL (k := 64) (k2 := 65) cx hw (by decide) rfl (by decide) (by decide) (by decide +kernel) dX12_init_437 (fun H locs hw => ?_)
  refine lv_dup hx hb dX12_init_438 rfl ?_
  refine lv_bipush (v := (65)) hx hb dX12_init_439 (by decide) ?_
  refine lv_bipush (v := (114)) hx hb dX12_init_441 (by decide) ?_
  refine castL (k := 65) (k2 := 66) cx hw (by decide) rfl (by decide) (by decide) (by decide +kernel) dX12_init_443 (fun H locs hw => ?_)
  refine lv_dup hx hb dX12_init_444 rfl ?_
  refine lv_bipush (v := (66)) hx hb dX12_init_445 (by decide) ?_
  refine lv_bipush (v := (103)) hx hb dX12_init_447 (by decide) ?_
  refine castL (k := 66) (k2 := 67) cx hw (by decide) rfl (by decide) (by decide) (by decide +kernel) dX12_init_449 (fun H locs hw => ?_)
  refine lv_dup hx hb dX12_init_450 rfl ?_
  refine lv_bipush (v := (67)) hx hb dX12_init_451 (by decide) ?_
  refine lv_bipush (v := (117)) hx hb dX12_init_453 (by decide) ?_
  refine castL (k := 67) (k2 := 68) cx hw (by decide) rfl (by decide) (by decide) (by decide +kernel) dX12_init_455 (fun H locs hw => ?_)
  refine lv_dup hx hb dX12_init_456 rfl ?_
  refine lv_bipush (v := (68)) hx hb dX12_init_457 (by decide) ?_
  refine lv_bipush (v := (101)) hx hb dX12_init_459 (by decide) ?_
  refine castL (k := 68) (k2 := 69) cx hw (by decide) rfl (by decide) (by decide) (by decide +kernel) dX12_init_461 (fun H locs hw => ?_)
  refine lv_dup hx hb dX12_init_462 rfl ?_
  refine lv_bipush (v := (69)) hx hb dX12_init_463 (by decide) ?_
  refine lv_bipush (v := (32)) hx hb dX12_init_465 (by decide) ?_
  refine castL (k := 69) (k2 := 70) cx hw (by decide) rfl (by decide) (by decide) (by decide +kernel) dX12_init_467 (fun H locs hw => ?_)
  refine lv_dup hx hb dX12_init_468 rfl ?_
  refine lv_bipush (v := (70)) hx hb dX12_init_469 (by decide) ?_
  refine lv_bipush (v := (32)) hx hb dX12_init_471 (by decide) ?_
  refine castL (k := 70) (k2 := 71) cx hw (by decide) rfl (by decide) (by decide) (by decide +kernel) dX12_init_473 (fun H locs hw => ?_)
  refine lv_dup hx hb dX12_init_474 rfl ?_
  refine lv_bipush (v := (71)) hx hb dX12_init_475 (by decide) ?_
  refine lv_bipush (v := (32)) hx hb dX12_init_477 (by decide) ?_
  refine castL (k := 71) (k2 := 72) cx hw (by decide) rfl (by decide) (by decide) (by decide +kernel) dX12_init_479 (fun H locs hw => ?_)
  refine lv_dup hx hb dX12_init_480 rfl ?_
  refine lv_bipush (v := (72)) hx hb dX12_init_481 (by decide) ?_
  refine lv_bipush (v := (105)) hx hb dX12_init_483 (by decide) ?_
  refine castL (k := 72) (k2 := 73) cx hw (by decide) rfl (by decide) (by decide) (by decide +kernel) dX12_init_485 (fun H locs hw => ?_)
  refine lv_dup hx hb dX12_init_486 rfl ?_
  refine lv_bipush (v := (73)) hx hb dX12_init_487 (by decide) ?_
  refine lv_bipush (v := (102)) hx hb dX12_init_489 (by decide) ?_
  refine castL (k := 73) (k2 := 74) cx hw (by decide) rfl (by decide) (by decide) (by decide +kernel) dX12_init_491 (fun H locs hw => ?_)
  refine lv_dup hx hb dX12_init_492 rfl ?_
  refine lv_bipush (v := (74)) hx hb dX12_init_493 (by decide) ?_
  refine lv_bipush (v := (32)) hx hb dX12_init_495 (by decide) ?_
  refine castL (k := 74) (k2 := 75) cx hw (by decide) rfl (by decide) (by decide) (by decide +kernel) dX12_init_497 (fun H locs hw => ?_)
  refine lv_dup hx hb dX12_init_498 rfl ?_
  refine lv_bipush (v := (75)) hx hb dX12_init_499 (by decide) ?_
  refine lv_bipush (v := (32)) hx hb dX12_init_501 (by decide) ?_
  refine castL (k := 75) (k2 := 76) cx hw (by decide) rfl (by decide) (by decide) (by decide +kernel) dX12_init_503 (fun H locs hw => ?_)
  refine lv_dup hx hb dX12_init_504 rfl ?_
  refine lv_bipush (v := (76)) hx hb dX12_init_505 (by decide) ?_
  refine lv_bipush (v := (32)) hx hb dX12_init_507 (by decide) ?_
  refine castL (k := 76) (k2 := 77) cx hw (by decide) rfl (by decide) (by decide) (by decide +kernel) dX12_init_509 (fun H locs hw => ?_)
  refine lv_dup hx hb dX12_init_510 rfl ?_
  refine lv_bipush (v := (77)) hx hb dX12_init_511 (by decide) ?_
  refine lv_bipush (v := (32)) hx hb dX12_init_513 (by decide) ?_
  refine castL (k := 77) (k2 := 78) cx hw (by decide) rfl (by decide) (by decide) (by decide +kernel) dX12_init_515 (fun H locs hw => ?_)
  refine lv_dup hx hb dX12_init_516 rfl ?_
  refine lv_bipush (v := (78)) hx hb dX12_init_517 (by decide) ?_
  refine lv_bipush (v := (32)) hx hb dX12_init_519 (by decide) ?_
  refine castL (k := 78) (k2 := 79) cx hw (by decide) rfl (by decide) (by decide) (by decide +kernel) dX12_init_521 (fun H locs hw => ?_)
  refine lv_dup hx hb dX12_init_522 rfl ?_
  refine lv_bipush (v := (79)) hx hb dX12_init_523 (by decide) ?_
  refine lv_bipush (v := (32)) hx hb dX12_init_525 (by decide) ?_
  refine castL (k := 79) (k2 := 80) cx hw (by decide) rfl (by decide) (by decide) (by decide +kernel) dX12_init_527 (fun H locs hw => ?_)
  refine lv_dup hx hb dX12_init_528 rfl ?_
  refine lv_bipush (v := (80)) hx hb dX12_init_529 (by decide) ?_
  refine lv_bipush (v := (110)) hx hb dX12_init_531 (by decide) ?_
  refine castL (k := 80) (k2 := 81) cx hw (by decide) rfl (by decide) (by decide) (by decide +kernel) dX12_init_533 (fun H locs hw => ?_)
  refine lv_dup hx hb dX12_init_534 rfl ?_
  refine lv_bipush (v := (81)) hx hb dX12_init_535 (by decide) ?_
  refine lv_bipush (v := (111)) hx hb dX12_init_537 (by decide) ?_
  refine castL (k := 81) (k2 := 82) cx hw (by decide) rfl (by decide) (by decide) (by decide +kernel) dX12_init_539 (fun H locs hw => ?_)
  refine lv_dup hx hb dX12_init_540 rfl ?_
  refine lv_bipush (v := (82)) hx hb dX12_init_541 (by decide) ?_
  refine lv_bipush (v := (116)) hx hb dX12_init_543 (by decide) ?_
  refine castL (k := 82) (k2 := 83) cx hw (by decide) rfl (by decide) (by decide) (by decide +kernel) dX12_init_545 (fun H locs hw => ?_)
  refine lv_dup hx hb dX12_init_546 rfl ?_
  refine lv_bipush (v := (83)) hx hb dX12_init_547 (by decide) ?_
  refine lv_bipush (v := (32)) hx hb dX12_init_549 (by decide) ?_
  refine castL (k := 83) (k2 := 84) cx hw (by decide) rfl (by decide) (by decide) (by decide +kernel) dX12_init_551 (fun H locs hw => ?_)
  refine lv_dup hx hb dX12_init_552 rfl ?_
  refine lv_bipush (v := (84)) hx hb dX12_init_553 (by decide) ?_
  refine lv_bipush (v := (32)) hx hb dX12_init_555 (by decide) ?_
  refine castL (k := 84) (k2 := 85) cx hw (by decide) rfl (by decide) (by decide) (by decide +kernel) dX12_init_557 (fun H locs hw => ?_)
  refine lv_dup hx hb dX12_init_558 rfl ?_
  refine lv_bipush (v := (85)) hx hb dX12_init_559 (by decide) ?_
  refine lv_bipush (v := (32)) hx hb dX12_init_561 (by decide) ?_
  refine castL (k := 85) (k2 := 86) cx hw (by decide) rfl (by decide) (by decide) (by decide +kernel) dX12_init_563 (fun H locs hw => ?_)
  refine lv_dup hx hb dX12_init_564 rfl ?_
  refine lv_bipush (v := (86)) hx hb dX12_init_565 (by decide) ?_
  refine lv_bipush (v := (32)) hx hb dX12_init_567 (by decide) ?_
  refine castL (k := 86) (k2 := 87) cx hw (by decide) rfl (by decide) (by decide) (by decide +kernel) dX12_init_569 (fun H locs hw => ?_)
  refine lv_dup hx hb dX12_init_570 rfl ?_
  refine lv_bipush (v := (87)) hx hb dX12_init_571 (by decide) ?_
  refine lv_bipush (v := (32)) hx hb dX12_init_573 (by decide) ?_
  refine castL (k := 87) (k2 := 88) cx hw (by decide) rfl (by decide) (by decide) (by decide +kernel) dX12_init_575 (fun H locs hw => ?_)
  refine lv_dup hx hb dX12_init_576 rfl ?_
  refine lv_bipush (v := (88)) hx hb dX12_init_577 (by decide) ?_
  refine lv_bipush (v := (97)) hx hb dX12_init_579 (by decide) ?_
  refine castL (k := 88) (k2 := 89) cx hw (by decide) rfl (by decide) (by decide) (by decide +kernel) dX12_init_581 (fun H locs hw => ?_)
  refine lv_dup hx hb dX12_init_582 rfl ?_
  refine lv_bipush (v := (89)) hx hb dX12_init_583 (by decide) ?_
  refine lv_bipush (v := (110)) hx hb dX12_init_585 (by decide) ?_
  refine castL (k := 89) (k2 := 90) cx hw (by decide) rfl (by decide) (by decide) (by decide +kernel) dX12_init_587 (fun H locs hw => ?_)
  refine lv_dup hx hb dX12_init_588 rfl ?_
  refine lv_bipush (v := (90)) hx hb dX12_init_589 (by decide) ?_
  refine lv_bipush (v := (100)) hx hb dX12_init_591 (by decide) ?_
  refine castL (k := 90) (k2 := 91) cx hw (by decide) rfl (by decide) (by decide) (by decide +kernel) dX12_init_593 (fun H locs hw => ?_)
  refine lv_dup hx hb dX12_init_594 rfl ?_
  refine lv_bipush (v := (91)) hx hb dX12_init_595 (by decide) ?_
  refine lv_bipush (v := (32)) hx hb dX12_init_597 (by decide) ?_
  refine castL (k := 91) (k2 := 92) cx hw (by decide) rfl (by decide) (by decide) (by decide +kernel) dX12_init_599 (fun H locs hw => ?_)
  refine lv_dup hx hb dX12_init_600 rfl ?_
  refine lv_bipush (v := (92)) hx hb dX12_init_601 (by decide) ?_
  refine lv_bipush (v := (32)) hx hb dX12_init_603 (by decide) ?_
  refine castL (k := 92) (k2 := 93) cx hw (by decide) rfl (by decide) (by decide) (by decide +kernel) dX12_init_605 (fun H locs hw => ?_)
  refine lv_dup hx hb dX12_init_606 rfl ?_
  refine lv_bipush (v := (93)) hx hb dX12_init_607 (by decide) ?_
  refine lv_bipush (v := (32)) hx hb dX12_init_609 (by decide) ?_
  refine castL (k := 93) (k2 := 94) cx hw (by decide) rfl (by decide) (by decide) (by decide +kernel) dX12_init_611 (fun H locs hw => ?_)
  refine lv_dup hx hb dX12_init_612 rfl ?_
  refine lv_bipush (v := (94)) hx hb dX12_init_613 (by decide) ?_
  refine lv_bipush (v := (32)) hx hb dX12_init_615 (by decide) ?_
  refine castL (k := 94) (k2 := 95) cx hw (by decide) rfl (by decide) (by decide) (by decide +kernel) dX12_init_617 (fun H locs hw => ?_)
  refine lv_dup hx hb dX12_init_618 rfl ?_
  refine lv_bipush (v := (95)) hx hb dX12_init_619 (by decide) ?_
  refine lv_bipush (v := (32)) hx hb dX12_init_621 (by decide) ?_
  refine castL (k := 95) (k2 := 96) cx hw (by decide) rfl (by decide) (by decide) (by decide +kernel) dX12_init_623 (fun H locs hw => ?_)
  refine lv_dup hx hb dX12_init_624 rfl ?_
  refine lv_bipush (v := (96)) hx hb dX12_init_625 (by decide) ?_
  refine lv_bipush (v := (111)) hx hb dX12_init_627 (by decide) ?_
  refine castL (k := 96) (k2 := 97) cx hw (by decide) rfl (by decide) (by decide) (by decide +kernel) dX12_init_629 (fun H locs hw => ?_)
  refine lv_dup hx hb dX12_init_630 rfl ?_
  refine lv_bipush (v := (97)) hx hb dX12_init_631 (by decide) ?_
  refine lv_bipush (v := (114)) hx hb dX12_init_633 (by decide) ?_
  refine castL (k := 97) (k2 := 98) cx hw (by decide) rfl (by decide) (by decide) (by decide +kernel) dX12_init_635 (fun H locs hw => ?_)
  refine lv_dup hx hb dX12_init_636 rfl ?_
  refine lv_bipush (v := (98)) hx hb dX12_init_637 (by decide) ?_
  refine lv_bipush (v := (32)) hx hb dX12_init_639 (by decide) ?_
  refine castL (k := 98) (k2 := 99) cx hw (by decide) rfl (by decide) (by decide) (by decide +kernel) dX12_init_641 (fun H locs hw => ?_)
  refine lv_dup hx hb dX12_init_642 rfl ?_
  refine lv_bipush (v := (99)) hx hb dX12_init_643 (by decide) ?_
  refine lv_bipush (v := (32)) hx hb dX12_init_645 (by decide) ?_
  refine castL (k := 99) (k2 := 100) cx hw (by decide) rfl (by decide) (by decide) (by decide +kernel) dX12_init_647 (fun H locs hw => ?_)
  refine lv_dup hx hb dX12_init_648 rfl ?_
  refine lv_bipush (v := (100)) hx hb dX12_init_649 (by decide) ?_
  refine lv_bipush (v := (32)) hx hb dX12_init_651 (by decide) ?_
  refine castL (k := 100) (k2 := 101) cx hw (by decide) rfl (by decide) (by decide) (by decide +kernel) dX12_init_653 (fun H locs hw => ?_)
  refine lv_dup hx hb dX12_init_654 rfl ?_
  refine lv_bipush (v := (101)) hx hb dX12_init_655 (by decide) ?_
  refine lv_bipush (v := (32)) hx hb dX12_init_657 (by decide) ?_
  refine castL (k := 101) (k2 := 102) cx hw (by decide) rfl (by decide) (by decide) (by decide +kernel) dX12_init_659 (fun H locs hw => ?_)
  refine lv_dup hx hb dX12_init_660 rfl ?_
  refine lv_bipush (v := (102)) hx hb dX12_init_661 (by decide) ?_
  refine lv_bipush (v := (32)) hx hb dX12_init_663 (by decide) ?_
  refine castL (k := 102) (k2 := 103) cx hw (by decide) rfl (by decide) (by decide) (by decide +kernel) dX12_init_665 (fun H locs hw => ?_)
  refine lv_dup hx hb dX12_init_666 rfl ?_
  refine lv_bipush (v := (103)) hx hb dX12_init_667 (by decide) ?_
  refine lv_bipush (v := (32)) hx hb dX12_init_669 (by decide) ?_
  refine castL (k := 103) (k2 := 104) cx hw (by decide) rfl (by decide) (by decide) (by decide +kernel) dX12_init_671 (fun H locs hw => ?_)
  refine lv_dup hx hb dX12_init_672 rfl ?_
  refine lv_bipush (v := (104)) hx hb dX12_init_673 (by decide) ?_
  refine lv_bipush (v := (99)) hx hb dX12_init_675 (by decide) ?_
  refine castL (k := 104) (k2 := 105) cx hw (by decide) rfl (by decide) (by decide) (by decide +kernel) dX12_init_677 (fun H locs hw => ?_)
  refine lv_dup hx hb dX12_init_678 rfl ?_
  refine lv_bipush (v := (105)) hx hb dX12_init_679 (by decide) ?_
  refine lv_bipush (v := (104)) hx hb dX12_init_681 (by decide) ?_
  refine castL (k := 105) (k2 := 106) cx hw (by decide) rfl (by decide) (by decide) (by decide +kernel) dX12_init_683 (fun H locs hw => ?_)
  refine lv_dup hx hb dX12_init_684 rfl ?_
  refine lv_bipush (v := (106)) hx hb dX12_init_685 (by decide) ?_
  refine lv_bipush (v := (105)) hx hb dX12_init_687 (by decide) ?_
  refine castL (k := 106) (k2 := 107) cx hw (by decide) rfl (by decide) (by decide) (by decide +kernel) dX12_init_689 (fun H locs hw => ?_)
  refine lv_dup hx hb dX12_init_690 rfl ?_
  refine lv_bipush (v := (107)) hx hb dX12_init_691 (by decide) ?_
  refine lv_bipush (v := (109)) hx hb dX12_init_693 (by decide) ?_
  refine castL (k := 107) (k2 := 108) cx hw (by decide) rfl (by decide) (by decide) (by decide +kernel) dX12_init_695 (fun H locs hw => ?_)
  refine lv_dup hx hb dX12_init_696 rfl ?_
  refine lv_bipush (v := (108)) hx hb dX12_init_697 (by decide) ?_
  refine lv_bipush (v := (101)) hx hb dX12_init_699 (by decide) ?_
  refine castL (k := 108) (k2 := 109) cx hw (by decide) rfl (by decide) (by decide) (by decide +kernel) dX12_init_701 (fun H locs hw => ?_)
  refine lv_dup hx hb dX12_init_702 rfl ?_
  refine lv_bipush (v := (109)) hx hb dX12_init_703 (by decide) ?_
  refine lv_bipush (v := (32)) hx hb dX12_init_705 (by decide) ?_
  refine castL (k := 109) (k2 := 110) cx hw (by decide) rfl (by decide) (by decide) (by decide +kernel) dX12_init_707 (fun H locs hw => ?_)
  refine lv_dup hx hb dX12_init_708 rfl ?_
  refine lv_bipush (v := (110)) hx hb dX12_init_709 (by decide) ?_
  refine lv_bipush (v := (32)) hx hb dX12_init_711 (by decide) ?_
  refine castL (k := 110) (k2 := 111) cx hw (by decide) rfl (by decide) (by decide) (by decide +kernel) dX12_init_713 (fun H locs hw => ?_)
  refine lv_dup hx hb dX12_init_714 rfl ?_
  refine lv_bipush (v := (111)) hx hb dX12_init_715 (by decide) ?_
  refine lv_bipush (v := (32)) hx hb dX12_init_717 (by decide) ?_
  refine castL (k := 111) (k2 := 112) cx hw (by decide) rfl (by decide) (by decide) (by decide +kernel) dX12_init_719 (fun H locs hw => ?_)
  refine lv_dup hx hb dX12_init_720 rfl ?_
  refine lv_bipush (v := (112)) hx hb dX12_init_721 (by decide) ?_
  refine lv_bipush (v := (108)) hx hb dX12_init_723 (by decide) ?_
  refine castL (k := 112) (k2 := 113) cx hw (by decide) rfl (by decide) (by decide) (by decide +kernel) dX12_init_725 (fun H locs hw => ?_)
  refine lv_dup hx hb dX12_init_726 rfl ?_
  refine lv_bipush (v := (113)) hx hb dX12_init_727 (by decide) ?_
  refine lv_bipush (v := (97)) hx hb dX12_init_729 (by decide) ?_
  refine castL (k := 113) (k2 := 114) cx hw (by decide) rfl (by decide) (by decide) (by decide +kernel) dX12_init_731 (fun H locs hw => ?_)
  refine lv_dup hx hb dX12_init_732 rfl ?_
  refine lv_bipush (v := (114)) hx hb dX12_init_733 (by decide) ?_
  refine lv_bipush (v := (103)) hx hb dX12_init_735 (by decide) ?_
  refine castL (k := 114) (k2 := 115) cx hw (by decide) rfl (by decide) (by decide) (by decide +kernel) dX12_init_737 (fun H locs hw => ?_)
  refine lv_dup hx hb dX12_init_738 rfl ?_
  refine lv_bipush (v := (115)) hx hb dX12_init_739 (by decide) ?_
  refine lv_bipush (v := (32)) hx hb dX12_init_741 (by decide) ?_
  refine castL (k := 115) (k2 := 116) cx hw (by decide) rfl (by decide) (by decide) (by decide +kernel) dX12_init_743 (fun H locs hw => ?_)
  refine lv_dup hx hb dX12_init_744 rfl ?_
  refine lv_bipush (v := (116)) hx hb dX12_init_745 (by decide) ?_
  refine lv_bipush (v := (32)) hx hb dX12_init_747 (by decide) ?_
  refine castL (k := 116) (k2 := 117) cx hw (by decide) rfl (by decide) (by decide) (by decide +kernel) dX12_init_749 (fun H locs hw => ?_)
  refine lv_dup hx hb dX12_init_750 rfl ?_
  refine lv_bipush (v := (117)) hx hb dX12_init_751 (by decide) ?_
  refine lv_bipush (v := (32)) hx hb dX12_init_753 (by decide) ?_
  refine castL (k := 117) (k2 := 118) cx hw (by decide) rfl (by decide) (by decide) (by decide +kernel) dX12_init_755 (fun H locs hw => ?_)
  refine lv_dup hx hb dX12_init_756 rfl ?_
  refine lv_bipush (v := (118)) hx hb dX12_init_757 (by decide) ?_
  refine lv_bipush (v := (32)) hx hb dX12_init_759 (by decide) ?_
  refine castL (k := 118) (k2 := 119) cx hw (by decide) rfl (by decide) (by decide) (by decide +kernel) dX12_init_761 (fun H locs hw => ?_)
  refine lv_dup hx hb dX12_init_762 rfl ?_
  refine lv_bipush (v := (119)) hx hb dX12_init_763 (by decide) ?_
  refine lv_bipush (v := (32)) hx hb dX12_init_765 (by decide) ?_
  refine castL (k := 119) (k2 := 120) cx hw (by decide) rfl (by decide) (by decide) (by decide +kernel) dX12_init_767 (fun H locs hw => ?_)
  refine lv_dup hx hb dX12_init_768 rfl ?_
  refine lv_bipush (v := (120)) hx hb dX12_init_769 (by decide) ?_
  refine lv_bipush (v := (112)) hx hb dX12_init_771 (by decide) ?_
  refine castL (k := 120) (k2 := 121) cx hw (by decide) rfl (by decide) (by decide) (by decide +kernel) dX12_init_773 (fun H locs hw => ?_)
  refine lv_dup hx hb dX12_init_774 rfl ?_
  refine lv_bipush (v := (121)) hx hb dX12_init_775 (by decide) ?_
  refine lv_bipush (v := (114)) hx hb dX12_init_777 (by decide) ?_
  refine castL (k := 121) (k2 := 122) cx hw (by decide) rfl (by decide) (by decide) (by decide +kernel) dX12_init_779 (fun H locs hw => ?_)
  refine lv_dup hx hb dX12_init_780 rfl ?_
  refine lv_bipush (v := (122)) hx hb dX12_init_781 (by decide) ?_
  refine lv_bipush (v := (105)) hx hb dX12_init_783 (by decide) ?_
  refine castL (k := 122) (k2 := 123) cx hw (by decide) rfl (by decide) (by decide) (by decide +kernel) dX12_init_785 (fun H locs hw => ?_)
  refine lv_dup hx hb dX12_init_786 rfl ?_
  refine lv_bipush (v := (123)) hx hb dX12_init_787 (by decide) ?_
  refine lv_bipush (v := (100)) hx hb dX12_init_789 (by decide) ?_
  refine castL (k := 123) (k2 := 124) cx hw (by decide) rfl (by decide) (by decide) (by decide +kernel) dX12_init_791 (fun H locs hw => ?_)
  refine lv_dup hx hb dX12_init_792 rfl ?_
  refine lv_bipush (v := (124)) hx hb dX12_init_793 (by decide) ?_
  refine lv_bipush (v := (101)) hx hb dX12_init_795 (by decide) ?_
  refine castL (k := 124) (k2 := 125) cx hw (by decide) rfl (by decide) (by decide) (by decide +kernel) dX12_init_797 (fun H locs hw => ?_)
  refine lv_dup hx hb dX12_init_798 rfl ?_
  refine lv_bipush (v := (125)) hx hb dX12_init_799 (by decide) ?_
  refine lv_bipush (v := (32)) hx hb dX12_init_801 (by decide) ?_
  refine castL (k := 125) (k2 := 126) cx hw (by decide) rfl (by decide) (by decide) (by decide +kernel) dX12_init_803 (fun H locs hw => ?_)
  refine lv_dup hx hb dX12_init_804 rfl ?_
  refine lv_bipush (v := (126)) hx hb dX12_init_805 (by decide) ?_
  refine lv_bipush (v := (32)) hx hb dX12_init_807 (by decide) ?_
  refine castL (k := 126) (k2 := 127) cx hw (by decide) rfl (by decide) (by decide) (by decide +kernel) dX12_init_809 (fun H locs hw => ?_)
  refine lv_dup hx hb dX12_init_810 rfl ?_
  refine lv_bipush (v := (127)) hx hb dX12_init_811 (by decide) ?_
  refine lv_bipush (v := (32)) hx hb dX12_init_813 (by decide) ?_
  refine castL (k := 127) (k2 := 128) cx hw (by decide) rfl (by decide) (by decide) (by decide +kernel) dX12_init_815 (fun H locs hw => ?_)
  refine lv_dup hx hb dX12_init_816 rfl ?_
  refine lv_sipush (v := (128)) hx hb dX12_init_817 (by decide) ?_
  refine lv_bipush (v := (115)) hx hb dX12_init_820 (by decide) ?_
  refine castL (k := 128) (k2 := 129) cx hw (by decide) rfl (by decide) (by decide) (by decide +kernel) dX12_init_822 (fun H locs hw => ?_)
  refine lv_dup hx hb dX12_init_823 rfl ?_
  refine lv_sipush (v := (129)) hx hb dX12_init_824 (by decide) ?_
  refine lv_bipush (v := (117)) hx hb dX12_init_827 (by decide) ?_
  refine castL (k := 129) (k2 := 130) cx hw (by decide) rfl (by decide) (by decide) (by decide +kernel) dX12_init_829 (fun H locs hw => ?_)
  refine lv_dup hx hb dX12_init_830 rfl ?_
  refine lv_sipush (v := (130)) hx hb dX12_init_831 (by decide) ?_
  refine lv_bipush (v := (110)) hx hb dX12_init_834 (by decide) ?_
  refine castL (k := 130) (k2 := 131) cx hw (by decide) rfl (by decide) (by decide) (by decide +kernel) dX12_init_836 (fun H locs hw => ?_)
  refine lv_dup hx hb dX12_init_837 rfl ?_
  refine lv_sipush (v := (131)) hx hb dX12_init_838 (by decide) ?_
  refine lv_bipush (v := (32)) hx hb dX12_init_841 (by decide) ?_
  refine castL (k := 131) (k2 := 132) cx hw (by decide) rfl (by decide) (by decide) (by decide +kernel) dX12_init_843 (fun H locs hw => ?_)
  refine lv_dup hx hb dX12_init_844 rfl ?_
  refine lv_sipush (v := (132)) hx hb dX12_init_845 (by decide) ?_
  refine lv_bipush (v := (32)) hx hb dX12_init_848 (by decide) ?_
  refine castL (k := 132) (k2 := 133) cx hw (by decide) rfl (by decide) (by decide) (by decide +kernel) dX12_init_850 (fun H locs hw => ?_)
  refine lv_dup hx hb dX12_init_851 rfl ?_
  refine lv_sipush (v := (133)) hx hb dX12_init_852 (by decide) ?_
  refine lv_bipush (v := (32)) hx hb dX12_init_855 (by decide) ?_
  refine castL (k := 133) (k2 := 134) cx hw (by decide) rfl (by decide) (by decide) (by decide +kernel) dX12_init_857 (fun H locs hw => ?_)
  refine lv_dup hx hb dX12_init_858 rfl ?_
  refine lv_sipush (v := (134)) hx hb dX12_init_859 (by decide) ?_
  refine lv_bipush (v := (32)) hx hb dX12_init_862 (by decide) ?_
  refine castL (k := 134) (k2 := 135) cx hw (by decide) rfl (by decide) (by decide) (by decide +kernel) dX12_init_864 (fun H locs hw => ?_)
  refine lv_dup hx hb dX12_init_865 rfl ?_
  refine lv_sipush (v := (135)) hx hb dX12_init_866 (by decide) ?_
  refine lv_bipush (v := (32)) hx hb dX12_init_869 (by decide) ?_
  refine castL (k := 135) (k2 := 136) cx hw (by decide) rfl (by decide) (by decide) (by decide +kernel) dX12_init_871 (fun H locs hw => ?_)
  refine lv_dup hx hb dX12_init_872 rfl ?_
  refine lv_sipush (v := (136)) hx hb dX12_init_873 (by decide) ?_
  refine lv_bipush (v := (110)) hx hb dX12_init_876 (by decide) ?_
  refine castL (k := 136) (k2 := 137) cx hw (by decide) rfl (by decide) (by decide) (by decide +kernel) dX12_init_878 (fun H locs hw => ?_)
  refine lv_dup hx hb dX12_init_879 rfl ?_
  refine lv_sipush (v := (137)) hx hb dX12_init_880 (by decide) ?_
  refine lv_bipush (v := (117)) hx hb dX12_init_883 (by decide) ?_
  refine castL (k := 137) (k2 := 138) cx hw (by decide) rfl (by decide) (by decide) (by decide +kernel) dX12_init_885 (fun H locs hw => ?_)
  refine lv_dup hx hb dX12_init_886 rfl ?_
  refine lv_sipush (v := (138)) hx hb dX12_init_887 (by decide) ?_
  refine lv_bipush (v := (109)) hx hb dX12_init_890 (by decide) ?_
  refine castL (k := 138) (k2 := 139) cx hw (by decide) rfl (by decide) (by decide) (by decide +kernel) dX12_init_892 (fun H locs hw => ?_)
  refine lv_dup hx hb dX12_init_893 rfl ?_
  refine lv_sipush (v := (139)) hx hb dX12_init_894 (by decide) ?_
  refine lv_bipush (v := (98)) hx hb dX12_init_897 (by decide) ?_
  refine castL (k := 139) (k2 := 140) cx hw (by decide) rfl (by decide) (by decide) (by decide +kernel) dX12_init_899 (fun H locs hw => ?_)
  refine lv_dup hx hb dX12_init_900 rfl ?_
  refine lv_sipush (v := (140)) hx hb dX12_init_901 (by decide) ?_
  refine lv_bipush (v := (101)) hx hb dX12_init_904 (by decide) ?_
  refine castL (k := 140) (k2 := 141) cx hw (by decide) rfl (by decide) (by decide) (by decide +kernel) dX12_init_906 (fun H locs hw => ?_)
  refine lv_dup hx hb dX12_init_907 rfl ?_
  refine lv_sipush (v := (141)) hx hb dX12_init_908 (by decide) ?_
  refine lv_bipush (v := (114)) hx hb dX12_init_911 (by decide) ?_
  refine castL (k := 141) (k2 := 142) cx hw (by decide) rfl (by decide) (by decide) (by decide +kernel) dX12_init_913 (fun H locs hw => ?_)
  refine lv_dup hx hb dX12_init_914 rfl ?_
  refine lv_sipush (v := (142)) hx hb dX12_init_915 (by decide) ?_
  refine lv_bipush (v := (32)) hx hb dX12_init_918 (by decide) ?_
  refine castL (k := 142) (k2 := 143) cx hw (by decide) rfl (by decide) (by decide) (by decide +kernel) dX12_init_920 (fun H locs hw => ?_)
  refine lv_dup hx hb dX12_init_921 rfl ?_
  refine lv_sipush (v := (143)) hx hb dX12_init_922 (by decide) ?_
  refine lv_bipush (v := (32)) hx hb dX12_init_925 (by decide) ?_
  refine castL (k := 143) (k2 := 144) cx hw (by decide) rfl (by decide) (by decide) (by decide +kernel) dX12_init_927 (fun H locs hw => ?_)
  have hw : Wd D A s ([(q0, .inr (12, [.ref q11, .ref q12, .ref q13, .int 0, .ref q14, .ref q15, .int 0, .null, .int 0, .int 0, .int 0, .int 0, .int 0, .int 0, .null, .null, .null, .null, .null, .int 0, .int 0, .int 0, .int 0, .null, .null, .int 0, .null, .int 0, .null, .null, .null, .null, .null, .null, .int 0, .int 0, .int 0])), (q11, .inl (t 0, 313, .inl (fun _ => 0))), (q12, .inl (t 0, 313, .inl (fun _ => 0))), (q13, .inl (t 0, 65, .inl (fun _ => 0))), (q14, .inl (t 0, 200, .inl (fun _ => 0))), (q15, .inl (t 0, 200, .inl (fun _ => 0))), (q16, .inl (t 2, 144, .inl ltr))]) H locs := by rw [lf_all] at hw; exact hw
  refine va_putF (ref := "DialSquareModel") (C := RX12) (T := TX12) (N := 37) (ci := 12) cx.1 cx.2.1 cx.2.2.2.2.1 lay_12 tyX12 tyX12_ok nmX12 cx.2.2.2.1 cx.2.2.2.2.2.1.1 hw.1 hw.2.1 hw.2.2 0 rfl rfl 7 (by decide) (cx.2.2.2.2.1 _ q_1104) (fun _ h => h) rfl cx.2.2.2.2.2.2.2.2.2 rfl rfl rfl rfl (Nat.le_of_ble_eq_true rfl) dX12_init_928 (fun H l1 hP hD hS => ?_)
  have hw : Wd D A s ([(q0, .inr (12, [.ref q11, .ref q12, .ref q13, .int 0, .ref q14, .ref q15, .int 0, .ref q16, .int 0, .int 0, .int 0, .int 0, .int 0, .int 0, .null, .null, .null, .null, .null, .int 0, .int 0, .int 0, .int 0, .null, .null, .int 0, .null, .int 0, .null, .null, .null, .null, .null, .null, .int 0, .int 0, .int 0])), (q11, .inl (t 0, 313, .inl (fun _ => 0))), (q12, .inl (t 0, 313, .inl (fun _ => 0))), (q13, .inl (t 0, 65, .inl (fun _ => 0))), (q14, .inl (t 0, 200, .inl (fun _ => 0))), (q15, .inl (t 0, 200, .inl (fun _ => 0))), (q16, .inl (t 2, 144, .inl ltr))]) H l1 := ⟨hP, hD, hS⟩
  refine lv_aload_n hx hb dX12_init_931 rfl (lv_at hl 0 rfl) ?_
  refine lv_sipush (v := (200)) hx hb dX12_init_932 (by decide) ?_
  refine newI cx hw (by decide) (N := 200) (by decide) (by omega) (Nat.le_of_ble_eq_true rfl) (Nat.le_of_ble_eq_true rfl) dX12_init_935 (fun q17 H hw => ?_)
  have hw : Wd D A s ([(q0, .inr (12, [.ref q11, .ref q12, .ref q13, .int 0, .ref q14, .ref q15, .int 0, .ref q16, .int 0, .int 0, .int 0, .int 0, .int 0, .int 0, .null, .null, .null, .null, .null, .int 0, .int 0, .int 0, .int 0, .null, .null, .int 0, .null, .int 0, .null, .null, .null, .null, .null, .null, .int 0, .int 0, .int 0])), (q11, .inl (t 0, 313, .inl (fun _ => 0))), (q12, .inl (t 0, 313, .inl (fun _ => 0))), (q13, .inl (t 0, 65, .inl (fun _ => 0))), (q14, .inl (t 0, 200, .inl (fun _ => 0))), (q15, .inl (t 0, 200, .inl (fun _ => 0))), (q16, .inl (t 2, 144, .inl ltr)), (q17, .inl (t 0, 200, .inl (fun _ => 0)))]) H l1 := hw
  refine va_putF (ref := "DialSquareModel") (C := RX12) (T := TX12) (N := 37) (ci := 12) cx.1 cx.2.1 cx.2.2.2.2.1 lay_12 tyX12 tyX12_ok nmX12 cx.2.2.2.1 cx.2.2.2.2.2.1.1 hw.1 hw.2.1 hw.2.2 0 rfl rfl 14 (by decide) (cx.2.2.2.2.1 _ q_1111) (fun _ h => h) rfl cx.2.2.2.2.2.2.2.2.2 rfl rfl rfl rfl (Nat.le_of_ble_eq_true rfl) dX12_init_937 (fun H l1 hP hD hS => ?_)
  have hw : Wd D A s ([(q0, .inr (12, [.ref q11, .ref q12, .ref q13, .int 0, .ref q14, .ref q15, .int 0, .ref q16, .int 0, .int 0, .int 0, .int 0, .int 0, .int 0, .ref q17, .null, .null, .null, .null, .int 0, .int 0, .int 0, .int 0, .null, .null, .int 0, .null, .int 0, .null, .null, .null, .null, .null, .null, .int 0, .int 0, .int 0])), (q11, .inl (t 0, 313, .inl (fun _ => 0))), (q12, .inl (t 0, 313, .inl (fun _ => 0))), (q13, .inl (t 0, 65, .inl (fun _ => 0))), (q14, .inl (t 0, 200, .inl (fun _ => 0))), (q15, .inl (t 0, 200, .inl (fun _ => 0))), (q16, .inl (t 2, 144, .inl ltr)), (q17, .inl (t 0, 200, .inl (fun _ => 0)))]) H l1 := ⟨hP, hD, hS⟩
  refine lv_aload_n hx hb dX12_init_940 rfl (lv_at hl 0 rfl) ?_
  refine lv_bipush (v := (24)) hx hb dX12_init_941 (by decide) ?_
  refine newI cx hw (by decide) (N := 24) (by decide) (by omega) (Nat.le_of_ble_eq_true rfl) (Nat.le_of_ble_eq_true rfl) dX12_init_943 (fun q18 H hw => ?_)
  have hw : Wd D A s ([(q0, .inr (12, [.ref q11, .ref q12, .ref q13, .int 0, .ref q14, .ref q15, .int 0, .ref q16, .int 0, .int 0, .int 0, .int 0, .int 0, .int 0, .ref q17, .null, .null, .null, .null, .int 0, .int 0, .int 0, .int 0, .null, .null, .int 0, .null, .int 0, .null, .null, .null, .null, .null, .null, .int 0, .int 0, .int 0])), (q11, .inl (t 0, 313, .inl (fun _ => 0))), (q12, .inl (t 0, 313, .inl (fun _ => 0))), (q13, .inl (t 0, 65, .inl (fun _ => 0))), (q14, .inl (t 0, 200, .inl (fun _ => 0))), (q15, .inl (t 0, 200, .inl (fun _ => 0))), (q16, .inl (t 2, 144, .inl ltr)), (q17, .inl (t 0, 200, .inl (fun _ => 0))), (q18, .inl (t 0, 24, .inl (fun _ => 0)))]) H l1 := hw
  refine va_putF (ref := "DialSquareModel") (C := RX12) (T := TX12) (N := 37) (ci := 12) cx.1 cx.2.1 cx.2.2.2.2.1 lay_12 tyX12 tyX12_ok nmX12 cx.2.2.2.1 cx.2.2.2.2.2.1.1 hw.1 hw.2.1 hw.2.2 0 rfl rfl 15 (by decide) (cx.2.2.2.2.1 _ q_1112) (fun _ h => h) rfl cx.2.2.2.2.2.2.2.2.2 rfl rfl rfl rfl (Nat.le_of_ble_eq_true rfl) dX12_init_945 (fun H l1 hP hD hS => ?_)
  have hw : Wd D A s ([(q0, .inr (12, [.ref q11, .ref q12, .ref q13, .int 0, .ref q14, .ref q15, .int 0, .ref q16, .int 0, .int 0, .int 0, .int 0, .int 0, .int 0, .ref q17, .ref q18, .null, .null, .null, .int 0, .int 0, .int 0, .int 0, .null, .null, .int 0, .null, .int 0, .null, .null, .null, .null, .null, .null, .int 0, .int 0, .int 0])), (q11, .inl (t 0, 313, .inl (fun _ => 0))), (q12, .inl (t 0, 313, .inl (fun _ => 0))), (q13, .inl (t 0, 65, .inl (fun _ => 0))), (q14, .inl (t 0, 200, .inl (fun _ => 0))), (q15, .inl (t 0, 200, .inl (fun _ => 0))), (q16, .inl (t 2, 144, .inl ltr)), (q17, .inl (t 0, 200, .inl (fun _ => 0))), (q18, .inl (t 0, 24, .inl (fun _ => 0)))]) H l1 := ⟨hP, hD, hS⟩
  refine lv_aload_n hx hb dX12_init_948 rfl (lv_at hl 0 rfl) ?_
  refine lv_sipush (v := (325)) hx hb dX12_init_949 (by decide) ?_
  refine newI cx hw (by decide) (N := 325) (by decide) (by omega) (Nat.le_of_ble_eq_true rfl) (Nat.le_of_ble_eq_true rfl) dX12_init_952 (fun q19 H hw => ?_)
  have hw : Wd D A s ([(q0, .inr (12, [.ref q11, .ref q12, .ref q13, .int 0, .ref q14, .ref q15, .int 0, .ref q16, .int 0, .int 0, .int 0, .int 0, .int 0, .int 0, .ref q17, .ref q18, .null, .null, .null, .int 0, .int 0, .int 0, .int 0, .null, .null, .int 0, .null, .int 0, .null, .null, .null, .null, .null, .null, .int 0, .int 0, .int 0])), (q11, .inl (t 0, 313, .inl (fun _ => 0))), (q12, .inl (t 0, 313, .inl (fun _ => 0))), (q13, .inl (t 0, 65, .inl (fun _ => 0))), (q14, .inl (t 0, 200, .inl (fun _ => 0))), (q15, .inl (t 0, 200, .inl (fun _ => 0))), (q16, .inl (t 2, 144, .inl ltr)), (q17, .inl (t 0, 200, .inl (fun _ => 0))), (q18, .inl (t 0, 24, .inl (fun _ => 0))), (q19, .inl (t 0, 325, .inl (fun _ => 0)))]) H l1 := hw
  refine va_putF (ref := "DialSquareModel") (C := RX12) (T := TX12) (N := 37) (ci := 12) cx.1 cx.2.1 cx.2.2.2.2.1 lay_12 tyX12 tyX12_ok nmX12 cx.2.2.2.1 cx.2.2.2.2.2.1.1 hw.1 hw.2.1 hw.2.2 0 rfl rfl 16 (by decide) (cx.2.2.2.2.1 _ q_1113) (fun _ h => h) rfl cx.2.2.2.2.2.2.2.2.2 rfl rfl rfl rfl (Nat.le_of_ble_eq_true rfl) dX12_init_954 (fun H l1 hP hD hS => ?_)
  have hw : Wd D A s ([(q0, .inr (12, [.ref q11, .ref q12, .ref q13, .int 0, .ref q14, .ref q15, .int 0, .ref q16, .int 0, .int 0, .int 0, .int 0, .int 0, .int 0, .ref q17, .ref q18, .ref q19, .null, .null, .int 0, .int 0, .int 0, .int 0, .null, .null, .int 0, .null, .int 0, .null, .null, .null, .null, .null, .null, .int 0, .int 0, .int 0])), (q11, .inl (t 0, 313, .inl (fun _ => 0))), (q12, .inl (t 0, 313, .inl (fun _ => 0))), (q13, .inl (t 0, 65, .inl (fun _ => 0))), (q14, .inl (t 0, 200, .inl (fun _ => 0))), (q15, .inl (t 0, 200, .inl (fun _ => 0))), (q16, .inl (t 2, 144, .inl ltr)), (q17, .inl (t 0, 200, .inl (fun _ => 0))), (q18, .inl (t 0, 24, .inl (fun _ => 0))), (q19, .inl (t 0, 325, .inl (fun _ => 0)))]) H l1 := ⟨hP, hD, hS⟩
  refine lv_aload_n hx hb dX12_init_957 rfl (lv_at hl 0 rfl) ?_
  refine lv_iconst (v := (4)) hx hb dX12_init_958 (by decide) ?_
  refine newI cx hw (by decide) (N := 4) (by decide) (by omega) (Nat.le_of_ble_eq_true rfl) (Nat.le_of_ble_eq_true rfl) dX12_init_959 (fun q20 H hw => ?_)
  have hw : Wd D A s ([(q0, .inr (12, [.ref q11, .ref q12, .ref q13, .int 0, .ref q14, .ref q15, .int 0, .ref q16, .int 0, .int 0, .int 0, .int 0, .int 0, .int 0, .ref q17, .ref q18, .ref q19, .null, .null, .int 0, .int 0, .int 0, .int 0, .null, .null, .int 0, .null, .int 0, .null, .null, .null, .null, .null, .null, .int 0, .int 0, .int 0])), (q11, .inl (t 0, 313, .inl (fun _ => 0))), (q12, .inl (t 0, 313, .inl (fun _ => 0))), (q13, .inl (t 0, 65, .inl (fun _ => 0))), (q14, .inl (t 0, 200, .inl (fun _ => 0))), (q15, .inl (t 0, 200, .inl (fun _ => 0))), (q16, .inl (t 2, 144, .inl ltr)), (q17, .inl (t 0, 200, .inl (fun _ => 0))), (q18, .inl (t 0, 24, .inl (fun _ => 0))), (q19, .inl (t 0, 325, .inl (fun _ => 0))), (q20, .inl (t 0, 4, .inl (fun _ => 0)))]) H l1 := hw
  refine va_putF (ref := "DialSquareModel") (C := RX12) (T := TX12) (N := 37) (ci := 12) cx.1 cx.2.1 cx.2.2.2.2.1 lay_12 tyX12 tyX12_ok nmX12 cx.2.2.2.1 cx.2.2.2.2.2.1.1 hw.1 hw.2.1 hw.2.2 0 rfl rfl 17 (by decide) (cx.2.2.2.2.1 _ q_1114) (fun _ h => h) rfl cx.2.2.2.2.2.2.2.2.2 rfl rfl rfl rfl (Nat.le_of_ble_eq_true rfl) dX12_init_961 (fun H l1 hP hD hS => ?_)
  have hw : Wd D A s ([(q0, .inr (12, [.ref q11, .ref q12, .ref q13, .int 0, .ref q14, .ref q15, .int 0, .ref q16, .int 0, .int 0, .int 0, .int 0, .int 0, .int 0, .ref q17, .ref q18, .ref q19, .ref q20, .null, .int 0, .int 0, .int 0, .int 0, .null, .null, .int 0, .null, .int 0, .null, .null, .null, .null, .null, .null, .int 0, .int 0, .int 0])), (q11, .inl (t 0, 313, .inl (fun _ => 0))), (q12, .inl (t 0, 313, .inl (fun _ => 0))), (q13, .inl (t 0, 65, .inl (fun _ => 0))), (q14, .inl (t 0, 200, .inl (fun _ => 0))), (q15, .inl (t 0, 200, .inl (fun _ => 0))), (q16, .inl (t 2, 144, .inl ltr)), (q17, .inl (t 0, 200, .inl (fun _ => 0))), (q18, .inl (t 0, 24, .inl (fun _ => 0))), (q19, .inl (t 0, 325, .inl (fun _ => 0))), (q20, .inl (t 0, 4, .inl (fun _ => 0)))]) H l1 := ⟨hP, hD, hS⟩
  refine lv_aload_n hx hb dX12_init_964 rfl (lv_at hl 0 rfl) ?_
  refine lv_iconst (v := (4)) hx hb dX12_init_965 (by decide) ?_
  refine newI cx hw (by decide) (N := 4) (by decide) (by omega) (Nat.le_of_ble_eq_true rfl) (Nat.le_of_ble_eq_true rfl) dX12_init_966 (fun q21 H hw => ?_)
  have hw : Wd D A s ([(q0, .inr (12, [.ref q11, .ref q12, .ref q13, .int 0, .ref q14, .ref q15, .int 0, .ref q16, .int 0, .int 0, .int 0, .int 0, .int 0, .int 0, .ref q17, .ref q18, .ref q19, .ref q20, .null, .int 0, .int 0, .int 0, .int 0, .null, .null, .int 0, .null, .int 0, .null, .null, .null, .null, .null, .null, .int 0, .int 0, .int 0])), (q11, .inl (t 0, 313, .inl (fun _ => 0))), (q12, .inl (t 0, 313, .inl (fun _ => 0))), (q13, .inl (t 0, 65, .inl (fun _ => 0))), (q14, .inl (t 0, 200, .inl (fun _ => 0))), (q15, .inl (t 0, 200, .inl (fun _ => 0))), (q16, .inl (t 2, 144, .inl ltr)), (q17, .inl (t 0, 200, .inl (fun _ => 0))), (q18, .inl (t 0, 24, .inl (fun _ => 0))), (q19, .inl (t 0, 325, .inl (fun _ => 0))), (q20, .inl (t 0, 4, .inl (fun _ => 0))), (q21, .inl (t 0, 4, .inl (fun _ => 0)))]) H l1 := hw
  refine va_putF (ref := "DialSquareModel") (C := RX12) (T := TX12) (N := 37) (ci := 12) cx.1 cx.2.1 cx.2.2.2.2.1 lay_12 tyX12 tyX12_ok nmX12 cx.2.2.2.1 cx.2.2.2.2.2.1.1 hw.1 hw.2.1 hw.2.2 0 rfl rfl 18 (by decide) (cx.2.2.2.2.1 _ q_1115) (fun _ h => h) rfl cx.2.2.2.2.2.2.2.2.2 rfl rfl rfl rfl (Nat.le_of_ble_eq_true rfl) dX12_init_968 (fun H l1 hP hD hS => ?_)
  have hw : Wd D A s ([(q0, .inr (12, [.ref q11, .ref q12, .ref q13, .int 0, .ref q14, .ref q15, .int 0, .ref q16, .int 0, .int 0, .int 0, .int 0, .int 0, .int 0, .ref q17, .ref q18, .ref q19, .ref q20, .ref q21, .int 0, .int 0, .int 0, .int 0, .null, .null, .int 0, .null, .int 0, .null, .null, .null, .null, .null, .null, .int 0, .int 0, .int 0])), (q11, .inl (t 0, 313, .inl (fun _ => 0))), (q12, .inl (t 0, 313, .inl (fun _ => 0))), (q13, .inl (t 0, 65, .inl (fun _ => 0))), (q14, .inl (t 0, 200, .inl (fun _ => 0))), (q15, .inl (t 0, 200, .inl (fun _ => 0))), (q16, .inl (t 2, 144, .inl ltr)), (q17, .inl (t 0, 200, .inl (fun _ => 0))), (q18, .inl (t 0, 24, .inl (fun _ => 0))), (q19, .inl (t 0, 325, .inl (fun _ => 0))), (q20, .inl (t 0, 4, .inl (fun _ => 0))), (q21, .inl (t 0, 4, .inl (fun _ => 0)))]) H l1 := ⟨hP, hD, hS⟩
  refine lv_aload_n hx hb dX12_init_971 rfl (lv_at hl 0 rfl) ?_
  refine lv_bipush (v := (16)) hx hb dX12_init_972 (by decide) ?_
  refine newI cx hw (by decide) (N := 16) (by decide) (by omega) (Nat.le_of_ble_eq_true rfl) (Nat.le_of_ble_eq_true rfl) dX12_init_974 (fun q22 H hw => ?_)
  have hw : Wd D A s ([(q0, .inr (12, [.ref q11, .ref q12, .ref q13, .int 0, .ref q14, .ref q15, .int 0, .ref q16, .int 0, .int 0, .int 0, .int 0, .int 0, .int 0, .ref q17, .ref q18, .ref q19, .ref q20, .ref q21, .int 0, .int 0, .int 0, .int 0, .null, .null, .int 0, .null, .int 0, .null, .null, .null, .null, .null, .null, .int 0, .int 0, .int 0])), (q11, .inl (t 0, 313, .inl (fun _ => 0))), (q12, .inl (t 0, 313, .inl (fun _ => 0))), (q13, .inl (t 0, 65, .inl (fun _ => 0))), (q14, .inl (t 0, 200, .inl (fun _ => 0))), (q15, .inl (t 0, 200, .inl (fun _ => 0))), (q16, .inl (t 2, 144, .inl ltr)), (q17, .inl (t 0, 200, .inl (fun _ => 0))), (q18, .inl (t 0, 24, .inl (fun _ => 0))), (q19, .inl (t 0, 325, .inl (fun _ => 0))), (q20, .inl (t 0, 4, .inl (fun _ => 0))), (q21, .inl (t 0, 4, .inl (fun _ => 0))), (q22, .inl (t 0, 16, .inl (fun _ => 0)))]) H l1 := hw
  refine va_putF (ref := "DialSquareModel") (C := RX12) (T := TX12) (N := 37) (ci := 12) cx.1 cx.2.1 cx.2.2.2.2.1 lay_12 tyX12 tyX12_ok nmX12 cx.2.2.2.1 cx.2.2.2.2.2.1.1 hw.1 hw.2.1 hw.2.2 0 rfl rfl 23 (by decide) (cx.2.2.2.2.1 _ q_1120) (fun _ h => h) rfl cx.2.2.2.2.2.2.2.2.2 rfl rfl rfl rfl (Nat.le_of_ble_eq_true rfl) dX12_init_976 (fun H l1 hP hD hS => ?_)
  have hw : Wd D A s ([(q0, .inr (12, [.ref q11, .ref q12, .ref q13, .int 0, .ref q14, .ref q15, .int 0, .ref q16, .int 0, .int 0, .int 0, .int 0, .int 0, .int 0, .ref q17, .ref q18, .ref q19, .ref q20, .ref q21, .int 0, .int 0, .int 0, .int 0, .ref q22, .null, .int 0, .null, .int 0, .null, .null, .null, .null, .null, .null, .int 0, .int 0, .int 0])), (q11, .inl (t 0, 313, .inl (fun _ => 0))), (q12, .inl (t 0, 313, .inl (fun _ => 0))), (q13, .inl (t 0, 65, .inl (fun _ => 0))), (q14, .inl (t 0, 200, .inl (fun _ => 0))), (q15, .inl (t 0, 200, .inl (fun _ => 0))), (q16, .inl (t 2, 144, .inl ltr)), (q17, .inl (t 0, 200, .inl (fun _ => 0))), (q18, .inl (t 0, 24, .inl (fun _ => 0))), (q19, .inl (t 0, 325, .inl (fun _ => 0))), (q20, .inl (t 0, 4, .inl (fun _ => 0))), (q21, .inl (t 0, 4, .inl (fun _ => 0))), (q22, .inl (t 0, 16, .inl (fun _ => 0)))]) H l1 := ⟨hP, hD, hS⟩
  refine lv_aload_n hx hb dX12_init_979 rfl (lv_at hl 0 rfl) ?_
  refine lv_bipush (v := (16)) hx hb dX12_init_980 (by decide) ?_
  refine newI cx hw (by decide) (N := 16) (by decide) (by omega) (Nat.le_of_ble_eq_true rfl) (Nat.le_of_ble_eq_true rfl) dX12_init_982 (fun q23 H hw => ?_)
  have hw : Wd D A s ([(q0, .inr (12, [.ref q11, .ref q12, .ref q13, .int 0, .ref q14, .ref q15, .int 0, .ref q16, .int 0, .int 0, .int 0, .int 0, .int 0, .int 0, .ref q17, .ref q18, .ref q19, .ref q20, .ref q21, .int 0, .int 0, .int 0, .int 0, .ref q22, .null, .int 0, .null, .int 0, .null, .null, .null, .null, .null, .null, .int 0, .int 0, .int 0])), (q11, .inl (t 0, 313, .inl (fun _ => 0))), (q12, .inl (t 0, 313, .inl (fun _ => 0))), (q13, .inl (t 0, 65, .inl (fun _ => 0))), (q14, .inl (t 0, 200, .inl (fun _ => 0))), (q15, .inl (t 0, 200, .inl (fun _ => 0))), (q16, .inl (t 2, 144, .inl ltr)), (q17, .inl (t 0, 200, .inl (fun _ => 0))), (q18, .inl (t 0, 24, .inl (fun _ => 0))), (q19, .inl (t 0, 325, .inl (fun _ => 0))), (q20, .inl (t 0, 4, .inl (fun _ => 0))), (q21, .inl (t 0, 4, .inl (fun _ => 0))), (q22, .inl (t 0, 16, .inl (fun _ => 0))), (q23, .inl (t 0, 16, .inl (fun _ => 0)))]) H l1 := hw
  refine va_putF (ref := "DialSquareModel") (C := RX12) (T := TX12) (N := 37) (ci := 12) cx.1 cx.2.1 cx.2.2.2.2.1 lay_12 tyX12 tyX12_ok nmX12 cx.2.2.2.1 cx.2.2.2.2.2.1.1 hw.1 hw.2.1 hw.2.2 0 rfl rfl 24 (by decide) (cx.2.2.2.2.1 _ q_1121) (fun _ h => h) rfl cx.2.2.2.2.2.2.2.2.2 rfl rfl rfl rfl (Nat.le_of_ble_eq_true rfl) dX12_init_984 (fun H l1 hP hD hS => ?_)
  have hw : Wd D A s ([(q0, .inr (12, [.ref q11, .ref q12, .ref q13, .int 0, .ref q14, .ref q15, .int 0, .ref q16, .int 0, .int 0, .int 0, .int 0, .int 0, .int 0, .ref q17, .ref q18, .ref q19, .ref q20, .ref q21, .int 0, .int 0, .int 0, .int 0, .ref q22, .ref q23, .int 0, .null, .int 0, .null, .null, .null, .null, .null, .null, .int 0, .int 0, .int 0])), (q11, .inl (t 0, 313, .inl (fun _ => 0))), (q12, .inl (t 0, 313, .inl (fun _ => 0))), (q13, .inl (t 0, 65, .inl (fun _ => 0))), (q14, .inl (t 0, 200, .inl (fun _ => 0))), (q15, .inl (t 0, 200, .inl (fun _ => 0))), (q16, .inl (t 2, 144, .inl ltr)), (q17, .inl (t 0, 200, .inl (fun _ => 0))), (q18, .inl (t 0, 24, .inl (fun _ => 0))), (q19, .inl (t 0, 325, .inl (fun _ => 0))), (q20, .inl (t 0, 4, .inl (fun _ => 0))), (q21, .inl (t 0, 4, .inl (fun _ => 0))), (q22, .inl (t 0, 16, .inl (fun _ => 0))), (q23, .inl (t 0, 16, .inl (fun _ => 0)))]) H l1 := ⟨hP, hD, hS⟩
  refine lv_aload_n hx hb dX12_init_987 rfl (lv_at hl 0 rfl) ?_
  refine lv_bipush (v := (12)) hx hb dX12_init_988 (by decide) ?_
  refine newI cx hw (by decide) (N := 12) (by decide) (by omega) (Nat.le_of_ble_eq_true rfl) (Nat.le_of_ble_eq_true rfl) dX12_init_990 (fun q24 H hw => ?_)
  have hw : Wd D A s ([(q0, .inr (12, [.ref q11, .ref q12, .ref q13, .int 0, .ref q14, .ref q15, .int 0, .ref q16, .int 0, .int 0, .int 0, .int 0, .int 0, .int 0, .ref q17, .ref q18, .ref q19, .ref q20, .ref q21, .int 0, .int 0, .int 0, .int 0, .ref q22, .ref q23, .int 0, .null, .int 0, .null, .null, .null, .null, .null, .null, .int 0, .int 0, .int 0])), (q11, .inl (t 0, 313, .inl (fun _ => 0))), (q12, .inl (t 0, 313, .inl (fun _ => 0))), (q13, .inl (t 0, 65, .inl (fun _ => 0))), (q14, .inl (t 0, 200, .inl (fun _ => 0))), (q15, .inl (t 0, 200, .inl (fun _ => 0))), (q16, .inl (t 2, 144, .inl ltr)), (q17, .inl (t 0, 200, .inl (fun _ => 0))), (q18, .inl (t 0, 24, .inl (fun _ => 0))), (q19, .inl (t 0, 325, .inl (fun _ => 0))), (q20, .inl (t 0, 4, .inl (fun _ => 0))), (q21, .inl (t 0, 4, .inl (fun _ => 0))), (q22, .inl (t 0, 16, .inl (fun _ => 0))), (q23, .inl (t 0, 16, .inl (fun _ => 0))), (q24, .inl (t 0, 12, .inl (fun _ => 0)))]) H l1 := hw
  refine va_putF (ref := "DialSquareModel") (C := RX12) (T := TX12) (N := 37) (ci := 12) cx.1 cx.2.1 cx.2.2.2.2.1 lay_12 tyX12 tyX12_ok nmX12 cx.2.2.2.1 cx.2.2.2.2.2.1.1 hw.1 hw.2.1 hw.2.2 0 rfl rfl 26 (by decide) (cx.2.2.2.2.1 _ q_1123) (fun _ h => h) rfl cx.2.2.2.2.2.2.2.2.2 rfl rfl rfl rfl (Nat.le_of_ble_eq_true rfl) dX12_init_992 (fun H l1 hP hD hS => ?_)
  have hw : Wd D A s ([(q0, .inr (12, [.ref q11, .ref q12, .ref q13, .int 0, .ref q14, .ref q15, .int 0, .ref q16, .int 0, .int 0, .int 0, .int 0, .int 0, .int 0, .ref q17, .ref q18, .ref q19, .ref q20, .ref q21, .int 0, .int 0, .int 0, .int 0, .ref q22, .ref q23, .int 0, .ref q24, .int 0, .null, .null, .null, .null, .null, .null, .int 0, .int 0, .int 0])), (q11, .inl (t 0, 313, .inl (fun _ => 0))), (q12, .inl (t 0, 313, .inl (fun _ => 0))), (q13, .inl (t 0, 65, .inl (fun _ => 0))), (q14, .inl (t 0, 200, .inl (fun _ => 0))), (q15, .inl (t 0, 200, .inl (fun _ => 0))), (q16, .inl (t 2, 144, .inl ltr)), (q17, .inl (t 0, 200, .inl (fun _ => 0))), (q18, .inl (t 0, 24, .inl (fun _ => 0))), (q19, .inl (t 0, 325, .inl (fun _ => 0))), (q20, .inl (t 0, 4, .inl (fun _ => 0))), (q21, .inl (t 0, 4, .inl (fun _ => 0))), (q22, .inl (t 0, 16, .inl (fun _ => 0))), (q23, .inl (t 0, 16, .inl (fun _ => 0))), (q24, .inl (t 0, 12, .inl (fun _ => 0)))]) H l1 := ⟨hP, hD, hS⟩
  refine lv_aload_n hx hb dX12_init_995 rfl (lv_at hl 0 rfl) ?_
  refine lv_iconst (v := (4)) hx hb dX12_init_996 (by decide) ?_
  refine newI cx hw (by decide) (N := 4) (by decide) (by omega) (Nat.le_of_ble_eq_true rfl) (Nat.le_of_ble_eq_true rfl) dX12_init_997 (fun q25 H hw => ?_)
  have hw : Wd D A s ([(q0, .inr (12, [.ref q11, .ref q12, .ref q13, .int 0, .ref q14, .ref q15, .int 0, .ref q16, .int 0, .int 0, .int 0, .int 0, .int 0, .int 0, .ref q17, .ref q18, .ref q19, .ref q20, .ref q21, .int 0, .int 0, .int 0, .int 0, .ref q22, .ref q23, .int 0, .ref q24, .int 0, .null, .null, .null, .null, .null, .null, .int 0, .int 0, .int 0])), (q11, .inl (t 0, 313, .inl (fun _ => 0))), (q12, .inl (t 0, 313, .inl (fun _ => 0))), (q13, .inl (t 0, 65, .inl (fun _ => 0))), (q14, .inl (t 0, 200, .inl (fun _ => 0))), (q15, .inl (t 0, 200, .inl (fun _ => 0))), (q16, .inl (t 2, 144, .inl ltr)), (q17, .inl (t 0, 200, .inl (fun _ => 0))), (q18, .inl (t 0, 24, .inl (fun _ => 0))), (q19, .inl (t 0, 325, .inl (fun _ => 0))), (q20, .inl (t 0, 4, .inl (fun _ => 0))), (q21, .inl (t 0, 4, .inl (fun _ => 0))), (q22, .inl (t 0, 16, .inl (fun _ => 0))), (q23, .inl (t 0, 16, .inl (fun _ => 0))), (q24, .inl (t 0, 12, .inl (fun _ => 0))), (q25, .inl (t 0, 4, .inl (fun _ => 0)))]) H l1 := hw
  refine lv_dup hx hb dX12_init_999 rfl ?_
  refine lv_iconst (v := (0)) hx hb dX12_init_1000 (by decide) ?_
  refine lv_iconst (v := (-1)) hx hb dX12_init_1001 (by decide) ?_
  refine va_iast hx hb cx.2.2.2.2.2.1.1 hw.1 hw.2.1 hw.2.2 15 0 rfl rfl (ib_in (by decide)) dX12_init_1002 (fun H l1 hP hD hS => ?_)
  have hw : Wd D A s ([(q0, .inr (12, [.ref q11, .ref q12, .ref q13, .int 0, .ref q14, .ref q15, .int 0, .ref q16, .int 0, .int 0, .int 0, .int 0, .int 0, .int 0, .ref q17, .ref q18, .ref q19, .ref q20, .ref q21, .int 0, .int 0, .int 0, .int 0, .ref q22, .ref q23, .int 0, .ref q24, .int 0, .null, .null, .null, .null, .null, .null, .int 0, .int 0, .int 0])), (q11, .inl (t 0, 313, .inl (fun _ => 0))), (q12, .inl (t 0, 313, .inl (fun _ => 0))), (q13, .inl (t 0, 65, .inl (fun _ => 0))), (q14, .inl (t 0, 200, .inl (fun _ => 0))), (q15, .inl (t 0, 200, .inl (fun _ => 0))), (q16, .inl (t 2, 144, .inl ltr)), (q17, .inl (t 0, 200, .inl (fun _ => 0))), (q18, .inl (t 0, 24, .inl (fun _ => 0))), (q19, .inl (t 0, 325, .inl (fun _ => 0))), (q20, .inl (t 0, 4, .inl (fun _ => 0))), (q21, .inl (t 0, 4, .inl (fun _ => 0))), (q22, .inl (t 0, 16, .inl (fun _ => 0))), (q23, .inl (t 0, 16, .inl (fun _ => 0))), (q24, .inl (t 0, 12, .inl (fun _ => 0))), (q25, .inl (t 0, 4, .inl (upd (fun _ => 0) 0 (-1))))]) H l1 := ⟨hP, hD, hS⟩
  refine lv_dup hx hb dX12_init_1003 rfl ?_
  refine lv_iconst (v := (1)) hx hb dX12_init_1004 (by decide) ?_
  refine lv_iconst (v := (-1)) hx hb dX12_init_1005 (by decide) ?_
  refine va_iast hx hb cx.2.2.2.2.2.1.1 hw.1 hw.2.1 hw.2.2 15 0 rfl rfl (ib_in (by decide)) dX12_init_1006 (fun H l1 hP hD hS => ?_)
  have hw : Wd D A s ([(q0, .inr (12, [.ref q11, .ref q12, .ref q13, .int 0, .ref q14, .ref q15, .int 0, .ref q16, .int 0, .int 0, .int 0, .int 0, .int 0, .int 0, .ref q17, .ref q18, .ref q19, .ref q20, .ref q21, .int 0, .int 0, .int 0, .int 0, .ref q22, .ref q23, .int 0, .ref q24, .int 0, .null, .null, .null, .null, .null, .null, .int 0, .int 0, .int 0])), (q11, .inl (t 0, 313, .inl (fun _ => 0))), (q12, .inl (t 0, 313, .inl (fun _ => 0))), (q13, .inl (t 0, 65, .inl (fun _ => 0))), (q14, .inl (t 0, 200, .inl (fun _ => 0))), (q15, .inl (t 0, 200, .inl (fun _ => 0))), (q16, .inl (t 2, 144, .inl ltr)), (q17, .inl (t 0, 200, .inl (fun _ => 0))), (q18, .inl (t 0, 24, .inl (fun _ => 0))), (q19, .inl (t 0, 325, .inl (fun _ => 0))), (q20, .inl (t 0, 4, .inl (fun _ => 0))), (q21, .inl (t 0, 4, .inl (fun _ => 0))), (q22, .inl (t 0, 16, .inl (fun _ => 0))), (q23, .inl (t 0, 16, .inl (fun _ => 0))), (q24, .inl (t 0, 12, .inl (fun _ => 0))), (q25, .inl (t 0, 4, .inl (upd (upd (fun _ => 0) 0 (-1)) 1 (-1))))]) H l1 := ⟨hP, hD, hS⟩
  refine lv_dup hx hb dX12_init_1007 rfl ?_
  refine lv_iconst (v := (2)) hx hb dX12_init_1008 (by decide) ?_
  refine lv_iconst (v := (-1)) hx hb dX12_init_1009 (by decide) ?_
  refine va_iast hx hb cx.2.2.2.2.2.1.1 hw.1 hw.2.1 hw.2.2 15 0 rfl rfl (ib_in (by decide)) dX12_init_1010 (fun H l1 hP hD hS => ?_)
  have hw : Wd D A s ([(q0, .inr (12, [.ref q11, .ref q12, .ref q13, .int 0, .ref q14, .ref q15, .int 0, .ref q16, .int 0, .int 0, .int 0, .int 0, .int 0, .int 0, .ref q17, .ref q18, .ref q19, .ref q20, .ref q21, .int 0, .int 0, .int 0, .int 0, .ref q22, .ref q23, .int 0, .ref q24, .int 0, .null, .null, .null, .null, .null, .null, .int 0, .int 0, .int 0])), (q11, .inl (t 0, 313, .inl (fun _ => 0))), (q12, .inl (t 0, 313, .inl (fun _ => 0))), (q13, .inl (t 0, 65, .inl (fun _ => 0))), (q14, .inl (t 0, 200, .inl (fun _ => 0))), (q15, .inl (t 0, 200, .inl (fun _ => 0))), (q16, .inl (t 2, 144, .inl ltr)), (q17, .inl (t 0, 200, .inl (fun _ => 0))), (q18, .inl (t 0, 24, .inl (fun _ => 0))), (q19, .inl (t 0, 325, .inl (fun _ => 0))), (q20, .inl (t 0, 4, .inl (fun _ => 0))), (q21, .inl (t 0, 4, .inl (fun _ => 0))), (q22, .inl (t 0, 16, .inl (fun _ => 0))), (q23, .inl (t 0, 16, .inl (fun _ => 0))), (q24, .inl (t 0, 12, .inl (fun _ => 0))), (q25, .inl (t 0, 4, .inl (upd (upd (upd (fun _ => 0) 0 (-1)) 1 (-1)) 2 (-1))))]) H l1 := ⟨hP, hD, hS⟩
  refine lv_dup hx hb dX12_init_1011 rfl ?_
  refine lv_iconst (v := (3)) hx hb dX12_init_1012 (by decide) ?_
  refine lv_iconst (v := (-1)) hx hb dX12_init_1013 (by decide) ?_
  refine va_iast hx hb cx.2.2.2.2.2.1.1 hw.1 hw.2.1 hw.2.2 15 0 rfl rfl (ib_in (by decide)) dX12_init_1014 (fun H l1 hP hD hS => ?_)
  have hw : Wd D A s ([(q0, .inr (12, [.ref q11, .ref q12, .ref q13, .int 0, .ref q14, .ref q15, .int 0, .ref q16, .int 0, .int 0, .int 0, .int 0, .int 0, .int 0, .ref q17, .ref q18, .ref q19, .ref q20, .ref q21, .int 0, .int 0, .int 0, .int 0, .ref q22, .ref q23, .int 0, .ref q24, .int 0, .null, .null, .null, .null, .null, .null, .int 0, .int 0, .int 0])), (q11, .inl (t 0, 313, .inl (fun _ => 0))), (q12, .inl (t 0, 313, .inl (fun _ => 0))), (q13, .inl (t 0, 65, .inl (fun _ => 0))), (q14, .inl (t 0, 200, .inl (fun _ => 0))), (q15, .inl (t 0, 200, .inl (fun _ => 0))), (q16, .inl (t 2, 144, .inl ltr)), (q17, .inl (t 0, 200, .inl (fun _ => 0))), (q18, .inl (t 0, 24, .inl (fun _ => 0))), (q19, .inl (t 0, 325, .inl (fun _ => 0))), (q20, .inl (t 0, 4, .inl (fun _ => 0))), (q21, .inl (t 0, 4, .inl (fun _ => 0))), (q22, .inl (t 0, 16, .inl (fun _ => 0))), (q23, .inl (t 0, 16, .inl (fun _ => 0))), (q24, .inl (t 0, 12, .inl (fun _ => 0))), (q25, .inl (t 0, 4, .inl (upd (upd (upd (upd (fun _ => 0) 0 (-1)) 1 (-1)) 2 (-1)) 3 (-1))))]) H l1 := ⟨hP, hD, hS⟩
  refine va_putF (ref := "DialSquareModel") (C := RX12) (T := TX12) (N := 37) (ci := 12) cx.1 cx.2.1 cx.2.2.2.2.1 lay_12 tyX12 tyX12_ok nmX12 cx.2.2.2.1 cx.2.2.2.2.2.1.1 hw.1 hw.2.1 hw.2.2 0 rfl rfl 28 (by decide) (cx.2.2.2.2.1 _ q_1125) (fun _ h => h) rfl cx.2.2.2.2.2.2.2.2.2 rfl rfl rfl rfl (Nat.le_of_ble_eq_true rfl) dX12_init_1015 (fun H l1 hP hD hS => ?_)
  have hw : Wd D A s ([(q0, .inr (12, [.ref q11, .ref q12, .ref q13, .int 0, .ref q14, .ref q15, .int 0, .ref q16, .int 0, .int 0, .int 0, .int 0, .int 0, .int 0, .ref q17, .ref q18, .ref q19, .ref q20, .ref q21, .int 0, .int 0, .int 0, .int 0, .ref q22, .ref q23, .int 0, .ref q24, .int 0, .ref q25, .null, .null, .null, .null, .null, .int 0, .int 0, .int 0])), (q11, .inl (t 0, 313, .inl (fun _ => 0))), (q12, .inl (t 0, 313, .inl (fun _ => 0))), (q13, .inl (t 0, 65, .inl (fun _ => 0))), (q14, .inl (t 0, 200, .inl (fun _ => 0))), (q15, .inl (t 0, 200, .inl (fun _ => 0))), (q16, .inl (t 2, 144, .inl ltr)), (q17, .inl (t 0, 200, .inl (fun _ => 0))), (q18, .inl (t 0, 24, .inl (fun _ => 0))), (q19, .inl (t 0, 325, .inl (fun _ => 0))), (q20, .inl (t 0, 4, .inl (fun _ => 0))), (q21, .inl (t 0, 4, .inl (fun _ => 0))), (q22, .inl (t 0, 16, .inl (fun _ => 0))), (q23, .inl (t 0, 16, .inl (fun _ => 0))), (q24, .inl (t 0, 12, .inl (fun _ => 0))), (q25, .inl (t 0, 4, .inl (upd (upd (upd (upd (fun _ => 0) 0 (-1)) 1 (-1)) 2 (-1)) 3 (-1))))]) H l1 := ⟨hP, hD, hS⟩
  refine lv_aload_n hx hb dX12_init_1018 rfl (lv_at hl 0 rfl) ?_
  refine lv_iconst (v := (4)) hx hb dX12_init_1019 (by decide) ?_
  refine newI cx hw (by decide) (N := 4) (by decide) (by omega) (Nat.le_of_ble_eq_true rfl) (Nat.le_of_ble_eq_true rfl) dX12_init_1020 (fun q26 H hw => ?_)
  have hw : Wd D A s ([(q0, .inr (12, [.ref q11, .ref q12, .ref q13, .int 0, .ref q14, .ref q15, .int 0, .ref q16, .int 0, .int 0, .int 0, .int 0, .int 0, .int 0, .ref q17, .ref q18, .ref q19, .ref q20, .ref q21, .int 0, .int 0, .int 0, .int 0, .ref q22, .ref q23, .int 0, .ref q24, .int 0, .ref q25, .null, .null, .null, .null, .null, .int 0, .int 0, .int 0])), (q11, .inl (t 0, 313, .inl (fun _ => 0))), (q12, .inl (t 0, 313, .inl (fun _ => 0))), (q13, .inl (t 0, 65, .inl (fun _ => 0))), (q14, .inl (t 0, 200, .inl (fun _ => 0))), (q15, .inl (t 0, 200, .inl (fun _ => 0))), (q16, .inl (t 2, 144, .inl ltr)), (q17, .inl (t 0, 200, .inl (fun _ => 0))), (q18, .inl (t 0, 24, .inl (fun _ => 0))), (q19, .inl (t 0, 325, .inl (fun _ => 0))), (q20, .inl (t 0, 4, .inl (fun _ => 0))), (q21, .inl (t 0, 4, .inl (fun _ => 0))), (q22, .inl (t 0, 16, .inl (fun _ => 0))), (q23, .inl (t 0, 16, .inl (fun _ => 0))), (q24, .inl (t 0, 12, .inl (fun _ => 0))), (q25, .inl (t 0, 4, .inl (upd (upd (upd (upd (fun _ => 0) 0 (-1)) 1 (-1)) 2 (-1)) 3 (-1)))), (q26, .inl (t 0, 4, .inl (fun _ => 0)))]) H l1 := hw
  refine va_putF (ref := "DialSquareModel") (C := RX12) (T := TX12) (N := 37) (ci := 12) cx.1 cx.2.1 cx.2.2.2.2.1 lay_12 tyX12 tyX12_ok nmX12 cx.2.2.2.1 cx.2.2.2.2.2.1.1 hw.1 hw.2.1 hw.2.2 0 rfl rfl 29 (by decide) (cx.2.2.2.2.1 _ q_1126) (fun _ h => h) rfl cx.2.2.2.2.2.2.2.2.2 rfl rfl rfl rfl (Nat.le_of_ble_eq_true rfl) dX12_init_1022 (fun H l1 hP hD hS => ?_)
  have hw : Wd D A s ([(q0, .inr (12, [.ref q11, .ref q12, .ref q13, .int 0, .ref q14, .ref q15, .int 0, .ref q16, .int 0, .int 0, .int 0, .int 0, .int 0, .int 0, .ref q17, .ref q18, .ref q19, .ref q20, .ref q21, .int 0, .int 0, .int 0, .int 0, .ref q22, .ref q23, .int 0, .ref q24, .int 0, .ref q25, .ref q26, .null, .null, .null, .null, .int 0, .int 0, .int 0])), (q11, .inl (t 0, 313, .inl (fun _ => 0))), (q12, .inl (t 0, 313, .inl (fun _ => 0))), (q13, .inl (t 0, 65, .inl (fun _ => 0))), (q14, .inl (t 0, 200, .inl (fun _ => 0))), (q15, .inl (t 0, 200, .inl (fun _ => 0))), (q16, .inl (t 2, 144, .inl ltr)), (q17, .inl (t 0, 200, .inl (fun _ => 0))), (q18, .inl (t 0, 24, .inl (fun _ => 0))), (q19, .inl (t 0, 325, .inl (fun _ => 0))), (q20, .inl (t 0, 4, .inl (fun _ => 0))), (q21, .inl (t 0, 4, .inl (fun _ => 0))), (q22, .inl (t 0, 16, .inl (fun _ => 0))), (q23, .inl (t 0, 16, .inl (fun _ => 0))), (q24, .inl (t 0, 12, .inl (fun _ => 0))), (q25, .inl (t 0, 4, .inl (upd (upd (upd (upd (fun _ => 0) 0 (-1)) 1 (-1)) 2 (-1)) 3 (-1)))), (q26, .inl (t 0, 4, .inl (fun _ => 0)))]) H l1 := ⟨hP, hD, hS⟩
  refine lv_aload_n hx hb dX12_init_1025 rfl (lv_at hl 0 rfl) ?_
  refine lv_sipush (v := (160)) hx hb dX12_init_1026 (by decide) ?_
  refine newI cx hw (by decide) (N := 160) (by decide) (by omega) (Nat.le_of_ble_eq_true rfl) (Nat.le_of_ble_eq_true rfl) dX12_init_1029 (fun q27 H hw => ?_)
  have hw : Wd D A s ([(q0, .inr (12, [.ref q11, .ref q12, .ref q13, .int 0, .ref q14, .ref q15, .int 0, .ref q16, .int 0, .int 0, .int 0, .int 0, .int 0, .int 0, .ref q17, .ref q18, .ref q19, .ref q20, .ref q21, .int 0, .int 0, .int 0, .int 0, .ref q22, .ref q23, .int 0, .ref q24, .int 0, .ref q25, .ref q26, .null, .null, .null, .null, .int 0, .int 0, .int 0])), (q11, .inl (t 0, 313, .inl (fun _ => 0))), (q12, .inl (t 0, 313, .inl (fun _ => 0))), (q13, .inl (t 0, 65, .inl (fun _ => 0))), (q14, .inl (t 0, 200, .inl (fun _ => 0))), (q15, .inl (t 0, 200, .inl (fun _ => 0))), (q16, .inl (t 2, 144, .inl ltr)), (q17, .inl (t 0, 200, .inl (fun _ => 0))), (q18, .inl (t 0, 24, .inl (fun _ => 0))), (q19, .inl (t 0, 325, .inl (fun _ => 0))), (q20, .inl (t 0, 4, .inl (fun _ => 0))), (q21, .inl (t 0, 4, .inl (fun _ => 0))), (q22, .inl (t 0, 16, .inl (fun _ => 0))), (q23, .inl (t 0, 16, .inl (fun _ => 0))), (q24, .inl (t 0, 12, .inl (fun _ => 0))), (q25, .inl (t 0, 4, .inl (upd (upd (upd (upd (fun _ => 0) 0 (-1)) 1 (-1)) 2 (-1)) 3 (-1)))), (q26, .inl (t 0, 4, .inl (fun _ => 0))), (q27, .inl (t 0, 160, .inl (fun _ => 0)))]) H l1 := hw
  refine va_putF (ref := "DialSquareModel") (C := RX12) (T := TX12) (N := 37) (ci := 12) cx.1 cx.2.1 cx.2.2.2.2.1 lay_12 tyX12 tyX12_ok nmX12 cx.2.2.2.1 cx.2.2.2.2.2.1.1 hw.1 hw.2.1 hw.2.2 0 rfl rfl 30 (by decide) (cx.2.2.2.2.1 _ q_1127) (fun _ h => h) rfl cx.2.2.2.2.2.2.2.2.2 rfl rfl rfl rfl (Nat.le_of_ble_eq_true rfl) dX12_init_1031 (fun H l1 hP hD hS => ?_)
  have hw : Wd D A s ([(q0, .inr (12, [.ref q11, .ref q12, .ref q13, .int 0, .ref q14, .ref q15, .int 0, .ref q16, .int 0, .int 0, .int 0, .int 0, .int 0, .int 0, .ref q17, .ref q18, .ref q19, .ref q20, .ref q21, .int 0, .int 0, .int 0, .int 0, .ref q22, .ref q23, .int 0, .ref q24, .int 0, .ref q25, .ref q26, .ref q27, .null, .null, .null, .int 0, .int 0, .int 0])), (q11, .inl (t 0, 313, .inl (fun _ => 0))), (q12, .inl (t 0, 313, .inl (fun _ => 0))), (q13, .inl (t 0, 65, .inl (fun _ => 0))), (q14, .inl (t 0, 200, .inl (fun _ => 0))), (q15, .inl (t 0, 200, .inl (fun _ => 0))), (q16, .inl (t 2, 144, .inl ltr)), (q17, .inl (t 0, 200, .inl (fun _ => 0))), (q18, .inl (t 0, 24, .inl (fun _ => 0))), (q19, .inl (t 0, 325, .inl (fun _ => 0))), (q20, .inl (t 0, 4, .inl (fun _ => 0))), (q21, .inl (t 0, 4, .inl (fun _ => 0))), (q22, .inl (t 0, 16, .inl (fun _ => 0))), (q23, .inl (t 0, 16, .inl (fun _ => 0))), (q24, .inl (t 0, 12, .inl (fun _ => 0))), (q25, .inl (t 0, 4, .inl (upd (upd (upd (upd (fun _ => 0) 0 (-1)) 1 (-1)) 2 (-1)) 3 (-1)))), (q26, .inl (t 0, 4, .inl (fun _ => 0))), (q27, .inl (t 0, 160, .inl (fun _ => 0)))]) H l1 := ⟨hP, hD, hS⟩
  refine lv_aload_n hx hb dX12_init_1034 rfl (lv_at hl 0 rfl) ?_
  refine lv_iconst (v := (4)) hx hb dX12_init_1035 (by decide) ?_
  refine newI cx hw (by decide) (N := 4) (by decide) (by omega) (Nat.le_of_ble_eq_true rfl) (Nat.le_of_ble_eq_true rfl) dX12_init_1036 (fun q28 H hw => ?_)
  have hw : Wd D A s ([(q0, .inr (12, [.ref q11, .ref q12, .ref q13, .int 0, .ref q14, .ref q15, .int 0, .ref q16, .int 0, .int 0, .int 0, .int 0, .int 0, .int 0, .ref q17, .ref q18, .ref q19, .ref q20, .ref q21, .int 0, .int 0, .int 0, .int 0, .ref q22, .ref q23, .int 0, .ref q24, .int 0, .ref q25, .ref q26, .ref q27, .null, .null, .null, .int 0, .int 0, .int 0])), (q11, .inl (t 0, 313, .inl (fun _ => 0))), (q12, .inl (t 0, 313, .inl (fun _ => 0))), (q13, .inl (t 0, 65, .inl (fun _ => 0))), (q14, .inl (t 0, 200, .inl (fun _ => 0))), (q15, .inl (t 0, 200, .inl (fun _ => 0))), (q16, .inl (t 2, 144, .inl ltr)), (q17, .inl (t 0, 200, .inl (fun _ => 0))), (q18, .inl (t 0, 24, .inl (fun _ => 0))), (q19, .inl (t 0, 325, .inl (fun _ => 0))), (q20, .inl (t 0, 4, .inl (fun _ => 0))), (q21, .inl (t 0, 4, .inl (fun _ => 0))), (q22, .inl (t 0, 16, .inl (fun _ => 0))), (q23, .inl (t 0, 16, .inl (fun _ => 0))), (q24, .inl (t 0, 12, .inl (fun _ => 0))), (q25, .inl (t 0, 4, .inl (upd (upd (upd (upd (fun _ => 0) 0 (-1)) 1 (-1)) 2 (-1)) 3 (-1)))), (q26, .inl (t 0, 4, .inl (fun _ => 0))), (q27, .inl (t 0, 160, .inl (fun _ => 0))), (q28, .inl (t 0, 4, .inl (fun _ => 0)))]) H l1 := hw
  refine lv_dup hx hb dX12_init_1038 rfl ?_
  refine lv_iconst (v := (0)) hx hb dX12_init_1039 (by decide) ?_
  refine lv_iconst (v := (-1)) hx hb dX12_init_1040 (by decide) ?_
  refine va_iast hx hb cx.2.2.2.2.2.1.1 hw.1 hw.2.1 hw.2.2 18 0 rfl rfl (ib_in (by decide)) dX12_init_1041 (fun H l1 hP hD hS => ?_)
  have hw : Wd D A s ([(q0, .inr (12, [.ref q11, .ref q12, .ref q13, .int 0, .ref q14, .ref q15, .int 0, .ref q16, .int 0, .int 0, .int 0, .int 0, .int 0, .int 0, .ref q17, .ref q18, .ref q19, .ref q20, .ref q21, .int 0, .int 0, .int 0, .int 0, .ref q22, .ref q23, .int 0, .ref q24, .int 0, .ref q25, .ref q26, .ref q27, .null, .null, .null, .int 0, .int 0, .int 0])), (q11, .inl (t 0, 313, .inl (fun _ => 0))), (q12, .inl (t 0, 313, .inl (fun _ => 0))), (q13, .inl (t 0, 65, .inl (fun _ => 0))), (q14, .inl (t 0, 200, .inl (fun _ => 0))), (q15, .inl (t 0, 200, .inl (fun _ => 0))), (q16, .inl (t 2, 144, .inl ltr)), (q17, .inl (t 0, 200, .inl (fun _ => 0))), (q18, .inl (t 0, 24, .inl (fun _ => 0))), (q19, .inl (t 0, 325, .inl (fun _ => 0))), (q20, .inl (t 0, 4, .inl (fun _ => 0))), (q21, .inl (t 0, 4, .inl (fun _ => 0))), (q22, .inl (t 0, 16, .inl (fun _ => 0))), (q23, .inl (t 0, 16, .inl (fun _ => 0))), (q24, .inl (t 0, 12, .inl (fun _ => 0))), (q25, .inl (t 0, 4, .inl (upd (upd (upd (upd (fun _ => 0) 0 (-1)) 1 (-1)) 2 (-1)) 3 (-1)))), (q26, .inl (t 0, 4, .inl (fun _ => 0))), (q27, .inl (t 0, 160, .inl (fun _ => 0))), (q28, .inl (t 0, 4, .inl (upd (fun _ => 0) 0 (-1))))]) H l1 := ⟨hP, hD, hS⟩
  refine lv_dup hx hb dX12_init_1042 rfl ?_
  refine lv_iconst (v := (1)) hx hb dX12_init_1043 (by decide) ?_
  refine lv_iconst (v := (-1)) hx hb dX12_init_1044 (by decide) ?_
  refine va_iast hx hb cx.2.2.2.2.2.1.1 hw.1 hw.2.1 hw.2.2 18 0 rfl rfl (ib_in (by decide)) dX12_init_1045 (fun H l1 hP hD hS => ?_)
  have hw : Wd D A s ([(q0, .inr (12, [.ref q11, .ref q12, .ref q13, .int 0, .ref q14, .ref q15, .int 0, .ref q16, .int 0, .int 0, .int 0, .int 0, .int 0, .int 0, .ref q17, .ref q18, .ref q19, .ref q20, .ref q21, .int 0, .int 0, .int 0, .int 0, .ref q22, .ref q23, .int 0, .ref q24, .int 0, .ref q25, .ref q26, .ref q27, .null, .null, .null, .int 0, .int 0, .int 0])), (q11, .inl (t 0, 313, .inl (fun _ => 0))), (q12, .inl (t 0, 313, .inl (fun _ => 0))), (q13, .inl (t 0, 65, .inl (fun _ => 0))), (q14, .inl (t 0, 200, .inl (fun _ => 0))), (q15, .inl (t 0, 200, .inl (fun _ => 0))), (q16, .inl (t 2, 144, .inl ltr)), (q17, .inl (t 0, 200, .inl (fun _ => 0))), (q18, .inl (t 0, 24, .inl (fun _ => 0))), (q19, .inl (t 0, 325, .inl (fun _ => 0))), (q20, .inl (t 0, 4, .inl (fun _ => 0))), (q21, .inl (t 0, 4, .inl (fun _ => 0))), (q22, .inl (t 0, 16, .inl (fun _ => 0))), (q23, .inl (t 0, 16, .inl (fun _ => 0))), (q24, .inl (t 0, 12, .inl (fun _ => 0))), (q25, .inl (t 0, 4, .inl (upd (upd (upd (upd (fun _ => 0) 0 (-1)) 1 (-1)) 2 (-1)) 3 (-1)))), (q26, .inl (t 0, 4, .inl (fun _ => 0))), (q27, .inl (t 0, 160, .inl (fun _ => 0))), (q28, .inl (t 0, 4, .inl (upd (upd (fun _ => 0) 0 (-1)) 1 (-1))))]) H l1 := ⟨hP, hD, hS⟩
  refine lv_dup hx hb dX12_init_1046 rfl ?_
  refine lv_iconst (v := (2)) hx hb dX12_init_1047 (by decide) ?_
  refine lv_iconst (v := (-1)) hx hb dX12_init_1048 (by decide) ?_
  refine va_iast hx hb cx.2.2.2.2.2.1.1 hw.1 hw.2.1 hw.2.2 18 0 rfl rfl (ib_in (by decide)) dX12_init_1049 (fun H l1 hP hD hS => ?_)
  have hw : Wd D A s ([(q0, .inr (12, [.ref q11, .ref q12, .ref q13, .int 0, .ref q14, .ref q15, .int 0, .ref q16, .int 0, .int 0, .int 0, .int 0, .int 0, .int 0, .ref q17, .ref q18, .ref q19, .ref q20, .ref q21, .int 0, .int 0, .int 0, .int 0, .ref q22, .ref q23, .int 0, .ref q24, .int 0, .ref q25, .ref q26, .ref q27, .null, .null, .null, .int 0, .int 0, .int 0])), (q11, .inl (t 0, 313, .inl (fun _ => 0))), (q12, .inl (t 0, 313, .inl (fun _ => 0))), (q13, .inl (t 0, 65, .inl (fun _ => 0))), (q14, .inl (t 0, 200, .inl (fun _ => 0))), (q15, .inl (t 0, 200, .inl (fun _ => 0))), (q16, .inl (t 2, 144, .inl ltr)), (q17, .inl (t 0, 200, .inl (fun _ => 0))), (q18, .inl (t 0, 24, .inl (fun _ => 0))), (q19, .inl (t 0, 325, .inl (fun _ => 0))), (q20, .inl (t 0, 4, .inl (fun _ => 0))), (q21, .inl (t 0, 4, .inl (fun _ => 0))), (q22, .inl (t 0, 16, .inl (fun _ => 0))), (q23, .inl (t 0, 16, .inl (fun _ => 0))), (q24, .inl (t 0, 12, .inl (fun _ => 0))), (q25, .inl (t 0, 4, .inl (upd (upd (upd (upd (fun _ => 0) 0 (-1)) 1 (-1)) 2 (-1)) 3 (-1)))), (q26, .inl (t 0, 4, .inl (fun _ => 0))), (q27, .inl (t 0, 160, .inl (fun _ => 0))), (q28, .inl (t 0, 4, .inl (upd (upd (upd (fun _ => 0) 0 (-1)) 1 (-1)) 2 (-1))))]) H l1 := ⟨hP, hD, hS⟩
  refine lv_dup hx hb dX12_init_1050 rfl ?_
  refine lv_iconst (v := (3)) hx hb dX12_init_1051 (by decide) ?_
  refine lv_iconst (v := (-1)) hx hb dX12_init_1052 (by decide) ?_
  refine va_iast hx hb cx.2.2.2.2.2.1.1 hw.1 hw.2.1 hw.2.2 18 0 rfl rfl (ib_in (by decide)) dX12_init_1053 (fun H l1 hP hD hS => ?_)
  have hw : Wd D A s ([(q0, .inr (12, [.ref q11, .ref q12, .ref q13, .int 0, .ref q14, .ref q15, .int 0, .ref q16, .int 0, .int 0, .int 0, .int 0, .int 0, .int 0, .ref q17, .ref q18, .ref q19, .ref q20, .ref q21, .int 0, .int 0, .int 0, .int 0, .ref q22, .ref q23, .int 0, .ref q24, .int 0, .ref q25, .ref q26, .ref q27, .null, .null, .null, .int 0, .int 0, .int 0])), (q11, .inl (t 0, 313, .inl (fun _ => 0))), (q12, .inl (t 0, 313, .inl (fun _ => 0))), (q13, .inl (t 0, 65, .inl (fun _ => 0))), (q14, .inl (t 0, 200, .inl (fun _ => 0))), (q15, .inl (t 0, 200, .inl (fun _ => 0))), (q16, .inl (t 2, 144, .inl ltr)), (q17, .inl (t 0, 200, .inl (fun _ => 0))), (q18, .inl (t 0, 24, .inl (fun _ => 0))), (q19, .inl (t 0, 325, .inl (fun _ => 0))), (q20, .inl (t 0, 4, .inl (fun _ => 0))), (q21, .inl (t 0, 4, .inl (fun _ => 0))), (q22, .inl (t 0, 16, .inl (fun _ => 0))), (q23, .inl (t 0, 16, .inl (fun _ => 0))), (q24, .inl (t 0, 12, .inl (fun _ => 0))), (q25, .inl (t 0, 4, .inl (upd (upd (upd (upd (fun _ => 0) 0 (-1)) 1 (-1)) 2 (-1)) 3 (-1)))), (q26, .inl (t 0, 4, .inl (fun _ => 0))), (q27, .inl (t 0, 160, .inl (fun _ => 0))), (q28, .inl (t 0, 4, .inl (upd (upd (upd (upd (fun _ => 0) 0 (-1)) 1 (-1)) 2 (-1)) 3 (-1))))]) H l1 := ⟨hP, hD, hS⟩
  refine va_putF (ref := "DialSquareModel") (C := RX12) (T := TX12) (N := 37) (ci := 12) cx.1 cx.2.1 cx.2.2.2.2.1 lay_12 tyX12 tyX12_ok nmX12 cx.2.2.2.1 cx.2.2.2.2.2.1.1 hw.1 hw.2.1 hw.2.2 0 rfl rfl 31 (by decide) (cx.2.2.2.2.1 _ q_1128) (fun _ h => h) rfl cx.2.2.2.2.2.2.2.2.2 rfl rfl rfl rfl (Nat.le_of_ble_eq_true rfl) dX12_init_1054 (fun H l1 hP hD hS => ?_)
  have hw : Wd D A s ([(q0, .inr (12, [.ref q11, .ref q12, .ref q13, .int 0, .ref q14, .ref q15, .int 0, .ref q16, .int 0, .int 0, .int 0, .int 0, .int 0, .int 0, .ref q17, .ref q18, .ref q19, .ref q20, .ref q21, .int 0, .int 0, .int 0, .int 0, .ref q22, .ref q23, .int 0, .ref q24, .int 0, .ref q25, .ref q26, .ref q27, .ref q28, .null, .null, .int 0, .int 0, .int 0])), (q11, .inl (t 0, 313, .inl (fun _ => 0))), (q12, .inl (t 0, 313, .inl (fun _ => 0))), (q13, .inl (t 0, 65, .inl (fun _ => 0))), (q14, .inl (t 0, 200, .inl (fun _ => 0))), (q15, .inl (t 0, 200, .inl (fun _ => 0))), (q16, .inl (t 2, 144, .inl ltr)), (q17, .inl (t 0, 200, .inl (fun _ => 0))), (q18, .inl (t 0, 24, .inl (fun _ => 0))), (q19, .inl (t 0, 325, .inl (fun _ => 0))), (q20, .inl (t 0, 4, .inl (fun _ => 0))), (q21, .inl (t 0, 4, .inl (fun _ => 0))), (q22, .inl (t 0, 16, .inl (fun _ => 0))), (q23, .inl (t 0, 16, .inl (fun _ => 0))), (q24, .inl (t 0, 12, .inl (fun _ => 0))), (q25, .inl (t 0, 4, .inl (upd (upd (upd (upd (fun _ => 0) 0 (-1)) 1 (-1)) 2 (-1)) 3 (-1)))), (q26, .inl (t 0, 4, .inl (fun _ => 0))), (q27, .inl (t 0, 160, .inl (fun _ => 0))), (q28, .inl (t 0, 4, .inl (upd (upd (upd (upd (fun _ => 0) 0 (-1)) 1 (-1)) 2 (-1)) 3 (-1))))]) H l1 := ⟨hP, hD, hS⟩
  refine lv_aload_n hx hb dX12_init_1057 rfl (lv_at hl 0 rfl) ?_
  refine lv_iconst (v := (4)) hx hb dX12_init_1058 (by decide) ?_
  refine newI cx hw (by decide) (N := 4) (by decide) (by omega) (Nat.le_of_ble_eq_true rfl) (Nat.le_of_ble_eq_true rfl) dX12_init_1059 (fun q29 H hw => ?_)
  have hw : Wd D A s ([(q0, .inr (12, [.ref q11, .ref q12, .ref q13, .int 0, .ref q14, .ref q15, .int 0, .ref q16, .int 0, .int 0, .int 0, .int 0, .int 0, .int 0, .ref q17, .ref q18, .ref q19, .ref q20, .ref q21, .int 0, .int 0, .int 0, .int 0, .ref q22, .ref q23, .int 0, .ref q24, .int 0, .ref q25, .ref q26, .ref q27, .ref q28, .null, .null, .int 0, .int 0, .int 0])), (q11, .inl (t 0, 313, .inl (fun _ => 0))), (q12, .inl (t 0, 313, .inl (fun _ => 0))), (q13, .inl (t 0, 65, .inl (fun _ => 0))), (q14, .inl (t 0, 200, .inl (fun _ => 0))), (q15, .inl (t 0, 200, .inl (fun _ => 0))), (q16, .inl (t 2, 144, .inl ltr)), (q17, .inl (t 0, 200, .inl (fun _ => 0))), (q18, .inl (t 0, 24, .inl (fun _ => 0))), (q19, .inl (t 0, 325, .inl (fun _ => 0))), (q20, .inl (t 0, 4, .inl (fun _ => 0))), (q21, .inl (t 0, 4, .inl (fun _ => 0))), (q22, .inl (t 0, 16, .inl (fun _ => 0))), (q23, .inl (t 0, 16, .inl (fun _ => 0))), (q24, .inl (t 0, 12, .inl (fun _ => 0))), (q25, .inl (t 0, 4, .inl (upd (upd (upd (upd (fun _ => 0) 0 (-1)) 1 (-1)) 2 (-1)) 3 (-1)))), (q26, .inl (t 0, 4, .inl (fun _ => 0))), (q27, .inl (t 0, 160, .inl (fun _ => 0))), (q28, .inl (t 0, 4, .inl (upd (upd (upd (upd (fun _ => 0) 0 (-1)) 1 (-1)) 2 (-1)) 3 (-1)))), (q29, .inl (t 0, 4, .inl (fun _ => 0)))]) H l1 := hw
  refine va_putF (ref := "DialSquareModel") (C := RX12) (T := TX12) (N := 37) (ci := 12) cx.1 cx.2.1 cx.2.2.2.2.1 lay_12 tyX12 tyX12_ok nmX12 cx.2.2.2.1 cx.2.2.2.2.2.1.1 hw.1 hw.2.1 hw.2.2 0 rfl rfl 32 (by decide) (cx.2.2.2.2.1 _ q_1129) (fun _ h => h) rfl cx.2.2.2.2.2.2.2.2.2 rfl rfl rfl rfl (Nat.le_of_ble_eq_true rfl) dX12_init_1061 (fun H l1 hP hD hS => ?_)
  have hw : Wd D A s ([(q0, .inr (12, [.ref q11, .ref q12, .ref q13, .int 0, .ref q14, .ref q15, .int 0, .ref q16, .int 0, .int 0, .int 0, .int 0, .int 0, .int 0, .ref q17, .ref q18, .ref q19, .ref q20, .ref q21, .int 0, .int 0, .int 0, .int 0, .ref q22, .ref q23, .int 0, .ref q24, .int 0, .ref q25, .ref q26, .ref q27, .ref q28, .ref q29, .null, .int 0, .int 0, .int 0])), (q11, .inl (t 0, 313, .inl (fun _ => 0))), (q12, .inl (t 0, 313, .inl (fun _ => 0))), (q13, .inl (t 0, 65, .inl (fun _ => 0))), (q14, .inl (t 0, 200, .inl (fun _ => 0))), (q15, .inl (t 0, 200, .inl (fun _ => 0))), (q16, .inl (t 2, 144, .inl ltr)), (q17, .inl (t 0, 200, .inl (fun _ => 0))), (q18, .inl (t 0, 24, .inl (fun _ => 0))), (q19, .inl (t 0, 325, .inl (fun _ => 0))), (q20, .inl (t 0, 4, .inl (fun _ => 0))), (q21, .inl (t 0, 4, .inl (fun _ => 0))), (q22, .inl (t 0, 16, .inl (fun _ => 0))), (q23, .inl (t 0, 16, .inl (fun _ => 0))), (q24, .inl (t 0, 12, .inl (fun _ => 0))), (q25, .inl (t 0, 4, .inl (upd (upd (upd (upd (fun _ => 0) 0 (-1)) 1 (-1)) 2 (-1)) 3 (-1)))), (q26, .inl (t 0, 4, .inl (fun _ => 0))), (q27, .inl (t 0, 160, .inl (fun _ => 0))), (q28, .inl (t 0, 4, .inl (upd (upd (upd (upd (fun _ => 0) 0 (-1)) 1 (-1)) 2 (-1)) 3 (-1)))), (q29, .inl (t 0, 4, .inl (fun _ => 0)))]) H l1 := ⟨hP, hD, hS⟩
  refine lv_aload_n hx hb dX12_init_1064 rfl (lv_at hl 0 rfl) ?_
  refine lv_bipush (v := (30)) hx hb dX12_init_1065 (by decide) ?_
  refine newI cx hw (by decide) (N := 30) (by decide) (by omega) (Nat.le_of_ble_eq_true rfl) (Nat.le_of_ble_eq_true rfl) dX12_init_1067 (fun q30 H hw => ?_)
  have hw : Wd D A s ([(q0, .inr (12, [.ref q11, .ref q12, .ref q13, .int 0, .ref q14, .ref q15, .int 0, .ref q16, .int 0, .int 0, .int 0, .int 0, .int 0, .int 0, .ref q17, .ref q18, .ref q19, .ref q20, .ref q21, .int 0, .int 0, .int 0, .int 0, .ref q22, .ref q23, .int 0, .ref q24, .int 0, .ref q25, .ref q26, .ref q27, .ref q28, .ref q29, .null, .int 0, .int 0, .int 0])), (q11, .inl (t 0, 313, .inl (fun _ => 0))), (q12, .inl (t 0, 313, .inl (fun _ => 0))), (q13, .inl (t 0, 65, .inl (fun _ => 0))), (q14, .inl (t 0, 200, .inl (fun _ => 0))), (q15, .inl (t 0, 200, .inl (fun _ => 0))), (q16, .inl (t 2, 144, .inl ltr)), (q17, .inl (t 0, 200, .inl (fun _ => 0))), (q18, .inl (t 0, 24, .inl (fun _ => 0))), (q19, .inl (t 0, 325, .inl (fun _ => 0))), (q20, .inl (t 0, 4, .inl (fun _ => 0))), (q21, .inl (t 0, 4, .inl (fun _ => 0))), (q22, .inl (t 0, 16, .inl (fun _ => 0))), (q23, .inl (t 0, 16, .inl (fun _ => 0))), (q24, .inl (t 0, 12, .inl (fun _ => 0))), (q25, .inl (t 0, 4, .inl (upd (upd (upd (upd (fun _ => 0) 0 (-1)) 1 (-1)) 2 (-1)) 3 (-1)))), (q26, .inl (t 0, 4, .inl (fun _ => 0))), (q27, .inl (t 0, 160, .inl (fun _ => 0))), (q28, .inl (t 0, 4, .inl (upd (upd (upd (upd (fun _ => 0) 0 (-1)) 1 (-1)) 2 (-1)) 3 (-1)))), (q29, .inl (t 0, 4, .inl (fun _ => 0))), (q30, .inl (t 0, 30, .inl (fun _ => 0)))]) H l1 := hw
  refine va_putF (ref := "DialSquareModel") (C := RX12) (T := TX12) (N := 37) (ci := 12) cx.1 cx.2.1 cx.2.2.2.2.1 lay_12 tyX12 tyX12_ok nmX12 cx.2.2.2.1 cx.2.2.2.2.2.1.1 hw.1 hw.2.1 hw.2.2 0 rfl rfl 33 (by decide) (cx.2.2.2.2.1 _ q_1130) (fun _ h => h) rfl cx.2.2.2.2.2.2.2.2.2 rfl rfl rfl rfl (Nat.le_of_ble_eq_true rfl) dX12_init_1069 (fun H l1 hP hD hS => ?_)
  have hw : Wd D A s ([(q0, .inr (12, [.ref q11, .ref q12, .ref q13, .int 0, .ref q14, .ref q15, .int 0, .ref q16, .int 0, .int 0, .int 0, .int 0, .int 0, .int 0, .ref q17, .ref q18, .ref q19, .ref q20, .ref q21, .int 0, .int 0, .int 0, .int 0, .ref q22, .ref q23, .int 0, .ref q24, .int 0, .ref q25, .ref q26, .ref q27, .ref q28, .ref q29, .ref q30, .int 0, .int 0, .int 0])), (q11, .inl (t 0, 313, .inl (fun _ => 0))), (q12, .inl (t 0, 313, .inl (fun _ => 0))), (q13, .inl (t 0, 65, .inl (fun _ => 0))), (q14, .inl (t 0, 200, .inl (fun _ => 0))), (q15, .inl (t 0, 200, .inl (fun _ => 0))), (q16, .inl (t 2, 144, .inl ltr)), (q17, .inl (t 0, 200, .inl (fun _ => 0))), (q18, .inl (t 0, 24, .inl (fun _ => 0))), (q19, .inl (t 0, 325, .inl (fun _ => 0))), (q20, .inl (t 0, 4, .inl (fun _ => 0))), (q21, .inl (t 0, 4, .inl (fun _ => 0))), (q22, .inl (t 0, 16, .inl (fun _ => 0))), (q23, .inl (t 0, 16, .inl (fun _ => 0))), (q24, .inl (t 0, 12, .inl (fun _ => 0))), (q25, .inl (t 0, 4, .inl (upd (upd (upd (upd (fun _ => 0) 0 (-1)) 1 (-1)) 2 (-1)) 3 (-1)))), (q26, .inl (t 0, 4, .inl (fun _ => 0))), (q27, .inl (t 0, 160, .inl (fun _ => 0))), (q28, .inl (t 0, 4, .inl (upd (upd (upd (upd (fun _ => 0) 0 (-1)) 1 (-1)) 2 (-1)) 3 (-1)))), (q29, .inl (t 0, 4, .inl (fun _ => 0))), (q30, .inl (t 0, 30, .inl (fun _ => 0)))]) H l1 := ⟨hP, hD, hS⟩
  refine lv_aload_n hx hb dX12_init_1072 rfl (lv_at hl 0 rfl) ?_
  refine va_get (ref := "DialSquareModel") (C := RX12) (T := TX12) (N := 37) (ci := 12) cx.1 cx.2.1 cx.2.2.2.2.1 lay_12 cx.2.2.2.1 cx.2.2.2.2.2.1.1 hw.1 0 rfl rfl 0 (by decide) (cx.2.2.2.2.1 _ q_1097) (fun _ h => h) rfl dX12_init_1073 ?_
  refine lv_iconst (v := (1)) hx hb dX12_init_1076 (by decide) ?_
  refine lv_bipush (v := (12)) hx hb dX12_init_1077 (by decide) ?_
  refine va_iast hx hb cx.2.2.2.2.2.1.1 hw.1 hw.2.1 hw.2.2 1 0 rfl rfl (ib_in (by decide)) dX12_init_1079 (fun H l1 hP hD hS => ?_)
  have hw : Wd D A s ([(q0, .inr (12, [.ref q11, .ref q12, .ref q13, .int 0, .ref q14, .ref q15, .int 0, .ref q16, .int 0, .int 0, .int 0, .int 0, .int 0, .int 0, .ref q17, .ref q18, .ref q19, .ref q20, .ref q21, .int 0, .int 0, .int 0, .int 0, .ref q22, .ref q23, .int 0, .ref q24, .int 0, .ref q25, .ref q26, .ref q27, .ref q28, .ref q29, .ref q30, .int 0, .int 0, .int 0])), (q11, .inl (t 0, 313, .inl (upd (fun _ => 0) 1 (12)))), (q12, .inl (t 0, 313, .inl (fun _ => 0))), (q13, .inl (t 0, 65, .inl (fun _ => 0))), (q14, .inl (t 0, 200, .inl (fun _ => 0))), (q15, .inl (t 0, 200, .inl (fun _ => 0))), (q16, .inl (t 2, 144, .inl ltr)), (q17, .inl (t 0, 200, .inl (fun _ => 0))), (q18, .inl (t 0, 24, .inl (fun _ => 0))), (q19, .inl (t 0, 325, .inl (fun _ => 0))), (q20, .inl (t 0, 4, .inl (fun _ => 0))), (q21, .inl (t 0, 4, .inl (fun _ => 0))), (q22, .inl (t 0, 16, .inl (fun _ => 0))), (q23, .inl (t 0, 16, .inl (fun _ => 0))), (q24, .inl (t 0, 12, .inl (fun _ => 0))), (q25, .inl (t 0, 4, .inl (upd (upd (upd (upd (fun _ => 0) 0 (-1)) 1 (-1)) 2 (-1)) 3 (-1)))), (q26, .inl (t 0, 4, .inl (fun _ => 0))), (q27, .inl (t 0, 160, .inl (fun _ => 0))), (q28, .inl (t 0, 4, .inl (upd (upd (upd (upd (fun _ => 0) 0 (-1)) 1 (-1)) 2 (-1)) 3 (-1)))), (q29, .inl (t 0, 4, .inl (fun _ => 0))), (q30, .inl (t 0, 30, .inl (fun _ => 0)))]) H l1 := ⟨hP, hD, hS⟩
  refine lv_aload_n hx hb dX12_init_1080 rfl (lv_at hl 0 rfl) ?_
  refine va_get (ref := "DialSquareModel") (C := RX12) (T := TX12) (N := 37) (ci := 12) cx.1 cx.2.1 cx.2.2.2.2.1 lay_12 cx.2.2.2.1 cx.2.2.2.2.2.1.1 hw.1 0 rfl rfl 0 (by decide) (cx.2.2.2.2.1 _ q_1097) (fun _ h => h) rfl dX12_init_1081 ?_
  refine lv_iconst (v := (3)) hx hb dX12_init_1084 (by decide) ?_
  refine lv_iconst (v := (1)) hx hb dX12_init_1085 (by decide) ?_
  refine va_iast hx hb cx.2.2.2.2.2.1.1 hw.1 hw.2.1 hw.2.2 1 0 rfl rfl (ib_in (by decide)) dX12_init_1086 (fun H l1 hP hD hS => ?_)
  have hw : Wd D A s ([(q0, .inr (12, [.ref q11, .ref q12, .ref q13, .int 0, .ref q14, .ref q15, .int 0, .ref q16, .int 0, .int 0, .int 0, .int 0, .int 0, .int 0, .ref q17, .ref q18, .ref q19, .ref q20, .ref q21, .int 0, .int 0, .int 0, .int 0, .ref q22, .ref q23, .int 0, .ref q24, .int 0, .ref q25, .ref q26, .ref q27, .ref q28, .ref q29, .ref q30, .int 0, .int 0, .int 0])), (q11, .inl (t 0, 313, .inl (upd (upd (fun _ => 0) 1 (12)) 3 (1)))), (q12, .inl (t 0, 313, .inl (fun _ => 0))), (q13, .inl (t 0, 65, .inl (fun _ => 0))), (q14, .inl (t 0, 200, .inl (fun _ => 0))), (q15, .inl (t 0, 200, .inl (fun _ => 0))), (q16, .inl (t 2, 144, .inl ltr)), (q17, .inl (t 0, 200, .inl (fun _ => 0))), (q18, .inl (t 0, 24, .inl (fun _ => 0))), (q19, .inl (t 0, 325, .inl (fun _ => 0))), (q20, .inl (t 0, 4, .inl (fun _ => 0))), (q21, .inl (t 0, 4, .inl (fun _ => 0))), (q22, .inl (t 0, 16, .inl (fun _ => 0))), (q23, .inl (t 0, 16, .inl (fun _ => 0))), (q24, .inl (t 0, 12, .inl (fun _ => 0))), (q25, .inl (t 0, 4, .inl (upd (upd (upd (upd (fun _ => 0) 0 (-1)) 1 (-1)) 2 (-1)) 3 (-1)))), (q26, .inl (t 0, 4, .inl (fun _ => 0))), (q27, .inl (t 0, 160, .inl (fun _ => 0))), (q28, .inl (t 0, 4, .inl (upd (upd (upd (upd (fun _ => 0) 0 (-1)) 1 (-1)) 2 (-1)) 3 (-1)))), (q29, .inl (t 0, 4, .inl (fun _ => 0))), (q30, .inl (t 0, 30, .inl (fun _ => 0)))]) H l1 := ⟨hP, hD, hS⟩
  refine lv_iconst (v := (0)) hx hb dX12_init_1087 (by decide) ?_
  refine lv_istore_n (lv' := [(1, .int 0), (0, .ref q0)]) hx hb dX12_init_1088 rfl hl (by decide) rfl (fun ls hl => ?_)
  refine lv_iload_n hx hb dX12_init_1089 rfl (lv_at hl 0 rfl) ?_
  refine lv_bipush (v := 16) hx hb dX12_init_1090 (by decide) ?_
  refine lv_icmp_ge (tgt := 1112) hx hb dX12_init_1092 (by decide +kernel) (fun hc => absurd hc (by decide)) (fun hc => ?_)
  refine lv_aload_n hx hb dX12_init_1095 rfl (lv_at hl 1 rfl) ?_
  refine va_get (ref := "DialSquareModel") (C := RX12) (T := TX12) (N := 37) (ci := 12) cx.1 cx.2.1 cx.2.2.2.2.1 lay_12 cx.2.2.2.1 cx.2.2.2.2.2.1.1 hw.1 0 rfl rfl 0 (by decide) (cx.2.2.2.2.1 _ q_1097) (fun _ h => h) rfl dX12_init_1096 ?_
  refine lv_bipush (v := 7) hx hb dX12_init_1099 (by decide) ?_
  refine lv_iload_n hx hb dX12_init_1101 rfl (lv_at hl 0 rfl) ?_
  refine lv_iadd hx hb dX12_init_1102 ?_
  refine lv_bipush (v := 6) hx hb dX12_init_1103 (by decide) ?_
  refine va_iast hx hb cx.2.2.2.2.2.1.1 hw.1 hw.2.1 hw.2.2 1 0 rfl rfl (ib_in (by decide)) dX12_init_1105 (fun H l1 hP hD hS => ?_)
  have hw : Wd D A s ([(q0, .inr (12, [.ref q11, .ref q12, .ref q13, .int 0, .ref q14, .ref q15, .int 0, .ref q16, .int 0, .int 0, .int 0, .int 0, .int 0, .int 0, .ref q17, .ref q18, .ref q19, .ref q20, .ref q21, .int 0, .int 0, .int 0, .int 0, .ref q22, .ref q23, .int 0, .ref q24, .int 0, .ref q25, .ref q26, .ref q27, .ref q28, .ref q29, .ref q30, .int 0, .int 0, .int 0])), (q11, .inl (t 0, 313, .inl (upd (upd (upd (fun _ => 0) 1 (12)) 3 (1)) 7 6))), (q12, .inl (t 0, 313, .inl (fun _ => 0))), (q13, .inl (t 0, 65, .inl (fun _ => 0))), (q14, .inl (t 0, 200, .inl (fun _ => 0))), (q15, .inl (t 0, 200, .inl (fun _ => 0))), (q16, .inl (t 2, 144, .inl ltr)), (q17, .inl (t 0, 200, .inl (fun _ => 0))), (q18, .inl (t 0, 24, .inl (fun _ => 0))), (q19, .inl (t 0, 325, .inl (fun _ => 0))), (q20, .inl (t 0, 4, .inl (fun _ => 0))), (q21, .inl (t 0, 4, .inl (fun _ => 0))), (q22, .inl (t 0, 16, .inl (fun _ => 0))), (q23, .inl (t 0, 16, .inl (fun _ => 0))), (q24, .inl (t 0, 12, .inl (fun _ => 0))), (q25, .inl (t 0, 4, .inl (upd (upd (upd (upd (fun _ => 0) 0 (-1)) 1 (-1)) 2 (-1)) 3 (-1)))), (q26, .inl (t 0, 4, .inl (fun _ => 0))), (q27, .inl (t 0, 160, .inl (fun _ => 0))), (q28, .inl (t 0, 4, .inl (upd (upd (upd (upd (fun _ => 0) 0 (-1)) 1 (-1)) 2 (-1)) 3 (-1)))), (q29, .inl (t 0, 4, .inl (fun _ => 0))), (q30, .inl (t 0, 30, .inl (fun _ => 0)))]) H l1 := ⟨hP, hD, hS⟩
  refine lv_iinc (v := 1) (lv' := [(1, .int 1), (0, .ref q0)]) hx hb dX12_init_1106 hl (k := 0) rfl (by decide) (by decide) rfl (fun ls hl => ?_)
  refine lv_goto (tgt := 1089) hx hb dX12_init_1109 (by decide +kernel) ?_
  refine lv_iload_n hx hb dX12_init_1089 rfl (lv_at hl 0 rfl) ?_
  refine lv_bipush (v := 16) hx hb dX12_init_1090 (by decide) ?_
  refine lv_icmp_ge (tgt := 1112) hx hb dX12_init_1092 (by decide +kernel) (fun hc => absurd hc (by decide)) (fun hc => ?_)
  refine lv_aload_n hx hb dX12_init_1095 rfl (lv_at hl 1 rfl) ?_
  refine va_get (ref := "DialSquareModel") (C := RX12) (T := TX12) (N := 37) (ci := 12) cx.1 cx.2.1 cx.2.2.2.2.1 lay_12 cx.2.2.2.1 cx.2.2.2.2.2.1.1 hw.1 0 rfl rfl 0 (by decide) (cx.2.2.2.2.1 _ q_1097) (fun _ h => h) rfl dX12_init_1096 ?_
  refine lv_bipush (v := 7) hx hb dX12_init_1099 (by decide) ?_
  refine lv_iload_n hx hb dX12_init_1101 rfl (lv_at hl 0 rfl) ?_
  refine lv_iadd hx hb dX12_init_1102 ?_
  refine lv_bipush (v := 6) hx hb dX12_init_1103 (by decide) ?_
  refine va_iast hx hb cx.2.2.2.2.2.1.1 hw.1 hw.2.1 hw.2.2 1 0 rfl rfl (ib_in (by decide)) dX12_init_1105 (fun H l1 hP hD hS => ?_)
  have hw : Wd D A s ([(q0, .inr (12, [.ref q11, .ref q12, .ref q13, .int 0, .ref q14, .ref q15, .int 0, .ref q16, .int 0, .int 0, .int 0, .int 0, .int 0, .int 0, .ref q17, .ref q18, .ref q19, .ref q20, .ref q21, .int 0, .int 0, .int 0, .int 0, .ref q22, .ref q23, .int 0, .ref q24, .int 0, .ref q25, .ref q26, .ref q27, .ref q28, .ref q29, .ref q30, .int 0, .int 0, .int 0])), (q11, .inl (t 0, 313, .inl (upd (upd (upd (upd (fun _ => 0) 1 (12)) 3 (1)) 7 6) 8 6))), (q12, .inl (t 0, 313, .inl (fun _ => 0))), (q13, .inl (t 0, 65, .inl (fun _ => 0))), (q14, .inl (t 0, 200, .inl (fun _ => 0))), (q15, .inl (t 0, 200, .inl (fun _ => 0))), (q16, .inl (t 2, 144, .inl ltr)), (q17, .inl (t 0, 200, .inl (fun _ => 0))), (q18, .inl (t 0, 24, .inl (fun _ => 0))), (q19, .inl (t 0, 325, .inl (fun _ => 0))), (q20, .inl (t 0, 4, .inl (fun _ => 0))), (q21, .inl (t 0, 4, .inl (fun _ => 0))), (q22, .inl (t 0, 16, .inl (fun _ => 0))), (q23, .inl (t 0, 16, .inl (fun _ => 0))), (q24, .inl (t 0, 12, .inl (fun _ => 0))), (q25, .inl (t 0, 4, .inl (upd (upd (upd (upd (fun _ => 0) 0 (-1)) 1 (-1)) 2 (-1)) 3 (-1)))), (q26, .inl (t 0, 4, .inl (fun _ => 0))), (q27, .inl (t 0, 160, .inl (fun _ => 0))), (q28, .inl (t 0, 4, .inl (upd (upd (upd (upd (fun _ => 0) 0 (-1)) 1 (-1)) 2 (-1)) 3 (-1)))), (q29, .inl (t 0, 4, .inl (fun _ => 0))), (q30, .inl (t 0, 30, .inl (fun _ => 0)))]) H l1 := ⟨hP, hD, hS⟩
  refine lv_iinc (v := 2) (lv' := [(1, .int 2), (0, .ref q0)]) hx hb dX12_init_1106 hl (k := 0) rfl (by decide) (by decide) rfl (fun ls hl => ?_)
  refine lv_goto (tgt := 1089) hx hb dX12_init_1109 (by decide +kernel) ?_
  refine lv_iload_n hx hb dX12_init_1089 rfl (lv_at hl 0 rfl) ?_
  refine lv_bipush (v := 16) hx hb dX12_init_1090 (by decide) ?_
  refine lv_icmp_ge (tgt := 1112) hx hb dX12_init_1092 (by decide +kernel) (fun hc => absurd hc (by decide)) (fun hc => ?_)
  refine lv_aload_n hx hb dX12_init_1095 rfl (lv_at hl 1 rfl) ?_
  refine va_get (ref := "DialSquareModel") (C := RX12) (T := TX12) (N := 37) (ci := 12) cx.1 cx.2.1 cx.2.2.2.2.1 lay_12 cx.2.2.2.1 cx.2.2.2.2.2.1.1 hw.1 0 rfl rfl 0 (by decide) (cx.2.2.2.2.1 _ q_1097) (fun _ h => h) rfl dX12_init_1096 ?_
  refine lv_bipush (v := 7) hx hb dX12_init_1099 (by decide) ?_
  refine lv_iload_n hx hb dX12_init_1101 rfl (lv_at hl 0 rfl) ?_
  refine lv_iadd hx hb dX12_init_1102 ?_
  refine lv_bipush (v := 6) hx hb dX12_init_1103 (by decide) ?_
  refine va_iast hx hb cx.2.2.2.2.2.1.1 hw.1 hw.2.1 hw.2.2 1 0 rfl rfl (ib_in (by decide)) dX12_init_1105 (fun H l1 hP hD hS => ?_)
  have hw : Wd D A s ([(q0, .inr (12, [.ref q11, .ref q12, .ref q13, .int 0, .ref q14, .ref q15, .int 0, .ref q16, .int 0, .int 0, .int 0, .int 0, .int 0, .int 0, .ref q17, .ref q18, .ref q19, .ref q20, .ref q21, .int 0, .int 0, .int 0, .int 0, .ref q22, .ref q23, .int 0, .ref q24, .int 0, .ref q25, .ref q26, .ref q27, .ref q28, .ref q29, .ref q30, .int 0, .int 0, .int 0])), (q11, .inl (t 0, 313, .inl (upd (upd (upd (upd (upd (fun _ => 0) 1 (12)) 3 (1)) 7 6) 8 6) 9 6))), (q12, .inl (t 0, 313, .inl (fun _ => 0))), (q13, .inl (t 0, 65, .inl (fun _ => 0))), (q14, .inl (t 0, 200, .inl (fun _ => 0))), (q15, .inl (t 0, 200, .inl (fun _ => 0))), (q16, .inl (t 2, 144, .inl ltr)), (q17, .inl (t 0, 200, .inl (fun _ => 0))), (q18, .inl (t 0, 24, .inl (fun _ => 0))), (q19, .inl (t 0, 325, .inl (fun _ => 0))), (q20, .inl (t 0, 4, .inl (fun _ => 0))), (q21, .inl (t 0, 4, .inl (fun _ => 0))), (q22, .inl (t 0, 16, .inl (fun _ => 0))), (q23, .inl (t 0, 16, .inl (fun _ => 0))), (q24, .inl (t 0, 12, .inl (fun _ => 0))), (q25, .inl (t 0, 4, .inl (upd (upd (upd (upd (fun _ => 0) 0 (-1)) 1 (-1)) 2 (-1)) 3 (-1)))), (q26, .inl (t 0, 4, .inl (fun _ => 0))), (q27, .inl (t 0, 160, .inl (fun _ => 0))), (q28, .inl (t 0, 4, .inl (upd (upd (upd (upd (fun _ => 0) 0 (-1)) 1 (-1)) 2 (-1)) 3 (-1)))), (q29, .inl (t 0, 4, .inl (fun _ => 0))), (q30, .inl (t 0, 30, .inl (fun _ => 0)))]) H l1 := ⟨hP, hD, hS⟩
  refine lv_iinc (v := 3) (lv' := [(1, .int 3), (0, .ref q0)]) hx hb dX12_init_1106 hl (k := 0) rfl (by decide) (by decide) rfl (fun ls hl => ?_)
  refine lv_goto (tgt := 1089) hx hb dX12_init_1109 (by decide +kernel) ?_
  refine lv_iload_n hx hb dX12_init_1089 rfl (lv_at hl 0 rfl) ?_
  refine lv_bipush (v := 16) hx hb dX12_init_1090 (by decide) ?_
  refine lv_icmp_ge (tgt := 1112) hx hb dX12_init_1092 (by decide +kernel) (fun hc => absurd hc (by decide)) (fun hc => ?_)
  refine lv_aload_n hx hb dX12_init_1095 rfl (lv_at hl 1 rfl) ?_
  refine va_get (ref := "DialSquareModel") (C := RX12) (T := TX12) (N := 37) (ci := 12) cx.1 cx.2.1 cx.2.2.2.2.1 lay_12 cx.2.2.2.1 cx.2.2.2.2.2.1.1 hw.1 0 rfl rfl 0 (by decide) (cx.2.2.2.2.1 _ q_1097) (fun _ h => h) rfl dX12_init_1096 ?_
  refine lv_bipush (v := 7) hx hb dX12_init_1099 (by decide) ?_
  refine lv_iload_n hx hb dX12_init_1101 rfl (lv_at hl 0 rfl) ?_
  refine lv_iadd hx hb dX12_init_1102 ?_
  refine lv_bipush (v := 6) hx hb dX12_init_1103 (by decide) ?_
  refine va_iast hx hb cx.2.2.2.2.2.1.1 hw.1 hw.2.1 hw.2.2 1 0 rfl rfl (ib_in (by decide)) dX12_init_1105 (fun H l1 hP hD hS => ?_)
  have hw : Wd D A s ([(q0, .inr (12, [.ref q11, .ref q12, .ref q13, .int 0, .ref q14, .ref q15, .int 0, .ref q16, .int 0, .int 0, .int 0, .int 0, .int 0, .int 0, .ref q17, .ref q18, .ref q19, .ref q20, .ref q21, .int 0, .int 0, .int 0, .int 0, .ref q22, .ref q23, .int 0, .ref q24, .int 0, .ref q25, .ref q26, .ref q27, .ref q28, .ref q29, .ref q30, .int 0, .int 0, .int 0])), (q11, .inl (t 0, 313, .inl (upd (upd (upd (upd (upd (upd (fun _ => 0) 1 (12)) 3 (1)) 7 6) 8 6) 9 6) 10 6))), (q12, .inl (t 0, 313, .inl (fun _ => 0))), (q13, .inl (t 0, 65, .inl (fun _ => 0))), (q14, .inl (t 0, 200, .inl (fun _ => 0))), (q15, .inl (t 0, 200, .inl (fun _ => 0))), (q16, .inl (t 2, 144, .inl ltr)), (q17, .inl (t 0, 200, .inl (fun _ => 0))), (q18, .inl (t 0, 24, .inl (fun _ => 0))), (q19, .inl (t 0, 325, .inl (fun _ => 0))), (q20, .inl (t 0, 4, .inl (fun _ => 0))), (q21, .inl (t 0, 4, .inl (fun _ => 0))), (q22, .inl (t 0, 16, .inl (fun _ => 0))), (q23, .inl (t 0, 16, .inl (fun _ => 0))), (q24, .inl (t 0, 12, .inl (fun _ => 0))), (q25, .inl (t 0, 4, .inl (upd (upd (upd (upd (fun _ => 0) 0 (-1)) 1 (-1)) 2 (-1)) 3 (-1)))), (q26, .inl (t 0, 4, .inl (fun _ => 0))), (q27, .inl (t 0, 160, .inl (fun _ => 0))), (q28, .inl (t 0, 4, .inl (upd (upd (upd (upd (fun _ => 0) 0 (-1)) 1 (-1)) 2 (-1)) 3 (-1)))), (q29, .inl (t 0, 4, .inl (fun _ => 0))), (q30, .inl (t 0, 30, .inl (fun _ => 0)))]) H l1 := ⟨hP, hD, hS⟩
  refine lv_iinc (v := 4) (lv' := [(1, .int 4), (0, .ref q0)]) hx hb dX12_init_1106 hl (k := 0) rfl (by decide) (by decide) rfl (fun ls hl => ?_)
  refine lv_goto (tgt := 1089) hx hb dX12_init_1109 (by decide +kernel) ?_
  refine lv_iload_n hx hb dX12_init_1089 rfl (lv_at hl 0 rfl) ?_
  refine lv_bipush (v := 16) hx hb dX12_init_1090 (by decide) ?_
  refine lv_icmp_ge (tgt := 1112) hx hb dX12_init_1092 (by decide +kernel) (fun hc => absurd hc (by decide)) (fun hc => ?_)
  refine lv_aload_n hx hb dX12_init_1095 rfl (lv_at hl 1 rfl) ?_
  refine va_get (ref := "DialSquareModel") (C := RX12) (T := TX12) (N := 37) (ci := 12) cx.1 cx.2.1 cx.2.2.2.2.1 lay_12 cx.2.2.2.1 cx.2.2.2.2.2.1.1 hw.1 0 rfl rfl 0 (by decide) (cx.2.2.2.2.1 _ q_1097) (fun _ h => h) rfl dX12_init_1096 ?_
  refine lv_bipush (v := 7) hx hb dX12_init_1099 (by decide) ?_
  refine lv_iload_n hx hb dX12_init_1101 rfl (lv_at hl 0 rfl) ?_
  refine lv_iadd hx hb dX12_init_1102 ?_
  refine lv_bipush (v := 6) hx hb dX12_init_1103 (by decide) ?_
  refine va_iast hx hb cx.2.2.2.2.2.1.1 hw.1 hw.2.1 hw.2.2 1 0 rfl rfl (ib_in (by decide)) dX12_init_1105 (fun H l1 hP hD hS => ?_)
  have hw : Wd D A s ([(q0, .inr (12, [.ref q11, .ref q12, .ref q13, .int 0, .ref q14, .ref q15, .int 0, .ref q16, .int 0, .int 0, .int 0, .int 0, .int 0, .int 0, .ref q17, .ref q18, .ref q19, .ref q20, .ref q21, .int 0, .int 0, .int 0, .int 0, .ref q22, .ref q23, .int 0, .ref q24, .int 0, .ref q25, .ref q26, .ref q27, .ref q28, .ref q29, .ref q30, .int 0, .int 0, .int 0])), (q11, .inl (t 0, 313, .inl (upd (upd (upd (upd (upd (upd (upd (fun _ => 0) 1 (12)) 3 (1)) 7 6) 8 6) 9 6) 10 6) 11 6))), (q12, .inl (t 0, 313, .inl (fun _ => 0))), (q13, .inl (t 0, 65, .inl (fun _ => 0))), (q14, .inl (t 0, 200, .inl (fun _ => 0))), (q15, .inl (t 0, 200, .inl (fun _ => 0))), (q16, .inl (t 2, 144, .inl ltr)), (q17, .inl (t 0, 200, .inl (fun _ => 0))), (q18, .inl (t 0, 24, .inl (fun _ => 0))), (q19, .inl (t 0, 325, .inl (fun _ => 0))), (q20, .inl (t 0, 4, .inl (fun _ => 0))), (q21, .inl (t 0, 4, .inl (fun _ => 0))), (q22, .inl (t 0, 16, .inl (fun _ => 0))), (q23, .inl (t 0, 16, .inl (fun _ => 0))), (q24, .inl (t 0, 12, .inl (fun _ => 0))), (q25, .inl (t 0, 4, .inl (upd (upd (upd (upd (fun _ => 0) 0 (-1)) 1 (-1)) 2 (-1)) 3 (-1)))), (q26, .inl (t 0, 4, .inl (fun _ => 0))), (q27, .inl (t 0, 160, .inl (fun _ => 0))), (q28, .inl (t 0, 4, .inl (upd (upd (upd (upd (fun _ => 0) 0 (-1)) 1 (-1)) 2 (-1)) 3 (-1)))), (q29, .inl (t 0, 4, .inl (fun _ => 0))), (q30, .inl (t 0, 30, .inl (fun _ => 0)))]) H l1 := ⟨hP, hD, hS⟩
  refine lv_iinc (v := 5) (lv' := [(1, .int 5), (0, .ref q0)]) hx hb dX12_init_1106 hl (k := 0) rfl (by decide) (by decide) rfl (fun ls hl => ?_)
  refine lv_goto (tgt := 1089) hx hb dX12_init_1109 (by decide +kernel) ?_
  refine lv_iload_n hx hb dX12_init_1089 rfl (lv_at hl 0 rfl) ?_
  refine lv_bipush (v := 16) hx hb dX12_init_1090 (by decide) ?_
  refine lv_icmp_ge (tgt := 1112) hx hb dX12_init_1092 (by decide +kernel) (fun hc => absurd hc (by decide)) (fun hc => ?_)
  refine lv_aload_n hx hb dX12_init_1095 rfl (lv_at hl 1 rfl) ?_
  refine va_get (ref := "DialSquareModel") (C := RX12) (T := TX12) (N := 37) (ci := 12) cx.1 cx.2.1 cx.2.2.2.2.1 lay_12 cx.2.2.2.1 cx.2.2.2.2.2.1.1 hw.1 0 rfl rfl 0 (by decide) (cx.2.2.2.2.1 _ q_1097) (fun _ h => h) rfl dX12_init_1096 ?_
  refine lv_bipush (v := 7) hx hb dX12_init_1099 (by decide) ?_
  refine lv_iload_n hx hb dX12_init_1101 rfl (lv_at hl 0 rfl) ?_
  refine lv_iadd hx hb dX12_init_1102 ?_
  refine lv_bipush (v := 6) hx hb dX12_init_1103 (by decide) ?_
  refine va_iast hx hb cx.2.2.2.2.2.1.1 hw.1 hw.2.1 hw.2.2 1 0 rfl rfl (ib_in (by decide)) dX12_init_1105 (fun H l1 hP hD hS => ?_)
  have hw : Wd D A s ([(q0, .inr (12, [.ref q11, .ref q12, .ref q13, .int 0, .ref q14, .ref q15, .int 0, .ref q16, .int 0, .int 0, .int 0, .int 0, .int 0, .int 0, .ref q17, .ref q18, .ref q19, .ref q20, .ref q21, .int 0, .int 0, .int 0, .int 0, .ref q22, .ref q23, .int 0, .ref q24, .int 0, .ref q25, .ref q26, .ref q27, .ref q28, .ref q29, .ref q30, .int 0, .int 0, .int 0])), (q11, .inl (t 0, 313, .inl (upd (upd (upd (upd (upd (upd (upd (upd (fun _ => 0) 1 (12)) 3 (1)) 7 6) 8 6) 9 6) 10 6) 11 6) 12 6))), (q12, .inl (t 0, 313, .inl (fun _ => 0))), (q13, .inl (t 0, 65, .inl (fun _ => 0))), (q14, .inl (t 0, 200, .inl (fun _ => 0))), (q15, .inl (t 0, 200, .inl (fun _ => 0))), (q16, .inl (t 2, 144, .inl ltr)), (q17, .inl (t 0, 200, .inl (fun _ => 0))), (q18, .inl (t 0, 24, .inl (fun _ => 0))), (q19, .inl (t 0, 325, .inl (fun _ => 0))), (q20, .inl (t 0, 4, .inl (fun _ => 0))), (q21, .inl (t 0, 4, .inl (fun _ => 0))), (q22, .inl (t 0, 16, .inl (fun _ => 0))), (q23, .inl (t 0, 16, .inl (fun _ => 0))), (q24, .inl (t 0, 12, .inl (fun _ => 0))), (q25, .inl (t 0, 4, .inl (upd (upd (upd (upd (fun _ => 0) 0 (-1)) 1 (-1)) 2 (-1)) 3 (-1)))), (q26, .inl (t 0, 4, .inl (fun _ => 0))), (q27, .inl (t 0, 160, .inl (fun _ => 0))), (q28, .inl (t 0, 4, .inl (upd (upd (upd (upd (fun _ => 0) 0 (-1)) 1 (-1)) 2 (-1)) 3 (-1)))), (q29, .inl (t 0, 4, .inl (fun _ => 0))), (q30, .inl (t 0, 30, .inl (fun _ => 0)))]) H l1 := ⟨hP, hD, hS⟩
  refine lv_iinc (v := 6) (lv' := [(1, .int 6), (0, .ref q0)]) hx hb dX12_init_1106 hl (k := 0) rfl (by decide) (by decide) rfl (fun ls hl => ?_)
  refine lv_goto (tgt := 1089) hx hb dX12_init_1109 (by decide +kernel) ?_
  refine lv_iload_n hx hb dX12_init_1089 rfl (lv_at hl 0 rfl) ?_
  refine lv_bipush (v := 16) hx hb dX12_init_1090 (by decide) ?_
  refine lv_icmp_ge (tgt := 1112) hx hb dX12_init_1092 (by decide +kernel) (fun hc => absurd hc (by decide)) (fun hc => ?_)
  refine lv_aload_n hx hb dX12_init_1095 rfl (lv_at hl 1 rfl) ?_
  refine va_get (ref := "DialSquareModel") (C := RX12) (T := TX12) (N := 37) (ci := 12) cx.1 cx.2.1 cx.2.2.2.2.1 lay_12 cx.2.2.2.1 cx.2.2.2.2.2.1.1 hw.1 0 rfl rfl 0 (by decide) (cx.2.2.2.2.1 _ q_1097) (fun _ h => h) rfl dX12_init_1096 ?_
  refine lv_bipush (v := 7) hx hb dX12_init_1099 (by decide) ?_
  refine lv_iload_n hx hb dX12_init_1101 rfl (lv_at hl 0 rfl) ?_
  refine lv_iadd hx hb dX12_init_1102 ?_
  refine lv_bipush (v := 6) hx hb dX12_init_1103 (by decide) ?_
  refine va_iast hx hb cx.2.2.2.2.2.1.1 hw.1 hw.2.1 hw.2.2 1 0 rfl rfl (ib_in (by decide)) dX12_init_1105 (fun H l1 hP hD hS => ?_)
  have hw : Wd D A s ([(q0, .inr (12, [.ref q11, .ref q12, .ref q13, .int 0, .ref q14, .ref q15, .int 0, .ref q16, .int 0, .int 0, .int 0, .int 0, .int 0, .int 0, .ref q17, .ref q18, .ref q19, .ref q20, .ref q21, .int 0, .int 0, .int 0, .int 0, .ref q22, .ref q23, .int 0, .ref q24, .int 0, .ref q25, .ref q26, .ref q27, .ref q28, .ref q29, .ref q30, .int 0, .int 0, .int 0])), (q11, .inl (t 0, 313, .inl (upd (upd (upd (upd (upd (upd (upd (upd (upd (fun _ => 0) 1 (12)) 3 (1)) 7 6) 8 6) 9 6) 10 6) 11 6) 12 6) 13 6))), (q12, .inl (t 0, 313, .inl (fun _ => 0))), (q13, .inl (t 0, 65, .inl (fun _ => 0))), (q14, .inl (t 0, 200, .inl (fun _ => 0))), (q15, .inl (t 0, 200, .inl (fun _ => 0))), (q16, .inl (t 2, 144, .inl ltr)), (q17, .inl (t 0, 200, .inl (fun _ => 0))), (q18, .inl (t 0, 24, .inl (fun _ => 0))), (q19, .inl (t 0, 325, .inl (fun _ => 0))), (q20, .inl (t 0, 4, .inl (fun _ => 0))), (q21, .inl (t 0, 4, .inl (fun _ => 0))), (q22, .inl (t 0, 16, .inl (fun _ => 0))), (q23, .inl (t 0, 16, .inl (fun _ => 0))), (q24, .inl (t 0, 12, .inl (fun _ => 0))), (q25, .inl (t 0, 4, .inl (upd (upd (upd (upd (fun _ => 0) 0 (-1)) 1 (-1)) 2 (-1)) 3 (-1)))), (q26, .inl (t 0, 4, .inl (fun _ => 0))), (q27, .inl (t 0, 160, .inl (fun _ => 0))), (q28, .inl (t 0, 4, .inl (upd (upd (upd (upd (fun _ => 0) 0 (-1)) 1 (-1)) 2 (-1)) 3 (-1)))), (q29, .inl (t 0, 4, .inl (fun _ => 0))), (q30, .inl (t 0, 30, .inl (fun _ => 0)))]) H l1 := ⟨hP, hD, hS⟩
  refine lv_iinc (v := 7) (lv' := [(1, .int 7), (0, .ref q0)]) hx hb dX12_init_1106 hl (k := 0) rfl (by decide) (by decide) rfl (fun ls hl => ?_)
  refine lv_goto (tgt := 1089) hx hb dX12_init_1109 (by decide +kernel) ?_
  refine lv_iload_n hx hb dX12_init_1089 rfl (lv_at hl 0 rfl) ?_
  refine lv_bipush (v := 16) hx hb dX12_init_1090 (by decide) ?_
  refine lv_icmp_ge (tgt := 1112) hx hb dX12_init_1092 (by decide +kernel) (fun hc => absurd hc (by decide)) (fun hc => ?_)
  refine lv_aload_n hx hb dX12_init_1095 rfl (lv_at hl 1 rfl) ?_
  refine va_get (ref := "DialSquareModel") (C := RX12) (T := TX12) (N := 37) (ci := 12) cx.1 cx.2.1 cx.2.2.2.2.1 lay_12 cx.2.2.2.1 cx.2.2.2.2.2.1.1 hw.1 0 rfl rfl 0 (by decide) (cx.2.2.2.2.1 _ q_1097) (fun _ h => h) rfl dX12_init_1096 ?_
  refine lv_bipush (v := 7) hx hb dX12_init_1099 (by decide) ?_
  refine lv_iload_n hx hb dX12_init_1101 rfl (lv_at hl 0 rfl) ?_
  refine lv_iadd hx hb dX12_init_1102 ?_
  refine lv_bipush (v := 6) hx hb dX12_init_1103 (by decide) ?_
  refine va_iast hx hb cx.2.2.2.2.2.1.1 hw.1 hw.2.1 hw.2.2 1 0 rfl rfl (ib_in (by decide)) dX12_init_1105 (fun H l1 hP hD hS => ?_)
  have hw : Wd D A s ([(q0, .inr (12, [.ref q11, .ref q12, .ref q13, .int 0, .ref q14, .ref q15, .int 0, .ref q16, .int 0, .int 0, .int 0, .int 0, .int 0, .int 0, .ref q17, .ref q18, .ref q19, .ref q20, .ref q21, .int 0, .int 0, .int 0, .int 0, .ref q22, .ref q23, .int 0, .ref q24, .int 0, .ref q25, .ref q26, .ref q27, .ref q28, .ref q29, .ref q30, .int 0, .int 0, .int 0])), (q11, .inl (t 0, 313, .inl (upd (upd (upd (upd (upd (upd (upd (upd (upd (upd (fun _ => 0) 1 (12)) 3 (1)) 7 6) 8 6) 9 6) 10 6) 11 6) 12 6) 13 6) 14 6))), (q12, .inl (t 0, 313, .inl (fun _ => 0))), (q13, .inl (t 0, 65, .inl (fun _ => 0))), (q14, .inl (t 0, 200, .inl (fun _ => 0))), (q15, .inl (t 0, 200, .inl (fun _ => 0))), (q16, .inl (t 2, 144, .inl ltr)), (q17, .inl (t 0, 200, .inl (fun _ => 0))), (q18, .inl (t 0, 24, .inl (fun _ => 0))), (q19, .inl (t 0, 325, .inl (fun _ => 0))), (q20, .inl (t 0, 4, .inl (fun _ => 0))), (q21, .inl (t 0, 4, .inl (fun _ => 0))), (q22, .inl (t 0, 16, .inl (fun _ => 0))), (q23, .inl (t 0, 16, .inl (fun _ => 0))), (q24, .inl (t 0, 12, .inl (fun _ => 0))), (q25, .inl (t 0, 4, .inl (upd (upd (upd (upd (fun _ => 0) 0 (-1)) 1 (-1)) 2 (-1)) 3 (-1)))), (q26, .inl (t 0, 4, .inl (fun _ => 0))), (q27, .inl (t 0, 160, .inl (fun _ => 0))), (q28, .inl (t 0, 4, .inl (upd (upd (upd (upd (fun _ => 0) 0 (-1)) 1 (-1)) 2 (-1)) 3 (-1)))), (q29, .inl (t 0, 4, .inl (fun _ => 0))), (q30, .inl (t 0, 30, .inl (fun _ => 0)))]) H l1 := ⟨hP, hD, hS⟩
  refine lv_iinc (v := 8) (lv' := [(1, .int 8), (0, .ref q0)]) hx hb dX12_init_1106 hl (k := 0) rfl (by decide) (by decide) rfl (fun ls hl => ?_)
  refine lv_goto (tgt := 1089) hx hb dX12_init_1109 (by decide +kernel) ?_
  refine lv_iload_n hx hb dX12_init_1089 rfl (lv_at hl 0 rfl) ?_
  refine lv_bipush (v := 16) hx hb dX12_init_1090 (by decide) ?_
  refine lv_icmp_ge (tgt := 1112) hx hb dX12_init_1092 (by decide +kernel) (fun hc => absurd hc (by decide)) (fun hc => ?_)
  refine lv_aload_n hx hb dX12_init_1095 rfl (lv_at hl 1 rfl) ?_
  refine va_get (ref := "DialSquareModel") (C := RX12) (T := TX12) (N := 37) (ci := 12) cx.1 cx.2.1 cx.2.2.2.2.1 lay_12 cx.2.2.2.1 cx.2.2.2.2.2.1.1 hw.1 0 rfl rfl 0 (by decide) (cx.2.2.2.2.1 _ q_1097) (fun _ h => h) rfl dX12_init_1096 ?_
  refine lv_bipush (v := 7) hx hb dX12_init_1099 (by decide) ?_
  refine lv_iload_n hx hb dX12_init_1101 rfl (lv_at hl 0 rfl) ?_
  refine lv_iadd hx hb dX12_init_1102 ?_
  refine lv_bipush (v := 6) hx hb dX12_init_1103 (by decide) ?_
  refine va_iast hx hb cx.2.2.2.2.2.1.1 hw.1 hw.2.1 hw.2.2 1 0 rfl rfl (ib_in (by decide)) dX12_init_1105 (fun H l1 hP hD hS => ?_)
  have hw : Wd D A s ([(q0, .inr (12, [.ref q11, .ref q12, .ref q13, .int 0, .ref q14, .ref q15, .int 0, .ref q16, .int 0, .int 0, .int 0, .int 0, .int 0, .int 0, .ref q17, .ref q18, .ref q19, .ref q20, .ref q21, .int 0, .int 0, .int 0, .int 0, .ref q22, .ref q23, .int 0, .ref q24, .int 0, .ref q25, .ref q26, .ref q27, .ref q28, .ref q29, .ref q30, .int 0, .int 0, .int 0])), (q11, .inl (t 0, 313, .inl (upd (upd (upd (upd (upd (upd (upd (upd (upd (upd (upd (fun _ => 0) 1 (12)) 3 (1)) 7 6) 8 6) 9 6) 10 6) 11 6) 12 6) 13 6) 14 6) 15 6))), (q12, .inl (t 0, 313, .inl (fun _ => 0))), (q13, .inl (t 0, 65, .inl (fun _ => 0))), (q14, .inl (t 0, 200, .inl (fun _ => 0))), (q15, .inl (t 0, 200, .inl (fun _ => 0))), (q16, .inl (t 2, 144, .inl ltr)), (q17, .inl (t 0, 200, .inl (fun _ => 0))), (q18, .inl (t 0, 24, .inl (fun _ => 0))), (q19, .inl (t 0, 325, .inl (fun _ => 0))), (q20, .inl (t 0, 4, .inl (fun _ => 0))), (q21, .inl (t 0, 4, .inl (fun _ => 0))), (q22, .inl (t 0, 16, .inl (fun _ => 0))), (q23, .inl (t 0, 16, .inl (fun _ => 0))), (q24, .inl (t 0, 12, .inl (fun _ => 0))), (q25, .inl (t 0, 4, .inl (upd (upd (upd (upd (fun _ => 0) 0 (-1)) 1 (-1)) 2 (-1)) 3 (-1)))), (q26, .inl (t 0, 4, .inl (fun _ => 0))), (q27, .inl (t 0, 160, .inl (fun _ => 0))), (q28, .inl (t 0, 4, .inl (upd (upd (upd (upd (fun _ => 0) 0 (-1)) 1 (-1)) 2 (-1)) 3 (-1)))), (q29, .inl (t 0, 4, .inl (fun _ => 0))), (q30, .inl (t 0, 30, .inl (fun _ => 0)))]) H l1 := ⟨hP, hD, hS⟩
  refine lv_iinc (v := 9) (lv' := [(1, .int 9), (0, .ref q0)]) hx hb dX12_init_1106 hl (k := 0) rfl (by decide) (by decide) rfl (fun ls hl => ?_)
  refine lv_goto (tgt := 1089) hx hb dX12_init_1109 (by decide +kernel) ?_
  refine lv_iload_n hx hb dX12_init_1089 rfl (lv_at hl 0 rfl) ?_
  refine lv_bipush (v := 16) hx hb dX12_init_1090 (by decide) ?_
  refine lv_icmp_ge (tgt := 1112) hx hb dX12_init_1092 (by decide +kernel) (fun hc => absurd hc (by decide)) (fun hc => ?_)
  refine lv_aload_n hx hb dX12_init_1095 rfl (lv_at hl 1 rfl) ?_
  refine va_get (ref := "DialSquareModel") (C := RX12) (T := TX12) (N := 37) (ci := 12) cx.1 cx.2.1 cx.2.2.2.2.1 lay_12 cx.2.2.2.1 cx.2.2.2.2.2.1.1 hw.1 0 rfl rfl 0 (by decide) (cx.2.2.2.2.1 _ q_1097) (fun _ h => h) rfl dX12_init_1096 ?_
  refine lv_bipush (v := 7) hx hb dX12_init_1099 (by decide) ?_
  refine lv_iload_n hx hb dX12_init_1101 rfl (lv_at hl 0 rfl) ?_
  refine lv_iadd hx hb dX12_init_1102 ?_
  refine lv_bipush (v := 6) hx hb dX12_init_1103 (by decide) ?_
  refine va_iast hx hb cx.2.2.2.2.2.1.1 hw.1 hw.2.1 hw.2.2 1 0 rfl rfl (ib_in (by decide)) dX12_init_1105 (fun H l1 hP hD hS => ?_)
  have hw : Wd D A s ([(q0, .inr (12, [.ref q11, .ref q12, .ref q13, .int 0, .ref q14, .ref q15, .int 0, .ref q16, .int 0, .int 0, .int 0, .int 0, .int 0, .int 0, .ref q17, .ref q18, .ref q19, .ref q20, .ref q21, .int 0, .int 0, .int 0, .int 0, .ref q22, .ref q23, .int 0, .ref q24, .int 0, .ref q25, .ref q26, .ref q27, .ref q28, .ref q29, .ref q30, .int 0, .int 0, .int 0])), (q11, .inl (t 0, 313, .inl (upd (upd (upd (upd (upd (upd (upd (upd (upd (upd (upd (upd (fun _ => 0) 1 (12)) 3 (1)) 7 6) 8 6) 9 6) 10 6) 11 6) 12 6) 13 6) 14 6) 15 6) 16 6))), (q12, .inl (t 0, 313, .inl (fun _ => 0))), (q13, .inl (t 0, 65, .inl (fun _ => 0))), (q14, .inl (t 0, 200, .inl (fun _ => 0))), (q15, .inl (t 0, 200, .inl (fun _ => 0))), (q16, .inl (t 2, 144, .inl ltr)), (q17, .inl (t 0, 200, .inl (fun _ => 0))), (q18, .inl (t 0, 24, .inl (fun _ => 0))), (q19, .inl (t 0, 325, .inl (fun _ => 0))), (q20, .inl (t 0, 4, .inl (fun _ => 0))), (q21, .inl (t 0, 4, .inl (fun _ => 0))), (q22, .inl (t 0, 16, .inl (fun _ => 0))), (q23, .inl (t 0, 16, .inl (fun _ => 0))), (q24, .inl (t 0, 12, .inl (fun _ => 0))), (q25, .inl (t 0, 4, .inl (upd (upd (upd (upd (fun _ => 0) 0 (-1)) 1 (-1)) 2 (-1)) 3 (-1)))), (q26, .inl (t 0, 4, .inl (fun _ => 0))), (q27, .inl (t 0, 160, .inl (fun _ => 0))), (q28, .inl (t 0, 4, .inl (upd (upd (upd (upd (fun _ => 0) 0 (-1)) 1 (-1)) 2 (-1)) 3 (-1)))), (q29, .inl (t 0, 4, .inl (fun _ => 0))), (q30, .inl (t 0, 30, .inl (fun _ => 0)))]) H l1 := ⟨hP, hD, hS⟩
  refine lv_iinc (v := 10) (lv' := [(1, .int 10), (0, .ref q0)]) hx hb dX12_init_1106 hl (k := 0) rfl (by decide) (by decide) rfl (fun ls hl => ?_)
  refine lv_goto (tgt := 1089) hx hb dX12_init_1109 (by decide +kernel) ?_
  refine lv_iload_n hx hb dX12_init_1089 rfl (lv_at hl 0 rfl) ?_
  refine lv_bipush (v := 16) hx hb dX12_init_1090 (by decide) ?_
  refine lv_icmp_ge (tgt := 1112) hx hb dX12_init_1092 (by decide +kernel) (fun hc => absurd hc (by decide)) (fun hc => ?_)
  refine lv_aload_n hx hb dX12_init_1095 rfl (lv_at hl 1 rfl) ?_
  refine va_get (ref := "DialSquareModel") (C := RX12) (T := TX12) (N := 37) (ci := 12) cx.1 cx.2.1 cx.2.2.2.2.1 lay_12 cx.2.2.2.1 cx.2.2.2.2.2.1.1 hw.1 0 rfl rfl 0 (by decide) (cx.2.2.2.2.1 _ q_1097) (fun _ h => h) rfl dX12_init_1096 ?_
  refine lv_bipush (v := 7) hx hb dX12_init_1099 (by decide) ?_
  refine lv_iload_n hx hb dX12_init_1101 rfl (lv_at hl 0 rfl) ?_
  refine lv_iadd hx hb dX12_init_1102 ?_
  refine lv_bipush (v := 6) hx hb dX12_init_1103 (by decide) ?_
  refine va_iast hx hb cx.2.2.2.2.2.1.1 hw.1 hw.2.1 hw.2.2 1 0 rfl rfl (ib_in (by decide)) dX12_init_1105 (fun H l1 hP hD hS => ?_)
  have hw : Wd D A s ([(q0, .inr (12, [.ref q11, .ref q12, .ref q13, .int 0, .ref q14, .ref q15, .int 0, .ref q16, .int 0, .int 0, .int 0, .int 0, .int 0, .int 0, .ref q17, .ref q18, .ref q19, .ref q20, .ref q21, .int 0, .int 0, .int 0, .int 0, .ref q22, .ref q23, .int 0, .ref q24, .int 0, .ref q25, .ref q26, .ref q27, .ref q28, .ref q29, .ref q30, .int 0, .int 0, .int 0])), (q11, .inl (t 0, 313, .inl (upd (upd (upd (upd (upd (upd (upd (upd (upd (upd (upd (upd (upd (fun _ => 0) 1 (12)) 3 (1)) 7 6) 8 6) 9 6) 10 6) 11 6) 12 6) 13 6) 14 6) 15 6) 16 6) 17 6))), (q12, .inl (t 0, 313, .inl (fun _ => 0))), (q13, .inl (t 0, 65, .inl (fun _ => 0))), (q14, .inl (t 0, 200, .inl (fun _ => 0))), (q15, .inl (t 0, 200, .inl (fun _ => 0))), (q16, .inl (t 2, 144, .inl ltr)), (q17, .inl (t 0, 200, .inl (fun _ => 0))), (q18, .inl (t 0, 24, .inl (fun _ => 0))), (q19, .inl (t 0, 325, .inl (fun _ => 0))), (q20, .inl (t 0, 4, .inl (fun _ => 0))), (q21, .inl (t 0, 4, .inl (fun _ => 0))), (q22, .inl (t 0, 16, .inl (fun _ => 0))), (q23, .inl (t 0, 16, .inl (fun _ => 0))), (q24, .inl (t 0, 12, .inl (fun _ => 0))), (q25, .inl (t 0, 4, .inl (upd (upd (upd (upd (fun _ => 0) 0 (-1)) 1 (-1)) 2 (-1)) 3 (-1)))), (q26, .inl (t 0, 4, .inl (fun _ => 0))), (q27, .inl (t 0, 160, .inl (fun _ => 0))), (q28, .inl (t 0, 4, .inl (upd (upd (upd (upd (fun _ => 0) 0 (-1)) 1 (-1)) 2 (-1)) 3 (-1)))), (q29, .inl (t 0, 4, .inl (fun _ => 0))), (q30, .inl (t 0, 30, .inl (fun _ => 0)))]) H l1 := ⟨hP, hD, hS⟩
  refine lv_iinc (v := 11) (lv' := [(1, .int 11), (0, .ref q0)]) hx hb dX12_init_1106 hl (k := 0) rfl (by decide) (by decide) rfl (fun ls hl => ?_)
  refine lv_goto (tgt := 1089) hx hb dX12_init_1109 (by decide +kernel) ?_
  refine lv_iload_n hx hb dX12_init_1089 rfl (lv_at hl 0 rfl) ?_
  refine lv_bipush (v := 16) hx hb dX12_init_1090 (by decide) ?_
  refine lv_icmp_ge (tgt := 1112) hx hb dX12_init_1092 (by decide +kernel) (fun hc => absurd hc (by decide)) (fun hc => ?_)
  refine lv_aload_n hx hb dX12_init_1095 rfl (lv_at hl 1 rfl) ?_
  refine va_get (ref := "DialSquareModel") (C := RX12) (T := TX12) (N := 37) (ci := 12) cx.1 cx.2.1 cx.2.2.2.2.1 lay_12 cx.2.2.2.1 cx.2.2.2.2.2.1.1 hw.1 0 rfl rfl 0 (by decide) (cx.2.2.2.2.1 _ q_1097) (fun _ h => h) rfl dX12_init_1096 ?_
  refine lv_bipush (v := 7) hx hb dX12_init_1099 (by decide) ?_
  refine lv_iload_n hx hb dX12_init_1101 rfl (lv_at hl 0 rfl) ?_
  refine lv_iadd hx hb dX12_init_1102 ?_
  refine lv_bipush (v := 6) hx hb dX12_init_1103 (by decide) ?_
  refine va_iast hx hb cx.2.2.2.2.2.1.1 hw.1 hw.2.1 hw.2.2 1 0 rfl rfl (ib_in (by decide)) dX12_init_1105 (fun H l1 hP hD hS => ?_)
  have hw : Wd D A s ([(q0, .inr (12, [.ref q11, .ref q12, .ref q13, .int 0, .ref q14, .ref q15, .int 0, .ref q16, .int 0, .int 0, .int 0, .int 0, .int 0, .int 0, .ref q17, .ref q18, .ref q19, .ref q20, .ref q21, .int 0, .int 0, .int 0, .int 0, .ref q22, .ref q23, .int 0, .ref q24, .int 0, .ref q25, .ref q26, .ref q27, .ref q28, .ref q29, .ref q30, .int 0, .int 0, .int 0])), (q11, .inl (t 0, 313, .inl (upd (upd (upd (upd (upd (upd (upd (upd (upd (upd (upd (upd (upd (upd (fun _ => 0) 1 (12)) 3 (1)) 7 6) 8 6) 9 6) 10 6) 11 6) 12 6) 13 6) 14 6) 15 6) 16 6) 17 6) 18 6))), (q12, .inl (t 0, 313, .inl (fun _ => 0))), (q13, .inl (t 0, 65, .inl (fun _ => 0))), (q14, .inl (t 0, 200, .inl (fun _ => 0))), (q15, .inl (t 0, 200, .inl (fun _ => 0))), (q16, .inl (t 2, 144, .inl ltr)), (q17, .inl (t 0, 200, .inl (fun _ => 0))), (q18, .inl (t 0, 24, .inl (fun _ => 0))), (q19, .inl (t 0, 325, .inl (fun _ => 0))), (q20, .inl (t 0, 4, .inl (fun _ => 0))), (q21, .inl (t 0, 4, .inl (fun _ => 0))), (q22, .inl (t 0, 16, .inl (fun _ => 0))), (q23, .inl (t 0, 16, .inl (fun _ => 0))), (q24, .inl (t 0, 12, .inl (fun _ => 0))), (q25, .inl (t 0, 4, .inl (upd (upd (upd (upd (fun _ => 0) 0 (-1)) 1 (-1)) 2 (-1)) 3 (-1)))), (q26, .inl (t 0, 4, .inl (fun _ => 0))), (q27, .inl (t 0, 160, .inl (fun _ => 0))), (q28, .inl (t 0, 4, .inl (upd (upd (upd (upd (fun _ => 0) 0 (-1)) 1 (-1)) 2 (-1)) 3 (-1)))), (q29, .inl (t 0, 4, .inl (fun _ => 0))), (q30, .inl (t 0, 30, .inl (fun _ => 0)))]) H l1 := ⟨hP, hD, hS⟩
  refine lv_iinc (v := 12) (lv' := [(1, .int 12), (0, .ref q0)]) hx hb dX12_init_1106 hl (k := 0) rfl (by decide) (by decide) rfl (fun ls hl => ?_)
  refine lv_goto (tgt := 1089) hx hb dX12_init_1109 (by decide +kernel) ?_
  refine lv_iload_n hx hb dX12_init_1089 rfl (lv_at hl 0 rfl) ?_
  refine lv_bipush (v := 16) hx hb dX12_init_1090 (by decide) ?_
  refine lv_icmp_ge (tgt := 1112) hx hb dX12_init_1092 (by decide +kernel) (fun hc => absurd hc (by decide)) (fun hc => ?_)
  refine lv_aload_n hx hb dX12_init_1095 rfl (lv_at hl 1 rfl) ?_
  refine va_get (ref := "DialSquareModel") (C := RX12) (T := TX12) (N := 37) (ci := 12) cx.1 cx.2.1 cx.2.2.2.2.1 lay_12 cx.2.2.2.1 cx.2.2.2.2.2.1.1 hw.1 0 rfl rfl 0 (by decide) (cx.2.2.2.2.1 _ q_1097) (fun _ h => h) rfl dX12_init_1096 ?_
  refine lv_bipush (v := 7) hx hb dX12_init_1099 (by decide) ?_
  refine lv_iload_n hx hb dX12_init_1101 rfl (lv_at hl 0 rfl) ?_
  refine lv_iadd hx hb dX12_init_1102 ?_
  refine lv_bipush (v := 6) hx hb dX12_init_1103 (by decide) ?_
  refine va_iast hx hb cx.2.2.2.2.2.1.1 hw.1 hw.2.1 hw.2.2 1 0 rfl rfl (ib_in (by decide)) dX12_init_1105 (fun H l1 hP hD hS => ?_)
  have hw : Wd D A s ([(q0, .inr (12, [.ref q11, .ref q12, .ref q13, .int 0, .ref q14, .ref q15, .int 0, .ref q16, .int 0, .int 0, .int 0, .int 0, .int 0, .int 0, .ref q17, .ref q18, .ref q19, .ref q20, .ref q21, .int 0, .int 0, .int 0, .int 0, .ref q22, .ref q23, .int 0, .ref q24, .int 0, .ref q25, .ref q26, .ref q27, .ref q28, .ref q29, .ref q30, .int 0, .int 0, .int 0])), (q11, .inl (t 0, 313, .inl (upd (upd (upd (upd (upd (upd (upd (upd (upd (upd (upd (upd (upd (upd (upd (fun _ => 0) 1 (12)) 3 (1)) 7 6) 8 6) 9 6) 10 6) 11 6) 12 6) 13 6) 14 6) 15 6) 16 6) 17 6) 18 6) 19 6))), (q12, .inl (t 0, 313, .inl (fun _ => 0))), (q13, .inl (t 0, 65, .inl (fun _ => 0))), (q14, .inl (t 0, 200, .inl (fun _ => 0))), (q15, .inl (t 0, 200, .inl (fun _ => 0))), (q16, .inl (t 2, 144, .inl ltr)), (q17, .inl (t 0, 200, .inl (fun _ => 0))), (q18, .inl (t 0, 24, .inl (fun _ => 0))), (q19, .inl (t 0, 325, .inl (fun _ => 0))), (q20, .inl (t 0, 4, .inl (fun _ => 0))), (q21, .inl (t 0, 4, .inl (fun _ => 0))), (q22, .inl (t 0, 16, .inl (fun _ => 0))), (q23, .inl (t 0, 16, .inl (fun _ => 0))), (q24, .inl (t 0, 12, .inl (fun _ => 0))), (q25, .inl (t 0, 4, .inl (upd (upd (upd (upd (fun _ => 0) 0 (-1)) 1 (-1)) 2 (-1)) 3 (-1)))), (q26, .inl (t 0, 4, .inl (fun _ => 0))), (q27, .inl (t 0, 160, .inl (fun _ => 0))), (q28, .inl (t 0, 4, .inl (upd (upd (upd (upd (fun _ => 0) 0 (-1)) 1 (-1)) 2 (-1)) 3 (-1)))), (q29, .inl (t 0, 4, .inl (fun _ => 0))), (q30, .inl (t 0, 30, .inl (fun _ => 0)))]) H l1 := ⟨hP, hD, hS⟩
  refine lv_iinc (v := 13) (lv' := [(1, .int 13), (0, .ref q0)]) hx hb dX12_init_1106 hl (k := 0) rfl (by decide) (by decide) rfl (fun ls hl => ?_)
  refine lv_goto (tgt := 1089) hx hb dX12_init_1109 (by decide +kernel) ?_
  refine lv_iload_n hx hb dX12_init_1089 rfl (lv_at hl 0 rfl) ?_
  refine lv_bipush (v := 16) hx hb dX12_init_1090 (by decide) ?_
  refine lv_icmp_ge (tgt := 1112) hx hb dX12_init_1092 (by decide +kernel) (fun hc => absurd hc (by decide)) (fun hc => ?_)
  refine lv_aload_n hx hb dX12_init_1095 rfl (lv_at hl 1 rfl) ?_
  refine va_get (ref := "DialSquareModel") (C := RX12) (T := TX12) (N := 37) (ci := 12) cx.1 cx.2.1 cx.2.2.2.2.1 lay_12 cx.2.2.2.1 cx.2.2.2.2.2.1.1 hw.1 0 rfl rfl 0 (by decide) (cx.2.2.2.2.1 _ q_1097) (fun _ h => h) rfl dX12_init_1096 ?_
  refine lv_bipush (v := 7) hx hb dX12_init_1099 (by decide) ?_
  refine lv_iload_n hx hb dX12_init_1101 rfl (lv_at hl 0 rfl) ?_
  refine lv_iadd hx hb dX12_init_1102 ?_
  refine lv_bipush (v := 6) hx hb dX12_init_1103 (by decide) ?_
  refine va_iast hx hb cx.2.2.2.2.2.1.1 hw.1 hw.2.1 hw.2.2 1 0 rfl rfl (ib_in (by decide)) dX12_init_1105 (fun H l1 hP hD hS => ?_)
  have hw : Wd D A s ([(q0, .inr (12, [.ref q11, .ref q12, .ref q13, .int 0, .ref q14, .ref q15, .int 0, .ref q16, .int 0, .int 0, .int 0, .int 0, .int 0, .int 0, .ref q17, .ref q18, .ref q19, .ref q20, .ref q21, .int 0, .int 0, .int 0, .int 0, .ref q22, .ref q23, .int 0, .ref q24, .int 0, .ref q25, .ref q26, .ref q27, .ref q28, .ref q29, .ref q30, .int 0, .int 0, .int 0])), (q11, .inl (t 0, 313, .inl (upd (upd (upd (upd (upd (upd (upd (upd (upd (upd (upd (upd (upd (upd (upd (upd (fun _ => 0) 1 (12)) 3 (1)) 7 6) 8 6) 9 6) 10 6) 11 6) 12 6) 13 6) 14 6) 15 6) 16 6) 17 6) 18 6) 19 6) 20 6))), (q12, .inl (t 0, 313, .inl (fun _ => 0))), (q13, .inl (t 0, 65, .inl (fun _ => 0))), (q14, .inl (t 0, 200, .inl (fun _ => 0))), (q15, .inl (t 0, 200, .inl (fun _ => 0))), (q16, .inl (t 2, 144, .inl ltr)), (q17, .inl (t 0, 200, .inl (fun _ => 0))), (q18, .inl (t 0, 24, .inl (fun _ => 0))), (q19, .inl (t 0, 325, .inl (fun _ => 0))), (q20, .inl (t 0, 4, .inl (fun _ => 0))), (q21, .inl (t 0, 4, .inl (fun _ => 0))), (q22, .inl (t 0, 16, .inl (fun _ => 0))), (q23, .inl (t 0, 16, .inl (fun _ => 0))), (q24, .inl (t 0, 12, .inl (fun _ => 0))), (q25, .inl (t 0, 4, .inl (upd (upd (upd (upd (fun _ => 0) 0 (-1)) 1 (-1)) 2 (-1)) 3 (-1)))), (q26, .inl (t 0, 4, .inl (fun _ => 0))), (q27, .inl (t 0, 160, .inl (fun _ => 0))), (q28, .inl (t 0, 4, .inl (upd (upd (upd (upd (fun _ => 0) 0 (-1)) 1 (-1)) 2 (-1)) 3 (-1)))), (q29, .inl (t 0, 4, .inl (fun _ => 0))), (q30, .inl (t 0, 30, .inl (fun _ => 0)))]) H l1 := ⟨hP, hD, hS⟩
  refine lv_iinc (v := 14) (lv' := [(1, .int 14), (0, .ref q0)]) hx hb dX12_init_1106 hl (k := 0) rfl (by decide) (by decide) rfl (fun ls hl => ?_)
  refine lv_goto (tgt := 1089) hx hb dX12_init_1109 (by decide +kernel) ?_
  refine lv_iload_n hx hb dX12_init_1089 rfl (lv_at hl 0 rfl) ?_
  refine lv_bipush (v := 16) hx hb dX12_init_1090 (by decide) ?_
  refine lv_icmp_ge (tgt := 1112) hx hb dX12_init_1092 (by decide +kernel) (fun hc => absurd hc (by decide)) (fun hc => ?_)
  refine lv_aload_n hx hb dX12_init_1095 rfl (lv_at hl 1 rfl) ?_
  refine va_get (ref := "DialSquareModel") (C := RX12) (T := TX12) (N := 37) (ci := 12) cx.1 cx.2.1 cx.2.2.2.2.1 lay_12 cx.2.2.2.1 cx.2.2.2.2.2.1.1 hw.1 0 rfl rfl 0 (by decide) (cx.2.2.2.2.1 _ q_1097) (fun _ h => h) rfl dX12_init_1096 ?_
  refine lv_bipush (v := 7) hx hb dX12_init_1099 (by decide) ?_
  refine lv_iload_n hx hb dX12_init_1101 rfl (lv_at hl 0 rfl) ?_
  refine lv_iadd hx hb dX12_init_1102 ?_
  refine lv_bipush (v := 6) hx hb dX12_init_1103 (by decide) ?_
  refine va_iast hx hb cx.2.2.2.2.2.1.1 hw.1 hw.2.1 hw.2.2 1 0 rfl rfl (ib_in (by decide)) dX12_init_1105 (fun H l1 hP hD hS => ?_)
  have hw : Wd D A s ([(q0, .inr (12, [.ref q11, .ref q12, .ref q13, .int 0, .ref q14, .ref q15, .int 0, .ref q16, .int 0, .int 0, .int 0, .int 0, .int 0, .int 0, .ref q17, .ref q18, .ref q19, .ref q20, .ref q21, .int 0, .int 0, .int 0, .int 0, .ref q22, .ref q23, .int 0, .ref q24, .int 0, .ref q25, .ref q26, .ref q27, .ref q28, .ref q29, .ref q30, .int 0, .int 0, .int 0])), (q11, .inl (t 0, 313, .inl (upd (upd (upd (upd (upd (upd (upd (upd (upd (upd (upd (upd (upd (upd (upd (upd (upd (fun _ => 0) 1 (12)) 3 (1)) 7 6) 8 6) 9 6) 10 6) 11 6) 12 6) 13 6) 14 6) 15 6) 16 6) 17 6) 18 6) 19 6) 20 6) 21 6))), (q12, .inl (t 0, 313, .inl (fun _ => 0))), (q13, .inl (t 0, 65, .inl (fun _ => 0))), (q14, .inl (t 0, 200, .inl (fun _ => 0))), (q15, .inl (t 0, 200, .inl (fun _ => 0))), (q16, .inl (t 2, 144, .inl ltr)), (q17, .inl (t 0, 200, .inl (fun _ => 0))), (q18, .inl (t 0, 24, .inl (fun _ => 0))), (q19, .inl (t 0, 325, .inl (fun _ => 0))), (q20, .inl (t 0, 4, .inl (fun _ => 0))), (q21, .inl (t 0, 4, .inl (fun _ => 0))), (q22, .inl (t 0, 16, .inl (fun _ => 0))), (q23, .inl (t 0, 16, .inl (fun _ => 0))), (q24, .inl (t 0, 12, .inl (fun _ => 0))), (q25, .inl (t 0, 4, .inl (upd (upd (upd (upd (fun _ => 0) 0 (-1)) 1 (-1)) 2 (-1)) 3 (-1)))), (q26, .inl (t 0, 4, .inl (fun _ => 0))), (q27, .inl (t 0, 160, .inl (fun _ => 0))), (q28, .inl (t 0, 4, .inl (upd (upd (upd (upd (fun _ => 0) 0 (-1)) 1 (-1)) 2 (-1)) 3 (-1)))), (q29, .inl (t 0, 4, .inl (fun _ => 0))), (q30, .inl (t 0, 30, .inl (fun _ => 0)))]) H l1 := ⟨hP, hD, hS⟩
  refine lv_iinc (v := 15) (lv' := [(1, .int 15), (0, .ref q0)]) hx hb dX12_init_1106 hl (k := 0) rfl (by decide) (by decide) rfl (fun ls hl => ?_)
  refine lv_goto (tgt := 1089) hx hb dX12_init_1109 (by decide +kernel) ?_
  refine lv_iload_n hx hb dX12_init_1089 rfl (lv_at hl 0 rfl) ?_
  refine lv_bipush (v := 16) hx hb dX12_init_1090 (by decide) ?_
  refine lv_icmp_ge (tgt := 1112) hx hb dX12_init_1092 (by decide +kernel) (fun hc => absurd hc (by decide)) (fun hc => ?_)
  refine lv_aload_n hx hb dX12_init_1095 rfl (lv_at hl 1 rfl) ?_
  refine va_get (ref := "DialSquareModel") (C := RX12) (T := TX12) (N := 37) (ci := 12) cx.1 cx.2.1 cx.2.2.2.2.1 lay_12 cx.2.2.2.1 cx.2.2.2.2.2.1.1 hw.1 0 rfl rfl 0 (by decide) (cx.2.2.2.2.1 _ q_1097) (fun _ h => h) rfl dX12_init_1096 ?_
  refine lv_bipush (v := 7) hx hb dX12_init_1099 (by decide) ?_
  refine lv_iload_n hx hb dX12_init_1101 rfl (lv_at hl 0 rfl) ?_
  refine lv_iadd hx hb dX12_init_1102 ?_
  refine lv_bipush (v := 6) hx hb dX12_init_1103 (by decide) ?_
  refine va_iast hx hb cx.2.2.2.2.2.1.1 hw.1 hw.2.1 hw.2.2 1 0 rfl rfl (ib_in (by decide)) dX12_init_1105 (fun H l1 hP hD hS => ?_)
  have hw : Wd D A s ([(q0, .inr (12, [.ref q11, .ref q12, .ref q13, .int 0, .ref q14, .ref q15, .int 0, .ref q16, .int 0, .int 0, .int 0, .int 0, .int 0, .int 0, .ref q17, .ref q18, .ref q19, .ref q20, .ref q21, .int 0, .int 0, .int 0, .int 0, .ref q22, .ref q23, .int 0, .ref q24, .int 0, .ref q25, .ref q26, .ref q27, .ref q28, .ref q29, .ref q30, .int 0, .int 0, .int 0])), (q11, .inl (t 0, 313, .inl (upd (upd (upd (upd (upd (upd (upd (upd (upd (upd (upd (upd (upd (upd (upd (upd (upd (upd (fun _ => 0) 1 (12)) 3 (1)) 7 6) 8 6) 9 6) 10 6) 11 6) 12 6) 13 6) 14 6) 15 6) 16 6) 17 6) 18 6) 19 6) 20 6) 21 6) 22 6))), (q12, .inl (t 0, 313, .inl (fun _ => 0))), (q13, .inl (t 0, 65, .inl (fun _ => 0))), (q14, .inl (t 0, 200, .inl (fun _ => 0))), (q15, .inl (t 0, 200, .inl (fun _ => 0))), (q16, .inl (t 2, 144, .inl ltr)), (q17, .inl (t 0, 200, .inl (fun _ => 0))), (q18, .inl (t 0, 24, .inl (fun _ => 0))), (q19, .inl (t 0, 325, .inl (fun _ => 0))), (q20, .inl (t 0, 4, .inl (fun _ => 0))), (q21, .inl (t 0, 4, .inl (fun _ => 0))), (q22, .inl (t 0, 16, .inl (fun _ => 0))), (q23, .inl (t 0, 16, .inl (fun _ => 0))), (q24, .inl (t 0, 12, .inl (fun _ => 0))), (q25, .inl (t 0, 4, .inl (upd (upd (upd (upd (fun _ => 0) 0 (-1)) 1 (-1)) 2 (-1)) 3 (-1)))), (q26, .inl (t 0, 4, .inl (fun _ => 0))), (q27, .inl (t 0, 160, .inl (fun _ => 0))), (q28, .inl (t 0, 4, .inl (upd (upd (upd (upd (fun _ => 0) 0 (-1)) 1 (-1)) 2 (-1)) 3 (-1)))), (q29, .inl (t 0, 4, .inl (fun _ => 0))), (q30, .inl (t 0, 30, .inl (fun _ => 0)))]) H l1 := ⟨hP, hD, hS⟩
  refine lv_iinc (v := 16) (lv' := [(1, .int 16), (0, .ref q0)]) hx hb dX12_init_1106 hl (k := 0) rfl (by decide) (by decide) rfl (fun ls hl => ?_)
  refine lv_goto (tgt := 1089) hx hb dX12_init_1109 (by decide +kernel) ?_
  refine lv_iload_n hx hb dX12_init_1089 rfl (lv_at hl 0 rfl) ?_
  refine lv_bipush (v := 16) hx hb dX12_init_1090 (by decide) ?_
  refine lv_icmp_ge (tgt := 1112) hx hb dX12_init_1092 (by decide +kernel) (fun hc => ?_) (fun hc => absurd (by decide) hc)
  exact hR _ _ _ _ _ hw ⟨rfl, (fun i => ([q0, q11, q12, q13, q14, q15, q16, q17, q18, q19, q20, q21, q22, q23, q24, q25, q26, q27, q28, q29, q30] : List Nat).getD i 0), rfl, rfl⟩ dX12_init_1112
end MSQ
