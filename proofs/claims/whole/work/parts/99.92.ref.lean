/-! the constructor of the reference (by program, wip/gen2/ctor11.py) -/
def rWL : List Nat := [112, 101, 114, 115, 111, 110, 32, 100, 101, 98, 116, 32, 116, 119, 105, 115, 116, 32, 99, 114, 111, 115, 115, 32, 112, 108, 97, 110, 107, 32, 115, 101, 101, 100, 32, 108, 97, 119, 32, 101, 97, 115, 116, 32, 119, 101, 115, 116, 32, 112, 97, 105, 110, 116, 101, 100, 32, 98, 101, 97, 114, 32, 102, 114, 97, 121, 32, 114, 101, 110, 116, 32, 97, 110, 100, 32, 111, 114, 32, 110, 111, 116, 32, 111, 119, 101, 100, 32, 102, 114, 97, 121, 101, 100, 32, 97, 103, 101, 32, 100, 117, 101, 32, 121, 101, 97, 114, 32, 114, 105, 99, 104, 32, 116, 119, 111, 32]
def IW (I : Nat → Nat → Int32) (k : Nat) : Nat → Nat → Int32 := fun a j => if a = 349 ∧ j < k then nI (rWL.getD j 0) else I a j
theorem IW_x (I : Nat → Nat → Int32) (k : Nat) : xu (IW I k) 349 k (nI (rWL.getD k 0)) = IW I (k + 1) := by
  funext a j
  unfold xu IW
  by_cases e : a = 349 ∧ j = k
  · rw [if_pos e, if_pos (by omega), e.2]
  · rw [if_neg e]
    by_cases e2 : a = 349 ∧ j < k
    · rw [if_pos e2, if_pos (by omega)]
    · rw [if_neg e2, if_neg (by omega)]
theorem IW_0 (I : Nat → Nat → Int32) : IW I 0 = I := by funext a j; simp [IW]
theorem IW_o (I : Nat → Nat → Int32) (k : Nat) {a : Nat} (h : a ≠ 349) (j : Nat) : IW I k a j = I a j := by simp [IW, h]
theorem sh_349' : SH[349]? = some (.inr 0, 117) := by decide +kernel
section CW
variable {call : xCl} {X : Option (Nat × (Nat → Int32))} {y : MethodName} {cc : ByteArray} {ret : Option FieldType} {pc : Nat} {ls : List (Option Value)} {st : List Value} {Q : Option Value → xS → Prop} {I : Nat → Nat → Int32} {P : Nat → Nat → Nat}
theorem c_word (k : Nat) {m : Nat} {i v : Int32} (hd : decode cc pc = .ok (.iastore, 1)) (hm : 349 < m) (hi : ¬ i < 0 ∧ k < 117) (hk : i.toNatClampNeg = k) (hv : v = nI (rWL.getD k 0)) (kk : xR call true X y cc ret (pc + 1) ls st (SH.take m, IW I (k + 1), J0, P) Q) : xR call true X y cc ret pc ls (.int v :: .int i :: .ref 349 :: st) (SH.take m, IW I k, J0, P) Q := by
  refine r_ias hd (tk sh_349' hm) (fun z => z.elim hi.1 (fun z => by rw [hk] at z; exact absurd hi.2 (by omega))) ?_
  rw [hk, hv, IW_x]
  exact kk
end CW
set_option maxHeartbeats 1000000 in
theorem i_w0 {E : xCl} {I : Nat → Nat → Int32} {P : Nat → Nat → Nat} {d : Nat} {Q : Option Value → xS → Prop} (K : xR (xEx E true d) true none yX11_init cX11_init none 132 [some (.ref 347)] [.ref 349, .ref 347] (SH.take 350, IW I 20, J0, P) Q) : xR (xEx E true d) true none yX11_init cX11_init none 18 [some (.ref 347)] [.ref 349, .ref 347] (SH.take 350, IW I 0, J0, P) Q := by
  refine r_dup dX11_init_18 rfl ?_
  refine r_iconst (v := 0) dX11_init_19 (by decide) ?_
  refine r_bipush (v := 112) dX11_init_20 (by decide) ?_
  refine c_word 0 dX11_init_22 (by omega) ⟨by decide, by decide⟩ (by decide) (by decide) ?_
  refine r_dup dX11_init_23 rfl ?_
  refine r_iconst (v := 1) dX11_init_24 (by decide) ?_
  refine r_bipush (v := 101) dX11_init_25 (by decide) ?_
  refine c_word 1 dX11_init_27 (by omega) ⟨by decide, by decide⟩ (by decide) (by decide) ?_
  refine r_dup dX11_init_28 rfl ?_
  refine r_iconst (v := 2) dX11_init_29 (by decide) ?_
  refine r_bipush (v := 114) dX11_init_30 (by decide) ?_
  refine c_word 2 dX11_init_32 (by omega) ⟨by decide, by decide⟩ (by decide) (by decide) ?_
  refine r_dup dX11_init_33 rfl ?_
  refine r_iconst (v := 3) dX11_init_34 (by decide) ?_
  refine r_bipush (v := 115) dX11_init_35 (by decide) ?_
  refine c_word 3 dX11_init_37 (by omega) ⟨by decide, by decide⟩ (by decide) (by decide) ?_
  refine r_dup dX11_init_38 rfl ?_
  refine r_iconst (v := 4) dX11_init_39 (by decide) ?_
  refine r_bipush (v := 111) dX11_init_40 (by decide) ?_
  refine c_word 4 dX11_init_42 (by omega) ⟨by decide, by decide⟩ (by decide) (by decide) ?_
  refine r_dup dX11_init_43 rfl ?_
  refine r_iconst (v := 5) dX11_init_44 (by decide) ?_
  refine r_bipush (v := 110) dX11_init_45 (by decide) ?_
  refine c_word 5 dX11_init_47 (by omega) ⟨by decide, by decide⟩ (by decide) (by decide) ?_
  refine r_dup dX11_init_48 rfl ?_
  refine r_bipush (v := 6) dX11_init_49 (by decide) ?_
  refine r_bipush (v := 32) dX11_init_51 (by decide) ?_
  refine c_word 6 dX11_init_53 (by omega) ⟨by decide, by decide⟩ (by decide) (by decide) ?_
  refine r_dup dX11_init_54 rfl ?_
  refine r_bipush (v := 7) dX11_init_55 (by decide) ?_
  refine r_bipush (v := 100) dX11_init_57 (by decide) ?_
  refine c_word 7 dX11_init_59 (by omega) ⟨by decide, by decide⟩ (by decide) (by decide) ?_
  refine r_dup dX11_init_60 rfl ?_
  refine r_bipush (v := 8) dX11_init_61 (by decide) ?_
  refine r_bipush (v := 101) dX11_init_63 (by decide) ?_
  refine c_word 8 dX11_init_65 (by omega) ⟨by decide, by decide⟩ (by decide) (by decide) ?_
  refine r_dup dX11_init_66 rfl ?_
  refine r_bipush (v := 9) dX11_init_67 (by decide) ?_
  refine r_bipush (v := 98) dX11_init_69 (by decide) ?_
  refine c_word 9 dX11_init_71 (by omega) ⟨by decide, by decide⟩ (by decide) (by decide) ?_
  refine r_dup dX11_init_72 rfl ?_
  refine r_bipush (v := 10) dX11_init_73 (by decide) ?_
  refine r_bipush (v := 116) dX11_init_75 (by decide) ?_
  refine c_word 10 dX11_init_77 (by omega) ⟨by decide, by decide⟩ (by decide) (by decide) ?_
  refine r_dup dX11_init_78 rfl ?_
  refine r_bipush (v := 11) dX11_init_79 (by decide) ?_
  refine r_bipush (v := 32) dX11_init_81 (by decide) ?_
  refine c_word 11 dX11_init_83 (by omega) ⟨by decide, by decide⟩ (by decide) (by decide) ?_
  refine r_dup dX11_init_84 rfl ?_
  refine r_bipush (v := 12) dX11_init_85 (by decide) ?_
  refine r_bipush (v := 116) dX11_init_87 (by decide) ?_
  refine c_word 12 dX11_init_89 (by omega) ⟨by decide, by decide⟩ (by decide) (by decide) ?_
  refine r_dup dX11_init_90 rfl ?_
  refine r_bipush (v := 13) dX11_init_91 (by decide) ?_
  refine r_bipush (v := 119) dX11_init_93 (by decide) ?_
  refine c_word 13 dX11_init_95 (by omega) ⟨by decide, by decide⟩ (by decide) (by decide) ?_
  refine r_dup dX11_init_96 rfl ?_
  refine r_bipush (v := 14) dX11_init_97 (by decide) ?_
  refine r_bipush (v := 105) dX11_init_99 (by decide) ?_
  refine c_word 14 dX11_init_101 (by omega) ⟨by decide, by decide⟩ (by decide) (by decide) ?_
  refine r_dup dX11_init_102 rfl ?_
  refine r_bipush (v := 15) dX11_init_103 (by decide) ?_
  refine r_bipush (v := 115) dX11_init_105 (by decide) ?_
  refine c_word 15 dX11_init_107 (by omega) ⟨by decide, by decide⟩ (by decide) (by decide) ?_
  refine r_dup dX11_init_108 rfl ?_
  refine r_bipush (v := 16) dX11_init_109 (by decide) ?_
  refine r_bipush (v := 116) dX11_init_111 (by decide) ?_
  refine c_word 16 dX11_init_113 (by omega) ⟨by decide, by decide⟩ (by decide) (by decide) ?_
  refine r_dup dX11_init_114 rfl ?_
  refine r_bipush (v := 17) dX11_init_115 (by decide) ?_
  refine r_bipush (v := 32) dX11_init_117 (by decide) ?_
  refine c_word 17 dX11_init_119 (by omega) ⟨by decide, by decide⟩ (by decide) (by decide) ?_
  refine r_dup dX11_init_120 rfl ?_
  refine r_bipush (v := 18) dX11_init_121 (by decide) ?_
  refine r_bipush (v := 99) dX11_init_123 (by decide) ?_
  refine c_word 18 dX11_init_125 (by omega) ⟨by decide, by decide⟩ (by decide) (by decide) ?_
  refine r_dup dX11_init_126 rfl ?_
  refine r_bipush (v := 19) dX11_init_127 (by decide) ?_
  refine r_bipush (v := 114) dX11_init_129 (by decide) ?_
  refine c_word 19 dX11_init_131 (by omega) ⟨by decide, by decide⟩ (by decide) (by decide) ?_
  exact K
set_option maxHeartbeats 1000000 in
theorem i_w20 {E : xCl} {I : Nat → Nat → Int32} {P : Nat → Nat → Nat} {d : Nat} {Q : Option Value → xS → Prop} (K : xR (xEx E true d) true none yX11_init cX11_init none 252 [some (.ref 347)] [.ref 349, .ref 347] (SH.take 350, IW I 40, J0, P) Q) : xR (xEx E true d) true none yX11_init cX11_init none 132 [some (.ref 347)] [.ref 349, .ref 347] (SH.take 350, IW I 20, J0, P) Q := by
  refine r_dup dX11_init_132 rfl ?_
  refine r_bipush (v := 20) dX11_init_133 (by decide) ?_
  refine r_bipush (v := 111) dX11_init_135 (by decide) ?_
  refine c_word 20 dX11_init_137 (by omega) ⟨by decide, by decide⟩ (by decide) (by decide) ?_
  refine r_dup dX11_init_138 rfl ?_
  refine r_bipush (v := 21) dX11_init_139 (by decide) ?_
  refine r_bipush (v := 115) dX11_init_141 (by decide) ?_
  refine c_word 21 dX11_init_143 (by omega) ⟨by decide, by decide⟩ (by decide) (by decide) ?_
  refine r_dup dX11_init_144 rfl ?_
  refine r_bipush (v := 22) dX11_init_145 (by decide) ?_
  refine r_bipush (v := 115) dX11_init_147 (by decide) ?_
  refine c_word 22 dX11_init_149 (by omega) ⟨by decide, by decide⟩ (by decide) (by decide) ?_
  refine r_dup dX11_init_150 rfl ?_
  refine r_bipush (v := 23) dX11_init_151 (by decide) ?_
  refine r_bipush (v := 32) dX11_init_153 (by decide) ?_
  refine c_word 23 dX11_init_155 (by omega) ⟨by decide, by decide⟩ (by decide) (by decide) ?_
  refine r_dup dX11_init_156 rfl ?_
  refine r_bipush (v := 24) dX11_init_157 (by decide) ?_
  refine r_bipush (v := 112) dX11_init_159 (by decide) ?_
  refine c_word 24 dX11_init_161 (by omega) ⟨by decide, by decide⟩ (by decide) (by decide) ?_
  refine r_dup dX11_init_162 rfl ?_
  refine r_bipush (v := 25) dX11_init_163 (by decide) ?_
  refine r_bipush (v := 108) dX11_init_165 (by decide) ?_
  refine c_word 25 dX11_init_167 (by omega) ⟨by decide, by decide⟩ (by decide) (by decide) ?_
  refine r_dup dX11_init_168 rfl ?_
  refine r_bipush (v := 26) dX11_init_169 (by decide) ?_
  refine r_bipush (v := 97) dX11_init_171 (by decide) ?_
  refine c_word 26 dX11_init_173 (by omega) ⟨by decide, by decide⟩ (by decide) (by decide) ?_
  refine r_dup dX11_init_174 rfl ?_
  refine r_bipush (v := 27) dX11_init_175 (by decide) ?_
  refine r_bipush (v := 110) dX11_init_177 (by decide) ?_
  refine c_word 27 dX11_init_179 (by omega) ⟨by decide, by decide⟩ (by decide) (by decide) ?_
  refine r_dup dX11_init_180 rfl ?_
  refine r_bipush (v := 28) dX11_init_181 (by decide) ?_
  refine r_bipush (v := 107) dX11_init_183 (by decide) ?_
  refine c_word 28 dX11_init_185 (by omega) ⟨by decide, by decide⟩ (by decide) (by decide) ?_
  refine r_dup dX11_init_186 rfl ?_
  refine r_bipush (v := 29) dX11_init_187 (by decide) ?_
  refine r_bipush (v := 32) dX11_init_189 (by decide) ?_
  refine c_word 29 dX11_init_191 (by omega) ⟨by decide, by decide⟩ (by decide) (by decide) ?_
  refine r_dup dX11_init_192 rfl ?_
  refine r_bipush (v := 30) dX11_init_193 (by decide) ?_
  refine r_bipush (v := 115) dX11_init_195 (by decide) ?_
  refine c_word 30 dX11_init_197 (by omega) ⟨by decide, by decide⟩ (by decide) (by decide) ?_
  refine r_dup dX11_init_198 rfl ?_
  refine r_bipush (v := 31) dX11_init_199 (by decide) ?_
  refine r_bipush (v := 101) dX11_init_201 (by decide) ?_
  refine c_word 31 dX11_init_203 (by omega) ⟨by decide, by decide⟩ (by decide) (by decide) ?_
  refine r_dup dX11_init_204 rfl ?_
  refine r_bipush (v := 32) dX11_init_205 (by decide) ?_
  refine r_bipush (v := 101) dX11_init_207 (by decide) ?_
  refine c_word 32 dX11_init_209 (by omega) ⟨by decide, by decide⟩ (by decide) (by decide) ?_
  refine r_dup dX11_init_210 rfl ?_
  refine r_bipush (v := 33) dX11_init_211 (by decide) ?_
  refine r_bipush (v := 100) dX11_init_213 (by decide) ?_
  refine c_word 33 dX11_init_215 (by omega) ⟨by decide, by decide⟩ (by decide) (by decide) ?_
  refine r_dup dX11_init_216 rfl ?_
  refine r_bipush (v := 34) dX11_init_217 (by decide) ?_
  refine r_bipush (v := 32) dX11_init_219 (by decide) ?_
  refine c_word 34 dX11_init_221 (by omega) ⟨by decide, by decide⟩ (by decide) (by decide) ?_
  refine r_dup dX11_init_222 rfl ?_
  refine r_bipush (v := 35) dX11_init_223 (by decide) ?_
  refine r_bipush (v := 108) dX11_init_225 (by decide) ?_
  refine c_word 35 dX11_init_227 (by omega) ⟨by decide, by decide⟩ (by decide) (by decide) ?_
  refine r_dup dX11_init_228 rfl ?_
  refine r_bipush (v := 36) dX11_init_229 (by decide) ?_
  refine r_bipush (v := 97) dX11_init_231 (by decide) ?_
  refine c_word 36 dX11_init_233 (by omega) ⟨by decide, by decide⟩ (by decide) (by decide) ?_
  refine r_dup dX11_init_234 rfl ?_
  refine r_bipush (v := 37) dX11_init_235 (by decide) ?_
  refine r_bipush (v := 119) dX11_init_237 (by decide) ?_
  refine c_word 37 dX11_init_239 (by omega) ⟨by decide, by decide⟩ (by decide) (by decide) ?_
  refine r_dup dX11_init_240 rfl ?_
  refine r_bipush (v := 38) dX11_init_241 (by decide) ?_
  refine r_bipush (v := 32) dX11_init_243 (by decide) ?_
  refine c_word 38 dX11_init_245 (by omega) ⟨by decide, by decide⟩ (by decide) (by decide) ?_
  refine r_dup dX11_init_246 rfl ?_
  refine r_bipush (v := 39) dX11_init_247 (by decide) ?_
  refine r_bipush (v := 101) dX11_init_249 (by decide) ?_
  refine c_word 39 dX11_init_251 (by omega) ⟨by decide, by decide⟩ (by decide) (by decide) ?_
  exact K
set_option maxHeartbeats 1000000 in
theorem i_w40 {E : xCl} {I : Nat → Nat → Int32} {P : Nat → Nat → Nat} {d : Nat} {Q : Option Value → xS → Prop} (K : xR (xEx E true d) true none yX11_init cX11_init none 372 [some (.ref 347)] [.ref 349, .ref 347] (SH.take 350, IW I 60, J0, P) Q) : xR (xEx E true d) true none yX11_init cX11_init none 252 [some (.ref 347)] [.ref 349, .ref 347] (SH.take 350, IW I 40, J0, P) Q := by
  refine r_dup dX11_init_252 rfl ?_
  refine r_bipush (v := 40) dX11_init_253 (by decide) ?_
  refine r_bipush (v := 97) dX11_init_255 (by decide) ?_
  refine c_word 40 dX11_init_257 (by omega) ⟨by decide, by decide⟩ (by decide) (by decide) ?_
  refine r_dup dX11_init_258 rfl ?_
  refine r_bipush (v := 41) dX11_init_259 (by decide) ?_
  refine r_bipush (v := 115) dX11_init_261 (by decide) ?_
  refine c_word 41 dX11_init_263 (by omega) ⟨by decide, by decide⟩ (by decide) (by decide) ?_
  refine r_dup dX11_init_264 rfl ?_
  refine r_bipush (v := 42) dX11_init_265 (by decide) ?_
  refine r_bipush (v := 116) dX11_init_267 (by decide) ?_
  refine c_word 42 dX11_init_269 (by omega) ⟨by decide, by decide⟩ (by decide) (by decide) ?_
  refine r_dup dX11_init_270 rfl ?_
  refine r_bipush (v := 43) dX11_init_271 (by decide) ?_
  refine r_bipush (v := 32) dX11_init_273 (by decide) ?_
  refine c_word 43 dX11_init_275 (by omega) ⟨by decide, by decide⟩ (by decide) (by decide) ?_
  refine r_dup dX11_init_276 rfl ?_
  refine r_bipush (v := 44) dX11_init_277 (by decide) ?_
  refine r_bipush (v := 119) dX11_init_279 (by decide) ?_
  refine c_word 44 dX11_init_281 (by omega) ⟨by decide, by decide⟩ (by decide) (by decide) ?_
  refine r_dup dX11_init_282 rfl ?_
  refine r_bipush (v := 45) dX11_init_283 (by decide) ?_
  refine r_bipush (v := 101) dX11_init_285 (by decide) ?_
  refine c_word 45 dX11_init_287 (by omega) ⟨by decide, by decide⟩ (by decide) (by decide) ?_
  refine r_dup dX11_init_288 rfl ?_
  refine r_bipush (v := 46) dX11_init_289 (by decide) ?_
  refine r_bipush (v := 115) dX11_init_291 (by decide) ?_
  refine c_word 46 dX11_init_293 (by omega) ⟨by decide, by decide⟩ (by decide) (by decide) ?_
  refine r_dup dX11_init_294 rfl ?_
  refine r_bipush (v := 47) dX11_init_295 (by decide) ?_
  refine r_bipush (v := 116) dX11_init_297 (by decide) ?_
  refine c_word 47 dX11_init_299 (by omega) ⟨by decide, by decide⟩ (by decide) (by decide) ?_
  refine r_dup dX11_init_300 rfl ?_
  refine r_bipush (v := 48) dX11_init_301 (by decide) ?_
  refine r_bipush (v := 32) dX11_init_303 (by decide) ?_
  refine c_word 48 dX11_init_305 (by omega) ⟨by decide, by decide⟩ (by decide) (by decide) ?_
  refine r_dup dX11_init_306 rfl ?_
  refine r_bipush (v := 49) dX11_init_307 (by decide) ?_
  refine r_bipush (v := 112) dX11_init_309 (by decide) ?_
  refine c_word 49 dX11_init_311 (by omega) ⟨by decide, by decide⟩ (by decide) (by decide) ?_
  refine r_dup dX11_init_312 rfl ?_
  refine r_bipush (v := 50) dX11_init_313 (by decide) ?_
  refine r_bipush (v := 97) dX11_init_315 (by decide) ?_
  refine c_word 50 dX11_init_317 (by omega) ⟨by decide, by decide⟩ (by decide) (by decide) ?_
  refine r_dup dX11_init_318 rfl ?_
  refine r_bipush (v := 51) dX11_init_319 (by decide) ?_
  refine r_bipush (v := 105) dX11_init_321 (by decide) ?_
  refine c_word 51 dX11_init_323 (by omega) ⟨by decide, by decide⟩ (by decide) (by decide) ?_
  refine r_dup dX11_init_324 rfl ?_
  refine r_bipush (v := 52) dX11_init_325 (by decide) ?_
  refine r_bipush (v := 110) dX11_init_327 (by decide) ?_
  refine c_word 52 dX11_init_329 (by omega) ⟨by decide, by decide⟩ (by decide) (by decide) ?_
  refine r_dup dX11_init_330 rfl ?_
  refine r_bipush (v := 53) dX11_init_331 (by decide) ?_
  refine r_bipush (v := 116) dX11_init_333 (by decide) ?_
  refine c_word 53 dX11_init_335 (by omega) ⟨by decide, by decide⟩ (by decide) (by decide) ?_
  refine r_dup dX11_init_336 rfl ?_
  refine r_bipush (v := 54) dX11_init_337 (by decide) ?_
  refine r_bipush (v := 101) dX11_init_339 (by decide) ?_
  refine c_word 54 dX11_init_341 (by omega) ⟨by decide, by decide⟩ (by decide) (by decide) ?_
  refine r_dup dX11_init_342 rfl ?_
  refine r_bipush (v := 55) dX11_init_343 (by decide) ?_
  refine r_bipush (v := 100) dX11_init_345 (by decide) ?_
  refine c_word 55 dX11_init_347 (by omega) ⟨by decide, by decide⟩ (by decide) (by decide) ?_
  refine r_dup dX11_init_348 rfl ?_
  refine r_bipush (v := 56) dX11_init_349 (by decide) ?_
  refine r_bipush (v := 32) dX11_init_351 (by decide) ?_
  refine c_word 56 dX11_init_353 (by omega) ⟨by decide, by decide⟩ (by decide) (by decide) ?_
  refine r_dup dX11_init_354 rfl ?_
  refine r_bipush (v := 57) dX11_init_355 (by decide) ?_
  refine r_bipush (v := 98) dX11_init_357 (by decide) ?_
  refine c_word 57 dX11_init_359 (by omega) ⟨by decide, by decide⟩ (by decide) (by decide) ?_
  refine r_dup dX11_init_360 rfl ?_
  refine r_bipush (v := 58) dX11_init_361 (by decide) ?_
  refine r_bipush (v := 101) dX11_init_363 (by decide) ?_
  refine c_word 58 dX11_init_365 (by omega) ⟨by decide, by decide⟩ (by decide) (by decide) ?_
  refine r_dup dX11_init_366 rfl ?_
  refine r_bipush (v := 59) dX11_init_367 (by decide) ?_
  refine r_bipush (v := 97) dX11_init_369 (by decide) ?_
  refine c_word 59 dX11_init_371 (by omega) ⟨by decide, by decide⟩ (by decide) (by decide) ?_
  exact K
set_option maxHeartbeats 1000000 in
theorem i_w60 {E : xCl} {I : Nat → Nat → Int32} {P : Nat → Nat → Nat} {d : Nat} {Q : Option Value → xS → Prop} (K : xR (xEx E true d) true none yX11_init cX11_init none 492 [some (.ref 347)] [.ref 349, .ref 347] (SH.take 350, IW I 80, J0, P) Q) : xR (xEx E true d) true none yX11_init cX11_init none 372 [some (.ref 347)] [.ref 349, .ref 347] (SH.take 350, IW I 60, J0, P) Q := by
  refine r_dup dX11_init_372 rfl ?_
  refine r_bipush (v := 60) dX11_init_373 (by decide) ?_
  refine r_bipush (v := 114) dX11_init_375 (by decide) ?_
  refine c_word 60 dX11_init_377 (by omega) ⟨by decide, by decide⟩ (by decide) (by decide) ?_
  refine r_dup dX11_init_378 rfl ?_
  refine r_bipush (v := 61) dX11_init_379 (by decide) ?_
  refine r_bipush (v := 32) dX11_init_381 (by decide) ?_
  refine c_word 61 dX11_init_383 (by omega) ⟨by decide, by decide⟩ (by decide) (by decide) ?_
  refine r_dup dX11_init_384 rfl ?_
  refine r_bipush (v := 62) dX11_init_385 (by decide) ?_
  refine r_bipush (v := 102) dX11_init_387 (by decide) ?_
  refine c_word 62 dX11_init_389 (by omega) ⟨by decide, by decide⟩ (by decide) (by decide) ?_
  refine r_dup dX11_init_390 rfl ?_
  refine r_bipush (v := 63) dX11_init_391 (by decide) ?_
  refine r_bipush (v := 114) dX11_init_393 (by decide) ?_
  refine c_word 63 dX11_init_395 (by omega) ⟨by decide, by decide⟩ (by decide) (by decide) ?_
  refine r_dup dX11_init_396 rfl ?_
  refine r_bipush (v := 64) dX11_init_397 (by decide) ?_
  refine r_bipush (v := 97) dX11_init_399 (by decide) ?_
  refine c_word 64 dX11_init_401 (by omega) ⟨by decide, by decide⟩ (by decide) (by decide) ?_
  refine r_dup dX11_init_402 rfl ?_
  refine r_bipush (v := 65) dX11_init_403 (by decide) ?_
  refine r_bipush (v := 121) dX11_init_405 (by decide) ?_
  refine c_word 65 dX11_init_407 (by omega) ⟨by decide, by decide⟩ (by decide) (by decide) ?_
  refine r_dup dX11_init_408 rfl ?_
  refine r_bipush (v := 66) dX11_init_409 (by decide) ?_
  refine r_bipush (v := 32) dX11_init_411 (by decide) ?_
  refine c_word 66 dX11_init_413 (by omega) ⟨by decide, by decide⟩ (by decide) (by decide) ?_
  refine r_dup dX11_init_414 rfl ?_
  refine r_bipush (v := 67) dX11_init_415 (by decide) ?_
  refine r_bipush (v := 114) dX11_init_417 (by decide) ?_
  refine c_word 67 dX11_init_419 (by omega) ⟨by decide, by decide⟩ (by decide) (by decide) ?_
  refine r_dup dX11_init_420 rfl ?_
  refine r_bipush (v := 68) dX11_init_421 (by decide) ?_
  refine r_bipush (v := 101) dX11_init_423 (by decide) ?_
  refine c_word 68 dX11_init_425 (by omega) ⟨by decide, by decide⟩ (by decide) (by decide) ?_
  refine r_dup dX11_init_426 rfl ?_
  refine r_bipush (v := 69) dX11_init_427 (by decide) ?_
  refine r_bipush (v := 110) dX11_init_429 (by decide) ?_
  refine c_word 69 dX11_init_431 (by omega) ⟨by decide, by decide⟩ (by decide) (by decide) ?_
  refine r_dup dX11_init_432 rfl ?_
  refine r_bipush (v := 70) dX11_init_433 (by decide) ?_
  refine r_bipush (v := 116) dX11_init_435 (by decide) ?_
  refine c_word 70 dX11_init_437 (by omega) ⟨by decide, by decide⟩ (by decide) (by decide) ?_
  refine r_dup dX11_init_438 rfl ?_
  refine r_bipush (v := 71) dX11_init_439 (by decide) ?_
  refine r_bipush (v := 32) dX11_init_441 (by decide) ?_
  refine c_word 71 dX11_init_443 (by omega) ⟨by decide, by decide⟩ (by decide) (by decide) ?_
  refine r_dup dX11_init_444 rfl ?_
  refine r_bipush (v := 72) dX11_init_445 (by decide) ?_
  refine r_bipush (v := 97) dX11_init_447 (by decide) ?_
  refine c_word 72 dX11_init_449 (by omega) ⟨by decide, by decide⟩ (by decide) (by decide) ?_
  refine r_dup dX11_init_450 rfl ?_
  refine r_bipush (v := 73) dX11_init_451 (by decide) ?_
  refine r_bipush (v := 110) dX11_init_453 (by decide) ?_
  refine c_word 73 dX11_init_455 (by omega) ⟨by decide, by decide⟩ (by decide) (by decide) ?_
  refine r_dup dX11_init_456 rfl ?_
  refine r_bipush (v := 74) dX11_init_457 (by decide) ?_
  refine r_bipush (v := 100) dX11_init_459 (by decide) ?_
  refine c_word 74 dX11_init_461 (by omega) ⟨by decide, by decide⟩ (by decide) (by decide) ?_
  refine r_dup dX11_init_462 rfl ?_
  refine r_bipush (v := 75) dX11_init_463 (by decide) ?_
  refine r_bipush (v := 32) dX11_init_465 (by decide) ?_
  refine c_word 75 dX11_init_467 (by omega) ⟨by decide, by decide⟩ (by decide) (by decide) ?_
  refine r_dup dX11_init_468 rfl ?_
  refine r_bipush (v := 76) dX11_init_469 (by decide) ?_
  refine r_bipush (v := 111) dX11_init_471 (by decide) ?_
  refine c_word 76 dX11_init_473 (by omega) ⟨by decide, by decide⟩ (by decide) (by decide) ?_
  refine r_dup dX11_init_474 rfl ?_
  refine r_bipush (v := 77) dX11_init_475 (by decide) ?_
  refine r_bipush (v := 114) dX11_init_477 (by decide) ?_
  refine c_word 77 dX11_init_479 (by omega) ⟨by decide, by decide⟩ (by decide) (by decide) ?_
  refine r_dup dX11_init_480 rfl ?_
  refine r_bipush (v := 78) dX11_init_481 (by decide) ?_
  refine r_bipush (v := 32) dX11_init_483 (by decide) ?_
  refine c_word 78 dX11_init_485 (by omega) ⟨by decide, by decide⟩ (by decide) (by decide) ?_
  refine r_dup dX11_init_486 rfl ?_
  refine r_bipush (v := 79) dX11_init_487 (by decide) ?_
  refine r_bipush (v := 110) dX11_init_489 (by decide) ?_
  refine c_word 79 dX11_init_491 (by omega) ⟨by decide, by decide⟩ (by decide) (by decide) ?_
  exact K
set_option maxHeartbeats 1000000 in
theorem i_w80 {E : xCl} {I : Nat → Nat → Int32} {P : Nat → Nat → Nat} {d : Nat} {Q : Option Value → xS → Prop} (K : xR (xEx E true d) true none yX11_init cX11_init none 612 [some (.ref 347)] [.ref 349, .ref 347] (SH.take 350, IW I 100, J0, P) Q) : xR (xEx E true d) true none yX11_init cX11_init none 492 [some (.ref 347)] [.ref 349, .ref 347] (SH.take 350, IW I 80, J0, P) Q := by
  refine r_dup dX11_init_492 rfl ?_
  refine r_bipush (v := 80) dX11_init_493 (by decide) ?_
  refine r_bipush (v := 111) dX11_init_495 (by decide) ?_
  refine c_word 80 dX11_init_497 (by omega) ⟨by decide, by decide⟩ (by decide) (by decide) ?_
  refine r_dup dX11_init_498 rfl ?_
  refine r_bipush (v := 81) dX11_init_499 (by decide) ?_
  refine r_bipush (v := 116) dX11_init_501 (by decide) ?_
  refine c_word 81 dX11_init_503 (by omega) ⟨by decide, by decide⟩ (by decide) (by decide) ?_
  refine r_dup dX11_init_504 rfl ?_
  refine r_bipush (v := 82) dX11_init_505 (by decide) ?_
  refine r_bipush (v := 32) dX11_init_507 (by decide) ?_
  refine c_word 82 dX11_init_509 (by omega) ⟨by decide, by decide⟩ (by decide) (by decide) ?_
  refine r_dup dX11_init_510 rfl ?_
  refine r_bipush (v := 83) dX11_init_511 (by decide) ?_
  refine r_bipush (v := 111) dX11_init_513 (by decide) ?_
  refine c_word 83 dX11_init_515 (by omega) ⟨by decide, by decide⟩ (by decide) (by decide) ?_
  refine r_dup dX11_init_516 rfl ?_
  refine r_bipush (v := 84) dX11_init_517 (by decide) ?_
  refine r_bipush (v := 119) dX11_init_519 (by decide) ?_
  refine c_word 84 dX11_init_521 (by omega) ⟨by decide, by decide⟩ (by decide) (by decide) ?_
  refine r_dup dX11_init_522 rfl ?_
  refine r_bipush (v := 85) dX11_init_523 (by decide) ?_
  refine r_bipush (v := 101) dX11_init_525 (by decide) ?_
  refine c_word 85 dX11_init_527 (by omega) ⟨by decide, by decide⟩ (by decide) (by decide) ?_
  refine r_dup dX11_init_528 rfl ?_
  refine r_bipush (v := 86) dX11_init_529 (by decide) ?_
  refine r_bipush (v := 100) dX11_init_531 (by decide) ?_
  refine c_word 86 dX11_init_533 (by omega) ⟨by decide, by decide⟩ (by decide) (by decide) ?_
  refine r_dup dX11_init_534 rfl ?_
  refine r_bipush (v := 87) dX11_init_535 (by decide) ?_
  refine r_bipush (v := 32) dX11_init_537 (by decide) ?_
  refine c_word 87 dX11_init_539 (by omega) ⟨by decide, by decide⟩ (by decide) (by decide) ?_
  refine r_dup dX11_init_540 rfl ?_
  refine r_bipush (v := 88) dX11_init_541 (by decide) ?_
  refine r_bipush (v := 102) dX11_init_543 (by decide) ?_
  refine c_word 88 dX11_init_545 (by omega) ⟨by decide, by decide⟩ (by decide) (by decide) ?_
  refine r_dup dX11_init_546 rfl ?_
  refine r_bipush (v := 89) dX11_init_547 (by decide) ?_
  refine r_bipush (v := 114) dX11_init_549 (by decide) ?_
  refine c_word 89 dX11_init_551 (by omega) ⟨by decide, by decide⟩ (by decide) (by decide) ?_
  refine r_dup dX11_init_552 rfl ?_
  refine r_bipush (v := 90) dX11_init_553 (by decide) ?_
  refine r_bipush (v := 97) dX11_init_555 (by decide) ?_
  refine c_word 90 dX11_init_557 (by omega) ⟨by decide, by decide⟩ (by decide) (by decide) ?_
  refine r_dup dX11_init_558 rfl ?_
  refine r_bipush (v := 91) dX11_init_559 (by decide) ?_
  refine r_bipush (v := 121) dX11_init_561 (by decide) ?_
  refine c_word 91 dX11_init_563 (by omega) ⟨by decide, by decide⟩ (by decide) (by decide) ?_
  refine r_dup dX11_init_564 rfl ?_
  refine r_bipush (v := 92) dX11_init_565 (by decide) ?_
  refine r_bipush (v := 101) dX11_init_567 (by decide) ?_
  refine c_word 92 dX11_init_569 (by omega) ⟨by decide, by decide⟩ (by decide) (by decide) ?_
  refine r_dup dX11_init_570 rfl ?_
  refine r_bipush (v := 93) dX11_init_571 (by decide) ?_
  refine r_bipush (v := 100) dX11_init_573 (by decide) ?_
  refine c_word 93 dX11_init_575 (by omega) ⟨by decide, by decide⟩ (by decide) (by decide) ?_
  refine r_dup dX11_init_576 rfl ?_
  refine r_bipush (v := 94) dX11_init_577 (by decide) ?_
  refine r_bipush (v := 32) dX11_init_579 (by decide) ?_
  refine c_word 94 dX11_init_581 (by omega) ⟨by decide, by decide⟩ (by decide) (by decide) ?_
  refine r_dup dX11_init_582 rfl ?_
  refine r_bipush (v := 95) dX11_init_583 (by decide) ?_
  refine r_bipush (v := 97) dX11_init_585 (by decide) ?_
  refine c_word 95 dX11_init_587 (by omega) ⟨by decide, by decide⟩ (by decide) (by decide) ?_
  refine r_dup dX11_init_588 rfl ?_
  refine r_bipush (v := 96) dX11_init_589 (by decide) ?_
  refine r_bipush (v := 103) dX11_init_591 (by decide) ?_
  refine c_word 96 dX11_init_593 (by omega) ⟨by decide, by decide⟩ (by decide) (by decide) ?_
  refine r_dup dX11_init_594 rfl ?_
  refine r_bipush (v := 97) dX11_init_595 (by decide) ?_
  refine r_bipush (v := 101) dX11_init_597 (by decide) ?_
  refine c_word 97 dX11_init_599 (by omega) ⟨by decide, by decide⟩ (by decide) (by decide) ?_
  refine r_dup dX11_init_600 rfl ?_
  refine r_bipush (v := 98) dX11_init_601 (by decide) ?_
  refine r_bipush (v := 32) dX11_init_603 (by decide) ?_
  refine c_word 98 dX11_init_605 (by omega) ⟨by decide, by decide⟩ (by decide) (by decide) ?_
  refine r_dup dX11_init_606 rfl ?_
  refine r_bipush (v := 99) dX11_init_607 (by decide) ?_
  refine r_bipush (v := 100) dX11_init_609 (by decide) ?_
  refine c_word 99 dX11_init_611 (by omega) ⟨by decide, by decide⟩ (by decide) (by decide) ?_
  exact K
set_option maxHeartbeats 1000000 in
theorem i_w100 {E : xCl} {I : Nat → Nat → Int32} {P : Nat → Nat → Nat} {d : Nat} {Q : Option Value → xS → Prop} (K : xR (xEx E true d) true none yX11_init cX11_init none 714 [some (.ref 347)] [.ref 349, .ref 347] (SH.take 350, IW I 117, J0, P) Q) : xR (xEx E true d) true none yX11_init cX11_init none 612 [some (.ref 347)] [.ref 349, .ref 347] (SH.take 350, IW I 100, J0, P) Q := by
  refine r_dup dX11_init_612 rfl ?_
  refine r_bipush (v := 100) dX11_init_613 (by decide) ?_
  refine r_bipush (v := 117) dX11_init_615 (by decide) ?_
  refine c_word 100 dX11_init_617 (by omega) ⟨by decide, by decide⟩ (by decide) (by decide) ?_
  refine r_dup dX11_init_618 rfl ?_
  refine r_bipush (v := 101) dX11_init_619 (by decide) ?_
  refine r_bipush (v := 101) dX11_init_621 (by decide) ?_
  refine c_word 101 dX11_init_623 (by omega) ⟨by decide, by decide⟩ (by decide) (by decide) ?_
  refine r_dup dX11_init_624 rfl ?_
  refine r_bipush (v := 102) dX11_init_625 (by decide) ?_
  refine r_bipush (v := 32) dX11_init_627 (by decide) ?_
  refine c_word 102 dX11_init_629 (by omega) ⟨by decide, by decide⟩ (by decide) (by decide) ?_
  refine r_dup dX11_init_630 rfl ?_
  refine r_bipush (v := 103) dX11_init_631 (by decide) ?_
  refine r_bipush (v := 121) dX11_init_633 (by decide) ?_
  refine c_word 103 dX11_init_635 (by omega) ⟨by decide, by decide⟩ (by decide) (by decide) ?_
  refine r_dup dX11_init_636 rfl ?_
  refine r_bipush (v := 104) dX11_init_637 (by decide) ?_
  refine r_bipush (v := 101) dX11_init_639 (by decide) ?_
  refine c_word 104 dX11_init_641 (by omega) ⟨by decide, by decide⟩ (by decide) (by decide) ?_
  refine r_dup dX11_init_642 rfl ?_
  refine r_bipush (v := 105) dX11_init_643 (by decide) ?_
  refine r_bipush (v := 97) dX11_init_645 (by decide) ?_
  refine c_word 105 dX11_init_647 (by omega) ⟨by decide, by decide⟩ (by decide) (by decide) ?_
  refine r_dup dX11_init_648 rfl ?_
  refine r_bipush (v := 106) dX11_init_649 (by decide) ?_
  refine r_bipush (v := 114) dX11_init_651 (by decide) ?_
  refine c_word 106 dX11_init_653 (by omega) ⟨by decide, by decide⟩ (by decide) (by decide) ?_
  refine r_dup dX11_init_654 rfl ?_
  refine r_bipush (v := 107) dX11_init_655 (by decide) ?_
  refine r_bipush (v := 32) dX11_init_657 (by decide) ?_
  refine c_word 107 dX11_init_659 (by omega) ⟨by decide, by decide⟩ (by decide) (by decide) ?_
  refine r_dup dX11_init_660 rfl ?_
  refine r_bipush (v := 108) dX11_init_661 (by decide) ?_
  refine r_bipush (v := 114) dX11_init_663 (by decide) ?_
  refine c_word 108 dX11_init_665 (by omega) ⟨by decide, by decide⟩ (by decide) (by decide) ?_
  refine r_dup dX11_init_666 rfl ?_
  refine r_bipush (v := 109) dX11_init_667 (by decide) ?_
  refine r_bipush (v := 105) dX11_init_669 (by decide) ?_
  refine c_word 109 dX11_init_671 (by omega) ⟨by decide, by decide⟩ (by decide) (by decide) ?_
  refine r_dup dX11_init_672 rfl ?_
  refine r_bipush (v := 110) dX11_init_673 (by decide) ?_
  refine r_bipush (v := 99) dX11_init_675 (by decide) ?_
  refine c_word 110 dX11_init_677 (by omega) ⟨by decide, by decide⟩ (by decide) (by decide) ?_
  refine r_dup dX11_init_678 rfl ?_
  refine r_bipush (v := 111) dX11_init_679 (by decide) ?_
  refine r_bipush (v := 104) dX11_init_681 (by decide) ?_
  refine c_word 111 dX11_init_683 (by omega) ⟨by decide, by decide⟩ (by decide) (by decide) ?_
  refine r_dup dX11_init_684 rfl ?_
  refine r_bipush (v := 112) dX11_init_685 (by decide) ?_
  refine r_bipush (v := 32) dX11_init_687 (by decide) ?_
  refine c_word 112 dX11_init_689 (by omega) ⟨by decide, by decide⟩ (by decide) (by decide) ?_
  refine r_dup dX11_init_690 rfl ?_
  refine r_bipush (v := 113) dX11_init_691 (by decide) ?_
  refine r_bipush (v := 116) dX11_init_693 (by decide) ?_
  refine c_word 113 dX11_init_695 (by omega) ⟨by decide, by decide⟩ (by decide) (by decide) ?_
  refine r_dup dX11_init_696 rfl ?_
  refine r_bipush (v := 114) dX11_init_697 (by decide) ?_
  refine r_bipush (v := 119) dX11_init_699 (by decide) ?_
  refine c_word 114 dX11_init_701 (by omega) ⟨by decide, by decide⟩ (by decide) (by decide) ?_
  refine r_dup dX11_init_702 rfl ?_
  refine r_bipush (v := 115) dX11_init_703 (by decide) ?_
  refine r_bipush (v := 111) dX11_init_705 (by decide) ?_
  refine c_word 115 dX11_init_707 (by omega) ⟨by decide, by decide⟩ (by decide) (by decide) ?_
  refine r_dup dX11_init_708 rfl ?_
  refine r_bipush (v := 116) dX11_init_709 (by decide) ?_
  refine r_bipush (v := 32) dX11_init_711 (by decide) ?_
  refine c_word 116 dX11_init_713 (by omega) ⟨by decide, by decide⟩ (by decide) (by decide) ?_
  exact K

def RW : List Nat := [349, 0, 0, 350, 0, 0, 0, 0, 0, 0, 0, 0, 0, 0, 0, 0, 0, 0, 0, 0, 351, 352, 353, 354, 355, 356, 357, 358, 359, 360, 361, 362, 363, 364, 365, 366, 367, 368, 369, 370, 371, 372, 373, 374, 0, 0, 0, 0, 0, 0, 375, 376, 0, 377, 378, 379, 380, 381, 382, 383, 384, 385, 386, 387, 388, 389, 390, 391, 0, 0, 0, 0, 392, 393, 394, 395, 0, 0, 396, 397, 398, 399, 400, 0, 401, 0, 402, 403, 404]
set_option maxHeartbeats 1000000 in
theorem i_a0 {E : xCl} {I : Nat → Nat → Int32} {P : Nat → Nat → Nat} {d : Nat} {Q : Option Value → xS → Prop} (hI : ∀ a k, 347 ≤ a → I a k = 0) (hr : ∀ k, P 347 k = RW.getD k 0) (hz : ∀ a k, 348 ≤ a → a < 404 → P a k = 0) (K : xR (xEx E true d) true none yX11_init cX11_init none 824 [some (.ref 347)] [] (SH.take 363, xu (IW I 117) 347 5 (-1), J0, rwp P 347 33) Q) : xR (xEx E true d) true none yX11_init cX11_init none 714 [some (.ref 347)] [.ref 349, .ref 347] (SH.take 350, IW I 117, J0, rwp P 347 1) Q := by
  refine c_put (P := P) (n := 347) (i := 1) (q := 349) dX11_init_714 flX11_13 ⟨_, _, _, rfl, Or.inr ⟨rfl, rfl, rfl⟩⟩ sh_347 (by omega) (by decide) rfl rfl (by omega) (fun z z1 z2 => (hr z).trans ((show ∀ z, z < 91 → 1 ≤ z → z < 3 → RW.getD z 0 = 0 from by decide) z (by omega) z1 z2)) (by rw [hr]; rfl) ?_
  refine r_aload_n dX11_init_717 rfl ?_
  refine r_iconst (v := -1) dX11_init_718 (by decide) ?_
  refine r_putI dX11_init_719 flX11_16 ⟨_, _, _, rfl, Or.inl rfl⟩ (tk sh_347 (by omega)) (by decide) rfl rfl rfl ?_
  refine r_aload_n dX11_init_722 rfl ?_
  refine r_iconst (v := 2) dX11_init_723 (by decide) ?_
  refine c_newa (q := 350) (m := 2) dX11_init_724 ⟨by decide, by decide, by decide⟩ rfl (by decide +kernel) (fun k => (xu_ne (by omega)).trans ((IW_o _ _ (by omega) k).trans (hI _ k (by omega)))) (fun k => (rwp_o (by omega) k).trans (hz _ k (by omega) (by omega))) ?_
  refine c_put (P := P) (n := 347) (i := 4) (q := 350) dX11_init_726 flX11_20 ⟨_, _, _, rfl, Or.inr ⟨rfl, rfl, rfl⟩⟩ sh_347 (by omega) (by decide) rfl rfl (by omega) (fun z z1 z2 => (hr z).trans ((show ∀ z, z < 91 → 4 ≤ z → z < 20 → RW.getD z 0 = 0 from by decide) z (by omega) z1 z2)) (by rw [hr]; rfl) ?_
  refine r_aload_n dX11_init_729 rfl ?_
  refine r_iconst (v := 4) dX11_init_730 (by decide) ?_
  refine c_newa (q := 351) (m := 4) dX11_init_731 ⟨by decide, by decide, by decide⟩ rfl (by decide +kernel) (fun k => (xu_ne (by omega)).trans ((IW_o _ _ (by omega) k).trans (hI _ k (by omega)))) (fun k => (rwp_o (by omega) k).trans (hz _ k (by omega) (by omega))) ?_
  refine c_put (P := P) (n := 347) (i := 21) (q := 351) dX11_init_733 flX11_24 ⟨_, _, _, rfl, Or.inr ⟨rfl, rfl, rfl⟩⟩ sh_347 (by omega) (by decide) rfl rfl (by omega) (fun z z1 z2 => by omega) (by rw [hr]; rfl) ?_
  refine r_aload_n dX11_init_736 rfl ?_
  refine r_bipush (v := 12) dX11_init_737 (by decide) ?_
  refine c_newa (q := 352) (m := 12) dX11_init_739 ⟨by decide, by decide, by decide⟩ rfl (by decide +kernel) (fun k => (xu_ne (by omega)).trans ((IW_o _ _ (by omega) k).trans (hI _ k (by omega)))) (fun k => (rwp_o (by omega) k).trans (hz _ k (by omega) (by omega))) ?_
  refine c_put (P := P) (n := 347) (i := 22) (q := 352) dX11_init_741 flX11_27 ⟨_, _, _, rfl, Or.inr ⟨rfl, rfl, rfl⟩⟩ sh_347 (by omega) (by decide) rfl rfl (by omega) (fun z z1 z2 => by omega) (by rw [hr]; rfl) ?_
  refine r_aload_n dX11_init_744 rfl ?_
  refine r_bipush (v := 12) dX11_init_745 (by decide) ?_
  refine c_newa (q := 353) (m := 12) dX11_init_747 ⟨by decide, by decide, by decide⟩ rfl (by decide +kernel) (fun k => (xu_ne (by omega)).trans ((IW_o _ _ (by omega) k).trans (hI _ k (by omega)))) (fun k => (rwp_o (by omega) k).trans (hz _ k (by omega) (by omega))) ?_
  refine c_put (P := P) (n := 347) (i := 23) (q := 353) dX11_init_749 flX11_30 ⟨_, _, _, rfl, Or.inr ⟨rfl, rfl, rfl⟩⟩ sh_347 (by omega) (by decide) rfl rfl (by omega) (fun z z1 z2 => by omega) (by rw [hr]; rfl) ?_
  refine r_aload_n dX11_init_752 rfl ?_
  refine r_bipush (v := 12) dX11_init_753 (by decide) ?_
  refine c_newa (q := 354) (m := 12) dX11_init_755 ⟨by decide, by decide, by decide⟩ rfl (by decide +kernel) (fun k => (xu_ne (by omega)).trans ((IW_o _ _ (by omega) k).trans (hI _ k (by omega)))) (fun k => (rwp_o (by omega) k).trans (hz _ k (by omega) (by omega))) ?_
  refine c_put (P := P) (n := 347) (i := 24) (q := 354) dX11_init_757 flX11_33 ⟨_, _, _, rfl, Or.inr ⟨rfl, rfl, rfl⟩⟩ sh_347 (by omega) (by decide) rfl rfl (by omega) (fun z z1 z2 => by omega) (by rw [hr]; rfl) ?_
  refine r_aload_n dX11_init_760 rfl ?_
  refine r_bipush (v := 12) dX11_init_761 (by decide) ?_
  refine c_newa (q := 355) (m := 12) dX11_init_763 ⟨by decide, by decide, by decide⟩ rfl (by decide +kernel) (fun k => (xu_ne (by omega)).trans ((IW_o _ _ (by omega) k).trans (hI _ k (by omega)))) (fun k => (rwp_o (by omega) k).trans (hz _ k (by omega) (by omega))) ?_
  refine c_put (P := P) (n := 347) (i := 25) (q := 355) dX11_init_765 flX11_36 ⟨_, _, _, rfl, Or.inr ⟨rfl, rfl, rfl⟩⟩ sh_347 (by omega) (by decide) rfl rfl (by omega) (fun z z1 z2 => by omega) (by rw [hr]; rfl) ?_
  refine r_aload_n dX11_init_768 rfl ?_
  refine r_bipush (v := 20) dX11_init_769 (by decide) ?_
  refine c_newa (q := 356) (m := 20) dX11_init_771 ⟨by decide, by decide, by decide⟩ rfl (by decide +kernel) (fun k => (xu_ne (by omega)).trans ((IW_o _ _ (by omega) k).trans (hI _ k (by omega)))) (fun k => (rwp_o (by omega) k).trans (hz _ k (by omega) (by omega))) ?_
  refine c_put (P := P) (n := 347) (i := 26) (q := 356) dX11_init_773 flX11_39 ⟨_, _, _, rfl, Or.inr ⟨rfl, rfl, rfl⟩⟩ sh_347 (by omega) (by decide) rfl rfl (by omega) (fun z z1 z2 => by omega) (by rw [hr]; rfl) ?_
  refine r_aload_n dX11_init_776 rfl ?_
  refine r_bipush (v := 20) dX11_init_777 (by decide) ?_
  refine c_newa (q := 357) (m := 20) dX11_init_779 ⟨by decide, by decide, by decide⟩ rfl (by decide +kernel) (fun k => (xu_ne (by omega)).trans ((IW_o _ _ (by omega) k).trans (hI _ k (by omega)))) (fun k => (rwp_o (by omega) k).trans (hz _ k (by omega) (by omega))) ?_
  refine c_put (P := P) (n := 347) (i := 27) (q := 357) dX11_init_781 flX11_42 ⟨_, _, _, rfl, Or.inr ⟨rfl, rfl, rfl⟩⟩ sh_347 (by omega) (by decide) rfl rfl (by omega) (fun z z1 z2 => by omega) (by rw [hr]; rfl) ?_
  refine r_aload_n dX11_init_784 rfl ?_
  refine r_bipush (v := 20) dX11_init_785 (by decide) ?_
  refine c_newa (q := 358) (m := 20) dX11_init_787 ⟨by decide, by decide, by decide⟩ rfl (by decide +kernel) (fun k => (xu_ne (by omega)).trans ((IW_o _ _ (by omega) k).trans (hI _ k (by omega)))) (fun k => (rwp_o (by omega) k).trans (hz _ k (by omega) (by omega))) ?_
  refine c_put (P := P) (n := 347) (i := 28) (q := 358) dX11_init_789 flX11_45 ⟨_, _, _, rfl, Or.inr ⟨rfl, rfl, rfl⟩⟩ sh_347 (by omega) (by decide) rfl rfl (by omega) (fun z z1 z2 => by omega) (by rw [hr]; rfl) ?_
  refine r_aload_n dX11_init_792 rfl ?_
  refine r_bipush (v := 20) dX11_init_793 (by decide) ?_
  refine c_newa (q := 359) (m := 20) dX11_init_795 ⟨by decide, by decide, by decide⟩ rfl (by decide +kernel) (fun k => (xu_ne (by omega)).trans ((IW_o _ _ (by omega) k).trans (hI _ k (by omega)))) (fun k => (rwp_o (by omega) k).trans (hz _ k (by omega) (by omega))) ?_
  refine c_put (P := P) (n := 347) (i := 29) (q := 359) dX11_init_797 flX11_48 ⟨_, _, _, rfl, Or.inr ⟨rfl, rfl, rfl⟩⟩ sh_347 (by omega) (by decide) rfl rfl (by omega) (fun z z1 z2 => by omega) (by rw [hr]; rfl) ?_
  refine r_aload_n dX11_init_800 rfl ?_
  refine r_bipush (v := 20) dX11_init_801 (by decide) ?_
  refine c_newa (q := 360) (m := 20) dX11_init_803 ⟨by decide, by decide, by decide⟩ rfl (by decide +kernel) (fun k => (xu_ne (by omega)).trans ((IW_o _ _ (by omega) k).trans (hI _ k (by omega)))) (fun k => (rwp_o (by omega) k).trans (hz _ k (by omega) (by omega))) ?_
  refine c_put (P := P) (n := 347) (i := 30) (q := 360) dX11_init_805 flX11_51 ⟨_, _, _, rfl, Or.inr ⟨rfl, rfl, rfl⟩⟩ sh_347 (by omega) (by decide) rfl rfl (by omega) (fun z z1 z2 => by omega) (by rw [hr]; rfl) ?_
  refine r_aload_n dX11_init_808 rfl ?_
  refine r_bipush (v := 20) dX11_init_809 (by decide) ?_
  refine c_newa (q := 361) (m := 20) dX11_init_811 ⟨by decide, by decide, by decide⟩ rfl (by decide +kernel) (fun k => (xu_ne (by omega)).trans ((IW_o _ _ (by omega) k).trans (hI _ k (by omega)))) (fun k => (rwp_o (by omega) k).trans (hz _ k (by omega) (by omega))) ?_
  refine c_put (P := P) (n := 347) (i := 31) (q := 361) dX11_init_813 flX11_54 ⟨_, _, _, rfl, Or.inr ⟨rfl, rfl, rfl⟩⟩ sh_347 (by omega) (by decide) rfl rfl (by omega) (fun z z1 z2 => by omega) (by rw [hr]; rfl) ?_
  refine r_aload_n dX11_init_816 rfl ?_
  refine r_bipush (v := 20) dX11_init_817 (by decide) ?_
  refine c_newa (q := 362) (m := 20) dX11_init_819 ⟨by decide, by decide, by decide⟩ rfl (by decide +kernel) (fun k => (xu_ne (by omega)).trans ((IW_o _ _ (by omega) k).trans (hI _ k (by omega)))) (fun k => (rwp_o (by omega) k).trans (hz _ k (by omega) (by omega))) ?_
  refine c_put (P := P) (n := 347) (i := 32) (q := 362) dX11_init_821 flX11_57 ⟨_, _, _, rfl, Or.inr ⟨rfl, rfl, rfl⟩⟩ sh_347 (by omega) (by decide) rfl rfl (by omega) (fun z z1 z2 => by omega) (by rw [hr]; rfl) ?_
  exact K
set_option maxHeartbeats 1000000 in
theorem i_a1 {E : xCl} {I : Nat → Nat → Int32} {P : Nat → Nat → Nat} {d : Nat} {Q : Option Value → xS → Prop} (hI : ∀ a k, 347 ≤ a → I a k = 0) (hr : ∀ k, P 347 k = RW.getD k 0) (hz : ∀ a k, 348 ≤ a → a < 404 → P a k = 0) (K : xR (xEx E true d) true none yX11_init cX11_init none 947 [some (.ref 347)] [] (SH.take 378, xu (IW I 117) 347 5 (-1), J0, rwp P 347 55) Q) : xR (xEx E true d) true none yX11_init cX11_init none 824 [some (.ref 347)] [] (SH.take 363, xu (IW I 117) 347 5 (-1), J0, rwp P 347 33) Q := by
  refine r_aload_n dX11_init_824 rfl ?_
  refine r_bipush (v := 16) dX11_init_825 (by decide) ?_
  refine c_newa (q := 363) (m := 16) dX11_init_827 ⟨by decide, by decide, by decide⟩ rfl (by decide +kernel) (fun k => (xu_ne (by omega)).trans ((IW_o _ _ (by omega) k).trans (hI _ k (by omega)))) (fun k => (rwp_o (by omega) k).trans (hz _ k (by omega) (by omega))) ?_
  refine c_put (P := P) (n := 347) (i := 33) (q := 363) dX11_init_829 flX11_60 ⟨_, _, _, rfl, Or.inr ⟨rfl, rfl, rfl⟩⟩ sh_347 (by omega) (by decide) rfl rfl (by omega) (fun z z1 z2 => by omega) (by rw [hr]; rfl) ?_
  refine r_aload_n dX11_init_832 rfl ?_
  refine r_bipush (v := 16) dX11_init_833 (by decide) ?_
  refine c_newa (q := 364) (m := 16) dX11_init_835 ⟨by decide, by decide, by decide⟩ rfl (by decide +kernel) (fun k => (xu_ne (by omega)).trans ((IW_o _ _ (by omega) k).trans (hI _ k (by omega)))) (fun k => (rwp_o (by omega) k).trans (hz _ k (by omega) (by omega))) ?_
  refine c_put (P := P) (n := 347) (i := 34) (q := 364) dX11_init_837 flX11_63 ⟨_, _, _, rfl, Or.inr ⟨rfl, rfl, rfl⟩⟩ sh_347 (by omega) (by decide) rfl rfl (by omega) (fun z z1 z2 => by omega) (by rw [hr]; rfl) ?_
  refine r_aload_n dX11_init_840 rfl ?_
  refine r_bipush (v := 16) dX11_init_841 (by decide) ?_
  refine c_newa (q := 365) (m := 16) dX11_init_843 ⟨by decide, by decide, by decide⟩ rfl (by decide +kernel) (fun k => (xu_ne (by omega)).trans ((IW_o _ _ (by omega) k).trans (hI _ k (by omega)))) (fun k => (rwp_o (by omega) k).trans (hz _ k (by omega) (by omega))) ?_
  refine c_put (P := P) (n := 347) (i := 35) (q := 365) dX11_init_845 flX11_66 ⟨_, _, _, rfl, Or.inr ⟨rfl, rfl, rfl⟩⟩ sh_347 (by omega) (by decide) rfl rfl (by omega) (fun z z1 z2 => by omega) (by rw [hr]; rfl) ?_
  refine r_aload_n dX11_init_848 rfl ?_
  refine r_bipush (v := 6) dX11_init_849 (by decide) ?_
  refine c_newa (q := 366) (m := 6) dX11_init_851 ⟨by decide, by decide, by decide⟩ rfl (by decide +kernel) (fun k => (xu_ne (by omega)).trans ((IW_o _ _ (by omega) k).trans (hI _ k (by omega)))) (fun k => (rwp_o (by omega) k).trans (hz _ k (by omega) (by omega))) ?_
  refine c_put (P := P) (n := 347) (i := 36) (q := 366) dX11_init_853 flX11_69 ⟨_, _, _, rfl, Or.inr ⟨rfl, rfl, rfl⟩⟩ sh_347 (by omega) (by decide) rfl rfl (by omega) (fun z z1 z2 => by omega) (by rw [hr]; rfl) ?_
  refine r_aload_n dX11_init_856 rfl ?_
  refine r_bipush (v := 6) dX11_init_857 (by decide) ?_
  refine c_newa (q := 367) (m := 6) dX11_init_859 ⟨by decide, by decide, by decide⟩ rfl (by decide +kernel) (fun k => (xu_ne (by omega)).trans ((IW_o _ _ (by omega) k).trans (hI _ k (by omega)))) (fun k => (rwp_o (by omega) k).trans (hz _ k (by omega) (by omega))) ?_
  refine c_put (P := P) (n := 347) (i := 37) (q := 367) dX11_init_861 flX11_72 ⟨_, _, _, rfl, Or.inr ⟨rfl, rfl, rfl⟩⟩ sh_347 (by omega) (by decide) rfl rfl (by omega) (fun z z1 z2 => by omega) (by rw [hr]; rfl) ?_
  refine r_aload_n dX11_init_864 rfl ?_
  refine r_bipush (v := 6) dX11_init_865 (by decide) ?_
  refine c_newa (q := 368) (m := 6) dX11_init_867 ⟨by decide, by decide, by decide⟩ rfl (by decide +kernel) (fun k => (xu_ne (by omega)).trans ((IW_o _ _ (by omega) k).trans (hI _ k (by omega)))) (fun k => (rwp_o (by omega) k).trans (hz _ k (by omega) (by omega))) ?_
  refine c_put (P := P) (n := 347) (i := 38) (q := 368) dX11_init_869 flX11_75 ⟨_, _, _, rfl, Or.inr ⟨rfl, rfl, rfl⟩⟩ sh_347 (by omega) (by decide) rfl rfl (by omega) (fun z z1 z2 => by omega) (by rw [hr]; rfl) ?_
  refine r_aload_n dX11_init_872 rfl ?_
  refine r_sipush (v := 128) dX11_init_873 (by decide) ?_
  refine c_newa (q := 369) (m := 128) dX11_init_876 ⟨by decide, by decide, by decide⟩ rfl (by decide +kernel) (fun k => (xu_ne (by omega)).trans ((IW_o _ _ (by omega) k).trans (hI _ k (by omega)))) (fun k => (rwp_o (by omega) k).trans (hz _ k (by omega) (by omega))) ?_
  refine c_put (P := P) (n := 347) (i := 39) (q := 369) dX11_init_878 flX11_78 ⟨_, _, _, rfl, Or.inr ⟨rfl, rfl, rfl⟩⟩ sh_347 (by omega) (by decide) rfl rfl (by omega) (fun z z1 z2 => by omega) (by rw [hr]; rfl) ?_
  refine r_aload_n dX11_init_881 rfl ?_
  refine r_sipush (v := 128) dX11_init_882 (by decide) ?_
  refine c_newa (q := 370) (m := 128) dX11_init_885 ⟨by decide, by decide, by decide⟩ rfl (by decide +kernel) (fun k => (xu_ne (by omega)).trans ((IW_o _ _ (by omega) k).trans (hI _ k (by omega)))) (fun k => (rwp_o (by omega) k).trans (hz _ k (by omega) (by omega))) ?_
  refine c_put (P := P) (n := 347) (i := 40) (q := 370) dX11_init_887 flX11_81 ⟨_, _, _, rfl, Or.inr ⟨rfl, rfl, rfl⟩⟩ sh_347 (by omega) (by decide) rfl rfl (by omega) (fun z z1 z2 => by omega) (by rw [hr]; rfl) ?_
  refine r_aload_n dX11_init_890 rfl ?_
  refine r_sipush (v := 128) dX11_init_891 (by decide) ?_
  refine c_newa (q := 371) (m := 128) dX11_init_894 ⟨by decide, by decide, by decide⟩ rfl (by decide +kernel) (fun k => (xu_ne (by omega)).trans ((IW_o _ _ (by omega) k).trans (hI _ k (by omega)))) (fun k => (rwp_o (by omega) k).trans (hz _ k (by omega) (by omega))) ?_
  refine c_put (P := P) (n := 347) (i := 41) (q := 371) dX11_init_896 flX11_84 ⟨_, _, _, rfl, Or.inr ⟨rfl, rfl, rfl⟩⟩ sh_347 (by omega) (by decide) rfl rfl (by omega) (fun z z1 z2 => by omega) (by rw [hr]; rfl) ?_
  refine r_aload_n dX11_init_899 rfl ?_
  refine r_bipush (v := 96) dX11_init_900 (by decide) ?_
  refine c_newa (q := 372) (m := 96) dX11_init_902 ⟨by decide, by decide, by decide⟩ rfl (by decide +kernel) (fun k => (xu_ne (by omega)).trans ((IW_o _ _ (by omega) k).trans (hI _ k (by omega)))) (fun k => (rwp_o (by omega) k).trans (hz _ k (by omega) (by omega))) ?_
  refine c_put (P := P) (n := 347) (i := 42) (q := 372) dX11_init_904 flX11_87 ⟨_, _, _, rfl, Or.inr ⟨rfl, rfl, rfl⟩⟩ sh_347 (by omega) (by decide) rfl rfl (by omega) (fun z z1 z2 => by omega) (by rw [hr]; rfl) ?_
  refine r_aload_n dX11_init_907 rfl ?_
  refine r_bipush (v := 96) dX11_init_908 (by decide) ?_
  refine c_newa (q := 373) (m := 96) dX11_init_910 ⟨by decide, by decide, by decide⟩ rfl (by decide +kernel) (fun k => (xu_ne (by omega)).trans ((IW_o _ _ (by omega) k).trans (hI _ k (by omega)))) (fun k => (rwp_o (by omega) k).trans (hz _ k (by omega) (by omega))) ?_
  refine c_put (P := P) (n := 347) (i := 43) (q := 373) dX11_init_912 flX11_90 ⟨_, _, _, rfl, Or.inr ⟨rfl, rfl, rfl⟩⟩ sh_347 (by omega) (by decide) rfl rfl (by omega) (fun z z1 z2 => by omega) (by rw [hr]; rfl) ?_
  refine r_aload_n dX11_init_915 rfl ?_
  refine r_bipush (v := 7) dX11_init_916 (by decide) ?_
  refine c_newa (q := 374) (m := 7) dX11_init_918 ⟨by decide, by decide, by decide⟩ rfl (by decide +kernel) (fun k => (xu_ne (by omega)).trans ((IW_o _ _ (by omega) k).trans (hI _ k (by omega)))) (fun k => (rwp_o (by omega) k).trans (hz _ k (by omega) (by omega))) ?_
  refine c_put (P := P) (n := 347) (i := 44) (q := 374) dX11_init_920 flX11_93 ⟨_, _, _, rfl, Or.inr ⟨rfl, rfl, rfl⟩⟩ sh_347 (by omega) (by decide) rfl rfl (by omega) (fun z z1 z2 => (hr z).trans ((show ∀ z, z < 91 → 44 ≤ z → z < 50 → RW.getD z 0 = 0 from by decide) z (by omega) z1 z2)) (by rw [hr]; rfl) ?_
  refine r_aload_n dX11_init_923 rfl ?_
  refine r_bipush (v := 64) dX11_init_924 (by decide) ?_
  refine c_newa (q := 375) (m := 64) dX11_init_926 ⟨by decide, by decide, by decide⟩ rfl (by decide +kernel) (fun k => (xu_ne (by omega)).trans ((IW_o _ _ (by omega) k).trans (hI _ k (by omega)))) (fun k => (rwp_o (by omega) k).trans (hz _ k (by omega) (by omega))) ?_
  refine c_put (P := P) (n := 347) (i := 51) (q := 375) dX11_init_928 flX11_97 ⟨_, _, _, rfl, Or.inr ⟨rfl, rfl, rfl⟩⟩ sh_347 (by omega) (by decide) rfl rfl (by omega) (fun z z1 z2 => by omega) (by rw [hr]; rfl) ?_
  refine r_aload_n dX11_init_931 rfl ?_
  refine r_bipush (v := 12) dX11_init_932 (by decide) ?_
  refine c_newa (q := 376) (m := 12) dX11_init_934 ⟨by decide, by decide, by decide⟩ rfl (by decide +kernel) (fun k => (xu_ne (by omega)).trans ((IW_o _ _ (by omega) k).trans (hI _ k (by omega)))) (fun k => (rwp_o (by omega) k).trans (hz _ k (by omega) (by omega))) ?_
  refine c_put (P := P) (n := 347) (i := 52) (q := 376) dX11_init_936 flX11_100 ⟨_, _, _, rfl, Or.inr ⟨rfl, rfl, rfl⟩⟩ sh_347 (by omega) (by decide) rfl rfl (by omega) (fun z z1 z2 => (hr z).trans ((show ∀ z, z < 91 → 52 ≤ z → z < 53 → RW.getD z 0 = 0 from by decide) z (by omega) z1 z2)) (by rw [hr]; rfl) ?_
  refine r_aload_n dX11_init_939 rfl ?_
  refine r_bipush (v := 12) dX11_init_940 (by decide) ?_
  refine c_newa (q := 377) (m := 12) dX11_init_942 ⟨by decide, by decide, by decide⟩ rfl (by decide +kernel) (fun k => (xu_ne (by omega)).trans ((IW_o _ _ (by omega) k).trans (hI _ k (by omega)))) (fun k => (rwp_o (by omega) k).trans (hz _ k (by omega) (by omega))) ?_
  refine c_put (P := P) (n := 347) (i := 54) (q := 377) dX11_init_944 flX11_103 ⟨_, _, _, rfl, Or.inr ⟨rfl, rfl, rfl⟩⟩ sh_347 (by omega) (by decide) rfl rfl (by omega) (fun z z1 z2 => by omega) (by rw [hr]; rfl) ?_
  exact K
set_option maxHeartbeats 1000000 in
theorem i_a2 {E : xCl} {I : Nat → Nat → Int32} {P : Nat → Nat → Nat} {d : Nat} {Q : Option Value → xS → Prop} (hI : ∀ a k, 347 ≤ a → I a k = 0) (hr : ∀ k, P 347 k = RW.getD k 0) (hz : ∀ a k, 348 ≤ a → a < 404 → P a k = 0) (K : xR (xEx E true d) true none yX11_init cX11_init none 1065 [some (.ref 347)] [] (SH.take 393, xu (IW I 117) 347 5 (-1), J0, rwp P 347 74) Q) : xR (xEx E true d) true none yX11_init cX11_init none 947 [some (.ref 347)] [] (SH.take 378, xu (IW I 117) 347 5 (-1), J0, rwp P 347 55) Q := by
  refine r_aload_n dX11_init_947 rfl ?_
  refine r_iconst (v := 2) dX11_init_948 (by decide) ?_
  refine c_newa (q := 378) (m := 2) dX11_init_949 ⟨by decide, by decide, by decide⟩ rfl (by decide +kernel) (fun k => (xu_ne (by omega)).trans ((IW_o _ _ (by omega) k).trans (hI _ k (by omega)))) (fun k => (rwp_o (by omega) k).trans (hz _ k (by omega) (by omega))) ?_
  refine c_put (P := P) (n := 347) (i := 55) (q := 378) dX11_init_951 flX11_106 ⟨_, _, _, rfl, Or.inr ⟨rfl, rfl, rfl⟩⟩ sh_347 (by omega) (by decide) rfl rfl (by omega) (fun z z1 z2 => by omega) (by rw [hr]; rfl) ?_
  refine r_aload_n dX11_init_954 rfl ?_
  refine r_bipush (v := 12) dX11_init_955 (by decide) ?_
  refine c_newa (q := 379) (m := 12) dX11_init_957 ⟨by decide, by decide, by decide⟩ rfl (by decide +kernel) (fun k => (xu_ne (by omega)).trans ((IW_o _ _ (by omega) k).trans (hI _ k (by omega)))) (fun k => (rwp_o (by omega) k).trans (hz _ k (by omega) (by omega))) ?_
  refine c_put (P := P) (n := 347) (i := 56) (q := 379) dX11_init_959 flX11_109 ⟨_, _, _, rfl, Or.inr ⟨rfl, rfl, rfl⟩⟩ sh_347 (by omega) (by decide) rfl rfl (by omega) (fun z z1 z2 => by omega) (by rw [hr]; rfl) ?_
  refine r_aload_n dX11_init_962 rfl ?_
  refine r_bipush (v := 12) dX11_init_963 (by decide) ?_
  refine c_newa (q := 380) (m := 12) dX11_init_965 ⟨by decide, by decide, by decide⟩ rfl (by decide +kernel) (fun k => (xu_ne (by omega)).trans ((IW_o _ _ (by omega) k).trans (hI _ k (by omega)))) (fun k => (rwp_o (by omega) k).trans (hz _ k (by omega) (by omega))) ?_
  refine c_put (P := P) (n := 347) (i := 57) (q := 380) dX11_init_967 flX11_112 ⟨_, _, _, rfl, Or.inr ⟨rfl, rfl, rfl⟩⟩ sh_347 (by omega) (by decide) rfl rfl (by omega) (fun z z1 z2 => by omega) (by rw [hr]; rfl) ?_
  refine r_aload_n dX11_init_970 rfl ?_
  refine r_bipush (v := 12) dX11_init_971 (by decide) ?_
  refine c_newa (q := 381) (m := 12) dX11_init_973 ⟨by decide, by decide, by decide⟩ rfl (by decide +kernel) (fun k => (xu_ne (by omega)).trans ((IW_o _ _ (by omega) k).trans (hI _ k (by omega)))) (fun k => (rwp_o (by omega) k).trans (hz _ k (by omega) (by omega))) ?_
  refine c_put (P := P) (n := 347) (i := 58) (q := 381) dX11_init_975 flX11_115 ⟨_, _, _, rfl, Or.inr ⟨rfl, rfl, rfl⟩⟩ sh_347 (by omega) (by decide) rfl rfl (by omega) (fun z z1 z2 => by omega) (by rw [hr]; rfl) ?_
  refine r_aload_n dX11_init_978 rfl ?_
  refine r_bipush (v := 12) dX11_init_979 (by decide) ?_
  refine c_newa (q := 382) (m := 12) dX11_init_981 ⟨by decide, by decide, by decide⟩ rfl (by decide +kernel) (fun k => (xu_ne (by omega)).trans ((IW_o _ _ (by omega) k).trans (hI _ k (by omega)))) (fun k => (rwp_o (by omega) k).trans (hz _ k (by omega) (by omega))) ?_
  refine c_put (P := P) (n := 347) (i := 59) (q := 382) dX11_init_983 flX11_118 ⟨_, _, _, rfl, Or.inr ⟨rfl, rfl, rfl⟩⟩ sh_347 (by omega) (by decide) rfl rfl (by omega) (fun z z1 z2 => by omega) (by rw [hr]; rfl) ?_
  refine r_aload_n dX11_init_986 rfl ?_
  refine r_bipush (v := 24) dX11_init_987 (by decide) ?_
  refine c_newa (q := 383) (m := 24) dX11_init_989 ⟨by decide, by decide, by decide⟩ rfl (by decide +kernel) (fun k => (xu_ne (by omega)).trans ((IW_o _ _ (by omega) k).trans (hI _ k (by omega)))) (fun k => (rwp_o (by omega) k).trans (hz _ k (by omega) (by omega))) ?_
  refine c_put (P := P) (n := 347) (i := 60) (q := 383) dX11_init_991 flX11_121 ⟨_, _, _, rfl, Or.inr ⟨rfl, rfl, rfl⟩⟩ sh_347 (by omega) (by decide) rfl rfl (by omega) (fun z z1 z2 => by omega) (by rw [hr]; rfl) ?_
  refine r_aload_n dX11_init_994 rfl ?_
  refine r_bipush (v := 24) dX11_init_995 (by decide) ?_
  refine c_newa (q := 384) (m := 24) dX11_init_997 ⟨by decide, by decide, by decide⟩ rfl (by decide +kernel) (fun k => (xu_ne (by omega)).trans ((IW_o _ _ (by omega) k).trans (hI _ k (by omega)))) (fun k => (rwp_o (by omega) k).trans (hz _ k (by omega) (by omega))) ?_
  refine c_put (P := P) (n := 347) (i := 61) (q := 384) dX11_init_999 flX11_124 ⟨_, _, _, rfl, Or.inr ⟨rfl, rfl, rfl⟩⟩ sh_347 (by omega) (by decide) rfl rfl (by omega) (fun z z1 z2 => by omega) (by rw [hr]; rfl) ?_
  refine r_aload_n dX11_init_1002 rfl ?_
  refine r_bipush (v := 24) dX11_init_1003 (by decide) ?_
  refine c_newa (q := 385) (m := 24) dX11_init_1005 ⟨by decide, by decide, by decide⟩ rfl (by decide +kernel) (fun k => (xu_ne (by omega)).trans ((IW_o _ _ (by omega) k).trans (hI _ k (by omega)))) (fun k => (rwp_o (by omega) k).trans (hz _ k (by omega) (by omega))) ?_
  refine c_put (P := P) (n := 347) (i := 62) (q := 385) dX11_init_1007 flX11_127 ⟨_, _, _, rfl, Or.inr ⟨rfl, rfl, rfl⟩⟩ sh_347 (by omega) (by decide) rfl rfl (by omega) (fun z z1 z2 => by omega) (by rw [hr]; rfl) ?_
  refine r_aload_n dX11_init_1010 rfl ?_
  refine r_bipush (v := 24) dX11_init_1011 (by decide) ?_
  refine c_newa (q := 386) (m := 24) dX11_init_1013 ⟨by decide, by decide, by decide⟩ rfl (by decide +kernel) (fun k => (xu_ne (by omega)).trans ((IW_o _ _ (by omega) k).trans (hI _ k (by omega)))) (fun k => (rwp_o (by omega) k).trans (hz _ k (by omega) (by omega))) ?_
  refine c_put (P := P) (n := 347) (i := 63) (q := 386) dX11_init_1015 flX11_130 ⟨_, _, _, rfl, Or.inr ⟨rfl, rfl, rfl⟩⟩ sh_347 (by omega) (by decide) rfl rfl (by omega) (fun z z1 z2 => by omega) (by rw [hr]; rfl) ?_
  refine r_aload_n dX11_init_1018 rfl ?_
  refine r_bipush (v := 24) dX11_init_1019 (by decide) ?_
  refine c_newa (q := 387) (m := 24) dX11_init_1021 ⟨by decide, by decide, by decide⟩ rfl (by decide +kernel) (fun k => (xu_ne (by omega)).trans ((IW_o _ _ (by omega) k).trans (hI _ k (by omega)))) (fun k => (rwp_o (by omega) k).trans (hz _ k (by omega) (by omega))) ?_
  refine c_put (P := P) (n := 347) (i := 64) (q := 387) dX11_init_1023 flX11_133 ⟨_, _, _, rfl, Or.inr ⟨rfl, rfl, rfl⟩⟩ sh_347 (by omega) (by decide) rfl rfl (by omega) (fun z z1 z2 => by omega) (by rw [hr]; rfl) ?_
  refine r_aload_n dX11_init_1026 rfl ?_
  refine r_bipush (v := 16) dX11_init_1027 (by decide) ?_
  refine c_newa (q := 388) (m := 16) dX11_init_1029 ⟨by decide, by decide, by decide⟩ rfl (by decide +kernel) (fun k => (xu_ne (by omega)).trans ((IW_o _ _ (by omega) k).trans (hI _ k (by omega)))) (fun k => (rwp_o (by omega) k).trans (hz _ k (by omega) (by omega))) ?_
  refine c_put (P := P) (n := 347) (i := 65) (q := 388) dX11_init_1031 flX11_136 ⟨_, _, _, rfl, Or.inr ⟨rfl, rfl, rfl⟩⟩ sh_347 (by omega) (by decide) rfl rfl (by omega) (fun z z1 z2 => by omega) (by rw [hr]; rfl) ?_
  refine r_aload_n dX11_init_1034 rfl ?_
  refine r_iconst (v := 2) dX11_init_1035 (by decide) ?_
  refine c_newa (q := 389) (m := 2) dX11_init_1036 ⟨by decide, by decide, by decide⟩ rfl (by decide +kernel) (fun k => (xu_ne (by omega)).trans ((IW_o _ _ (by omega) k).trans (hI _ k (by omega)))) (fun k => (rwp_o (by omega) k).trans (hz _ k (by omega) (by omega))) ?_
  refine c_put (P := P) (n := 347) (i := 66) (q := 389) dX11_init_1038 flX11_139 ⟨_, _, _, rfl, Or.inr ⟨rfl, rfl, rfl⟩⟩ sh_347 (by omega) (by decide) rfl rfl (by omega) (fun z z1 z2 => by omega) (by rw [hr]; rfl) ?_
  refine r_aload_n dX11_init_1041 rfl ?_
  refine r_iconst (v := 2) dX11_init_1042 (by decide) ?_
  refine c_newa (q := 390) (m := 2) dX11_init_1043 ⟨by decide, by decide, by decide⟩ rfl (by decide +kernel) (fun k => (xu_ne (by omega)).trans ((IW_o _ _ (by omega) k).trans (hI _ k (by omega)))) (fun k => (rwp_o (by omega) k).trans (hz _ k (by omega) (by omega))) ?_
  refine c_put (P := P) (n := 347) (i := 67) (q := 390) dX11_init_1045 flX11_142 ⟨_, _, _, rfl, Or.inr ⟨rfl, rfl, rfl⟩⟩ sh_347 (by omega) (by decide) rfl rfl (by omega) (fun z z1 z2 => by omega) (by rw [hr]; rfl) ?_
  refine r_aload_n dX11_init_1048 rfl ?_
  refine r_sipush (v := 4096) dX11_init_1049 (by decide) ?_
  refine c_newa (q := 391) (m := 4096) dX11_init_1052 ⟨by decide, by decide, by decide⟩ rfl (by decide +kernel) (fun k => (xu_ne (by omega)).trans ((IW_o _ _ (by omega) k).trans (hI _ k (by omega)))) (fun k => (rwp_o (by omega) k).trans (hz _ k (by omega) (by omega))) ?_
  refine c_put (P := P) (n := 347) (i := 68) (q := 391) dX11_init_1054 flX11_145 ⟨_, _, _, rfl, Or.inr ⟨rfl, rfl, rfl⟩⟩ sh_347 (by omega) (by decide) rfl rfl (by omega) (fun z z1 z2 => (hr z).trans ((show ∀ z, z < 91 → 68 ≤ z → z < 72 → RW.getD z 0 = 0 from by decide) z (by omega) z1 z2)) (by rw [hr]; rfl) ?_
  refine r_aload_n dX11_init_1057 rfl ?_
  refine r_bipush (v := 12) dX11_init_1058 (by decide) ?_
  refine c_newa (q := 392) (m := 12) dX11_init_1060 ⟨by decide, by decide, by decide⟩ rfl (by decide +kernel) (fun k => (xu_ne (by omega)).trans ((IW_o _ _ (by omega) k).trans (hI _ k (by omega)))) (fun k => (rwp_o (by omega) k).trans (hz _ k (by omega) (by omega))) ?_
  refine c_put (P := P) (n := 347) (i := 73) (q := 392) dX11_init_1062 flX11_148 ⟨_, _, _, rfl, Or.inr ⟨rfl, rfl, rfl⟩⟩ sh_347 (by omega) (by decide) rfl rfl (by omega) (fun z z1 z2 => by omega) (by rw [hr]; rfl) ?_
  exact K
set_option maxHeartbeats 1000000 in
theorem i_a3 {E : xCl} {I : Nat → Nat → Int32} {P : Nat → Nat → Nat} {d : Nat} {Q : Option Value → xS → Prop} (hI : ∀ a k, 347 ≤ a → I a k = 0) (hr : ∀ k, P 347 k = RW.getD k 0) (hz : ∀ a k, 348 ≤ a → a < 404 → P a k = 0) (K : xR (xEx E true d) true none yX11_init cX11_init none 1158 [some (.ref 347)] [] (SH.take 404, xu (xu (IW I 117) 347 5 (-1)) 347 77 (-1), J0, rwp P 347 89) Q) : xR (xEx E true d) true none yX11_init cX11_init none 1065 [some (.ref 347)] [] (SH.take 393, xu (IW I 117) 347 5 (-1), J0, rwp P 347 74) Q := by
  refine r_aload_n dX11_init_1065 rfl ?_
  refine r_sipush (v := 24576) dX11_init_1066 (by decide) ?_
  refine c_newa (q := 393) (m := 24576) dX11_init_1069 ⟨by decide, by decide, by decide⟩ rfl (by decide +kernel) (fun k => (xu_ne (by omega)).trans ((IW_o _ _ (by omega) k).trans (hI _ k (by omega)))) (fun k => (rwp_o (by omega) k).trans (hz _ k (by omega) (by omega))) ?_
  refine c_put (P := P) (n := 347) (i := 74) (q := 393) dX11_init_1071 flX11_151 ⟨_, _, _, rfl, Or.inr ⟨rfl, rfl, rfl⟩⟩ sh_347 (by omega) (by decide) rfl rfl (by omega) (fun z z1 z2 => by omega) (by rw [hr]; rfl) ?_
  refine r_aload_n dX11_init_1074 rfl ?_
  refine r_bipush (v := 12) dX11_init_1075 (by decide) ?_
  refine c_newa (q := 394) (m := 12) dX11_init_1077 ⟨by decide, by decide, by decide⟩ rfl (by decide +kernel) (fun k => (xu_ne (by omega)).trans ((IW_o _ _ (by omega) k).trans (hI _ k (by omega)))) (fun k => (rwp_o (by omega) k).trans (hz _ k (by omega) (by omega))) ?_
  refine c_put (P := P) (n := 347) (i := 75) (q := 394) dX11_init_1079 flX11_154 ⟨_, _, _, rfl, Or.inr ⟨rfl, rfl, rfl⟩⟩ sh_347 (by omega) (by decide) rfl rfl (by omega) (fun z z1 z2 => by omega) (by rw [hr]; rfl) ?_
  refine r_aload_n dX11_init_1082 rfl ?_
  refine r_iconst (v := -1) dX11_init_1083 (by decide) ?_
  refine r_putI dX11_init_1084 flX11_157 ⟨_, _, _, rfl, Or.inl rfl⟩ (tk sh_347 (by omega)) (by decide) rfl rfl rfl ?_
  refine r_aload_n dX11_init_1087 rfl ?_
  refine r_bipush (v := 96) dX11_init_1088 (by decide) ?_
  refine c_newa (q := 395) (m := 96) dX11_init_1090 ⟨by decide, by decide, by decide⟩ rfl (by decide +kernel) (fun k => (xu_ne (by omega)).trans ((xu_ne (by omega)).trans ((IW_o _ _ (by omega) k).trans (hI _ k (by omega))))) (fun k => (rwp_o (by omega) k).trans (hz _ k (by omega) (by omega))) ?_
  refine c_put (P := P) (n := 347) (i := 76) (q := 395) dX11_init_1092 flX11_160 ⟨_, _, _, rfl, Or.inr ⟨rfl, rfl, rfl⟩⟩ sh_347 (by omega) (by decide) rfl rfl (by omega) (fun z z1 z2 => (hr z).trans ((show ∀ z, z < 91 → 76 ≤ z → z < 78 → RW.getD z 0 = 0 from by decide) z (by omega) z1 z2)) (by rw [hr]; rfl) ?_
  refine r_aload_n dX11_init_1095 rfl ?_
  refine r_bipush (v := 24) dX11_init_1096 (by decide) ?_
  refine c_newa (q := 396) (m := 24) dX11_init_1098 ⟨by decide, by decide, by decide⟩ rfl (by decide +kernel) (fun k => (xu_ne (by omega)).trans ((xu_ne (by omega)).trans ((IW_o _ _ (by omega) k).trans (hI _ k (by omega))))) (fun k => (rwp_o (by omega) k).trans (hz _ k (by omega) (by omega))) ?_
  refine c_put (P := P) (n := 347) (i := 79) (q := 396) dX11_init_1100 flX11_163 ⟨_, _, _, rfl, Or.inr ⟨rfl, rfl, rfl⟩⟩ sh_347 (by omega) (by decide) rfl rfl (by omega) (fun z z1 z2 => by omega) (by rw [hr]; rfl) ?_
  refine r_aload_n dX11_init_1103 rfl ?_
  refine r_bipush (v := 11) dX11_init_1104 (by decide) ?_
  refine c_newa (q := 397) (m := 11) dX11_init_1106 ⟨by decide, by decide, by decide⟩ rfl (by decide +kernel) (fun k => (xu_ne (by omega)).trans ((xu_ne (by omega)).trans ((IW_o _ _ (by omega) k).trans (hI _ k (by omega))))) (fun k => (rwp_o (by omega) k).trans (hz _ k (by omega) (by omega))) ?_
  refine c_put (P := P) (n := 347) (i := 80) (q := 397) dX11_init_1108 flX11_166 ⟨_, _, _, rfl, Or.inr ⟨rfl, rfl, rfl⟩⟩ sh_347 (by omega) (by decide) rfl rfl (by omega) (fun z z1 z2 => by omega) (by rw [hr]; rfl) ?_
  refine r_aload_n dX11_init_1111 rfl ?_
  refine r_iconst (v := 4) dX11_init_1112 (by decide) ?_
  refine c_newa (q := 398) (m := 4) dX11_init_1113 ⟨by decide, by decide, by decide⟩ rfl (by decide +kernel) (fun k => (xu_ne (by omega)).trans ((xu_ne (by omega)).trans ((IW_o _ _ (by omega) k).trans (hI _ k (by omega))))) (fun k => (rwp_o (by omega) k).trans (hz _ k (by omega) (by omega))) ?_
  refine c_put (P := P) (n := 347) (i := 81) (q := 398) dX11_init_1115 flX11_169 ⟨_, _, _, rfl, Or.inr ⟨rfl, rfl, rfl⟩⟩ sh_347 (by omega) (by decide) rfl rfl (by omega) (fun z z1 z2 => by omega) (by rw [hr]; rfl) ?_
  refine r_aload_n dX11_init_1118 rfl ?_
  refine r_iconst (v := 4) dX11_init_1119 (by decide) ?_
  refine c_newa (q := 399) (m := 4) dX11_init_1120 ⟨by decide, by decide, by decide⟩ rfl (by decide +kernel) (fun k => (xu_ne (by omega)).trans ((xu_ne (by omega)).trans ((IW_o _ _ (by omega) k).trans (hI _ k (by omega))))) (fun k => (rwp_o (by omega) k).trans (hz _ k (by omega) (by omega))) ?_
  refine c_put (P := P) (n := 347) (i := 82) (q := 399) dX11_init_1122 flX11_172 ⟨_, _, _, rfl, Or.inr ⟨rfl, rfl, rfl⟩⟩ sh_347 (by omega) (by decide) rfl rfl (by omega) (fun z z1 z2 => by omega) (by rw [hr]; rfl) ?_
  refine r_aload_n dX11_init_1125 rfl ?_
  refine r_sipush (v := 740) dX11_init_1126 (by decide) ?_
  refine c_newa (q := 400) (m := 740) dX11_init_1129 ⟨by decide, by decide, by decide⟩ rfl (by decide +kernel) (fun k => (xu_ne (by omega)).trans ((xu_ne (by omega)).trans ((IW_o _ _ (by omega) k).trans (hI _ k (by omega))))) (fun k => (rwp_o (by omega) k).trans (hz _ k (by omega) (by omega))) ?_
  refine c_put (P := P) (n := 347) (i := 83) (q := 400) dX11_init_1131 flX11_175 ⟨_, _, _, rfl, Or.inr ⟨rfl, rfl, rfl⟩⟩ sh_347 (by omega) (by decide) rfl rfl (by omega) (fun z z1 z2 => (hr z).trans ((show ∀ z, z < 91 → 83 ≤ z → z < 84 → RW.getD z 0 = 0 from by decide) z (by omega) z1 z2)) (by rw [hr]; rfl) ?_
  refine r_aload_n dX11_init_1134 rfl ?_
  refine r_bipush (v := 37) dX11_init_1135 (by decide) ?_
  refine c_newa (q := 401) (m := 37) dX11_init_1137 ⟨by decide, by decide, by decide⟩ rfl (by decide +kernel) (fun k => (xu_ne (by omega)).trans ((xu_ne (by omega)).trans ((IW_o _ _ (by omega) k).trans (hI _ k (by omega))))) (fun k => (rwp_o (by omega) k).trans (hz _ k (by omega) (by omega))) ?_
  refine c_put (P := P) (n := 347) (i := 85) (q := 401) dX11_init_1139 flX11_178 ⟨_, _, _, rfl, Or.inr ⟨rfl, rfl, rfl⟩⟩ sh_347 (by omega) (by decide) rfl rfl (by omega) (fun z z1 z2 => (hr z).trans ((show ∀ z, z < 91 → 85 ≤ z → z < 86 → RW.getD z 0 = 0 from by decide) z (by omega) z1 z2)) (by rw [hr]; rfl) ?_
  refine r_aload_n dX11_init_1142 rfl ?_
  refine r_bipush (v := 72) dX11_init_1143 (by decide) ?_
  refine c_newa (q := 402) (m := 72) dX11_init_1145 ⟨by decide, by decide, by decide⟩ rfl (by decide +kernel) (fun k => (xu_ne (by omega)).trans ((xu_ne (by omega)).trans ((IW_o _ _ (by omega) k).trans (hI _ k (by omega))))) (fun k => (rwp_o (by omega) k).trans (hz _ k (by omega) (by omega))) ?_
  refine c_put (P := P) (n := 347) (i := 87) (q := 402) dX11_init_1147 flX11_181 ⟨_, _, _, rfl, Or.inr ⟨rfl, rfl, rfl⟩⟩ sh_347 (by omega) (by decide) rfl rfl (by omega) (fun z z1 z2 => by omega) (by rw [hr]; rfl) ?_
  refine r_aload_n dX11_init_1150 rfl ?_
  refine r_bipush (v := 8) dX11_init_1151 (by decide) ?_
  refine c_newa (q := 403) (m := 8) dX11_init_1153 ⟨by decide, by decide, by decide⟩ rfl (by decide +kernel) (fun k => (xu_ne (by omega)).trans ((xu_ne (by omega)).trans ((IW_o _ _ (by omega) k).trans (hI _ k (by omega))))) (fun k => (rwp_o (by omega) k).trans (hz _ k (by omega) (by omega))) ?_
  refine c_put (P := P) (n := 347) (i := 88) (q := 403) dX11_init_1155 flX11_184 ⟨_, _, _, rfl, Or.inr ⟨rfl, rfl, rfl⟩⟩ sh_347 (by omega) (by decide) rfl rfl (by omega) (fun z z1 z2 => by omega) (by rw [hr]; rfl) ?_
  exact K
/-- the constructor up to its calls -/
theorem i_X11a {E : xCl} {I : Nat → Nat → Int32} {P : Nat → Nat → Nat} {d : Nat} {Q : Option Value → xS → Prop} (hI : ∀ a k, 347 ≤ a → I a k = 0) (hr : ∀ k, P 347 k = RW.getD k 0) (hz : ∀ a k, 348 ≤ a → a < 404 → P a k = 0) (K : xR (xEx E true d) true none yX11_init cX11_init none 1158 [some (.ref 347)] [] (SH.take 404, xu (xu (IW I 117) 347 5 (-1)) 347 77 (-1), J0, P) Q) : xR (xEx E true d) true none yX11_init cX11_init none 0 [some (.ref 347)] [] (SH.take 348, I, J0, zr P 347) Q := by
  rw [zr_up]
  refine r_aload_n dX11_init_0 rfl ?_
  refine r_oi dX11_init_1 olX11_1 (by simp [Value.category]) ?_
  refine r_aload_n dX11_init_4 rfl ?_
  refine r_sipush (v := 700) dX11_init_5 (by decide) ?_
  refine c_newa (q := 348) (m := 700) dX11_init_8 ⟨by decide, by decide, by decide⟩ rfl (by decide +kernel) (fun k => hI _ k (by omega)) (fun k => (rwp_o (by omega) k).trans (hz _ k (by omega) (by omega))) ?_
  refine c_put (P := P) (n := 347) (i := 0) (q := 348) dX11_init_10 flX11_7 ⟨_, _, _, rfl, Or.inr ⟨rfl, rfl, rfl⟩⟩ sh_347 (by omega) (by decide) rfl rfl (by omega) (fun z z1 z2 => by omega) (by rw [hr]; rfl) ?_
  refine r_aload_n dX11_init_13 rfl ?_
  refine r_bipush (v := 117) dX11_init_14 (by decide) ?_
  refine c_newa (q := 349) (m := 117) dX11_init_16 ⟨by decide, by decide, by decide⟩ rfl sh_349' (fun k => hI _ k (by omega)) (fun k => (rwp_o (by omega) k).trans (hz _ k (by omega) (by omega))) ?_
  have key : xR (xEx E true d) true none yX11_init cX11_init none 18 [some (.ref 347)] [.ref 349, .ref 347] (SH.take 350, IW I 0, J0, rwp P 347 1) Q := by
    refine i_w0 ?_
    refine i_w20 ?_
    refine i_w40 ?_
    refine i_w60 ?_
    refine i_w80 ?_
    refine i_w100 ?_
    refine i_a0 hI hr hz ?_
    refine i_a1 hI hr hz ?_
    refine i_a2 hI hr hz ?_
    refine i_a3 hI hr hz ?_
    rw [rwp_end (fun k hk => by rw [hr]; exact gd_big (by simpa [RW] using hk))]
    exact K
  rw [IW_0] at key
  exact key
