/-! the reference: one strand painted; the bridge as it was told; images -/
def pO (V : Nat → Nat → Int32) (x : Int32) : Nat → Nat → Nat → Int32
  | 0 => V
  | j + 1 => xu (pO V x j) 12 0 (setB (pO V x j 12 0) j (if nI j = x then 1 else 0))
theorem pO_v (V : Nat → Nat → Int32) (x : Int32) : ∀ n, n ≤ 12 → (∀ k, k < n → bI (pO V x n 12 0) k = if nI k = x then 1 else 0) ∧ ∀ f k, f ≠ 12 → pO V x n f k = V f k
  | 0, _ => ⟨fun k h => absurd h (by omega), fun f k _ => rfl⟩
  | n + 1, hn => by
    obtain ⟨h1, h2⟩ := pO_v V x n (by omega)
    have h01 : (if nI n = x then (1 : Int32) else 0) = 0 ∨ (if nI n = x then (1 : Int32) else 0) = 1 := by
      by_cases h : nI n = x
      · rw [if_pos h]; exact Or.inr rfl
      · rw [if_neg h]; exact Or.inl rfl
    refine ⟨fun k hk => ?_, fun f k hf => ?_⟩
    · rw [pO, xu_s, bI_set _ (by omega) (by omega) h01]
      by_cases h : k = n
      · subst h; rw [if_pos rfl]
      · rw [if_neg h, h1 k (by omega)]
    · rw [pO, xu_f _ _ hf, h2 f k hf]
theorem pO_A (V : Nat → Nat → Int32) (x y : Int32) (hy : ∀ k, k < 12 → bI y k = if nI k = x then 1 else 0) : vA (pO V x 12) (xu V 12 0 y) := by
  obtain ⟨h1, h2⟩ := pO_v V x 12 (Nat.le_refl _)
  have g : ∀ f k, f ≠ 12 → pO V x 12 f k = xu V 12 0 y f k := fun f k h => by rw [h2 f k h, xu_f _ _ h]
  refine ⟨fun k hk => ⟨g _ _ (by decide), g _ _ (by decide)⟩, fun k hk => ⟨g _ _ (by decide), g _ _ (by decide), g _ _ (by decide), g _ _ (by decide), g _ _ (by decide), g _ _ (by decide), g _ _ (by decide), g _ _ (by decide), ?_⟩, fun k hk => g _ _ (by decide), g _ _ (by decide), g _ _ (by decide), g _ _ (by decide)⟩
  rw [h1 k hk, xu_s, hy k hk]
set_option maxHeartbeats 1000000 in
theorem l_paints {E : xCl} {ex : Bool} {I V : Nat → Nat → Int32} {e : Int32} {J : Nat → Nat → Int64} {P : Nat → Nat → Nat} (hP : Pok P) (x : Int32) (d : Nat) : ∀ j, j ≤ 12 → xR (xEx E ex d) ex none yX11_paintsOne cX11_paintsOne none 2 [some (.ref 347), some (.int x), some (.int (nI j))] [] (SH, wR (wE I e) 1 (pO V x j), J, P) (xEq none (SH, wR (wE I e) 1 (pO V x 12), J, P)) := by
  refine r_for (fun j => xR (xEx E ex d) ex none yX11_paintsOne cX11_paintsOne none 2 [some (.ref 347), some (.int x), some (.int (nI j))] [] (SH, wR (wE I e) 1 (pO V x j), J, P) (xEq none (SH, wR (wE I e) 1 (pO V x 12), J, P))) _ ?_ ?_
  · intro j hj ih
    refine r_iload_n dX11_paintsOne_2 rfl ?_
    refine r_bipush (v := 12) dX11_paintsOne_3 (by decide) ?_
    refine r_ic_ge 33 dX11_paintsOne_5 (by decide) (fun c5 => ?_) (fun c5 => ?_)
    · exact absurd c5 (lt12 hj)
    · refine r_aload_n dX11_paintsOne_8 rfl ?_
      refine r_getR dX11_paintsOne_9 flX11_133 sh_347 (by decide) rfl (pf_347_64 hP) ?_
      refine r_bipush (v := 12) dX11_paintsOne_12 (by decide) ?_
      refine r_iload_n dX11_paintsOne_14 rfl ?_
      refine r_iadd dX11_paintsOne_15 ?_
      refine r_iload_n dX11_paintsOne_16 rfl ?_
      refine r_iload_n dX11_paintsOne_17 rfl ?_
      refine r_ic_ne 25 dX11_paintsOne_18 (by decide) (fun c18 => ?_) (fun c18 => ?_)
      · refine r_iconst (v := 0) dX11_paintsOne_25 (by decide) ?_
        refine r_iasv dX11_paintsOne_26 sh_387 (io12 (in12 hj)) (show _ = wR (wE I e) 1 (xu (pO V x j) 12 0 (setB (pO V x j 12 0) j 0)) from (rP12 _ _ (in12 hj) (Or.inl rfl)).trans (by rw [nI_clamp (n := j) (by omega)])) ?_
        refine r_iinc2 (v := 1) dX11_paintsOne_27 (by decide) rfl ?_
        refine r_goto 2 dX11_paintsOne_30 (by decide) ?_
        rw [nI_1]; rw [pO, if_neg c18] at ih; exact ih
      · refine r_iconst (v := 1) dX11_paintsOne_21 (by decide) ?_
        refine r_goto 26 dX11_paintsOne_22 (by decide) ?_
        refine r_iasv dX11_paintsOne_26 sh_387 (io12 (in12 hj)) (show _ = wR (wE I e) 1 (xu (pO V x j) 12 0 (setB (pO V x j 12 0) j 1)) from (rP12 _ _ (in12 hj) (Or.inr rfl)).trans (by rw [nI_clamp (n := j) (by omega)])) ?_
        refine r_iinc2 (v := 1) dX11_paintsOne_27 (by decide) rfl ?_
        refine r_goto 2 dX11_paintsOne_30 (by decide) ?_
        rw [nI_1]; rw [pO, if_pos c18] at ih; exact ih
  · refine r_iload_n dX11_paintsOne_2 rfl ?_
    refine r_bipush (v := 12) dX11_paintsOne_3 (by decide) ?_
    refine r_ic_ge 33 dX11_paintsOne_5 (by decide) (fun c5 => ?_) (fun c5 => ?_)
    · exact r_vret dX11_paintsOne_33 rfl rfl rfl
    · exact absurd (by decide) c5
set_option maxHeartbeats 1000000 in
theorem k_paints0 {E : xCl} {ex : Bool} {I V : Nat → Nat → Int32} {e : Int32} {J : Nat → Nat → Int64} {P : Nat → Nat → Nat} (hP : Pok P) (x : Int32) (d : Nat) : xEx E ex (d + 1) yX11_paintsOne [.ref 347, .int x] (SH, wR (wE I e) 1 V, J, P) none (SH, wR (wE I e) 1 (pO V x 12), J, P) := by
  refine x_enter cqX11_paintsOne [some (.ref 347), some (.int x), none] rfl (by simp [lg_sl, Value.category]) ?_
  refine r_iconst (v := 0) dX11_paintsOne_0 (by decide) ?_
  refine r_istore_n2 dX11_paintsOne_1 rfl ?_
  exact l_paints hP x d 0 (Nat.zero_le _)
theorem k_paintsOne {E : xCl} {ex : Bool} {I V : Nat → Nat → Int32} {e : Int32} {J : Nat → Nat → Int64} {P : Nat → Nat → Nat} (hP : Pok P) (x y : Int32) (hy : ∀ k, k < 12 → bI y k = if nI k = x then 1 else 0) (d : Nat) : xEx E ex (d + 1) yX11_paintsOne [.ref 347, .int x] (SH, wR (wE I e) 1 V, J, P) none (SH, wR (wE I e) 1 (xu V 12 0 y), J, P) := by
  have h := k_paints0 (E := E) (ex := ex) (I := I) (V := V) (e := e) (J := J) hP x d
  rw [wR_ext (wE I e) 1 (pO_A V x y hy)] at h
  exact h
def aT1 (W I : Nat → Nat → Int32) : Nat → Nat → Nat → Int32
  | 0 => W
  | p + 1 => xu (xu (aT1 W I p) 1 p (I 354 p)) 2 p (I 353 p)
def aS (I : Nat → Nat → Int32) (b s : Nat) (W : Nat → Nat → Int32) : Nat → Nat → Int32 := (fun X => xu X 12 0 (setB (X 12 0) s (I 361 s))) (xu (xu (xu (xu (if b = 0 then xu (xu (xu (xu W 3 s (I 356 s)) 4 s (I 357 s)) 8 s 0) 7 s (I 360 s) else W) 5 s (I 358 s)) 6 s (I 359 s)) 9 s 0) 10 s (I 362 s))
def aT2 (I : Nat → Nat → Int32) (b : Nat) (W : Nat → Nat → Int32) : Nat → Nat → Nat → Int32
  | 0 => W
  | s + 1 => aS I b s (aT2 I b W s)
def aT3 (W : Nat → Nat → Int32) : Nat → Nat → Nat → Int32
  | 0 => W
  | c + 1 => xu (aT3 W c) 11 c 0
def aT (I : Nat → Nat → Int32) (b q : Nat) (W : Nat → Nat → Int32) : Nat → Nat → Int32 := xu (xu (aT3 (aT2 I b (xu (aT1 W I 6) 13 0 (nI q)) q) 8) 15 0 0) 14 0 (I 351 0)
set_option maxHeartbeats 2000000 in
theorem l_first3 {E : xCl} {ex : Bool} {I V : Nat → Nat → Int32} {e : Int32} {J : Nat → Nat → Int64} {P : Nat → Nat → Nat} (hP : Pok P) {b : Nat} (hb : b < 2) {q : Nat} (hq10 : q ≤ 10) (hq : I 347 13 = nI q) (hp : ∀ j, j < 10 → I 361 j = 0 ∨ I 361 j = 1) (d : Nat) : ∀ j, j ≤ 8 → xR (xEx E ex d) ex none yX11_atFirst cX11_atFirst none 203 [some (.ref 347), some (.int (nI b)), some (.int (nI j))] [] (SH, wR (wE I e) b (aT3 (aT2 I b (xu (aT1 V I 6) 13 0 (nI q)) q) j), J, P) (xEq none (SH, wR (wE I e) b (aT I b q V), J, P)) := by
  refine r_for (fun j => xR (xEx E ex d) ex none yX11_atFirst cX11_atFirst none 203 [some (.ref 347), some (.int (nI b)), some (.int (nI j))] [] (SH, wR (wE I e) b (aT3 (aT2 I b (xu (aT1 V I 6) 13 0 (nI q)) q) j), J, P) (xEq none (SH, wR (wE I e) b (aT I b q V), J, P))) _ ?_ ?_
  · intro j hj ih
    refine r_iload_n dX11_atFirst_203 rfl ?_
    refine r_bipush (v := 8) dX11_atFirst_204 (by decide) ?_
    refine r_ic_ge 227 dX11_atFirst_206 (by decide) (fun c206 => ?_) (fun c206 => ?_)
    · exact absurd c206 (lt8 hj)
    · refine r_aload_n dX11_atFirst_209 rfl ?_
      refine r_getR dX11_atFirst_210 flX11_136 sh_347 (by decide) rfl (pf_347_65 hP) ?_
      refine r_bipush (v := 8) dX11_atFirst_213 (by decide) ?_
      refine r_iload_n dX11_atFirst_215 rfl ?_
      refine r_imul dX11_atFirst_216 ?_
      refine r_iload_n dX11_atFirst_217 rfl ?_
      refine r_iadd dX11_atFirst_218 ?_
      refine r_iconst (v := 0) dX11_atFirst_219 (by decide) ?_
      refine r_iasv dX11_atFirst_220 sh_388 (ix8 hb (vp_in_nI hj (by omega))) (rW11 _ _ hb (vp_in_nI hj (by omega)) _) ?_
      refine r_iinc2 (v := 1) dX11_atFirst_221 (by decide) rfl ?_
      refine r_goto 203 dX11_atFirst_224 (by decide) ?_
      rw [nI_1, nI_clamp (n := j) (by omega)]; exact ih
  · refine r_iload_n dX11_atFirst_203 rfl ?_
    refine r_bipush (v := 8) dX11_atFirst_204 (by decide) ?_
    refine r_ic_ge 227 dX11_atFirst_206 (by decide) (fun c206 => ?_) (fun c206 => ?_)
    · refine r_aload_n dX11_atFirst_227 rfl ?_
      refine r_getR dX11_atFirst_228 flX11_139 sh_347 (by decide) rfl (pf_347_66 hP) ?_
      refine r_iload_n dX11_atFirst_231 rfl ?_
      refine r_iconst (v := 0) dX11_atFirst_232 (by decide) ?_
      refine r_iasv dX11_atFirst_233 sh_389 (ix2 hb) (rW15 _ _ hb _) ?_
      refine r_aload_n dX11_atFirst_234 rfl ?_
      refine r_getR dX11_atFirst_235 flX11_142 sh_347 (by decide) rfl (pf_347_67 hP) ?_
      refine r_iload_n dX11_atFirst_238 rfl ?_
      refine r_aload_n dX11_atFirst_239 rfl ?_
      refine r_getR dX11_atFirst_240 flX11_24 sh_347 (by decide) rfl (pf_347_21 hP) ?_
      refine r_iconst (v := 0) dX11_atFirst_243 (by decide) ?_
      refine r_ialv dX11_atFirst_244 sh_351 (vp_in_iff.mpr (by decide)) ((wR_o _ _ _ (by decide) _).trans (wE_o _ _ (by decide) _)) ?_
      refine r_iasv dX11_atFirst_245 sh_390 (ix2 hb) (rW14 _ _ hb _) ?_
      exact r_vret dX11_atFirst_246 rfl rfl rfl
    · exact absurd (by decide) c206
set_option maxHeartbeats 2000000 in
theorem l_first2 {E : xCl} {ex : Bool} {I V : Nat → Nat → Int32} {e : Int32} {J : Nat → Nat → Int64} {P : Nat → Nat → Nat} (hP : Pok P) {b : Nat} (hb : b < 2) {q : Nat} (hq10 : q ≤ 10) (hq : I 347 13 = nI q) (hp : ∀ j, j < 10 → I 361 j = 0 ∨ I 361 j = 1) (d : Nat) : ∀ j, j ≤ q → xR (xEx E ex d) ex none yX11_atFirst cX11_atFirst none 60 [some (.ref 347), some (.int (nI b)), some (.int (nI j))] [] (SH, wR (wE I e) b (aT2 I b (xu (aT1 V I 6) 13 0 (nI q)) j), J, P) (xEq none (SH, wR (wE I e) b (aT I b q V), J, P)) := by
  refine r_for (fun j => xR (xEx E ex d) ex none yX11_atFirst cX11_atFirst none 60 [some (.ref 347), some (.int (nI b)), some (.int (nI j))] [] (SH, wR (wE I e) b (aT2 I b (xu (aT1 V I 6) 13 0 (nI q)) j), J, P) (xEq none (SH, wR (wE I e) b (aT I b q V), J, P))) _ ?_ ?_
  · intro j hj ih
    refine r_iload_n dX11_atFirst_60 rfl ?_
    refine r_aload_n dX11_atFirst_61 rfl ?_
    refine r_getIv dX11_atFirst_62 flX11_273 sh_347 (by decide) rfl ((wR_o _ _ _ (by decide) _).trans ((wE_f _ _ (by decide)).trans hq)) ?_
    refine r_ic_ge 201 dX11_atFirst_65 (by decide) (fun c65 => ?_) (fun c65 => ?_)
    · exact absurd c65 (nI_ge hj (by omega))
    · refine r_iload_n dX11_atFirst_68 rfl ?_
      refine r_if_ne 115 dX11_atFirst_69 (by decide) (fun c69 => ?_) (fun c69 => ?_)
      · have hb0 : ¬ b = 0 := fun z => c69 (by rw [z]; rfl)
        refine r_aload_n dX11_atFirst_115 rfl ?_
        refine r_getR dX11_atFirst_116 flX11_121 sh_347 (by decide) rfl (pf_347_60 hP) ?_
        refine r_bipush (v := 12) dX11_atFirst_119 (by decide) ?_
        refine r_iload_n dX11_atFirst_121 rfl ?_
        refine r_imul dX11_atFirst_122 ?_
        refine r_iload_n dX11_atFirst_123 rfl ?_
        refine r_iadd dX11_atFirst_124 ?_
        refine r_aload_n dX11_atFirst_125 rfl ?_
        refine r_getR dX11_atFirst_126 flX11_45 sh_347 (by decide) rfl (pf_347_28 hP) ?_
        refine r_iload_n dX11_atFirst_129 rfl ?_
        refine r_ialv dX11_atFirst_130 sh_358 (vp_in_nI (by omega) (by omega)) ((wR_o _ _ _ (by decide) _).trans ((wE_o _ _ (by decide) _).trans (congrArg (I 358) (nI_clamp (n := j) (by omega))))) ?_
        refine r_iasv dX11_atFirst_131 sh_383 (ix12 hb (in12 (by omega))) (rW5 _ _ hb (in12 (by omega)) _) ?_
        refine r_aload_n dX11_atFirst_132 rfl ?_
        refine r_getR dX11_atFirst_133 flX11_124 sh_347 (by decide) rfl (pf_347_61 hP) ?_
        refine r_bipush (v := 12) dX11_atFirst_136 (by decide) ?_
        refine r_iload_n dX11_atFirst_138 rfl ?_
        refine r_imul dX11_atFirst_139 ?_
        refine r_iload_n dX11_atFirst_140 rfl ?_
        refine r_iadd dX11_atFirst_141 ?_
        refine r_aload_n dX11_atFirst_142 rfl ?_
        refine r_getR dX11_atFirst_143 flX11_48 sh_347 (by decide) rfl (pf_347_29 hP) ?_
        refine r_iload_n dX11_atFirst_146 rfl ?_
        refine r_ialv dX11_atFirst_147 sh_359 (vp_in_nI (by omega) (by omega)) ((wR_o _ _ _ (by decide) _).trans ((wE_o _ _ (by decide) _).trans (congrArg (I 359) (nI_clamp (n := j) (by omega))))) ?_
        refine r_iasv dX11_atFirst_148 sh_384 (ix12 hb (in12 (by omega))) (rW6 _ _ hb (in12 (by omega)) _) ?_
        refine r_aload_n dX11_atFirst_149 rfl ?_
        refine r_getR dX11_atFirst_150 flX11_127 sh_347 (by decide) rfl (pf_347_62 hP) ?_
        refine r_bipush (v := 12) dX11_atFirst_153 (by decide) ?_
        refine r_iload_n dX11_atFirst_155 rfl ?_
        refine r_imul dX11_atFirst_156 ?_
        refine r_iload_n dX11_atFirst_157 rfl ?_
        refine r_iadd dX11_atFirst_158 ?_
        refine r_iconst (v := 0) dX11_atFirst_159 (by decide) ?_
        refine r_iasv dX11_atFirst_160 sh_385 (ix12 hb (in12 (by omega))) (rW9 _ _ hb (in12 (by omega)) _) ?_
        refine r_aload_n dX11_atFirst_161 rfl ?_
        refine r_getR dX11_atFirst_162 flX11_130 sh_347 (by decide) rfl (pf_347_63 hP) ?_
        refine r_bipush (v := 12) dX11_atFirst_165 (by decide) ?_
        refine r_iload_n dX11_atFirst_167 rfl ?_
        refine r_imul dX11_atFirst_168 ?_
        refine r_iload_n dX11_atFirst_169 rfl ?_
        refine r_iadd dX11_atFirst_170 ?_
        refine r_aload_n dX11_atFirst_171 rfl ?_
        refine r_getR dX11_atFirst_172 flX11_57 sh_347 (by decide) rfl (pf_347_32 hP) ?_
        refine r_iload_n dX11_atFirst_175 rfl ?_
        refine r_ialv dX11_atFirst_176 sh_362 (vp_in_nI (by omega) (by omega)) ((wR_o _ _ _ (by decide) _).trans ((wE_o _ _ (by decide) _).trans (congrArg (I 362) (nI_clamp (n := j) (by omega))))) ?_
        refine r_iasv dX11_atFirst_177 sh_386 (ix12 hb (in12 (by omega))) (rW10 _ _ hb (in12 (by omega)) _) ?_
        refine r_aload_n dX11_atFirst_178 rfl ?_
        refine r_getR dX11_atFirst_179 flX11_133 sh_347 (by decide) rfl (pf_347_64 hP) ?_
        refine r_bipush (v := 12) dX11_atFirst_182 (by decide) ?_
        refine r_iload_n dX11_atFirst_184 rfl ?_
        refine r_imul dX11_atFirst_185 ?_
        refine r_iload_n dX11_atFirst_186 rfl ?_
        refine r_iadd dX11_atFirst_187 ?_
        refine r_aload_n dX11_atFirst_188 rfl ?_
        refine r_getR dX11_atFirst_189 flX11_54 sh_347 (by decide) rfl (pf_347_31 hP) ?_
        refine r_iload_n dX11_atFirst_192 rfl ?_
        refine r_ialv dX11_atFirst_193 sh_361 (vp_in_nI (by omega) (by omega)) ((wR_o _ _ _ (by decide) _).trans ((wE_o _ _ (by decide) _).trans (congrArg (I 361) (nI_clamp (n := j) (by omega))))) ?_
        refine r_iasv dX11_atFirst_194 sh_387 (ix12 hb (in12 (by omega))) (rW12 _ _ hb (in12 (by omega)) (hp j (by omega))) ?_
        refine r_iinc2 (v := 1) dX11_atFirst_195 (by decide) rfl ?_
        refine r_goto 60 dX11_atFirst_198 (by decide) ?_
        rw [nI_1, nI_clamp (n := j) (by omega)]; rw [aT2, aS, if_neg hb0] at ih; exact ih
      · have hb0 : b = 0 := (nI_eq (a := b) (b := 0) (by omega) (by omega)).mp c69
        refine r_aload_n dX11_atFirst_72 rfl ?_
        refine r_getR dX11_atFirst_73 flX11_109 sh_347 (by decide) rfl (pf_347_56 hP) ?_
        refine r_iload_n dX11_atFirst_76 rfl ?_
        refine r_aload_n dX11_atFirst_77 rfl ?_
        refine r_getR dX11_atFirst_78 flX11_39 sh_347 (by decide) rfl (pf_347_26 hP) ?_
        refine r_iload_n dX11_atFirst_81 rfl ?_
        refine r_ialv dX11_atFirst_82 sh_356 (vp_in_nI (by omega) (by omega)) ((wR_o _ _ _ (by decide) _).trans ((wE_o _ _ (by decide) _).trans (congrArg (I 356) (nI_clamp (n := j) (by omega))))) ?_
        refine r_iasv dX11_atFirst_83 sh_379 (in12 (by omega)) (rW3 _ _ (in12 (by omega)) _) ?_
        refine r_aload_n dX11_atFirst_84 rfl ?_
        refine r_getR dX11_atFirst_85 flX11_112 sh_347 (by decide) rfl (pf_347_57 hP) ?_
        refine r_iload_n dX11_atFirst_88 rfl ?_
        refine r_aload_n dX11_atFirst_89 rfl ?_
        refine r_getR dX11_atFirst_90 flX11_42 sh_347 (by decide) rfl (pf_347_27 hP) ?_
        refine r_iload_n dX11_atFirst_93 rfl ?_
        refine r_ialv dX11_atFirst_94 sh_357 (vp_in_nI (by omega) (by omega)) ((wR_o _ _ _ (by decide) _).trans ((wE_o _ _ (by decide) _).trans (congrArg (I 357) (nI_clamp (n := j) (by omega))))) ?_
        refine r_iasv dX11_atFirst_95 sh_380 (in12 (by omega)) (rW4 _ _ (in12 (by omega)) _) ?_
        refine r_aload_n dX11_atFirst_96 rfl ?_
        refine r_getR dX11_atFirst_97 flX11_115 sh_347 (by decide) rfl (pf_347_58 hP) ?_
        refine r_iload_n dX11_atFirst_100 rfl ?_
        refine r_iconst (v := 0) dX11_atFirst_101 (by decide) ?_
        refine r_iasv dX11_atFirst_102 sh_381 (in12 (by omega)) (rW8 _ _ (in12 (by omega)) _) ?_
        refine r_aload_n dX11_atFirst_103 rfl ?_
        refine r_getR dX11_atFirst_104 flX11_118 sh_347 (by decide) rfl (pf_347_59 hP) ?_
        refine r_iload_n dX11_atFirst_107 rfl ?_
        refine r_aload_n dX11_atFirst_108 rfl ?_
        refine r_getR dX11_atFirst_109 flX11_51 sh_347 (by decide) rfl (pf_347_30 hP) ?_
        refine r_iload_n dX11_atFirst_112 rfl ?_
        refine r_ialv dX11_atFirst_113 sh_360 (vp_in_nI (by omega) (by omega)) ((wR_o _ _ _ (by decide) _).trans ((wE_o _ _ (by decide) _).trans (congrArg (I 360) (nI_clamp (n := j) (by omega))))) ?_
        refine r_iasv dX11_atFirst_114 sh_382 (in12 (by omega)) (rW7 _ _ (in12 (by omega)) _) ?_
        refine r_aload_n dX11_atFirst_115 rfl ?_
        refine r_getR dX11_atFirst_116 flX11_121 sh_347 (by decide) rfl (pf_347_60 hP) ?_
        refine r_bipush (v := 12) dX11_atFirst_119 (by decide) ?_
        refine r_iload_n dX11_atFirst_121 rfl ?_
        refine r_imul dX11_atFirst_122 ?_
        refine r_iload_n dX11_atFirst_123 rfl ?_
        refine r_iadd dX11_atFirst_124 ?_
        refine r_aload_n dX11_atFirst_125 rfl ?_
        refine r_getR dX11_atFirst_126 flX11_45 sh_347 (by decide) rfl (pf_347_28 hP) ?_
        refine r_iload_n dX11_atFirst_129 rfl ?_
        refine r_ialv dX11_atFirst_130 sh_358 (vp_in_nI (by omega) (by omega)) ((wR_o _ _ _ (by decide) _).trans ((wE_o _ _ (by decide) _).trans (congrArg (I 358) (nI_clamp (n := j) (by omega))))) ?_
        refine r_iasv dX11_atFirst_131 sh_383 (ix12 hb (in12 (by omega))) (rW5 _ _ hb (in12 (by omega)) _) ?_
        refine r_aload_n dX11_atFirst_132 rfl ?_
        refine r_getR dX11_atFirst_133 flX11_124 sh_347 (by decide) rfl (pf_347_61 hP) ?_
        refine r_bipush (v := 12) dX11_atFirst_136 (by decide) ?_
        refine r_iload_n dX11_atFirst_138 rfl ?_
        refine r_imul dX11_atFirst_139 ?_
        refine r_iload_n dX11_atFirst_140 rfl ?_
        refine r_iadd dX11_atFirst_141 ?_
        refine r_aload_n dX11_atFirst_142 rfl ?_
        refine r_getR dX11_atFirst_143 flX11_48 sh_347 (by decide) rfl (pf_347_29 hP) ?_
        refine r_iload_n dX11_atFirst_146 rfl ?_
        refine r_ialv dX11_atFirst_147 sh_359 (vp_in_nI (by omega) (by omega)) ((wR_o _ _ _ (by decide) _).trans ((wE_o _ _ (by decide) _).trans (congrArg (I 359) (nI_clamp (n := j) (by omega))))) ?_
        refine r_iasv dX11_atFirst_148 sh_384 (ix12 hb (in12 (by omega))) (rW6 _ _ hb (in12 (by omega)) _) ?_
        refine r_aload_n dX11_atFirst_149 rfl ?_
        refine r_getR dX11_atFirst_150 flX11_127 sh_347 (by decide) rfl (pf_347_62 hP) ?_
        refine r_bipush (v := 12) dX11_atFirst_153 (by decide) ?_
        refine r_iload_n dX11_atFirst_155 rfl ?_
        refine r_imul dX11_atFirst_156 ?_
        refine r_iload_n dX11_atFirst_157 rfl ?_
        refine r_iadd dX11_atFirst_158 ?_
        refine r_iconst (v := 0) dX11_atFirst_159 (by decide) ?_
        refine r_iasv dX11_atFirst_160 sh_385 (ix12 hb (in12 (by omega))) (rW9 _ _ hb (in12 (by omega)) _) ?_
        refine r_aload_n dX11_atFirst_161 rfl ?_
        refine r_getR dX11_atFirst_162 flX11_130 sh_347 (by decide) rfl (pf_347_63 hP) ?_
        refine r_bipush (v := 12) dX11_atFirst_165 (by decide) ?_
        refine r_iload_n dX11_atFirst_167 rfl ?_
        refine r_imul dX11_atFirst_168 ?_
        refine r_iload_n dX11_atFirst_169 rfl ?_
        refine r_iadd dX11_atFirst_170 ?_
        refine r_aload_n dX11_atFirst_171 rfl ?_
        refine r_getR dX11_atFirst_172 flX11_57 sh_347 (by decide) rfl (pf_347_32 hP) ?_
        refine r_iload_n dX11_atFirst_175 rfl ?_
        refine r_ialv dX11_atFirst_176 sh_362 (vp_in_nI (by omega) (by omega)) ((wR_o _ _ _ (by decide) _).trans ((wE_o _ _ (by decide) _).trans (congrArg (I 362) (nI_clamp (n := j) (by omega))))) ?_
        refine r_iasv dX11_atFirst_177 sh_386 (ix12 hb (in12 (by omega))) (rW10 _ _ hb (in12 (by omega)) _) ?_
        refine r_aload_n dX11_atFirst_178 rfl ?_
        refine r_getR dX11_atFirst_179 flX11_133 sh_347 (by decide) rfl (pf_347_64 hP) ?_
        refine r_bipush (v := 12) dX11_atFirst_182 (by decide) ?_
        refine r_iload_n dX11_atFirst_184 rfl ?_
        refine r_imul dX11_atFirst_185 ?_
        refine r_iload_n dX11_atFirst_186 rfl ?_
        refine r_iadd dX11_atFirst_187 ?_
        refine r_aload_n dX11_atFirst_188 rfl ?_
        refine r_getR dX11_atFirst_189 flX11_54 sh_347 (by decide) rfl (pf_347_31 hP) ?_
        refine r_iload_n dX11_atFirst_192 rfl ?_
        refine r_ialv dX11_atFirst_193 sh_361 (vp_in_nI (by omega) (by omega)) ((wR_o _ _ _ (by decide) _).trans ((wE_o _ _ (by decide) _).trans (congrArg (I 361) (nI_clamp (n := j) (by omega))))) ?_
        refine r_iasv dX11_atFirst_194 sh_387 (ix12 hb (in12 (by omega))) (rW12 _ _ hb (in12 (by omega)) (hp j (by omega))) ?_
        refine r_iinc2 (v := 1) dX11_atFirst_195 (by decide) rfl ?_
        refine r_goto 60 dX11_atFirst_198 (by decide) ?_
        rw [nI_1, nI_clamp (n := j) (by omega)]; rw [aT2, aS, if_pos hb0] at ih; exact ih
  · refine r_iload_n dX11_atFirst_60 rfl ?_
    refine r_aload_n dX11_atFirst_61 rfl ?_
    refine r_getIv dX11_atFirst_62 flX11_273 sh_347 (by decide) rfl ((wR_o _ _ _ (by decide) _).trans ((wE_f _ _ (by decide)).trans hq)) ?_
    refine r_ic_ge 201 dX11_atFirst_65 (by decide) (fun c65 => ?_) (fun c65 => ?_)
    · refine r_iconst (v := 0) dX11_atFirst_201 (by decide) ?_
      refine r_istore_n2 dX11_atFirst_202 rfl ?_
      exact l_first3 hP hb hq10 hq hp d 0 (Nat.zero_le _)
    · exact absurd (nI_le (Nat.le_refl _) (by omega)) c65
set_option maxHeartbeats 2000000 in
theorem l_first1 {E : xCl} {ex : Bool} {I V : Nat → Nat → Int32} {e : Int32} {J : Nat → Nat → Int64} {P : Nat → Nat → Nat} (hP : Pok P) {b : Nat} (hb : b < 2) {q : Nat} (hq10 : q ≤ 10) (hq : I 347 13 = nI q) (hp : ∀ j, j < 10 → I 361 j = 0 ∨ I 361 j = 1) (d : Nat) : ∀ j, j ≤ 6 → xR (xEx E ex d) ex none yX11_atFirst cX11_atFirst none 2 [some (.ref 347), some (.int (nI b)), some (.int (nI j))] [] (SH, wR (wE I e) b (aT1 V I j), J, P) (xEq none (SH, wR (wE I e) b (aT I b q V), J, P)) := by
  refine r_for (fun j => xR (xEx E ex d) ex none yX11_atFirst cX11_atFirst none 2 [some (.ref 347), some (.int (nI b)), some (.int (nI j))] [] (SH, wR (wE I e) b (aT1 V I j), J, P) (xEq none (SH, wR (wE I e) b (aT I b q V), J, P))) _ ?_ ?_
  · intro j hj ih
    refine r_iload_n dX11_atFirst_2 rfl ?_
    refine r_bipush (v := 6) dX11_atFirst_3 (by decide) ?_
    refine r_ic_ge 48 dX11_atFirst_5 (by decide) (fun c5 => ?_) (fun c5 => ?_)
    · exact absurd c5 (lt6n hj)
    · refine r_aload_n dX11_atFirst_8 rfl ?_
      refine r_getR dX11_atFirst_9 flX11_100 sh_347 (by decide) rfl (pf_347_53 hP) ?_
      refine r_bipush (v := 6) dX11_atFirst_12 (by decide) ?_
      refine r_iload_n dX11_atFirst_14 rfl ?_
      refine r_imul dX11_atFirst_15 ?_
      refine r_iload_n dX11_atFirst_16 rfl ?_
      refine r_iadd dX11_atFirst_17 ?_
      refine r_aload_n dX11_atFirst_18 rfl ?_
      refine r_getR dX11_atFirst_19 flX11_33 sh_347 (by decide) rfl (pf_347_24 hP) ?_
      refine r_iload_n dX11_atFirst_22 rfl ?_
      refine r_ialv dX11_atFirst_23 sh_354 (vp_in_nI (by omega) (by omega)) ((wR_o _ _ _ (by decide) _).trans ((wE_o _ _ (by decide) _).trans (congrArg (I 354) (nI_clamp (n := j) (by omega))))) ?_
      refine r_iasv dX11_atFirst_24 sh_376 (ix6 hb (in6n hj)) (rW1 _ _ hb (in6n hj) _) ?_
      refine r_aload_n dX11_atFirst_25 rfl ?_
      refine r_getR dX11_atFirst_26 flX11_103 sh_347 (by decide) rfl (pf_347_54 hP) ?_
      refine r_bipush (v := 6) dX11_atFirst_29 (by decide) ?_
      refine r_iload_n dX11_atFirst_31 rfl ?_
      refine r_imul dX11_atFirst_32 ?_
      refine r_iload_n dX11_atFirst_33 rfl ?_
      refine r_iadd dX11_atFirst_34 ?_
      refine r_aload_n dX11_atFirst_35 rfl ?_
      refine r_getR dX11_atFirst_36 flX11_30 sh_347 (by decide) rfl (pf_347_23 hP) ?_
      refine r_iload_n dX11_atFirst_39 rfl ?_
      refine r_ialv dX11_atFirst_40 sh_353 (vp_in_nI (by omega) (by omega)) ((wR_o _ _ _ (by decide) _).trans ((wE_o _ _ (by decide) _).trans (congrArg (I 353) (nI_clamp (n := j) (by omega))))) ?_
      refine r_iasv dX11_atFirst_41 sh_377 (ix6 hb (in6n hj)) (rW2 _ _ hb (in6n hj) _) ?_
      refine r_iinc2 (v := 1) dX11_atFirst_42 (by decide) rfl ?_
      refine r_goto 2 dX11_atFirst_45 (by decide) ?_
      rw [nI_1, nI_clamp (n := j) (by omega)]; exact ih
  · refine r_iload_n dX11_atFirst_2 rfl ?_
    refine r_bipush (v := 6) dX11_atFirst_3 (by decide) ?_
    refine r_ic_ge 48 dX11_atFirst_5 (by decide) (fun c5 => ?_) (fun c5 => ?_)
    · refine r_aload_n dX11_atFirst_48 rfl ?_
      refine r_getR dX11_atFirst_49 flX11_106 sh_347 (by decide) rfl (pf_347_55 hP) ?_
      refine r_iload_n dX11_atFirst_52 rfl ?_
      refine r_aload_n dX11_atFirst_53 rfl ?_
      refine r_getIv dX11_atFirst_54 flX11_273 sh_347 (by decide) rfl ((wR_o _ _ _ (by decide) _).trans ((wE_f _ _ (by decide)).trans hq)) ?_
      refine r_iasv dX11_atFirst_57 sh_378 (ix2 hb) (rW13 _ _ hb _) ?_
      refine r_iconst (v := 0) dX11_atFirst_58 (by decide) ?_
      refine r_istore_n2 dX11_atFirst_59 rfl ?_
      exact l_first2 hP hb hq10 hq hp d 0 (Nat.zero_le _)
    · exact absurd (by decide) c5
set_option maxHeartbeats 1000000 in
theorem k_atFirst {E : xCl} {ex : Bool} {I V : Nat → Nat → Int32} {e : Int32} {J : Nat → Nat → Int64} {P : Nat → Nat → Nat} (hP : Pok P) {b : Nat} (hb : b < 2) {q : Nat} (hq10 : q ≤ 10) (hq : I 347 13 = nI q) (hp : ∀ j, j < 10 → I 361 j = 0 ∨ I 361 j = 1) (d : Nat) : xEx E ex (d + 1) yX11_atFirst [.ref 347, .int (nI b)] (SH, wR (wE I e) b V, J, P) none (SH, wR (wE I e) b (aT I b q V), J, P) := by
  refine x_enter cqX11_atFirst [some (.ref 347), some (.int (nI b)), none] rfl (by simp [lg_sl, Value.category]) ?_
  refine r_iconst (v := 0) dX11_atFirst_0 (by decide) ?_
  refine r_istore_n2 dX11_atFirst_1 rfl ?_
  exact l_first1 hP hb hq10 hq hp d 0 (Nat.zero_le _)
def kR1 (I V : Nat → Nat → Int32) : Nat → Nat → Nat → Int32
  | 0 => I
  | s + 1 => xu (xu (xu (xu (xu (xu (kR1 I V s) 402 s (V 3 s)) 402 (12 + s) (V 4 s)) 402 (24 + s) (V 8 s)) 402 (36 + s) (V 7 s)) 402 (48 + s) (V 5 s)) 402 (60 + s) (V 6 s + 1000 * bI (V 12 0) s)
def kR2 (I V : Nat → Nat → Int32) : Nat → Nat → Nat → Int32
  | 0 => I
  | c + 1 => xu (kR2 I V c) 403 c (V 11 c)
def kKeep (I V : Nat → Nat → Int32) : Nat → Nat → Int32 := xu (kR2 (kR1 (pPut (xu I 347 85 1) 401 0 V) V 12) V 8) 347 89 (V 15 0)
theorem cB12 {j : Nat} (h : j < 12) : (12 + nI j).toNatClampNeg = 12 + j := cA (i := 12) (by omega)
theorem in_B12 {j : Nat} (h : j < 12) : vp_in (12 + nI j) 72 := in_A (i := 12) (by omega) (by decide)
theorem cB24 {j : Nat} (h : j < 12) : (24 + nI j).toNatClampNeg = 24 + j := cA (i := 24) (by omega)
theorem in_B24 {j : Nat} (h : j < 12) : vp_in (24 + nI j) 72 := in_A (i := 24) (by omega) (by decide)
theorem cB36 {j : Nat} (h : j < 12) : (36 + nI j).toNatClampNeg = 36 + j := cA (i := 36) (by omega)
theorem in_B36 {j : Nat} (h : j < 12) : vp_in (36 + nI j) 72 := in_A (i := 36) (by omega) (by decide)
theorem cB48 {j : Nat} (h : j < 12) : (48 + nI j).toNatClampNeg = 48 + j := cA (i := 48) (by omega)
theorem in_B48 {j : Nat} (h : j < 12) : vp_in (48 + nI j) 72 := in_A (i := 48) (by omega) (by decide)
theorem cB60 {j : Nat} (h : j < 12) : (60 + nI j).toNatClampNeg = 60 + j := cA (i := 60) (by omega)
theorem in_B60 {j : Nat} (h : j < 12) : vp_in (60 + nI j) 72 := in_A (i := 60) (by omega) (by decide)
set_option maxHeartbeats 2000000 in
theorem l_keep2 {E : xCl} {ex : Bool} {I V : Nat → Nat → Int32} {e : Int32} {J : Nat → Nat → Int64} {P : Nat → Nat → Nat} (hP : Pok P) (d : Nat) : ∀ j, j ≤ 8 → xR (xEx E ex (d + 1)) ex none yX11_keep cX11_keep (some .int) 133 [some (.ref 347), some (.int (nI j))] [] (SH, wR (wE (kR2 (kR1 I V 12) V j) e) 0 V, J, P) (xEq (some (.int (V 15 0))) (SH, wR (wE (xu (kR2 (kR1 I V 12) V 8) 347 89 (V 15 0)) e) 0 V, xu J 347 90 (J 347 68), P)) := by
  refine r_for (fun j => xR (xEx E ex (d + 1)) ex none yX11_keep cX11_keep (some .int) 133 [some (.ref 347), some (.int (nI j))] [] (SH, wR (wE (kR2 (kR1 I V 12) V j) e) 0 V, J, P) (xEq (some (.int (V 15 0))) (SH, wR (wE (xu (kR2 (kR1 I V 12) V 8) 347 89 (V 15 0)) e) 0 V, xu J 347 90 (J 347 68), P))) _ ?_ ?_
  · intro j hj ih
    refine r_iload_n dX11_keep_133 rfl ?_
    refine r_bipush (v := 8) dX11_keep_134 (by decide) ?_
    refine r_ic_ge 157 dX11_keep_136 (by decide) (fun c136 => ?_) (fun c136 => ?_)
    · exact absurd c136 (lt8 hj)
    · refine r_aload_n dX11_keep_139 rfl ?_
      refine r_getR dX11_keep_140 flX11_184 sh_347 (by decide) rfl (pf_347_88 hP) ?_
      refine r_iload_n dX11_keep_143 rfl ?_
      refine r_aload_n dX11_keep_144 rfl ?_
      refine r_getR dX11_keep_145 flX11_136 sh_347 (by decide) rfl (pf_347_65 hP) ?_
      refine r_iload_n dX11_keep_148 rfl ?_
      refine r_ialv dX11_keep_149 sh_388 (iz8 (vp_in_nI (by omega) (by omega))) ((rZ11 _ _ (vp_in_nI (by omega) (by omega))).trans (congrArg (V 11) (nI_clamp (n := j) (by omega)))) ?_
      refine r_iasv dX11_keep_150 sh_403 (vp_in_nI hj (by omega)) ((wR_xo _ _ _ (by decide) _ _).trans (congrArg (fun z => wR z _ _) (wE_c _ _ _ (fun z => absurd z.1 (by decide))))) ?_
      refine r_iinc1 (v := 1) dX11_keep_151 (by decide) rfl ?_
      refine r_goto 133 dX11_keep_154 (by decide) ?_
      rw [nI_1, nI_clamp (n := j) (by omega)]; exact ih
  · refine r_iload_n dX11_keep_133 rfl ?_
    refine r_bipush (v := 8) dX11_keep_134 (by decide) ?_
    refine r_ic_ge 157 dX11_keep_136 (by decide) (fun c136 => ?_) (fun c136 => ?_)
    · refine r_aload_n dX11_keep_157 rfl ?_
      refine r_aload_n dX11_keep_158 rfl ?_
      refine r_getR dX11_keep_159 flX11_139 sh_347 (by decide) rfl (pf_347_66 hP) ?_
      refine r_iconst (v := 0) dX11_keep_162 (by decide) ?_
      refine r_ialv dX11_keep_163 sh_389 ix2_0 (rS15_0 _ _) ?_
      refine r_putIv dX11_keep_164 flX11_554 ⟨_, _, _, rfl, Or.inl rfl⟩ sh_347 (by decide) rfl rfl rfl ((wR_xo _ _ _ (by decide) _ _).trans (congrArg (fun z => wR z _ _) (wE_c _ _ _ (by decide)))) ?_
      refine r_aload_n dX11_keep_167 rfl ?_
      refine r_aload_n dX11_keep_168 rfl ?_
      refine r_getJ dX11_keep_169 flX11_393 sh_347 (by decide) rfl ?_
      refine r_putJ dX11_keep_172 flX11_557 ⟨_, _, _, rfl, Or.inl rfl⟩ sh_347 (by decide) rfl rfl ?_
      refine r_aload_n dX11_keep_175 rfl ?_
      refine r_getR dX11_keep_176 flX11_139 sh_347 (by decide) rfl (pf_347_66 hP) ?_
      refine r_iconst (v := 0) dX11_keep_179 (by decide) ?_
      refine r_ialv dX11_keep_180 sh_389 ix2_0 (rS15_0 _ _) ?_
      exact r_iret dX11_keep_181 rfl rfl rfl rfl
    · exact absurd (by decide) c136
set_option maxHeartbeats 2000000 in
theorem l_keep1 {E : xCl} {ex : Bool} {I V : Nat → Nat → Int32} {e : Int32} {J : Nat → Nat → Int64} {P : Nat → Nat → Nat} (hP : Pok P) (d : Nat) : ∀ j, j ≤ 12 → xR (xEx E ex (d + 1)) ex none yX11_keep cX11_keep (some .int) 21 [some (.ref 347), some (.int (nI j))] [] (SH, wR (wE (kR1 I V j) e) 0 V, J, P) (xEq (some (.int (V 15 0))) (SH, wR (wE (xu (kR2 (kR1 I V 12) V 8) 347 89 (V 15 0)) e) 0 V, xu J 347 90 (J 347 68), P)) := by
  refine r_for (fun j => xR (xEx E ex (d + 1)) ex none yX11_keep cX11_keep (some .int) 21 [some (.ref 347), some (.int (nI j))] [] (SH, wR (wE (kR1 I V j) e) 0 V, J, P) (xEq (some (.int (V 15 0))) (SH, wR (wE (xu (kR2 (kR1 I V 12) V 8) 347 89 (V 15 0)) e) 0 V, xu J 347 90 (J 347 68), P))) _ ?_ ?_
  · intro j hj ih
    refine r_iload_n dX11_keep_21 rfl ?_
    refine r_bipush (v := 12) dX11_keep_22 (by decide) ?_
    refine r_ic_ge 131 dX11_keep_24 (by decide) (fun c24 => ?_) (fun c24 => ?_)
    · exact absurd c24 (lt12 hj)
    · refine r_aload_n dX11_keep_27 rfl ?_
      refine r_getR dX11_keep_28 flX11_181 sh_347 (by decide) rfl (pf_347_87 hP) ?_
      refine r_iload_n dX11_keep_31 rfl ?_
      refine r_aload_n dX11_keep_32 rfl ?_
      refine r_getR dX11_keep_33 flX11_109 sh_347 (by decide) rfl (pf_347_56 hP) ?_
      refine r_iload_n dX11_keep_36 rfl ?_
      refine r_ialv dX11_keep_37 sh_379 (in12 hj) ((rR3 _ _ (in12 hj)).trans (congrArg (V 3) (nI_clamp (n := j) (by omega)))) ?_
      refine r_iasv dX11_keep_38 sh_402 (vp_in_nI (by omega) (by omega)) ((wR_xo _ _ _ (by decide) _ _).trans (congrArg (fun z => wR z _ _) (wE_c _ _ _ (fun z => absurd z.1 (by decide))))) ?_
      refine r_aload_n dX11_keep_39 rfl ?_
      refine r_getR dX11_keep_40 flX11_181 sh_347 (by decide) rfl (pf_347_87 hP) ?_
      refine r_bipush (v := 12) dX11_keep_43 (by decide) ?_
      refine r_iload_n dX11_keep_45 rfl ?_
      refine r_iadd dX11_keep_46 ?_
      refine r_aload_n dX11_keep_47 rfl ?_
      refine r_getR dX11_keep_48 flX11_112 sh_347 (by decide) rfl (pf_347_57 hP) ?_
      refine r_iload_n dX11_keep_51 rfl ?_
      refine r_ialv dX11_keep_52 sh_380 (in12 hj) ((rR4 _ _ (in12 hj)).trans (congrArg (V 4) (nI_clamp (n := j) (by omega)))) ?_
      refine r_iasv dX11_keep_53 sh_402 (in_B12 hj) ((wR_xo _ _ _ (by decide) _ _).trans (congrArg (fun z => wR z _ _) (wE_c _ _ _ (fun z => absurd z.1 (by decide))))) ?_
      refine r_aload_n dX11_keep_54 rfl ?_
      refine r_getR dX11_keep_55 flX11_181 sh_347 (by decide) rfl (pf_347_87 hP) ?_
      refine r_bipush (v := 24) dX11_keep_58 (by decide) ?_
      refine r_iload_n dX11_keep_60 rfl ?_
      refine r_iadd dX11_keep_61 ?_
      refine r_aload_n dX11_keep_62 rfl ?_
      refine r_getR dX11_keep_63 flX11_115 sh_347 (by decide) rfl (pf_347_58 hP) ?_
      refine r_iload_n dX11_keep_66 rfl ?_
      refine r_ialv dX11_keep_67 sh_381 (in12 hj) ((rR8 _ _ (in12 hj)).trans (congrArg (V 8) (nI_clamp (n := j) (by omega)))) ?_
      refine r_iasv dX11_keep_68 sh_402 (in_B24 hj) ((wR_xo _ _ _ (by decide) _ _).trans (congrArg (fun z => wR z _ _) (wE_c _ _ _ (fun z => absurd z.1 (by decide))))) ?_
      refine r_aload_n dX11_keep_69 rfl ?_
      refine r_getR dX11_keep_70 flX11_181 sh_347 (by decide) rfl (pf_347_87 hP) ?_
      refine r_bipush (v := 36) dX11_keep_73 (by decide) ?_
      refine r_iload_n dX11_keep_75 rfl ?_
      refine r_iadd dX11_keep_76 ?_
      refine r_aload_n dX11_keep_77 rfl ?_
      refine r_getR dX11_keep_78 flX11_118 sh_347 (by decide) rfl (pf_347_59 hP) ?_
      refine r_iload_n dX11_keep_81 rfl ?_
      refine r_ialv dX11_keep_82 sh_382 (in12 hj) ((rR7 _ _ (in12 hj)).trans (congrArg (V 7) (nI_clamp (n := j) (by omega)))) ?_
      refine r_iasv dX11_keep_83 sh_402 (in_B36 hj) ((wR_xo _ _ _ (by decide) _ _).trans (congrArg (fun z => wR z _ _) (wE_c _ _ _ (fun z => absurd z.1 (by decide))))) ?_
      refine r_aload_n dX11_keep_84 rfl ?_
      refine r_getR dX11_keep_85 flX11_181 sh_347 (by decide) rfl (pf_347_87 hP) ?_
      refine r_bipush (v := 48) dX11_keep_88 (by decide) ?_
      refine r_iload_n dX11_keep_90 rfl ?_
      refine r_iadd dX11_keep_91 ?_
      refine r_aload_n dX11_keep_92 rfl ?_
      refine r_getR dX11_keep_93 flX11_121 sh_347 (by decide) rfl (pf_347_60 hP) ?_
      refine r_iload_n dX11_keep_96 rfl ?_
      refine r_ialv dX11_keep_97 sh_383 (iz12 (in12 hj)) ((rZ5 _ _ (in12 hj)).trans (congrArg (V 5) (nI_clamp (n := j) (by omega)))) ?_
      refine r_iasv dX11_keep_98 sh_402 (in_B48 hj) ((wR_xo _ _ _ (by decide) _ _).trans (congrArg (fun z => wR z _ _) (wE_c _ _ _ (fun z => absurd z.1 (by decide))))) ?_
      refine r_aload_n dX11_keep_99 rfl ?_
      refine r_getR dX11_keep_100 flX11_181 sh_347 (by decide) rfl (pf_347_87 hP) ?_
      refine r_bipush (v := 60) dX11_keep_103 (by decide) ?_
      refine r_iload_n dX11_keep_105 rfl ?_
      refine r_iadd dX11_keep_106 ?_
      refine r_aload_n dX11_keep_107 rfl ?_
      refine r_getR dX11_keep_108 flX11_124 sh_347 (by decide) rfl (pf_347_61 hP) ?_
      refine r_iload_n dX11_keep_111 rfl ?_
      refine r_ialv dX11_keep_112 sh_384 (iz12 (in12 hj)) ((rZ6 _ _ (in12 hj)).trans (congrArg (V 6) (nI_clamp (n := j) (by omega)))) ?_
      refine r_sipush (v := 1000) dX11_keep_113 (by decide) ?_
      refine r_aload_n dX11_keep_116 rfl ?_
      refine r_getR dX11_keep_117 flX11_133 sh_347 (by decide) rfl (pf_347_64 hP) ?_
      refine r_iload_n dX11_keep_120 rfl ?_
      refine r_ialv dX11_keep_121 sh_387 (iz12 (in12 hj)) ((rZ12 _ _ (in12 hj)).trans (congrArg (bI (V 12 0)) (nI_clamp (n := j) (by omega)))) ?_
      refine r_imul dX11_keep_122 ?_
      refine r_iadd dX11_keep_123 ?_
      refine r_iasv dX11_keep_124 sh_402 (in_B60 hj) ((wR_xo _ _ _ (by decide) _ _).trans (congrArg (fun z => wR z _ _) (wE_c _ _ _ (fun z => absurd z.1 (by decide))))) ?_
      refine r_iinc1 (v := 1) dX11_keep_125 (by decide) rfl ?_
      refine r_goto 21 dX11_keep_128 (by decide) ?_
      rw [nI_1, nI_clamp (n := j) (by omega), cB12 hj, cB24 hj, cB36 hj, cB48 hj, cB60 hj]; exact ih
  · refine r_iload_n dX11_keep_21 rfl ?_
    refine r_bipush (v := 12) dX11_keep_22 (by decide) ?_
    refine r_ic_ge 131 dX11_keep_24 (by decide) (fun c24 => ?_) (fun c24 => ?_)
    · refine r_iconst (v := 0) dX11_keep_131 (by decide) ?_
      refine r_istore_n1 dX11_keep_132 rfl ?_
      exact l_keep2 hP d 0 (Nat.zero_le _)
    · exact absurd (by decide) c24
set_option maxHeartbeats 1000000 in
theorem k_rkeep {E : xCl} {ex : Bool} {I I0 V : Nat → Nat → Int32} {e : Int32} {J : Nat → Nat → Int64} {P : Nat → Nat → Nat} (hP : Pok P) (hI : xu I 347 2 0 = I0)  (d : Nat) : xEx E ex (d + 2) yX11_keep [.ref 347] (SH, wR (wE I e) 0 V, J, P) (some (.int (V 15 0))) (SH, wR (wE (kKeep I0 V) e) 0 V, xu J 347 90 (J 347 68), P) := by
  refine x_enter cqX11_keep [some (.ref 347), none] rfl (by simp [lg_sl, Value.category]) ?_
  refine r_aload_n dX11_keep_0 rfl ?_
  refine r_iconst (v := 0) dX11_keep_1 (by decide) ?_
  refine r_putIv dX11_keep_2 flX11_193 ⟨_, _, _, rfl, Or.inl rfl⟩ sh_347 (by decide) rfl rfl rfl ((wR_xo _ _ _ (by decide) _ _).trans (congrArg (fun z => wR z _ _) ((wE_c _ _ _ (by decide)).trans (congrArg (fun z => wE z _) hI)))) ?_
  refine r_aload_n dX11_keep_5 rfl ?_
  refine r_iconst (v := 1) dX11_keep_6 (by decide) ?_
  refine r_putIv dX11_keep_7 flX11_406 ⟨_, _, _, rfl, Or.inl rfl⟩ sh_347 (by decide) rfl rfl rfl ((wR_xo _ _ _ (by decide) _ _).trans (congrArg (fun z => wR z _ _) (wE_c _ _ _ (by decide)))) ?_
  refine r_aload_n dX11_keep_10 rfl ?_
  refine r_aload_n dX11_keep_11 rfl ?_
  refine r_getR dX11_keep_12 flX11_178 sh_347 (by decide) rfl (pf_347_86 hP) ?_
  refine r_iconst (v := 0) dX11_keep_15 (by decide) ?_
  refine r_cV2v dX11_keep_16 vlX11_548 sh_347 (Nat.le_of_ble_eq_true rfl) (k_put hP (row := 401) (i := 0) sh_401 (by decide) (by decide) (by decide) (by decide) d) ?_
  refine r_iconst (v := 0) dX11_keep_19 (by decide) ?_
  refine r_istore_n1 dX11_keep_20 rfl ?_
  exact l_keep1 hP d 0 (Nat.zero_le _)
def bS1 (R : Nat → Int32) (s : Nat) (W : Nat → Nat → Int32) : Nat → Nat → Int32 := (fun X => xu X 12 0 (setB (X 12 0) s (R (60 + s) / 1000))) (xu (xu (xu (xu (xu (xu W 3 s (R s)) 4 s (R (12 + s))) 8 s (R (24 + s))) 7 s (R (36 + s))) 5 s (R (48 + s))) 6 s (R (60 + s) - R (60 + s) / 1000 * 1000))
def bR1 (W : Nat → Nat → Int32) (R : Nat → Int32) : Nat → Nat → Nat → Int32
  | 0 => W
  | s + 1 => bS1 R s (bR1 W R s)
def bR2 (W : Nat → Nat → Int32) (R : Nat → Int32) : Nat → Nat → Nat → Int32
  | 0 => W
  | c + 1 => xu (bR2 W R c) 11 c (R c)
def bBack (V I : Nat → Nat → Int32) : Nat → Nat → Int32 := xu (bR2 (bR1 (tTake V (I 401) 0) (I 402) 12) (I 403) 8) 15 0 (I 347 89)
set_option maxHeartbeats 2000000 in
theorem l_back2 {E : xCl} {ex : Bool} {I V : Nat → Nat → Int32} {e : Int32} {J : Nat → Nat → Int64} {P : Nat → Nat → Nat} (hP : Pok P) (hq : ∀ s, s < 12 → I 402 (60 + s) / 1000 = 0 ∨ I 402 (60 + s) / 1000 = 1) (d : Nat) : ∀ j, j ≤ 8 → xR (xEx E ex (d + 1)) ex none yX11_back cX11_back (some .int) 149 [some (.ref 347), some (.int (nI j))] [] (SH, wR (wE I e) 0 (bR2 (bR1 V (I 402) 12) (I 403) j), J, P) (xEq (some (.int (I 347 89))) (SH, wR (wE (xu I 347 83 0) e) 0 (xu (bR2 (bR1 V (I 402) 12) (I 403) 8) 15 0 (I 347 89)), xu J 347 68 (J 347 90), P)) := by
  refine r_for (fun j => xR (xEx E ex (d + 1)) ex none yX11_back cX11_back (some .int) 149 [some (.ref 347), some (.int (nI j))] [] (SH, wR (wE I e) 0 (bR2 (bR1 V (I 402) 12) (I 403) j), J, P) (xEq (some (.int (I 347 89))) (SH, wR (wE (xu I 347 83 0) e) 0 (xu (bR2 (bR1 V (I 402) 12) (I 403) 8) 15 0 (I 347 89)), xu J 347 68 (J 347 90), P))) _ ?_ ?_
  · intro j hj ih
    refine r_iload_n dX11_back_149 rfl ?_
    refine r_bipush (v := 8) dX11_back_150 (by decide) ?_
    refine r_ic_ge 173 dX11_back_152 (by decide) (fun c152 => ?_) (fun c152 => ?_)
    · exact absurd c152 (lt8 hj)
    · refine r_aload_n dX11_back_155 rfl ?_
      refine r_getR dX11_back_156 flX11_136 sh_347 (by decide) rfl (pf_347_65 hP) ?_
      refine r_iload_n dX11_back_159 rfl ?_
      refine r_aload_n dX11_back_160 rfl ?_
      refine r_getR dX11_back_161 flX11_184 sh_347 (by decide) rfl (pf_347_88 hP) ?_
      refine r_iload_n dX11_back_164 rfl ?_
      refine r_ialv dX11_back_165 sh_403 (vp_in_nI (by omega) (by omega)) ((wR_o _ _ _ (by decide) _).trans ((wE_o _ _ (by decide) _).trans (congrArg (I 403) (nI_clamp (n := j) (by omega))))) ?_
      refine r_iasv dX11_back_166 sh_388 (iz8 (vp_in_nI hj (by omega))) (rY11 _ _ (vp_in_nI hj (by omega)) _) ?_
      refine r_iinc1 (v := 1) dX11_back_167 (by decide) rfl ?_
      refine r_goto 149 dX11_back_170 (by decide) ?_
      rw [nI_1, nI_clamp (n := j) (by omega)]; exact ih
  · refine r_iload_n dX11_back_149 rfl ?_
    refine r_bipush (v := 8) dX11_back_150 (by decide) ?_
    refine r_ic_ge 173 dX11_back_152 (by decide) (fun c152 => ?_) (fun c152 => ?_)
    · refine r_aload_n dX11_back_173 rfl ?_
      refine r_getR dX11_back_174 flX11_139 sh_347 (by decide) rfl (pf_347_66 hP) ?_
      refine r_iconst (v := 0) dX11_back_177 (by decide) ?_
      refine r_aload_n dX11_back_178 rfl ?_
      refine r_getIv dX11_back_179 flX11_554 sh_347 (by decide) rfl ((wR_o _ _ _ (by decide) _).trans (wE_f _ _ (by decide))) ?_
      refine r_iasv dX11_back_182 sh_389 ix2_0 (rU15_0 _ _ _) ?_
      refine r_aload_n dX11_back_183 rfl ?_
      refine r_aload_n dX11_back_184 rfl ?_
      refine r_getJ dX11_back_185 flX11_557 sh_347 (by decide) rfl ?_
      refine r_putJ dX11_back_188 flX11_393 ⟨_, _, _, rfl, Or.inl rfl⟩ sh_347 (by decide) rfl rfl ?_
      refine r_aload_n dX11_back_191 rfl ?_
      refine r_iconst (v := 0) dX11_back_192 (by decide) ?_
      refine r_putIv dX11_back_193 flX11_403 ⟨_, _, _, rfl, Or.inl rfl⟩ sh_347 (by decide) rfl rfl rfl ((wR_xo _ _ _ (by decide) _ _).trans (congrArg (fun z => wR z _ _) (wE_c _ _ _ (by decide)))) ?_
      refine r_aload_n dX11_back_196 rfl ?_
      refine r_getR dX11_back_197 flX11_139 sh_347 (by decide) rfl (pf_347_66 hP) ?_
      refine r_iconst (v := 0) dX11_back_200 (by decide) ?_
      refine r_ialv dX11_back_201 sh_389 ix2_0 ((rS15_0 _ _).trans (xu_s _ _ _ _)) ?_
      exact r_iret dX11_back_202 rfl rfl rfl rfl
    · exact absurd (by decide) c152
set_option maxHeartbeats 2000000 in
theorem l_back1 {E : xCl} {ex : Bool} {I V : Nat → Nat → Int32} {e : Int32} {J : Nat → Nat → Int64} {P : Nat → Nat → Nat} (hP : Pok P) (hq : ∀ s, s < 12 → I 402 (60 + s) / 1000 = 0 ∨ I 402 (60 + s) / 1000 = 1) (d : Nat) : ∀ j, j ≤ 12 → xR (xEx E ex (d + 1)) ex none yX11_back cX11_back (some .int) 25 [some (.ref 347), some (.int (nI j))] [] (SH, wR (wE I e) 0 (bR1 V (I 402) j), J, P) (xEq (some (.int (I 347 89))) (SH, wR (wE (xu I 347 83 0) e) 0 (xu (bR2 (bR1 V (I 402) 12) (I 403) 8) 15 0 (I 347 89)), xu J 347 68 (J 347 90), P)) := by
  refine r_for (fun j => xR (xEx E ex (d + 1)) ex none yX11_back cX11_back (some .int) 25 [some (.ref 347), some (.int (nI j))] [] (SH, wR (wE I e) 0 (bR1 V (I 402) j), J, P) (xEq (some (.int (I 347 89))) (SH, wR (wE (xu I 347 83 0) e) 0 (xu (bR2 (bR1 V (I 402) 12) (I 403) 8) 15 0 (I 347 89)), xu J 347 68 (J 347 90), P))) _ ?_ ?_
  · intro j hj ih
    refine r_iload_n dX11_back_25 rfl ?_
    refine r_bipush (v := 12) dX11_back_26 (by decide) ?_
    refine r_ic_ge 147 dX11_back_28 (by decide) (fun c28 => ?_) (fun c28 => ?_)
    · exact absurd c28 (lt12 hj)
    · refine r_aload_n dX11_back_31 rfl ?_
      refine r_getR dX11_back_32 flX11_109 sh_347 (by decide) rfl (pf_347_56 hP) ?_
      refine r_iload_n dX11_back_35 rfl ?_
      refine r_aload_n dX11_back_36 rfl ?_
      refine r_getR dX11_back_37 flX11_181 sh_347 (by decide) rfl (pf_347_87 hP) ?_
      refine r_iload_n dX11_back_40 rfl ?_
      refine r_ialv dX11_back_41 sh_402 (vp_in_nI (by omega) (by omega)) ((wR_o _ _ _ (by decide) _).trans ((wE_o _ _ (by decide) _).trans (congrArg (I 402) (nI_clamp (n := j) (by omega))))) ?_
      refine r_iasv dX11_back_42 sh_379 (in12 hj) (rW3 _ _ (in12 hj) _) ?_
      refine r_aload_n dX11_back_43 rfl ?_
      refine r_getR dX11_back_44 flX11_112 sh_347 (by decide) rfl (pf_347_57 hP) ?_
      refine r_iload_n dX11_back_47 rfl ?_
      refine r_aload_n dX11_back_48 rfl ?_
      refine r_getR dX11_back_49 flX11_181 sh_347 (by decide) rfl (pf_347_87 hP) ?_
      refine r_bipush (v := 12) dX11_back_52 (by decide) ?_
      refine r_iload_n dX11_back_54 rfl ?_
      refine r_iadd dX11_back_55 ?_
      refine r_ialv dX11_back_56 sh_402 (in_B12 hj) ((wR_o _ _ _ (by decide) _).trans ((wE_o _ _ (by decide) _).trans (congrArg (I 402) (cB12 hj)))) ?_
      refine r_iasv dX11_back_57 sh_380 (in12 hj) (rW4 _ _ (in12 hj) _) ?_
      refine r_aload_n dX11_back_58 rfl ?_
      refine r_getR dX11_back_59 flX11_115 sh_347 (by decide) rfl (pf_347_58 hP) ?_
      refine r_iload_n dX11_back_62 rfl ?_
      refine r_aload_n dX11_back_63 rfl ?_
      refine r_getR dX11_back_64 flX11_181 sh_347 (by decide) rfl (pf_347_87 hP) ?_
      refine r_bipush (v := 24) dX11_back_67 (by decide) ?_
      refine r_iload_n dX11_back_69 rfl ?_
      refine r_iadd dX11_back_70 ?_
      refine r_ialv dX11_back_71 sh_402 (in_B24 hj) ((wR_o _ _ _ (by decide) _).trans ((wE_o _ _ (by decide) _).trans (congrArg (I 402) (cB24 hj)))) ?_
      refine r_iasv dX11_back_72 sh_381 (in12 hj) (rW8 _ _ (in12 hj) _) ?_
      refine r_aload_n dX11_back_73 rfl ?_
      refine r_getR dX11_back_74 flX11_118 sh_347 (by decide) rfl (pf_347_59 hP) ?_
      refine r_iload_n dX11_back_77 rfl ?_
      refine r_aload_n dX11_back_78 rfl ?_
      refine r_getR dX11_back_79 flX11_181 sh_347 (by decide) rfl (pf_347_87 hP) ?_
      refine r_bipush (v := 36) dX11_back_82 (by decide) ?_
      refine r_iload_n dX11_back_84 rfl ?_
      refine r_iadd dX11_back_85 ?_
      refine r_ialv dX11_back_86 sh_402 (in_B36 hj) ((wR_o _ _ _ (by decide) _).trans ((wE_o _ _ (by decide) _).trans (congrArg (I 402) (cB36 hj)))) ?_
      refine r_iasv dX11_back_87 sh_382 (in12 hj) (rW7 _ _ (in12 hj) _) ?_
      refine r_aload_n dX11_back_88 rfl ?_
      refine r_getR dX11_back_89 flX11_121 sh_347 (by decide) rfl (pf_347_60 hP) ?_
      refine r_iload_n dX11_back_92 rfl ?_
      refine r_aload_n dX11_back_93 rfl ?_
      refine r_getR dX11_back_94 flX11_181 sh_347 (by decide) rfl (pf_347_87 hP) ?_
      refine r_bipush (v := 48) dX11_back_97 (by decide) ?_
      refine r_iload_n dX11_back_99 rfl ?_
      refine r_iadd dX11_back_100 ?_
      refine r_ialv dX11_back_101 sh_402 (in_B48 hj) ((wR_o _ _ _ (by decide) _).trans ((wE_o _ _ (by decide) _).trans (congrArg (I 402) (cB48 hj)))) ?_
      refine r_iasv dX11_back_102 sh_383 (iz12 (in12 hj)) (rY5 _ _ (in12 hj) _) ?_
      refine r_aload_n dX11_back_103 rfl ?_
      refine r_getR dX11_back_104 flX11_124 sh_347 (by decide) rfl (pf_347_61 hP) ?_
      refine r_iload_n dX11_back_107 rfl ?_
      refine r_aload_n dX11_back_108 rfl ?_
      refine r_getR dX11_back_109 flX11_181 sh_347 (by decide) rfl (pf_347_87 hP) ?_
      refine r_bipush (v := 60) dX11_back_112 (by decide) ?_
      refine r_iload_n dX11_back_114 rfl ?_
      refine r_iadd dX11_back_115 ?_
      refine r_ialv dX11_back_116 sh_402 (in_B60 hj) ((wR_o _ _ _ (by decide) _).trans ((wE_o _ _ (by decide) _).trans (congrArg (I 402) (cB60 hj)))) ?_
      refine r_sipush (v := 1000) dX11_back_117 (by decide) ?_
      refine r_irem dX11_back_120 (by decide) ?_
      refine r_iasv dX11_back_121 sh_384 (iz12 (in12 hj)) (rY6 _ _ (in12 hj) _) ?_
      refine r_aload_n dX11_back_122 rfl ?_
      refine r_getR dX11_back_123 flX11_133 sh_347 (by decide) rfl (pf_347_64 hP) ?_
      refine r_iload_n dX11_back_126 rfl ?_
      refine r_aload_n dX11_back_127 rfl ?_
      refine r_getR dX11_back_128 flX11_181 sh_347 (by decide) rfl (pf_347_87 hP) ?_
      refine r_bipush (v := 60) dX11_back_131 (by decide) ?_
      refine r_iload_n dX11_back_133 rfl ?_
      refine r_iadd dX11_back_134 ?_
      refine r_ialv dX11_back_135 sh_402 (in_B60 hj) ((wR_o _ _ _ (by decide) _).trans ((wE_o _ _ (by decide) _).trans (congrArg (I 402) (cB60 hj)))) ?_
      refine r_sipush (v := 1000) dX11_back_136 (by decide) ?_
      refine r_idiv dX11_back_139 (by decide) ?_
      refine r_iasv dX11_back_140 sh_387 (iz12 (in12 hj)) (rY12 _ _ (in12 hj) (hq j hj)) ?_
      refine r_iinc1 (v := 1) dX11_back_141 (by decide) rfl ?_
      refine r_goto 25 dX11_back_144 (by decide) ?_
      rw [nI_1, nI_clamp (n := j) (by omega)]; exact ih
  · refine r_iload_n dX11_back_25 rfl ?_
    refine r_bipush (v := 12) dX11_back_26 (by decide) ?_
    refine r_ic_ge 147 dX11_back_28 (by decide) (fun c28 => ?_) (fun c28 => ?_)
    · refine r_iconst (v := 0) dX11_back_147 (by decide) ?_
      refine r_istore_n1 dX11_back_148 rfl ?_
      exact l_back2 hP hq d 0 (Nat.zero_le _)
    · exact absurd (by decide) c28
set_option maxHeartbeats 1000000 in
theorem k_rback_n {E : xCl} {ex : Bool} {I I0 V : Nat → Nat → Int32} {e : Int32} {J : Nat → Nat → Int64} {P : Nat → Nat → Nat} (hP : Pok P) (hI : xu I 347 2 0 = I0) (h : I0 347 85 = 0) (d : Nat) : xEx E ex (d + 1) yX11_back [.ref 347] (SH, wR (wE I e) 0 V, J, P) (some (.int (-1))) (SH, wR (wE I0 e) 0 V, J, P) := by
  refine x_enter cqX11_back [some (.ref 347), none] rfl (by simp [lg_sl, Value.category]) ?_
  refine r_aload_n dX11_back_0 rfl ?_
  refine r_iconst (v := 0) dX11_back_1 (by decide) ?_
  refine r_putIv dX11_back_2 flX11_193 ⟨_, _, _, rfl, Or.inl rfl⟩ sh_347 (by decide) rfl rfl rfl ((wR_xo _ _ _ (by decide) _ _).trans (congrArg (fun z => wR z _ _) ((wE_c _ _ _ (by decide)).trans (congrArg (fun z => wE z _) hI)))) ?_
  refine r_aload_n dX11_back_5 rfl ?_
  refine r_getIv dX11_back_6 flX11_406 sh_347 (by decide) rfl ((wR_o _ _ _ (by decide) _).trans (wE_f _ _ (by decide))) ?_
  refine r_if_ne 14 dX11_back_9 (by decide) (fun c9 => ?_) (fun c9 => ?_)
  · exact absurd h c9
  · refine r_iconst (v := (-1)) dX11_back_12 (by decide) ?_
    exact r_iret dX11_back_13 rfl rfl rfl rfl
set_option maxHeartbeats 1000000 in
theorem k_rback {E : xCl} {ex : Bool} {I I0 V : Nat → Nat → Int32} {e : Int32} {J : Nat → Nat → Int64} {P : Nat → Nat → Nat} (hP : Pok P) (hI : xu I 347 2 0 = I0) (h : ¬ I0 347 85 = 0) (hq : ∀ s, s < 12 → I0 402 (60 + s) / 1000 = 0 ∨ I0 402 (60 + s) / 1000 = 1) (d : Nat) : xEx E ex (d + 2) yX11_back [.ref 347] (SH, wR (wE I e) 0 V, J, P) (some (.int (I0 347 89))) (SH, wR (wE (xu I0 347 83 0) e) 0 (bBack V I0), xu J 347 68 (J 347 90), P) := by
  refine x_enter cqX11_back [some (.ref 347), none] rfl (by simp [lg_sl, Value.category]) ?_
  refine r_aload_n dX11_back_0 rfl ?_
  refine r_iconst (v := 0) dX11_back_1 (by decide) ?_
  refine r_putIv dX11_back_2 flX11_193 ⟨_, _, _, rfl, Or.inl rfl⟩ sh_347 (by decide) rfl rfl rfl ((wR_xo _ _ _ (by decide) _ _).trans (congrArg (fun z => wR z _ _) ((wE_c _ _ _ (by decide)).trans (congrArg (fun z => wE z _) hI)))) ?_
  refine r_aload_n dX11_back_5 rfl ?_
  refine r_getIv dX11_back_6 flX11_406 sh_347 (by decide) rfl ((wR_o _ _ _ (by decide) _).trans (wE_f _ _ (by decide))) ?_
  refine r_if_ne 14 dX11_back_9 (by decide) (fun c9 => ?_) (fun c9 => ?_)
  · refine r_aload_n dX11_back_14 rfl ?_
    refine r_aload_n dX11_back_15 rfl ?_
    refine r_getR dX11_back_16 flX11_178 sh_347 (by decide) rfl (pf_347_86 hP) ?_
    refine r_iconst (v := 0) dX11_back_19 (by decide) ?_
    refine r_cV2v dX11_back_20 vlX11_551 sh_347 (Nat.le_of_ble_eq_true rfl) (k_take hP (row := 401) (i := 0) sh_401 (by decide) (by decide) (by decide) (by decide) d) ?_
    refine r_iconst (v := 0) dX11_back_23 (by decide) ?_
    refine r_istore_n1 dX11_back_24 rfl ?_
    exact l_back1 hP hq d 0 (Nat.zero_le _)
  · exact absurd c9 h
