/-! the reference: token -/
def rLs (T : Nat → Int32) : Nat → Nat → Nat
  | 0, i => i
  | c + 1, i => if cLt (T i) then rLs T c (i + 1) else i
theorem rLs_le (T : Nat → Int32) : ∀ c i, i ≤ rLs T c i ∧ rLs T c i ≤ i + c := by
  intro c
  induction c with
  | zero => intro i; exact ⟨Nat.le_refl _, Nat.le_refl _⟩
  | succ c ih =>
    intro i
    rw [rLs]
    split
    · have := ih (i + 1); omega
    · omega
def rNu (T : Nat → Int32) : Nat → Nat → Int32 → Nat × Int32
  | 0, i, v => (i, v)
  | c + 1, i, v => if cDg (T i) then rNu T c (i + 1) (if v ≤ 99999 then 10 * v + T i - 48 else v) else (i, v)
def rKd (w : Int32) (n : Nat) : Int32 := if w < 0 then (if nI n ≤ 6 then 2 else 6) else 1
/-- the token at j: behind it, its kind, which -/
noncomputable def rTo (T : Nat → Int32) (ws : List (List Nat)) (s j : Nat) (w : Int32) : Nat × Int32 × Int32 := if j = s then (j, 0, w) else if cLt (T j) then (rLs T (s - j) j, rKd (rWk T j (rLs T (s - j) j - j) ws 0) (rLs T (s - j) j - j), if rKd (rWk T j (rLs T (s - j) j - j) ws 0) (rLs T (s - j) j - j) = 2 then rPk T j (rLs T (s - j) j) 6 else rWk T j (rLs T (s - j) j - j) ws 0) else if cDg (T j) then ((rNu T (s - j) j 0).1, 3, (rNu T (s - j) j 0).2) else rSi T s j
set_option maxHeartbeats 1000000 in
theorem l_rtok1 {E : xCl} {ex : Bool} {I : Nat → Nat → Int32} {J : Nat → Nat → Int64} {P : Nat → Nat → Nat} (hP : Pok P) {s : Nat} (hs : s ≤ 700) (k w a : Int32) (d : Nat) {Q : Option Value → xS → Prop} : ∀ c i, i + c = s → xR (xEx E ex (d + 1)) ex none yX11_token cX11_token none 52 [some (.ref 347)] [] (SH, wQ I (nI s) (nI (cSp (I 348) c i)) k w a, J, P) Q → xR (xEx E ex (d + 1)) ex none yX11_token cX11_token none 0 [some (.ref 347)] [] (SH, wQ I (nI s) (nI i) k w a, J, P) Q := by
  intro c
  induction c with
  | zero =>
    intro i hi K
    refine r_aload_n dX11_token_0 rfl ?_
    refine r_getIv dX11_token_1 flX11_208 sh_347 (by decide) rfl (wQ_7 _ _ _ _ _ _) ?_
    refine r_aload_n dX11_token_4 rfl ?_
    refine r_getIv dX11_token_5 flX11_205 sh_347 (by decide) rfl (wQ_6 _ _ _ _ _ _) ?_
    refine r_ic_ge 52 dX11_token_8 (by decide) (fun c8 => ?_) (fun c8 => ?_)
    · exact K
    · exact absurd (nI_le (by omega) (by omega)) c8
  | succ c ih =>
    intro i hi K
    refine r_aload_n dX11_token_0 rfl ?_
    refine r_getIv dX11_token_1 flX11_208 sh_347 (by decide) rfl (wQ_7 _ _ _ _ _ _) ?_
    refine r_aload_n dX11_token_4 rfl ?_
    refine r_getIv dX11_token_5 flX11_205 sh_347 (by decide) rfl (wQ_6 _ _ _ _ _ _) ?_
    refine r_ic_ge 52 dX11_token_8 (by decide) (fun c8 => ?_) (fun c8 => ?_)
    · exact absurd c8 (nI_ge (a := i) (b := s) (by omega) (by omega))
    · refine r_aload_n dX11_token_11 rfl ?_
      refine r_getR dX11_token_12 flX11_7 sh_347 (by decide) rfl (pf_347_0 hP) ?_
      refine r_aload_n dX11_token_15 rfl ?_
      refine r_getIv dX11_token_16 flX11_208 sh_347 (by decide) rfl (wQ_7 _ _ _ _ _ _) ?_
      refine r_ialv dX11_token_19 sh_348 (vp_in_nI (n := i) (by omega) (by decide)) ((wQ_o _ _ _ _ _ _ (by decide) _).trans (congrArg (I 348) (nI_clamp (n := i) (by omega)))) ?_
      refine r_bipush (v := 10) dX11_token_20 (by decide) ?_
      refine r_ic_eq 39 dX11_token_22 (by decide) (fun c22 => ?_) (fun c22 => ?_)
      · refine r_aload_n dX11_token_39 rfl ?_
        refine r_dup dX11_token_40 rfl ?_
        refine r_getIv dX11_token_41 flX11_208 sh_347 (by decide) rfl (wQ_7 _ _ _ _ _ _) ?_
        refine r_iconst (v := 1) dX11_token_44 (by decide) ?_
        refine r_iadd dX11_token_45 ?_
        refine r_putIv dX11_token_46 flX11_208 ⟨_, _, _, rfl, Or.inl rfl⟩ sh_347 (by decide) rfl rfl rfl (wQ_x7 _ _ _ _ _ _ _) ?_
        refine r_goto 0 dX11_token_49 (by decide) ?_
        rw [nI_1]; rw [cSp, if_pos (Or.inl c22)] at K; exact ih (i + 1) (by omega) K
      · refine r_aload_n dX11_token_25 rfl ?_
        refine r_getR dX11_token_26 flX11_7 sh_347 (by decide) rfl (pf_347_0 hP) ?_
        refine r_aload_n dX11_token_29 rfl ?_
        refine r_getIv dX11_token_30 flX11_208 sh_347 (by decide) rfl (wQ_7 _ _ _ _ _ _) ?_
        refine r_ialv dX11_token_33 sh_348 (vp_in_nI (n := i) (by omega) (by decide)) ((wQ_o _ _ _ _ _ _ (by decide) _).trans (congrArg (I 348) (nI_clamp (n := i) (by omega)))) ?_
        refine r_bipush (v := 32) dX11_token_34 (by decide) ?_
        refine r_ic_ne 52 dX11_token_36 (by decide) (fun c36 => ?_) (fun c36 => ?_)
        · rw [cSp, if_neg (fun z => z.elim c22 c36)] at K; exact K
        · refine r_aload_n dX11_token_39 rfl ?_
          refine r_dup dX11_token_40 rfl ?_
          refine r_getIv dX11_token_41 flX11_208 sh_347 (by decide) rfl (wQ_7 _ _ _ _ _ _) ?_
          refine r_iconst (v := 1) dX11_token_44 (by decide) ?_
          refine r_iadd dX11_token_45 ?_
          refine r_putIv dX11_token_46 flX11_208 ⟨_, _, _, rfl, Or.inl rfl⟩ sh_347 (by decide) rfl rfl rfl (wQ_x7 _ _ _ _ _ _ _) ?_
          refine r_goto 0 dX11_token_49 (by decide) ?_
          rw [nI_1]; rw [cSp, if_pos (Or.inr c36)] at K; exact ih (i + 1) (by omega) K
set_option maxHeartbeats 1000000 in
theorem l_rtok2 {E : xCl} {ex : Bool} {I : Nat → Nat → Int32} {J : Nat → Nat → Int64} {P : Nat → Nat → Nat} (hP : Pok P) {s : Nat} (hs : s ≤ 700) (k w a : Int32) (d : Nat) {Q : Option Value → xS → Prop} : ∀ c i, i + c = s → xR (xEx E ex (d + 1)) ex none yX11_token cX11_token none 114 [some (.ref 347)] [] (SH, wQ I (nI s) (nI (rLs (I 348) c i)) k w a, J, P) Q → xR (xEx E ex (d + 1)) ex none yX11_token cX11_token none 90 [some (.ref 347)] [] (SH, wQ I (nI s) (nI i) k w a, J, P) Q := by
  intro c
  induction c with
  | zero =>
    intro i hi K
    refine r_aload_n dX11_token_90 rfl ?_
    refine r_aload_n dX11_token_91 rfl ?_
    refine r_getIv dX11_token_92 flX11_208 sh_347 (by decide) rfl (wQ_7 _ _ _ _ _ _) ?_
    refine r_cV1i dX11_token_95 vlX11_214 sh_347 (Nat.le_of_ble_eq_true rfl) (k_risSmall_f hP hs (by omega) (fun z => absurd z.1 (by omega)) d) ?_
    refine r_if_eq 114 dX11_token_98 (by decide) (fun c98 => ?_) (fun c98 => ?_)
    · exact K
    · exact absurd c98 (by decide)
  | succ c ih =>
    intro i hi K
    refine r_aload_n dX11_token_90 rfl ?_
    refine r_aload_n dX11_token_91 rfl ?_
    refine r_getIv dX11_token_92 flX11_208 sh_347 (by decide) rfl (wQ_7 _ _ _ _ _ _) ?_
    by_cases h95 : (i < s ∧ cLt (I 348 i))
    · refine r_cV1i dX11_token_95 vlX11_214 sh_347 (Nat.le_of_ble_eq_true rfl) (k_risSmall_t hP hs (by omega) h95 d) ?_
      refine r_if_eq 114 dX11_token_98 (by decide) (fun c98 => ?_) (fun c98 => ?_)
      · exact absurd c98 (by decide)
      · refine r_aload_n dX11_token_101 rfl ?_
        refine r_dup dX11_token_102 rfl ?_
        refine r_getIv dX11_token_103 flX11_208 sh_347 (by decide) rfl (wQ_7 _ _ _ _ _ _) ?_
        refine r_iconst (v := 1) dX11_token_106 (by decide) ?_
        refine r_iadd dX11_token_107 ?_
        refine r_putIv dX11_token_108 flX11_208 ⟨_, _, _, rfl, Or.inl rfl⟩ sh_347 (by decide) rfl rfl rfl (wQ_x7 _ _ _ _ _ _ _) ?_
        refine r_goto 90 dX11_token_111 (by decide) ?_
        rw [nI_1]; rw [rLs, if_pos h95.2] at K; exact ih (i + 1) (by omega) K
    · refine r_cV1i dX11_token_95 vlX11_214 sh_347 (Nat.le_of_ble_eq_true rfl) (k_risSmall_f hP hs (by omega) h95 d) ?_
      refine r_if_eq 114 dX11_token_98 (by decide) (fun c98 => ?_) (fun c98 => ?_)
      · rw [rLs, if_neg (fun z => h95 ⟨by omega, z⟩)] at K; exact K
      · exact absurd c98 (by decide)
set_option maxHeartbeats 1000000 in
theorem l_rtok3 {E : xCl} {ex : Bool} {I : Nat → Nat → Int32} {J : Nat → Nat → Int64} {P : Nat → Nat → Nat} (hP : Pok P) {s : Nat} (hs : s ≤ 700) (k a : Int32) (d : Nat) {Q : Option Value → xS → Prop} : ∀ c i v, i + c = s → xR (xEx E ex (d + 1)) ex none yX11_token cX11_token none 281 [some (.ref 347)] [] (SH, wQ I (nI s) (nI (rNu (I 348) c i v).1) k (rNu (I 348) c i v).2 a, J, P) Q → xR (xEx E ex (d + 1)) ex none yX11_token cX11_token none 213 [some (.ref 347)] [] (SH, wQ I (nI s) (nI i) k v a, J, P) Q := by
  intro c
  induction c with
  | zero =>
    intro i v hi K
    refine r_aload_n dX11_token_213 rfl ?_
    refine r_aload_n dX11_token_214 rfl ?_
    refine r_getIv dX11_token_215 flX11_208 sh_347 (by decide) rfl (wQ_7 _ _ _ _ _ _) ?_
    refine r_cV1i dX11_token_218 vlX11_228 sh_347 (Nat.le_of_ble_eq_true rfl) (k_risDigit_f hP hs (by omega) (fun z => absurd z.1 (by omega)) d) ?_
    refine r_if_eq 281 dX11_token_221 (by decide) (fun c221 => ?_) (fun c221 => ?_)
    · exact K
    · exact absurd c221 (by decide)
  | succ c ih =>
    intro i v hi K
    refine r_aload_n dX11_token_213 rfl ?_
    refine r_aload_n dX11_token_214 rfl ?_
    refine r_getIv dX11_token_215 flX11_208 sh_347 (by decide) rfl (wQ_7 _ _ _ _ _ _) ?_
    by_cases h218 : (i < s ∧ cDg (I 348 i))
    · refine r_cV1i dX11_token_218 vlX11_228 sh_347 (Nat.le_of_ble_eq_true rfl) (k_risDigit_t hP hs (by omega) h218 d) ?_
      refine r_if_eq 281 dX11_token_221 (by decide) (fun c221 => ?_) (fun c221 => ?_)
      · exact absurd c221 (by decide)
      · refine r_aload_n dX11_token_224 rfl ?_
        refine r_aload_n dX11_token_225 rfl ?_
        refine r_getIv dX11_token_226 flX11_222 sh_347 (by decide) rfl (wQ_9 _ _ _ _ _ _) ?_
        refine r_ldc dX11_token_229 kcX11_231 ?_
        refine r_ic_le 241 dX11_token_231 (by decide) (fun c231 => ?_) (fun c231 => ?_)
        · refine r_bipush (v := 10) dX11_token_241 (by decide) ?_
          refine r_aload_n dX11_token_243 rfl ?_
          refine r_getIv dX11_token_244 flX11_222 sh_347 (by decide) rfl (wQ_9 _ _ _ _ _ _) ?_
          refine r_imul dX11_token_247 ?_
          refine r_aload_n dX11_token_248 rfl ?_
          refine r_getR dX11_token_249 flX11_7 sh_347 (by decide) rfl (pf_347_0 hP) ?_
          refine r_aload_n dX11_token_252 rfl ?_
          refine r_getIv dX11_token_253 flX11_208 sh_347 (by decide) rfl (wQ_7 _ _ _ _ _ _) ?_
          refine r_ialv dX11_token_256 sh_348 (vp_in_nI (n := i) (by omega) (by decide)) ((wQ_o _ _ _ _ _ _ (by decide) _).trans (congrArg (I 348) (nI_clamp (n := i) (by omega)))) ?_
          refine r_iadd dX11_token_257 ?_
          refine r_bipush (v := 48) dX11_token_258 (by decide) ?_
          refine r_isub dX11_token_260 ?_
          refine r_putIv dX11_token_261 flX11_222 ⟨_, _, _, rfl, Or.inl rfl⟩ sh_347 (by decide) rfl rfl rfl (wQ_x9 _ _ _ _ _ _ _) ?_
          refine r_aload_n dX11_token_264 rfl ?_
          refine r_dup dX11_token_265 rfl ?_
          refine r_getIv dX11_token_266 flX11_208 sh_347 (by decide) rfl (wQ_7 _ _ _ _ _ _) ?_
          refine r_iconst (v := 1) dX11_token_269 (by decide) ?_
          refine r_iadd dX11_token_270 ?_
          refine r_putIv dX11_token_271 flX11_208 ⟨_, _, _, rfl, Or.inl rfl⟩ sh_347 (by decide) rfl rfl rfl (wQ_x7 _ _ _ _ _ _ _) ?_
          refine r_goto 213 dX11_token_274 (by decide) ?_
          rw [nI_1]; rw [rNu, if_pos h218.2, if_pos c231] at K; exact ih (i + 1) _ (by omega) K
        · refine r_aload_n dX11_token_234 rfl ?_
          refine r_getIv dX11_token_235 flX11_222 sh_347 (by decide) rfl (wQ_9 _ _ _ _ _ _) ?_
          refine r_goto 261 dX11_token_238 (by decide) ?_
          refine r_putIv dX11_token_261 flX11_222 ⟨_, _, _, rfl, Or.inl rfl⟩ sh_347 (by decide) rfl rfl rfl (wQ_x9 _ _ _ _ _ _ _) ?_
          refine r_aload_n dX11_token_264 rfl ?_
          refine r_dup dX11_token_265 rfl ?_
          refine r_getIv dX11_token_266 flX11_208 sh_347 (by decide) rfl (wQ_7 _ _ _ _ _ _) ?_
          refine r_iconst (v := 1) dX11_token_269 (by decide) ?_
          refine r_iadd dX11_token_270 ?_
          refine r_putIv dX11_token_271 flX11_208 ⟨_, _, _, rfl, Or.inl rfl⟩ sh_347 (by decide) rfl rfl rfl (wQ_x7 _ _ _ _ _ _ _) ?_
          refine r_goto 213 dX11_token_274 (by decide) ?_
          rw [nI_1]; rw [rNu, if_pos h218.2, if_neg c231] at K; exact ih (i + 1) _ (by omega) K
    · refine r_cV1i dX11_token_218 vlX11_228 sh_347 (Nat.le_of_ble_eq_true rfl) (k_risDigit_f hP hs (by omega) h218 d) ?_
      refine r_if_eq 281 dX11_token_221 (by decide) (fun c221 => ?_) (fun c221 => ?_)
      · rw [rNu, if_neg (fun z => h218 ⟨by omega, z⟩)] at K; exact K
      · exact absurd c221 (by decide)
set_option maxHeartbeats 1000000 in
theorem l_rtok4 {E : xCl} {ex : Bool} {I : Nat → Nat → Int32} {J : Nat → Nat → Int64} {P : Nat → Nat → Nat} (hP : Pok P) {s : Nat} (hs : s ≤ 700) {j q : Nat} (hjq : j ≤ q) (hq : q ≤ 700) {ws : List (List Nat)} (hr : rRow (I 349) 0 ws) (k w : Int32) (d : Nat) : xR (xEx E ex (d + 1)) ex none yX11_token cX11_token none 114 [some (.ref 347)] [] (SH, wQ I (nI s) (nI q) k w (nI j), J, P) (xEq none (SH, wQ I (nI s) (nI q) (rKd (rWk (I 348) j (q - j) ws 0) (q - j)) (if rKd (rWk (I 348) j (q - j) ws 0) (q - j) = 2 then rPk (I 348) j q 6 else (rWk (I 348) j (q - j) ws 0)) (nI j), J, P)) := by
  refine r_aload_n dX11_token_114 rfl ?_
  refine r_aload_n dX11_token_115 rfl ?_
  refine r_aload_n dX11_token_116 rfl ?_
  refine r_getIv dX11_token_117 flX11_202 sh_347 (by decide) rfl (wQ_10 _ _ _ _ _ _) ?_
  refine r_aload_n dX11_token_120 rfl ?_
  refine r_getIv dX11_token_121 flX11_208 sh_347 (by decide) rfl (wQ_7 _ _ _ _ _ _) ?_
  refine r_cV2i dX11_token_124 vlX11_218 sh_347 (Nat.le_of_ble_eq_true rfl) (k_wordAt hP hjq hq ws hr _ _ _ _ _ d) ?_
  refine r_putIv dX11_token_127 flX11_222 ⟨_, _, _, rfl, Or.inl rfl⟩ sh_347 (by decide) rfl rfl rfl (wQ_x9 _ _ _ _ _ _ _) ?_
  refine r_aload_n dX11_token_130 rfl ?_
  refine r_aload_n dX11_token_131 rfl ?_
  refine r_getIv dX11_token_132 flX11_222 sh_347 (by decide) rfl (wQ_9 _ _ _ _ _ _) ?_
  refine r_if_lt 142 dX11_token_135 (by decide) (fun c135 => ?_) (fun c135 => ?_)
  · refine r_aload_n dX11_token_142 rfl ?_
    refine r_getIv dX11_token_143 flX11_208 sh_347 (by decide) rfl (wQ_7 _ _ _ _ _ _) ?_
    refine r_aload_n dX11_token_146 rfl ?_
    refine r_getIv dX11_token_147 flX11_202 sh_347 (by decide) rfl (wQ_10 _ _ _ _ _ _) ?_
    refine r_isub dX11_token_150 ?_
    rw [show nI q - nI j = nI (q - j) from pk_sub hjq]
    refine r_bipush (v := 6) dX11_token_151 (by decide) ?_
    refine r_ic_le 161 dX11_token_153 (by decide) (fun c153 => ?_) (fun c153 => ?_)
    · refine r_iconst (v := 2) dX11_token_161 (by decide) ?_
      refine r_putIv dX11_token_162 flX11_211 ⟨_, _, _, rfl, Or.inl rfl⟩ sh_347 (by decide) rfl rfl rfl (wQ_x8 _ _ _ _ _ _ _) ?_
      refine r_aload_n dX11_token_165 rfl ?_
      refine r_getIv dX11_token_166 flX11_211 sh_347 (by decide) rfl (wQ_8 _ _ _ _ _ _) ?_
      refine r_iconst (v := 2) dX11_token_169 (by decide) ?_
      refine r_ic_ne 281 dX11_token_170 (by decide) (fun c170 => ?_) (fun c170 => ?_)
      · exact absurd c170 (by decide)
      · refine r_aload_n dX11_token_173 rfl ?_
        refine r_aload_n dX11_token_174 rfl ?_
        refine r_aload_n dX11_token_175 rfl ?_
        refine r_getIv dX11_token_176 flX11_202 sh_347 (by decide) rfl (wQ_10 _ _ _ _ _ _) ?_
        refine r_aload_n dX11_token_179 rfl ?_
        refine r_getIv dX11_token_180 flX11_208 sh_347 (by decide) rfl (wQ_7 _ _ _ _ _ _) ?_
        refine r_cV2i dX11_token_183 vlX11_225 sh_347 (Nat.le_of_ble_eq_true rfl) (k_packed hP hjq hq _ _ _ _ _ d) ?_
        refine r_putIv dX11_token_186 flX11_222 ⟨_, _, _, rfl, Or.inl rfl⟩ sh_347 (by decide) rfl rfl rfl (wQ_x9 _ _ _ _ _ _ _) ?_
        refine r_goto 281 dX11_token_189 (by decide) ?_
        exact r_vret dX11_token_281 rfl rfl (by rw [rKd, if_pos c135, if_pos c153, if_pos rfl])
    · refine r_bipush (v := 6) dX11_token_156 (by decide) ?_
      refine r_goto 162 dX11_token_158 (by decide) ?_
      refine r_putIv dX11_token_162 flX11_211 ⟨_, _, _, rfl, Or.inl rfl⟩ sh_347 (by decide) rfl rfl rfl (wQ_x8 _ _ _ _ _ _ _) ?_
      refine r_aload_n dX11_token_165 rfl ?_
      refine r_getIv dX11_token_166 flX11_211 sh_347 (by decide) rfl (wQ_8 _ _ _ _ _ _) ?_
      refine r_iconst (v := 2) dX11_token_169 (by decide) ?_
      refine r_ic_ne 281 dX11_token_170 (by decide) (fun c170 => ?_) (fun c170 => ?_)
      · exact r_vret dX11_token_281 rfl rfl (by rw [rKd, if_pos c135, if_neg c153, if_neg (by decide)])
      · exact absurd c170 (by decide)
  · refine r_iconst (v := 1) dX11_token_138 (by decide) ?_
    refine r_goto 162 dX11_token_139 (by decide) ?_
    refine r_putIv dX11_token_162 flX11_211 ⟨_, _, _, rfl, Or.inl rfl⟩ sh_347 (by decide) rfl rfl rfl (wQ_x8 _ _ _ _ _ _ _) ?_
    refine r_aload_n dX11_token_165 rfl ?_
    refine r_getIv dX11_token_166 flX11_211 sh_347 (by decide) rfl (wQ_8 _ _ _ _ _ _) ?_
    refine r_iconst (v := 2) dX11_token_169 (by decide) ?_
    refine r_ic_ne 281 dX11_token_170 (by decide) (fun c170 => ?_) (fun c170 => ?_)
    · exact r_vret dX11_token_281 rfl rfl (by rw [rKd, if_neg c135, if_neg (by decide)])
    · exact absurd c170 (by decide)
set_option maxHeartbeats 1000000 in
theorem l_rtok5 {E : xCl} {ex : Bool} {I : Nat → Nat → Int32} {J : Nat → Nat → Int64} {P : Nat → Nat → Nat} (hP : Pok P) {s : Nat} (hs : s ≤ 700) {j : Nat} (hjs : j ≤ s) {ws : List (List Nat)} (hr : rRow (I 349) 0 ws) (k w a : Int32) (d : Nat) : xR (xEx E ex (d + 1)) ex none yX11_token cX11_token none 52 [some (.ref 347)] [] (SH, wQ I (nI s) (nI j) k w a, J, P) (xEq none (SH, wQ I (nI s) (nI (rTo (I 348) ws s j w).1) (rTo (I 348) ws s j w).2.1 (rTo (I 348) ws s j w).2.2 (nI j), J, P)) := by
  by_cases hj : j = s
  · refine r_aload_n dX11_token_52 rfl ?_
    refine r_aload_n dX11_token_53 rfl ?_
    refine r_getIv dX11_token_54 flX11_208 sh_347 (by decide) rfl (wQ_7 _ _ _ _ _ _) ?_
    refine r_putIv dX11_token_57 flX11_202 ⟨_, _, _, rfl, Or.inl rfl⟩ sh_347 (by decide) rfl rfl rfl (wQ_x10 _ _ _ _ _ _ _) ?_
    refine r_aload_n dX11_token_60 rfl ?_
    refine r_getIv dX11_token_61 flX11_208 sh_347 (by decide) rfl (wQ_7 _ _ _ _ _ _) ?_
    refine r_aload_n dX11_token_64 rfl ?_
    refine r_getIv dX11_token_65 flX11_205 sh_347 (by decide) rfl (wQ_6 _ _ _ _ _ _) ?_
    refine r_ic_ne 79 dX11_token_68 (by decide) (fun c68 => ?_) (fun c68 => ?_)
    · exact absurd (by rw [hj]) c68
    · refine r_aload_n dX11_token_71 rfl ?_
      refine r_iconst (v := 0) dX11_token_72 (by decide) ?_
      refine r_putIv dX11_token_73 flX11_211 ⟨_, _, _, rfl, Or.inl rfl⟩ sh_347 (by decide) rfl rfl rfl (wQ_x8 _ _ _ _ _ _ _) ?_
      refine r_goto 281 dX11_token_76 (by decide) ?_
      exact r_vret dX11_token_281 rfl rfl (by rw [rTo, if_pos hj])
  · refine r_aload_n dX11_token_52 rfl ?_
    refine r_aload_n dX11_token_53 rfl ?_
    refine r_getIv dX11_token_54 flX11_208 sh_347 (by decide) rfl (wQ_7 _ _ _ _ _ _) ?_
    refine r_putIv dX11_token_57 flX11_202 ⟨_, _, _, rfl, Or.inl rfl⟩ sh_347 (by decide) rfl rfl rfl (wQ_x10 _ _ _ _ _ _ _) ?_
    refine r_aload_n dX11_token_60 rfl ?_
    refine r_getIv dX11_token_61 flX11_208 sh_347 (by decide) rfl (wQ_7 _ _ _ _ _ _) ?_
    refine r_aload_n dX11_token_64 rfl ?_
    refine r_getIv dX11_token_65 flX11_205 sh_347 (by decide) rfl (wQ_6 _ _ _ _ _ _) ?_
    refine r_ic_ne 79 dX11_token_68 (by decide) (fun c68 => ?_) (fun c68 => ?_)
    · refine r_aload_n dX11_token_79 rfl ?_
      refine r_aload_n dX11_token_80 rfl ?_
      refine r_getIv dX11_token_81 flX11_208 sh_347 (by decide) rfl (wQ_7 _ _ _ _ _ _) ?_
      by_cases h84 : (j < s ∧ cLt (I 348 j))
      · refine r_cV1i dX11_token_84 vlX11_214 sh_347 (Nat.le_of_ble_eq_true rfl) (k_risSmall_t hP hs (by omega) h84 d) ?_
        refine r_if_eq 192 dX11_token_87 (by decide) (fun c87 => ?_) (fun c87 => ?_)
        · exact absurd c87 (by decide)
        · refine l_rtok2 hP hs _ _ _ d (s - j) j (by omega) ?_
          rw [rTo, if_neg hj, if_pos h84.2]
          exact l_rtok4 hP hs (rLs_le (I 348) (s - j) j).1 (Nat.le_trans (rLs_le (I 348) (s - j) j).2 (by omega)) hr _ _ d
      · refine r_cV1i dX11_token_84 vlX11_214 sh_347 (Nat.le_of_ble_eq_true rfl) (k_risSmall_f hP hs (by omega) h84 d) ?_
        refine r_if_eq 192 dX11_token_87 (by decide) (fun c87 => ?_) (fun c87 => ?_)
        · refine r_aload_n dX11_token_192 rfl ?_
          refine r_aload_n dX11_token_193 rfl ?_
          refine r_getIv dX11_token_194 flX11_208 sh_347 (by decide) rfl (wQ_7 _ _ _ _ _ _) ?_
          by_cases h197 : (j < s ∧ cDg (I 348 j))
          · refine r_cV1i dX11_token_197 vlX11_228 sh_347 (Nat.le_of_ble_eq_true rfl) (k_risDigit_t hP hs (by omega) h197 d) ?_
            refine r_if_eq 277 dX11_token_200 (by decide) (fun c200 => ?_) (fun c200 => ?_)
            · exact absurd c200 (by decide)
            · refine r_aload_n dX11_token_203 rfl ?_
              refine r_iconst (v := 3) dX11_token_204 (by decide) ?_
              refine r_putIv dX11_token_205 flX11_211 ⟨_, _, _, rfl, Or.inl rfl⟩ sh_347 (by decide) rfl rfl rfl (wQ_x8 _ _ _ _ _ _ _) ?_
              refine r_aload_n dX11_token_208 rfl ?_
              refine r_iconst (v := 0) dX11_token_209 (by decide) ?_
              refine r_putIv dX11_token_210 flX11_222 ⟨_, _, _, rfl, Or.inl rfl⟩ sh_347 (by decide) rfl rfl rfl (wQ_x9 _ _ _ _ _ _ _) ?_
              refine l_rtok3 hP hs _ _ d (s - j) j 0 (by omega) ?_
              rw [rTo, if_neg hj, if_neg (fun z => h84 ⟨by omega, z⟩), if_pos h197.2]
              exact r_vret dX11_token_281 rfl rfl rfl
          · refine r_cV1i dX11_token_197 vlX11_228 sh_347 (Nat.le_of_ble_eq_true rfl) (k_risDigit_f hP hs (by omega) h197 d) ?_
            refine r_if_eq 277 dX11_token_200 (by decide) (fun c200 => ?_) (fun c200 => ?_)
            · refine r_aload_n dX11_token_277 rfl ?_
              refine r_cV0v dX11_token_278 vlX11_232 sh_347 (Nat.le_of_ble_eq_true rfl) (k_signToken hP hs (by omega) _ _ _ d) ?_
              exact r_vret dX11_token_281 rfl rfl (by rw [rTo, if_neg hj, if_neg (fun z => h84 ⟨by omega, z⟩), if_neg (fun z => h197 ⟨by omega, z⟩)])
            · exact absurd c200 (by decide)
        · exact absurd c87 (by decide)
    · exact absurd ((nI_eq (by omega) (by omega)).mp c68) hj
set_option maxHeartbeats 1000000 in
theorem k_token {E : xCl} {ex : Bool} {I : Nat → Nat → Int32} {J : Nat → Nat → Int64} {P : Nat → Nat → Nat} (hP : Pok P) {s : Nat} (hs : s ≤ 700) {i : Nat} (hi : i ≤ s) {ws : List (List Nat)} (hr : rRow (I 349) 0 ws) (k w a : Int32) (d : Nat) : xEx E ex (d + 2) yX11_token [.ref 347] (SH, wQ I (nI s) (nI i) k w a, J, P) none (SH, wQ I (nI s) (nI (rTo (I 348) ws s (cSp (I 348) (s - i) i) w).1) (rTo (I 348) ws s (cSp (I 348) (s - i) i) w).2.1 (rTo (I 348) ws s (cSp (I 348) (s - i) i) w).2.2 (nI (cSp (I 348) (s - i) i)), J, P) := by
  refine x_enter cqX11_token [some (.ref 347)] rfl (by simp [lg_sl, Value.category]) ?_
  exact l_rtok1 hP hs k w a d (s - i) i (by omega) (l_rtok5 hP hs (Nat.le_trans (cSp_le (I 348) (s - i) i).2 (by omega)) hr k w a d)
