/-! the reference: the table of the most that sets bear -/
def lwB (S : Nat) : Nat → Nat → Nat
  | 0, j => j
  | c + 1, j => if S.testBit j = true then j else lwB S c (j + 1)
/-- the first strand of a set -/
def lowB (S : Nat) : Nat := lwB S 12 0
theorem lwB_at {S : Nat} : ∀ c j i, i < j + c → j ≤ i → S.testBit i = true → (∀ q, j ≤ q → q < i → ¬ S.testBit q = true) → lwB S c j = i
  | 0, j, i, h1, h2, _, _ => by omega
  | c + 1, j, i, h1, h2, hp, hn => by
    unfold lwB
    by_cases h : j = i
    · subst h; rw [if_pos hp]
    · rw [if_neg (hn j (Nat.le_refl _) (by omega))]
      exact lwB_at c (j + 1) i (by omega) (by omega) hp (fun q h3 h4 => hn q (by omega) h4)
theorem lowB_at {S i : Nat} (hi : i < 12) (h : S.testBit i = true) (hn : ∀ q, q < i → ¬ S.testBit q = true) : lowB S = i := lwB_at 12 0 i (by omega) (by omega) h (fun q _ hq => hn q hq)
theorem ex_bit {S : Nat} (hS : S < 4096) (h0 : S ≠ 0) : ∃ i, i < 12 ∧ S.testBit i = true := by
  apply Classical.byContradiction
  intro z
  apply h0
  apply Nat.eq_of_testBit_eq
  intro i
  rw [Nat.zero_testBit]
  cases h : S.testBit i
  · rfl
  · exact absurd ⟨i, bit_lt (n := 12) hS h, h⟩ z
def tBl (V : Nat → Nat → Int32) (a m : Nat → Int32) (S R j s : Nat) : Nat → Nat → Int32 → Int32
  | 0, _, b => b
  | c + 1, t, b => tBl V a m S R j s c (t + 1) (if S.testBit t = true ∧ V 9 t = 0 then (if tOp a m R j s t ≤ b then b else tOp a m R j s t) else b)
def tSt (V : Nat → Nat → Int32) (a m : Nat → Int32) (n S j : Nat) : Int32 := if 0 < j ∧ V 9 (lowB S) = 0 then tBl V a m S (nD S (2 ^ lowB S)) j (lowB S) (n - 1 - lowB S) (lowB S + 1) (m (6 * nD S (2 ^ lowB S) + j) + a (lowB S)) else m (6 * nD S (2 ^ lowB S) + j) + a (lowB S)
def tRj (V : Nat → Nat → Int32) (a m : Nat → Int32) (n S : Nat) : Nat → Nat → Int32
  | 0 => m
  | j + 1 => up (tRj V a m n S j) (6 * S + j) (tSt V a (tRj V a m n S j) n S j)
def tAl (V : Nat → Nat → Int32) (a m : Nat → Int32) (n k : Nat) : Nat → Nat → Int32
  | 0 => m
  | c + 1 => tRj V a (tAl V a m n k c) n (c + 1) (k + 1)
set_option maxHeartbeats 4000000 in
theorem l_twT {E : xCl} {ex : Bool} {I V : Nat → Nat → Int32} {a m p : Nat → Int32} {e : Int32} {J : Nat → Nat → Int64} {P : Nat → Nat → Nat} (hP : Pok P) {n : Nat} (hv : Vok V n) {k S R s j : Nat} (hS : S < 4096) (hR : R < 4096) (hs : s < n) (hj0 : 0 < j) (hj5 : j < 6) (hths : V 9 s = 0) {x2 : Int32} (d : Nat) {Q : Option Value → xS → Prop} : ∀ c t b y9, t + c = n → (K : (∀ y8 y9, xR (xEx E ex (d + 5)) ex none yX11_layTwists cX11_layTwists none 247 [some (.ref 347), some (.int (nI k)), some (.int x2), some (.int (nI S)), some (.int (nI s)), some (.int (nI R)), some (.int (nI j)), some (.int (tBl V a m S R j s c t b)), y8, y9] [] (SH, wR (wE (wY I a m p) e) 0 V, J, P) Q)) → xR (xEx E ex (d + 5)) ex none yX11_layTwists cX11_layTwists none 133 [some (.ref 347), some (.int (nI k)), some (.int x2), some (.int (nI S)), some (.int (nI s)), some (.int (nI R)), some (.int (nI j)), some (.int b), some (.int (nI t)), y9] [] (SH, wR (wE (wY I a m p) e) 0 V, J, P) Q := by
  have hn12 := hv.1
  intro c
  induction c with
  | zero =>
    intro t b y9 ht K
    refine r_iload dX11_layTwists_133 rfl ?_
    refine r_aload_n dX11_layTwists_135 rfl ?_
    refine r_getR dX11_layTwists_136 flX11_106 sh_347 (by decide) rfl (pf_347_55 hP) ?_
    refine r_iconst (v := 0) dX11_layTwists_139 (by decide) ?_
    refine r_ialv dX11_layTwists_140 sh_378 ix2_0 ((rS13_0 _ _).trans hv.2.1) ?_
    refine r_ic_ge 247 dX11_layTwists_141 (by decide) (fun c141 => ?_) (fun c141 => ?_)
    · exact K _ _
    · exact absurd (nI_le (by omega) (by omega)) c141
  | succ c ih =>
    intro t b y9 ht K
    refine r_iload dX11_layTwists_133 rfl ?_
    refine r_aload_n dX11_layTwists_135 rfl ?_
    refine r_getR dX11_layTwists_136 flX11_106 sh_347 (by decide) rfl (pf_347_55 hP) ?_
    refine r_iconst (v := 0) dX11_layTwists_139 (by decide) ?_
    refine r_ialv dX11_layTwists_140 sh_378 ix2_0 ((rS13_0 _ _).trans hv.2.1) ?_
    refine r_ic_ge 247 dX11_layTwists_141 (by decide) (fun c141 => ?_) (fun c141 => ?_)
    · exact absurd c141 (nI_ge (by omega) (by omega))
    · refine r_iload dX11_layTwists_144 rfl ?_
      refine r_if_le 247 dX11_layTwists_146 (by decide) (fun c146 => ?_) (fun c146 => ?_)
      · exact absurd c146 (nI_nle hj0 (by omega))
      · refine r_aload_n dX11_layTwists_149 rfl ?_
        refine r_iconst (v := 0) dX11_layTwists_150 (by decide) ?_
        refine r_iload dX11_layTwists_151 rfl ?_
        refine r_cV2i dX11_layTwists_153 vlX11_418 sh_347 (Nat.le_of_ble_eq_true rfl) (k_rTh0_t hP (vp_in_nI (by omega) (by omega)) (by rw [nI_clamp (by omega)]; exact hths) (d + 4)) ?_
        refine r_if_eq 247 dX11_layTwists_156 (by decide) (fun c156 => ?_) (fun c156 => ?_)
        · exact absurd c156 (by decide)
        · refine r_iload_n dX11_layTwists_159 rfl ?_
          refine r_iload dX11_layTwists_160 rfl ?_
          by_cases h162 : (nI S >>> (nI t &&& 31)) &&& 1 = 1
          · refine r_cS2i dX11_layTwists_162 slX11_485 (Nat.le_of_ble_eq_true rfl) (k_isOf_t h162 (d + 4)) ?_
            have b162 := (bz_1 (by omega) (by omega)).mp h162
            refine r_if_eq 241 dX11_layTwists_165 (by decide) (fun c165 => ?_) (fun c165 => ?_)
            · exact absurd c165 (by decide)
            · refine r_aload_n dX11_layTwists_168 rfl ?_
              refine r_iconst (v := 0) dX11_layTwists_169 (by decide) ?_
              refine r_iload dX11_layTwists_170 rfl ?_
              by_cases h172 : V 9 (nI t).toNatClampNeg = 0
              · refine r_cV2i dX11_layTwists_172 vlX11_418 sh_347 (Nat.le_of_ble_eq_true rfl) (k_rTh0_t hP (vp_in_nI (by omega) (by omega)) h172 (d + 4)) ?_
                have q172 : V 9 t = 0 := by rw [nI_clamp (by omega)] at h172; exact h172
                refine r_if_ne 181 dX11_layTwists_175 (by decide) (fun c175 => ?_) (fun c175 => ?_)
                · refine r_aload_n dX11_layTwists_181 rfl ?_
                  refine r_getR dX11_layTwists_182 flX11_148 sh_347 (by decide) rfl (pf_347_73 hP) ?_
                  refine r_iload dX11_layTwists_185 rfl ?_
                  refine r_ialv dX11_layTwists_187 sh_392 (vp_in_nI (by omega) (by omega)) ((wR_o _ _ _ (by decide) _).trans ((wE_o _ _ (by decide) _).trans ((congrArg (wY I _ _ _ 392) (nI_clamp (n := s) (by omega))).trans (wY_a _ _ _ _ (by omega))))) ?_
                  refine r_aload_n dX11_layTwists_188 rfl ?_
                  refine r_getR dX11_layTwists_189 flX11_148 sh_347 (by decide) rfl (pf_347_73 hP) ?_
                  refine r_iload dX11_layTwists_192 rfl ?_
                  refine r_ialv dX11_layTwists_194 sh_392 (vp_in_nI (by omega) (by omega)) ((wR_o _ _ _ (by decide) _).trans ((wE_o _ _ (by decide) _).trans ((congrArg (wY I _ _ _ 392) (nI_clamp (n := t) (by omega))).trans (wY_a _ _ _ _ (by omega))))) ?_
                  refine r_iadd dX11_layTwists_195 ?_
                  refine r_istore9 dX11_layTwists_196 rfl ?_
                  refine r_iload dX11_layTwists_198 rfl ?_
                  refine r_iload dX11_layTwists_200 rfl ?_
                  refine r_iconst (v := 2) dX11_layTwists_202 (by decide) ?_
                  refine r_idiv dX11_layTwists_203 (by decide) ?_
                  refine r_aload_n dX11_layTwists_204 rfl ?_
                  refine r_iload dX11_layTwists_205 rfl ?_
                  refine r_iconst (v := 1) dX11_layTwists_207 (by decide) ?_
                  refine r_iload dX11_layTwists_208 rfl ?_
                  refine r_ishl dX11_layTwists_210 ?_
                  refine r_iconst (v := (-1)) dX11_layTwists_211 (by decide) ?_
                  refine r_ixor dX11_layTwists_212 ?_
                  refine r_iand dX11_layTwists_213 ?_
                  refine r_iload dX11_layTwists_214 rfl ?_
                  refine r_iconst (v := 1) dX11_layTwists_216 (by decide) ?_
                  refine r_isub dX11_layTwists_217 ?_
                  have z218 := k_mostOf (E := E) (ex := ex) (I := I) (V := V) (a := a) (m := m) (p := p) (e := e) (J := J) hP (S := nD R (2 ^ t)) (j := j - 1) (Nat.lt_of_le_of_lt (nD_le _ _) hR) (by omega) (d + 4)
                  rw [← bz_clr (by omega), ← nI_pr hj0] at z218
                  refine r_cV2i dX11_layTwists_218 vlX11_505 sh_347 (Nat.le_of_ble_eq_true rfl) z218 ?_
                  refine r_iadd dX11_layTwists_221 ?_
                  refine r_iadd dX11_layTwists_222 ?_
                  refine r_istore9 dX11_layTwists_223 rfl ?_
                  refine r_iload dX11_layTwists_225 rfl ?_
                  refine r_iload dX11_layTwists_227 rfl ?_
                  refine r_ic_le 237 dX11_layTwists_229 (by decide) (fun c229 => ?_) (fun c229 => ?_)
                  · refine r_iload dX11_layTwists_237 rfl ?_
                    refine r_istore7 dX11_layTwists_239 rfl ?_
                    refine r_iinc8 (v := 1) dX11_layTwists_241 (by decide) rfl ?_
                    refine r_goto 133 dX11_layTwists_244 (by decide) ?_
                    rw [nI_1]; rw [tBl, if_pos ⟨b162, q172⟩, if_pos (show tOp a m R j s t ≤ b from by rw [tOp, Int32.add_assoc]; exact c229)] at K; exact ih (t + 1) _ _ (by omega) K
                  · refine r_iload dX11_layTwists_232 rfl ?_
                    refine r_goto 239 dX11_layTwists_234 (by decide) ?_
                    refine r_istore7 dX11_layTwists_239 rfl ?_
                    refine r_iinc8 (v := 1) dX11_layTwists_241 (by decide) rfl ?_
                    refine r_goto 133 dX11_layTwists_244 (by decide) ?_
                    rw [nI_1]; rw [tBl, if_pos ⟨b162, q172⟩, if_neg (show ¬ tOp a m R j s t ≤ b from by rw [tOp, Int32.add_assoc]; exact c229)] at K; rw [tOp, Int32.add_assoc] at K; exact ih (t + 1) _ _ (by omega) K
                · exact absurd c175 (by decide)
              · refine r_cV2i dX11_layTwists_172 vlX11_418 sh_347 (Nat.le_of_ble_eq_true rfl) (k_rTh0_f hP (vp_in_nI (by omega) (by omega)) h172 (d + 4)) ?_
                have q172 : ¬ V 9 t = 0 := by rw [nI_clamp (by omega)] at h172; exact h172
                refine r_if_ne 181 dX11_layTwists_175 (by decide) (fun c175 => ?_) (fun c175 => ?_)
                · exact absurd c175 (by decide)
                · refine r_goto 241 dX11_layTwists_178 (by decide) ?_
                  refine r_iinc8 (v := 1) dX11_layTwists_241 (by decide) rfl ?_
                  refine r_goto 133 dX11_layTwists_244 (by decide) ?_
                  rw [nI_1]; rw [tBl, if_neg (fun z => q172 z.2)] at K; exact ih (t + 1) _ _ (by omega) K
          · refine r_cS2i dX11_layTwists_162 slX11_485 (Nat.le_of_ble_eq_true rfl) (k_isOf_f h162 (d + 4)) ?_
            have b162 : ¬ S.testBit t = true := fun z => h162 ((bz_1 (by omega) (by omega)).mpr z)
            refine r_if_eq 241 dX11_layTwists_165 (by decide) (fun c165 => ?_) (fun c165 => ?_)
            · refine r_iinc8 (v := 1) dX11_layTwists_241 (by decide) rfl ?_
              refine r_goto 133 dX11_layTwists_244 (by decide) ?_
              rw [nI_1]; rw [tBl, if_neg (fun z => b162 z.1)] at K; exact ih (t + 1) _ _ (by omega) K
            · exact absurd c165 (by decide)
set_option maxHeartbeats 1000000 in
theorem z_tw0 {E : xCl} {ex : Bool} {I V : Nat → Nat → Int32} {a m p : Nat → Int32} {e : Int32} {J : Nat → Nat → Int64} {P : Nat → Nat → Nat} (hP : Pok P) {n : Nat} (hv : Vok V n) {k S R s j : Nat} (hj0 : j = 0) {x2 b t : Int32} {y9 : Option Value} (d : Nat) {Q : Option Value → xS → Prop} (K : ∀ y8 y9, xR (xEx E ex (d + 5)) ex none yX11_layTwists cX11_layTwists none 247 [some (.ref 347), some (.int (nI k)), some (.int x2), some (.int (nI S)), some (.int (nI s)), some (.int (nI R)), some (.int (nI j)), some (.int b), y8, y9] [] (SH, wR (wE (wY I a m p) e) 0 V, J, P) Q) : xR (xEx E ex (d + 5)) ex none yX11_layTwists cX11_layTwists none 133 [some (.ref 347), some (.int (nI k)), some (.int x2), some (.int (nI S)), some (.int (nI s)), some (.int (nI R)), some (.int (nI j)), some (.int b), some (.int t), y9] [] (SH, wR (wE (wY I a m p) e) 0 V, J, P) Q := by
  refine r_iload dX11_layTwists_133 rfl ?_
  refine r_aload_n dX11_layTwists_135 rfl ?_
  refine r_getR dX11_layTwists_136 flX11_106 sh_347 (by decide) rfl (pf_347_55 hP) ?_
  refine r_iconst (v := 0) dX11_layTwists_139 (by decide) ?_
  refine r_ialv dX11_layTwists_140 sh_378 ix2_0 ((rS13_0 _ _).trans hv.2.1) ?_
  refine r_ic_ge 247 dX11_layTwists_141 (by decide) (fun c141 => ?_) (fun c141 => ?_)
  · exact K _ _
  · refine r_iload dX11_layTwists_144 rfl ?_
    refine r_if_le 247 dX11_layTwists_146 (by decide) (fun c146 => ?_) (fun c146 => ?_)
    · exact K _ _
    · exact absurd (nI_le (a := j) (b := 0) (by omega) (by omega)) c146
set_option maxHeartbeats 1000000 in
theorem z_tw1 {E : xCl} {ex : Bool} {I V : Nat → Nat → Int32} {a m p : Nat → Int32} {e : Int32} {J : Nat → Nat → Int64} {P : Nat → Nat → Nat} (hP : Pok P) {n : Nat} (hv : Vok V n) {k S R s j : Nat} (hs : s < 12) (hnt : ¬ V 9 s = 0) {x2 b t : Int32} {y9 : Option Value} (d : Nat) {Q : Option Value → xS → Prop} (K : ∀ y8 y9, xR (xEx E ex (d + 5)) ex none yX11_layTwists cX11_layTwists none 247 [some (.ref 347), some (.int (nI k)), some (.int x2), some (.int (nI S)), some (.int (nI s)), some (.int (nI R)), some (.int (nI j)), some (.int b), y8, y9] [] (SH, wR (wE (wY I a m p) e) 0 V, J, P) Q) : xR (xEx E ex (d + 5)) ex none yX11_layTwists cX11_layTwists none 133 [some (.ref 347), some (.int (nI k)), some (.int x2), some (.int (nI S)), some (.int (nI s)), some (.int (nI R)), some (.int (nI j)), some (.int b), some (.int t), y9] [] (SH, wR (wE (wY I a m p) e) 0 V, J, P) Q := by
  refine r_iload dX11_layTwists_133 rfl ?_
  refine r_aload_n dX11_layTwists_135 rfl ?_
  refine r_getR dX11_layTwists_136 flX11_106 sh_347 (by decide) rfl (pf_347_55 hP) ?_
  refine r_iconst (v := 0) dX11_layTwists_139 (by decide) ?_
  refine r_ialv dX11_layTwists_140 sh_378 ix2_0 ((rS13_0 _ _).trans hv.2.1) ?_
  refine r_ic_ge 247 dX11_layTwists_141 (by decide) (fun c141 => ?_) (fun c141 => ?_)
  · exact K _ _
  · refine r_iload dX11_layTwists_144 rfl ?_
    refine r_if_le 247 dX11_layTwists_146 (by decide) (fun c146 => ?_) (fun c146 => ?_)
    · exact K _ _
    · refine r_aload_n dX11_layTwists_149 rfl ?_
      refine r_iconst (v := 0) dX11_layTwists_150 (by decide) ?_
      refine r_iload dX11_layTwists_151 rfl ?_
      refine r_cV2i dX11_layTwists_153 vlX11_418 sh_347 (Nat.le_of_ble_eq_true rfl) (k_rTh0_f hP (vp_in_nI (by omega) (by omega)) (by rw [nI_clamp (by omega)]; exact hnt) (d + 4)) ?_
      refine r_if_eq 247 dX11_layTwists_156 (by decide) (fun c156 => ?_) (fun c156 => ?_)
      · exact K _ _
      · exact absurd c156 (by decide)
set_option maxHeartbeats 4000000 in
theorem l_twJ {E : xCl} {ex : Bool} {I V : Nat → Nat → Int32} {a m p : Nat → Int32} {e : Int32} {J : Nat → Nat → Int64} {P : Nat → Nat → Nat} (hP : Pok P) {n : Nat} (hv : Vok V n) {k S s : Nat} (hk5 : k ≤ 5) (hS : S < 4096) (hsn : s < n) (hlow : lowB S = s) {x2 : Int32} (d : Nat) {Q : Option Value → xS → Prop} (K : ∀ y7 y8 y9, xR (xEx E ex (d + 5)) ex none yX11_layTwists cX11_layTwists none 267 [some (.ref 347), some (.int (nI k)), some (.int x2), some (.int (nI S)), some (.int (nI s)), some (.int (nI (nD S (2 ^ s)))), some (.int (nI (k + 1))), y7, y8, y9] [] (SH, wR (wE (wY I a (tRj V a m n S (k + 1)) p) e) 0 V, J, P) Q) : ∀ j, j ≤ k + 1 → ∀ y7 y8 y9, xR (xEx E ex (d + 5)) ex none yX11_layTwists cX11_layTwists none 103 [some (.ref 347), some (.int (nI k)), some (.int x2), some (.int (nI S)), some (.int (nI s)), some (.int (nI (nD S (2 ^ s)))), some (.int (nI j)), y7, y8, y9] [] (SH, wR (wE (wY I a (tRj V a m n S j) p) e) 0 V, J, P) Q := by
  have hn12 := hv.1
  refine r_for (fun j => ∀ y7 y8 y9, xR (xEx E ex (d + 5)) ex none yX11_layTwists cX11_layTwists none 103 [some (.ref 347), some (.int (nI k)), some (.int x2), some (.int (nI S)), some (.int (nI s)), some (.int (nI (nD S (2 ^ s)))), some (.int (nI j)), y7, y8, y9] [] (SH, wR (wE (wY I a (tRj V a m n S j) p) e) 0 V, J, P) Q) _ ?_ ?_
  · intro j hj ih y7 y8 y9
    refine r_iload dX11_layTwists_103 rfl ?_
    refine r_iload_n dX11_layTwists_105 rfl ?_
    refine r_ic_gt 267 dX11_layTwists_106 (by decide) (fun c106 => ?_) (fun c106 => ?_)
    · exact absurd c106 (nI_nlt (a := k) (b := j) (by omega) (by omega))
    · refine r_aload_n dX11_layTwists_109 rfl ?_
      refine r_iload dX11_layTwists_110 rfl ?_
      refine r_iload dX11_layTwists_112 rfl ?_
      have z114 := k_mostOf (E := E) (ex := ex) (I := I) (V := V) (a := a) (m := (tRj V a m n S j)) (p := p) (e := e) (J := J) hP (S := nD S (2 ^ s)) (j := j) (Nat.lt_of_le_of_lt (nD_le _ _) hS) (by omega) (d + 4)
      refine r_cV2i dX11_layTwists_114 vlX11_505 sh_347 (Nat.le_of_ble_eq_true rfl) z114 ?_
      refine r_aload_n dX11_layTwists_117 rfl ?_
      refine r_getR dX11_layTwists_118 flX11_148 sh_347 (by decide) rfl (pf_347_73 hP) ?_
      refine r_iload dX11_layTwists_121 rfl ?_
      refine r_ialv dX11_layTwists_123 sh_392 (vp_in_nI (by omega) (by omega)) ((wR_o _ _ _ (by decide) _).trans ((wE_o _ _ (by decide) _).trans ((congrArg (wY I _ _ _ 392) (nI_clamp (n := s) (by omega))).trans (wY_a _ _ _ _ (by omega))))) ?_
      refine r_iadd dX11_layTwists_124 ?_
      refine r_istore7 dX11_layTwists_125 rfl ?_
      refine r_iload dX11_layTwists_127 rfl ?_
      refine r_iconst (v := 1) dX11_layTwists_129 (by decide) ?_
      refine r_iadd dX11_layTwists_130 ?_
      refine r_istore8 dX11_layTwists_131 rfl ?_
      by_cases hj0 : j = 0
      · refine z_tw0 (m := (tRj V a m n S j)) hP hv hj0 d (fun y8 y9 => ?_)
        refine r_aload_n dX11_layTwists_247 rfl ?_
        refine r_getR dX11_layTwists_248 flX11_151 sh_347 (by decide) rfl (pf_347_74 hP) ?_
        refine r_bipush (v := 6) dX11_layTwists_251 (by decide) ?_
        refine r_iload_n dX11_layTwists_253 rfl ?_
        refine r_imul dX11_layTwists_254 ?_
        refine r_iload dX11_layTwists_255 rfl ?_
        refine r_iadd dX11_layTwists_257 ?_
        refine r_iload dX11_layTwists_258 rfl ?_
        refine r_iasv dX11_layTwists_260 sh_393 (ixm hS (by omega)) (show _ = wR (wE (wY I a (tRj V a m n S (j + 1)) p) e) 0 V from (wR_xo _ _ _ (by decide) _ _).trans (congrArg (fun z => wR z _ _) ((wE_c _ _ _ (fun z => absurd z.1 (by decide))).trans (congrArg (fun z => wE z _) (by rw [cxm hS (by omega), wY_xm _ _ _ _ (by omega), tRj, tSt, hlow, if_neg (fun z => absurd z.1 (by omega))]))))) ?_
        refine r_iinc6 (v := 1) dX11_layTwists_261 (by decide) rfl ?_
        refine r_goto 103 dX11_layTwists_264 (by decide) ?_
        rw [nI_1]; exact ih _ _ _
      · by_cases hths : V 9 s = 0
        · rw [nI_1]
          refine l_twT (m := (tRj V a m n S j)) hP hv hS (Nat.lt_of_le_of_lt (nD_le _ _) hS) hsn (by omega) (by omega) hths d (n - 1 - s) (s + 1) _ _ (by omega) (fun y8 y9 => ?_)
          refine r_aload_n dX11_layTwists_247 rfl ?_
          refine r_getR dX11_layTwists_248 flX11_151 sh_347 (by decide) rfl (pf_347_74 hP) ?_
          refine r_bipush (v := 6) dX11_layTwists_251 (by decide) ?_
          refine r_iload_n dX11_layTwists_253 rfl ?_
          refine r_imul dX11_layTwists_254 ?_
          refine r_iload dX11_layTwists_255 rfl ?_
          refine r_iadd dX11_layTwists_257 ?_
          refine r_iload dX11_layTwists_258 rfl ?_
          refine r_iasv dX11_layTwists_260 sh_393 (ixm hS (by omega)) (show _ = wR (wE (wY I a (tRj V a m n S (j + 1)) p) e) 0 V from (wR_xo _ _ _ (by decide) _ _).trans (congrArg (fun z => wR z _ _) ((wE_c _ _ _ (fun z => absurd z.1 (by decide))).trans (congrArg (fun z => wE z _) (by rw [cxm hS (by omega), wY_xm _ _ _ _ (by omega), tRj, tSt, hlow, if_pos ⟨by omega, hths⟩]))))) ?_
          refine r_iinc6 (v := 1) dX11_layTwists_261 (by decide) rfl ?_
          refine r_goto 103 dX11_layTwists_264 (by decide) ?_
          rw [nI_1]; exact ih _ _ _
        · refine z_tw1 (m := (tRj V a m n S j)) hP hv (by omega) hths d (fun y8 y9 => ?_)
          refine r_aload_n dX11_layTwists_247 rfl ?_
          refine r_getR dX11_layTwists_248 flX11_151 sh_347 (by decide) rfl (pf_347_74 hP) ?_
          refine r_bipush (v := 6) dX11_layTwists_251 (by decide) ?_
          refine r_iload_n dX11_layTwists_253 rfl ?_
          refine r_imul dX11_layTwists_254 ?_
          refine r_iload dX11_layTwists_255 rfl ?_
          refine r_iadd dX11_layTwists_257 ?_
          refine r_iload dX11_layTwists_258 rfl ?_
          refine r_iasv dX11_layTwists_260 sh_393 (ixm hS (by omega)) (show _ = wR (wE (wY I a (tRj V a m n S (j + 1)) p) e) 0 V from (wR_xo _ _ _ (by decide) _ _).trans (congrArg (fun z => wR z _ _) ((wE_c _ _ _ (fun z => absurd z.1 (by decide))).trans (congrArg (fun z => wE z _) (by rw [cxm hS (by omega), wY_xm _ _ _ _ (by omega), tRj, tSt, hlow, if_neg (fun z => hths z.2)]))))) ?_
          refine r_iinc6 (v := 1) dX11_layTwists_261 (by decide) rfl ?_
          refine r_goto 103 dX11_layTwists_264 (by decide) ?_
          rw [nI_1]; exact ih _ _ _
  · intro y7 y8 y9
    refine r_iload dX11_layTwists_103 rfl ?_
    refine r_iload_n dX11_layTwists_105 rfl ?_
    refine r_ic_gt 267 dX11_layTwists_106 (by decide) (fun c106 => ?_) (fun c106 => ?_)
    · exact K _ _ _
    · exact absurd (nI_lt (a := k) (b := k + 1) (by omega) (by omega)) c106
