/-! the reference: which load would tell -/
def rFq (g : Nat → Int32) (x : Int32) (i : Nat) : Nat → Int32
  | 0 => 1
  | j + 1 => if rFq g x i j = 0 then 0 else if rSag x (g j) = rSag x (g i) then 0 else 1
def rWy (g : Nat → Int32) (x : Int32) : Nat → Int32
  | 0 => 0
  | i + 1 => rWy g x i + (if rFq g x i i = 0 then 0 else 1)
def rMt (g : Nat → Int32) (q : Nat) : Nat → Int32 × Int32
  | 0 => (1, 0)
  | x + 1 => if rWy g (nI (x + 1)) q ≤ (rMt g q x).2 then rMt g q x else (nI (x + 1), rWy g (nI (x + 1)) q)
theorem rMt_le {g : Nat → Int32} {q x : Nat} (h : ¬ (rMt g q x).2 < rWy g (nI (x + 1)) q) : rMt g q (x + 1) = rMt g q x := by rw [rMt, if_pos (Int32.not_lt.mp h)]
theorem rMt_gt {g : Nat → Int32} {q x : Nat} (h : (rMt g q x).2 < rWy g (nI (x + 1)) q) : rMt g q (x + 1) = (nI (x + 1), rWy g (nI (x + 1)) q) := by rw [rMt, if_neg (fun z => Int32.not_lt.mpr z h)]
set_option maxHeartbeats 1000000 in
theorem t_rtl {E : xCl} {ex : Bool} {I : Nat → Nat → Int32} {J : Nat → Nat → Int64} {P : Nat → Nat → Nat} (hP : Pok P) {q i : Nat} (hq : q ≤ 11) (hi : i < q) {u bb z4 z5 x z7 : Int32} (d : Nat) {Q : Option Value → xS → Prop} (K : xR (xEx E ex (d + 1)) ex none yX11_tells cX11_tells (some .int) 186 [some (.ref 347), some (.int u), some (.int bb), some (.int (nI q)), some (.int z4), some (.int z5), some (.int x), some (.int z7), some (.int (nI i)), some (.int (rFq (I 397) x i i)), some (.int (nI i))] [] (SH, I, J, P) Q) : ∀ j, j ≤ i → xR (xEx E ex (d + 1)) ex none yX11_tells cX11_tells (some .int) 132 [some (.ref 347), some (.int u), some (.int bb), some (.int (nI q)), some (.int z4), some (.int z5), some (.int x), some (.int z7), some (.int (nI i)), some (.int (rFq (I 397) x i j)), some (.int (nI j))] [] (SH, I, J, P) Q := by
  refine r_for (fun j => xR (xEx E ex (d + 1)) ex none yX11_tells cX11_tells (some .int) 132 [some (.ref 347), some (.int u), some (.int bb), some (.int (nI q)), some (.int z4), some (.int z5), some (.int x), some (.int z7), some (.int (nI i)), some (.int (rFq (I 397) x i j)), some (.int (nI j))] [] (SH, I, J, P) Q) _ ?_ ?_
  · intro j hj ih
    refine r_iload dX11_tells_132 rfl ?_
    refine r_iload dX11_tells_134 rfl ?_
    refine r_ic_ge 186 dX11_tells_136 (by decide) (fun c136 => ?_) (fun c136 => ?_)
    · exact absurd c136 (nI_ge hj (by omega))
    · refine r_iload dX11_tells_139 rfl ?_
      refine r_if_eq 177 dX11_tells_141 (by decide) (fun c141 => ?_) (fun c141 => ?_)
      · refine r_iconst (v := 0) dX11_tells_177 (by decide) ?_
        refine r_istore9 dX11_tells_178 rfl ?_
        refine r_iinc10 (v := 1) dX11_tells_180 (by decide) rfl ?_
        refine r_goto 132 dX11_tells_183 (by decide) ?_
        rw [nI_1]; rw [rFq, if_pos c141] at ih; exact ih
      · refine r_aload_n dX11_tells_144 rfl ?_
        refine r_iload dX11_tells_145 rfl ?_
        refine r_aload_n dX11_tells_147 rfl ?_
        refine r_getR dX11_tells_148 flX11_166 sh_347 (by decide) rfl (pf_347_80 hP) ?_
        refine r_iload dX11_tells_151 rfl ?_
        refine r_ialv dX11_tells_153 sh_397 (in11 (by omega)) (congrArg (I 397) (cl11 (by omega))) ?_
        refine r_cV2i dX11_tells_154 vlX11_470 sh_347 (Nat.le_of_ble_eq_true rfl) (k_rsagOf _ _ d) ?_
        refine r_aload_n dX11_tells_157 rfl ?_
        refine r_iload dX11_tells_158 rfl ?_
        refine r_aload_n dX11_tells_160 rfl ?_
        refine r_getR dX11_tells_161 flX11_166 sh_347 (by decide) rfl (pf_347_80 hP) ?_
        refine r_iload dX11_tells_164 rfl ?_
        refine r_ialv dX11_tells_166 sh_397 (in11 (by omega)) (congrArg (I 397) (cl11 (by omega))) ?_
        refine r_cV2i dX11_tells_167 vlX11_470 sh_347 (Nat.le_of_ble_eq_true rfl) (k_rsagOf _ _ d) ?_
        refine r_ic_eq 177 dX11_tells_170 (by decide) (fun c170 => ?_) (fun c170 => ?_)
        · refine r_iconst (v := 0) dX11_tells_177 (by decide) ?_
          refine r_istore9 dX11_tells_178 rfl ?_
          refine r_iinc10 (v := 1) dX11_tells_180 (by decide) rfl ?_
          refine r_goto 132 dX11_tells_183 (by decide) ?_
          rw [nI_1]; rw [rFq, if_neg c141, if_pos c170] at ih; exact ih
        · refine r_iconst (v := 1) dX11_tells_173 (by decide) ?_
          refine r_goto 178 dX11_tells_174 (by decide) ?_
          refine r_istore9 dX11_tells_178 rfl ?_
          refine r_iinc10 (v := 1) dX11_tells_180 (by decide) rfl ?_
          refine r_goto 132 dX11_tells_183 (by decide) ?_
          rw [nI_1]; rw [rFq, if_neg c141, if_neg c170] at ih; exact ih
  · refine r_iload dX11_tells_132 rfl ?_
    refine r_iload dX11_tells_134 rfl ?_
    refine r_ic_ge 186 dX11_tells_136 (by decide) (fun c136 => ?_) (fun c136 => ?_)
    · exact K
    · exact absurd (nI_le (Nat.le_refl _) (by omega)) c136
set_option maxHeartbeats 1000000 in
theorem l_rtl {E : xCl} {ex : Bool} {I : Nat → Nat → Int32} {J : Nat → Nat → Int64} {P : Nat → Nat → Nat} (hP : Pok P) {q : Nat} (hq : q ≤ 11) {u bb z4 z5 x : Int32} (d : Nat) {Q : Option Value → xS → Prop} (K : ∀ y9 y10, xR (xEx E ex (d + 1)) ex none yX11_tells cX11_tells (some .int) 207 [some (.ref 347), some (.int u), some (.int bb), some (.int (nI q)), some (.int z4), some (.int z5), some (.int x), some (.int (rWy (I 397) x q)), some (.int (nI q)), y9, y10] [] (SH, I, J, P) Q) : ∀ j, j ≤ q → ∀ y9 y10, xR (xEx E ex (d + 1)) ex none yX11_tells cX11_tells (some .int) 120 [some (.ref 347), some (.int u), some (.int bb), some (.int (nI q)), some (.int z4), some (.int z5), some (.int x), some (.int (rWy (I 397) x j)), some (.int (nI j)), y9, y10] [] (SH, I, J, P) Q := by
  refine r_for (fun j => ∀ y9 y10, xR (xEx E ex (d + 1)) ex none yX11_tells cX11_tells (some .int) 120 [some (.ref 347), some (.int u), some (.int bb), some (.int (nI q)), some (.int z4), some (.int z5), some (.int x), some (.int (rWy (I 397) x j)), some (.int (nI j)), y9, y10] [] (SH, I, J, P) Q) _ ?_ ?_
  · intro j hj ih y9 y10
    refine r_iload dX11_tells_120 rfl ?_
    refine r_iload_n dX11_tells_122 rfl ?_
    refine r_ic_ge 207 dX11_tells_123 (by decide) (fun c123 => ?_) (fun c123 => ?_)
    · exact absurd c123 (nI_ge hj (by omega))
    · refine r_iconst (v := 1) dX11_tells_126 (by decide) ?_
      refine r_istore9 dX11_tells_127 rfl ?_
      refine r_iconst (v := 0) dX11_tells_129 (by decide) ?_
      refine r_istore10 dX11_tells_130 rfl ?_
      refine t_rtl hP hq hj d ?_ 0 (Nat.zero_le _)
      refine r_iload dX11_tells_186 rfl ?_
      refine r_iload dX11_tells_188 rfl ?_
      refine r_if_eq 197 dX11_tells_190 (by decide) (fun c190 => ?_) (fun c190 => ?_)
      · refine r_iconst (v := 0) dX11_tells_197 (by decide) ?_
        refine r_iadd dX11_tells_198 ?_
        refine r_istore7 dX11_tells_199 rfl ?_
        refine r_iinc8 (v := 1) dX11_tells_201 (by decide) rfl ?_
        refine r_goto 120 dX11_tells_204 (by decide) ?_
        rw [nI_1]; rw [rWy, if_pos c190] at ih; exact ih _ _
      · refine r_iconst (v := 1) dX11_tells_193 (by decide) ?_
        refine r_goto 198 dX11_tells_194 (by decide) ?_
        refine r_iadd dX11_tells_198 ?_
        refine r_istore7 dX11_tells_199 rfl ?_
        refine r_iinc8 (v := 1) dX11_tells_201 (by decide) rfl ?_
        refine r_goto 120 dX11_tells_204 (by decide) ?_
        rw [nI_1]; rw [rWy, if_neg c190] at ih; exact ih _ _
  · intro y9 y10
    refine r_iload dX11_tells_120 rfl ?_
    refine r_iload_n dX11_tells_122 rfl ?_
    refine r_ic_ge 207 dX11_tells_123 (by decide) (fun c123 => ?_) (fun c123 => ?_)
    · exact K _ _
    · exact absurd (nI_le (Nat.le_refl _) (by omega)) c123
set_option maxHeartbeats 1000000 in
theorem l_rtl2 {E : xCl} {ex : Bool} {I : Nat → Nat → Int32} {J : Nat → Nat → Int64} {P : Nat → Nat → Nat} (hP : Pok P) {q : Nat} (hq : q ≤ 11) {u bb : Int32} (d : Nat) {Q : Option Value → xS → Prop} (K : Q (some (.int (if u = 0 then (rMt (I 397) q 200).1 else (rMt (I 397) q 200).2))) (SH, I, J, P)) : ∀ j, j ≤ 200 → ∀ y7 y8 y9 y10, xR (xEx E ex (d + 1)) ex none yX11_tells cX11_tells (some .int) 106 [some (.ref 347), some (.int u), some (.int bb), some (.int (nI q)), some (.int (rMt (I 397) q j).1), some (.int (rMt (I 397) q j).2), some (.int (nI (j + 1))), y7, y8, y9, y10] [] (SH, I, J, P) Q := by
  refine r_for (fun j => ∀ y7 y8 y9 y10, xR (xEx E ex (d + 1)) ex none yX11_tells cX11_tells (some .int) 106 [some (.ref 347), some (.int u), some (.int bb), some (.int (nI q)), some (.int (rMt (I 397) q j).1), some (.int (rMt (I 397) q j).2), some (.int (nI (j + 1))), y7, y8, y9, y10] [] (SH, I, J, P) Q) _ ?_ ?_
  · intro j hj ih y7 y8 y9 y10
    refine r_iload dX11_tells_106 rfl ?_
    refine r_sipush (v := 200) dX11_tells_108 (by decide) ?_
    refine r_ic_gt 231 dX11_tells_111 (by decide) (fun c111 => ?_) (fun c111 => ?_)
    · exact absurd c111 (nI_nlt (a := 200) (b := j + 1) (by omega) (by omega))
    · refine r_iconst (v := 0) dX11_tells_114 (by decide) ?_
      refine r_istore7 dX11_tells_115 rfl ?_
      refine r_iconst (v := 0) dX11_tells_117 (by decide) ?_
      refine r_istore8 dX11_tells_118 rfl ?_
      refine l_rtl hP hq d (fun y9 y10 => ?_) 0 (Nat.zero_le _) _ _
      refine r_iload dX11_tells_207 rfl ?_
      refine r_iload dX11_tells_209 rfl ?_
      refine r_ic_gt 217 dX11_tells_211 (by decide) (fun c211 => ?_) (fun c211 => ?_)
      · refine r_iload dX11_tells_217 rfl ?_
        refine r_istore4 dX11_tells_219 rfl ?_
        refine r_iload dX11_tells_221 rfl ?_
        refine r_istore5 dX11_tells_223 rfl ?_
        refine r_iinc6 (v := 1) dX11_tells_225 (by decide) rfl ?_
        refine r_goto 106 dX11_tells_228 (by decide) ?_
        rw [nI_1]; rw [rMt_gt c211] at ih; exact ih _ _ _ _
      · refine r_goto 225 dX11_tells_214 (by decide) ?_
        refine r_iinc6 (v := 1) dX11_tells_225 (by decide) rfl ?_
        refine r_goto 106 dX11_tells_228 (by decide) ?_
        rw [nI_1]; rw [rMt_le c211] at ih; exact ih _ _ _ _
  · intro y7 y8 y9 y10
    refine r_iload dX11_tells_106 rfl ?_
    refine r_sipush (v := 200) dX11_tells_108 (by decide) ?_
    refine r_ic_gt 231 dX11_tells_111 (by decide) (fun c111 => ?_) (fun c111 => ?_)
    · refine r_iload_n dX11_tells_231 rfl ?_
      refine r_if_ne 240 dX11_tells_232 (by decide) (fun c232 => ?_) (fun c232 => ?_)
      · refine r_iload dX11_tells_240 rfl ?_
        exact r_iretq dX11_tells_242 rfl rfl (by rw [if_neg c232] at K; exact K)
      · refine r_iload dX11_tells_235 rfl ?_
        refine r_goto 242 dX11_tells_237 (by decide) ?_
        exact r_iretq dX11_tells_242 rfl rfl (by rw [if_pos c232] at K; exact K)
    · exact absurd (by decide) c111
theorem sPd_b {M : Nat → Prop} : ∀ n, n ≤ 12 → ∀ k, k < 12 → (dB (sPd M n) k ↔ k < n ∧ M k)
  | 0, _, k, hk => ⟨fun z => absurd z (dB_zero (by omega)), fun z => absurd z.1 (by omega)⟩
  | n + 1, hn, k, hk => by
    have ih := sPd_b (M := M) n (by omega) k hk
    by_cases h : M n
    · rw [sPd_t h, dB_or _ (by omega) (by omega), ih]
      constructor
      · rintro (⟨h1, h2⟩ | h1)
        · exact ⟨by omega, h2⟩
        · subst h1; exact ⟨by omega, h⟩
      · rintro ⟨h1, h2⟩
        by_cases h3 : k = n
        · exact Or.inr h3
        · exact Or.inl ⟨by omega, h2⟩
    · rw [sPd_f h, ih]
      constructor
      · rintro ⟨h1, h2⟩; exact ⟨by omega, h2⟩
      · rintro ⟨h1, h2⟩
        by_cases h3 : k = n
        · subst h3; exact absurd h2 h
        · exact ⟨by omega, h2⟩
def wT (I : Nat → Nat → Int32) (l : List Int32) : Nat → Nat → Int32 := fun a k => if a = 397 ∧ k < l.length then l.getD k 0 else I a k
theorem wT_o (I : Nat → Nat → Int32) (l : List Int32) {a : Nat} (h : a ≠ 397) (k : Nat) : wT I l a k = I a k := by simp [wT, h]
theorem wT_0 (I : Nat → Nat → Int32) : wT I [] = I := by funext a k; simp [wT]
theorem wT_s (I : Nat → Nat → Int32) (l : List Int32) (v : Int32) : xu (wT I l) 397 l.length v = wT I (l ++ [v]) := by
  funext a k
  simp only [xu, wT, List.length_append, List.length_singleton]
  by_cases ha : a = 397
  · subst ha
    by_cases hk : k = l.length
    · subst hk; simp
    · by_cases hl : k < l.length
      · rw [if_neg (fun z => hk z.2), if_pos ⟨rfl, hl⟩, if_pos ⟨rfl, by omega⟩]
        simp [List.getD_eq_getElem?_getD, List.getElem?_append_left hl]
      · rw [if_neg (fun z => hk z.2), if_neg (fun z => hl z.2), if_neg (fun z => by omega)]
  · simp [ha]
theorem rPl_x (I : Nat → Nat → Int32) {a : Nat} (h : a ≠ 347) (k : Nat) (v : Int32) : xu (rPl I) a k v = rPl (xu I a k v) := by
  unfold rPl
  rw [xu_cm _ _ _ (fun z => h z.1.symm), xu_cm (xu I 347 69 0) _ _ (fun z => h z.1.symm), xu_cm I _ _ (fun z => h z.1.symm)]
theorem vR_of {I I' : Nat → Nat → Int32} (h : ∀ a k, 376 ≤ a → a ≤ 390 → I' a k = I a k) (b : Nat) : vR I' b = vR I b := by
  funext f k
  simp only [vR, h 376 _ (by decide) (by decide), h 377 _ (by decide) (by decide), h 378 _ (by decide) (by decide), h 379 _ (by decide) (by decide), h 380 _ (by decide) (by decide), h 381 _ (by decide) (by decide), h 382 _ (by decide) (by decide), h 383 _ (by decide) (by decide), h 384 _ (by decide) (by decide), h 385 _ (by decide) (by decide), h 386 _ (by decide) (by decide), h 387 _ (by decide) (by decide), h 388 _ (by decide) (by decide), h 389 _ (by decide) (by decide), h 390 _ (by decide) (by decide)]
