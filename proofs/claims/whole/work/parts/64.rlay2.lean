/-! the reference: a bridge's view read off its rows -/
def bt (g : Nat → Int32) : Nat → Int32
  | 0 => 0
  | k + 1 => setB (bt g k) k (g k)
theorem bI_0 {k : Nat} (hk : k < 12) : bI 0 k = 0 := by rw [bI_v 0 hk]; simp
theorem bt_b {g : Nat → Int32} (hg : ∀ j, j < 12 → g j = 0 ∨ g j = 1) {k : Nat} (hk : k < 12) : ∀ n, n ≤ 12 → bI (bt g n) k = if k < n then g k else 0
  | 0, _ => by rw [bt, bI_0 hk]; simp
  | n + 1, hn => by
    rw [bt, bI_set _ (by omega) hk (hg n (by omega)), bt_b hg hk n (by omega)]
    by_cases h : k = n
    · subst h; simp
    · rw [if_neg h]
      by_cases h2 : k < n
      · rw [if_pos h2, if_pos (by omega)]
      · rw [if_neg h2, if_neg (by omega)]
def vR (I : Nat → Nat → Int32) (b : Nat) : Nat → Nat → Int32 := fun f k => if f = 1 then I 376 (6 * b + k) else if f = 2 then I 377 (6 * b + k) else if f = 3 then I 379 k else if f = 4 then I 380 k else if f = 5 then I 383 (12 * b + k) else if f = 6 then I 384 (12 * b + k) else if f = 7 then I 382 k else if f = 8 then I 381 k else if f = 9 then I 385 (12 * b + k) else if f = 10 then I 386 (12 * b + k) else if f = 11 then I 388 (8 * b + k) else if f = 12 then bt (fun j => I 387 (12 * b + j)) 12 else if f = 13 then I 378 b else if f = 14 then I 390 b else I 389 b
/-- two views alike as far as the rows go -/
def vA (V W : Nat → Nat → Int32) : Prop := (∀ k, k < 6 → V 1 k = W 1 k ∧ V 2 k = W 2 k) ∧ (∀ k, k < 12 → V 3 k = W 3 k ∧ V 4 k = W 4 k ∧ V 5 k = W 5 k ∧ V 6 k = W 6 k ∧ V 7 k = W 7 k ∧ V 8 k = W 8 k ∧ V 9 k = W 9 k ∧ V 10 k = W 10 k ∧ bI (V 12 0) k = bI (W 12 0) k) ∧ (∀ k, k < 8 → V 11 k = W 11 k) ∧ V 13 0 = W 13 0 ∧ V 14 0 = W 14 0 ∧ V 15 0 = W 15 0
theorem wR_ext (I : Nat → Nat → Int32) (b : Nat) {V W : Nat → Nat → Int32} (h : vA V W) : wR I b V = wR I b W := by
  obtain ⟨h1, h2, h3, h4, h5, h6⟩ := h
  funext a k
  simp only [wR]
  by_cases hc : (376 ≤ a ∧ a ≤ 390) ∧ (ro (a - 376) b ≤ k ∧ k < ro (a - 376) b + rq (a - 376))
  · rw [if_pos hc, if_pos hc]
    obtain ⟨⟨ha, ha'⟩, hk1, hk2⟩ := hc
    obtain ⟨j, hj⟩ : ∃ j, a - 376 = j := ⟨_, rfl⟩
    have ha2 : a = 376 + j := by omega
    have hj15 : j < 15 := by omega
    rw [hj] at hk1 hk2 ⊢
    have hk : k - ro j b < rq j := by omega
    generalize k - ro j b = q at hk ⊢
    subst ha2
    clear hk1 hk2 hj ha ha'
    match j, hj15 with
    | 0, _ => exact (h1 q hk).1
    | 1, _ => exact (h1 q hk).2
    | 2, _ => have : q = 0 := Nat.lt_one_iff.mp hk
              subst this; exact h4
    | 3, _ => exact (h2 q hk).1
    | 4, _ => exact (h2 q hk).2.1
    | 5, _ => exact (h2 q hk).2.2.2.2.2.1
    | 6, _ => exact (h2 q hk).2.2.2.2.1
    | 7, _ => exact (h2 q hk).2.2.1
    | 8, _ => exact (h2 q hk).2.2.2.1
    | 9, _ => exact (h2 q hk).2.2.2.2.2.2.1
    | 10, _ => exact (h2 q hk).2.2.2.2.2.2.2.1
    | 11, _ => exact (h2 q hk).2.2.2.2.2.2.2.2
    | 12, _ => exact h3 q hk
    | 13, _ => have : q = 0 := Nat.lt_one_iff.mp hk
               subst this; exact h6
    | 14, _ => have : q = 0 := Nat.lt_one_iff.mp hk
               subst this; exact h5
  · rw [if_neg hc, if_neg hc]
theorem wR_vR (I : Nat → Nat → Int32) (b : Nat) (hp : ∀ j, j < 12 → I 387 (12 * b + j) = 0 ∨ I 387 (12 * b + j) = 1) : wR I b (vR I b) = I := by
  funext a k
  simp only [wR]
  by_cases hc : (376 ≤ a ∧ a ≤ 390) ∧ (ro (a - 376) b ≤ k ∧ k < ro (a - 376) b + rq (a - 376))
  · rw [if_pos hc]
    obtain ⟨⟨ha, ha'⟩, hk1, hk2⟩ := hc
    obtain ⟨j, hj⟩ : ∃ j, a - 376 = j := ⟨_, rfl⟩
    have ha2 : a = 376 + j := by omega
    have hj15 : j < 15 := by omega
    rw [hj] at hk1 hk2 ⊢
    obtain ⟨q, hq⟩ : ∃ q, k = ro j b + q := ⟨k - ro j b, by omega⟩
    subst hq
    have hk : q < rq j := by omega
    rw [show ro j b + q - ro j b = q by omega]
    subst ha2
    clear hk1 hk2 hj ha ha'
    match j, hj15 with
    | 0, _ => rfl
    | 1, _ => rfl
    | 2, _ => have : q = 0 := Nat.lt_one_iff.mp hk
              subst this; exact congrArg (I 378) (show b = ro 2 b + 0 from (Nat.one_mul b).symm)
    | 3, _ => exact congrArg (I 379) (show q = ro 3 b + q from (Nat.zero_add q).symm)
    | 4, _ => exact congrArg (I 380) (show q = ro 4 b + q from (Nat.zero_add q).symm)
    | 5, _ => exact congrArg (I 381) (show q = ro 5 b + q from (Nat.zero_add q).symm)
    | 6, _ => exact congrArg (I 382) (show q = ro 6 b + q from (Nat.zero_add q).symm)
    | 7, _ => rfl
    | 8, _ => rfl
    | 9, _ => rfl
    | 10, _ => rfl
    | 11, _ => exact (bt_b hp hk 12 (Nat.le_refl _)).trans (if_pos hk)
    | 12, _ => rfl
    | 13, _ => have : q = 0 := Nat.lt_one_iff.mp hk
               subst this; exact congrArg (I 389) (show b = ro 13 b + 0 from (Nat.one_mul b).symm)
    | 14, _ => have : q = 0 := Nat.lt_one_iff.mp hk
               subst this; exact congrArg (I 390) (show b = ro 14 b + 0 from (Nat.one_mul b).symm)
  · rw [if_neg hc]
theorem rN1 (I W : Nat → Nat → Int32) {j : Nat} (hj : j < 6) : wR I 1 W 376 (nI j).toNatClampNeg = I 376 j := by
  rw [nI_clamp (by omega)]
  simp only [wR]
  rw [if_neg (fun z => by have h1 := z.2.1; have h2 : ro (376 - 376) 1 = 6 := rfl; omega)]
theorem rN2 (I W : Nat → Nat → Int32) {j : Nat} (hj : j < 6) : wR I 1 W 377 (nI j).toNatClampNeg = I 377 j := by
  rw [nI_clamp (by omega)]
  simp only [wR]
  rw [if_neg (fun z => by have h1 := z.2.1; have h2 : ro (377 - 376) 1 = 6 := rfl; omega)]
theorem rN5 (I W : Nat → Nat → Int32) {j : Nat} (hj : j < 12) : wR I 1 W 383 (nI j).toNatClampNeg = I 383 j := by
  rw [nI_clamp (by omega)]
  simp only [wR]
  rw [if_neg (fun z => by have h1 := z.2.1; have h2 : ro (383 - 376) 1 = 12 := rfl; omega)]
theorem rN6 (I W : Nat → Nat → Int32) {j : Nat} (hj : j < 12) : wR I 1 W 384 (nI j).toNatClampNeg = I 384 j := by
  rw [nI_clamp (by omega)]
  simp only [wR]
  rw [if_neg (fun z => by have h1 := z.2.1; have h2 : ro (384 - 376) 1 = 12 := rfl; omega)]
theorem rN9 (I W : Nat → Nat → Int32) {j : Nat} (hj : j < 12) : wR I 1 W 385 (nI j).toNatClampNeg = I 385 j := by
  rw [nI_clamp (by omega)]
  simp only [wR]
  rw [if_neg (fun z => by have h1 := z.2.1; have h2 : ro (385 - 376) 1 = 12 := rfl; omega)]
theorem rN10 (I W : Nat → Nat → Int32) {j : Nat} (hj : j < 12) : wR I 1 W 386 (nI j).toNatClampNeg = I 386 j := by
  rw [nI_clamp (by omega)]
  simp only [wR]
  rw [if_neg (fun z => by have h1 := z.2.1; have h2 : ro (386 - 376) 1 = 12 := rfl; omega)]
theorem rN11 (I W : Nat → Nat → Int32) {j : Nat} (hj : j < 8) : wR I 1 W 388 (nI j).toNatClampNeg = I 388 j := by
  rw [nI_clamp (by omega)]
  simp only [wR]
  rw [if_neg (fun z => by have h1 := z.2.1; have h2 : ro (388 - 376) 1 = 8 := rfl; omega)]
theorem rN12 (I W : Nat → Nat → Int32) {j : Nat} (hj : j < 12) : wR I 1 W 387 (nI j).toNatClampNeg = I 387 j := by
  rw [nI_clamp (by omega)]
  simp only [wR]
  rw [if_neg (fun z => by have h1 := z.2.1; have h2 : ro (387 - 376) 1 = 12 := rfl; omega)]
theorem rN13 (I W : Nat → Nat → Int32) : wR I 1 W 378 (0 : Int32).toNatClampNeg = I 378 0 := by
  rw [show (0 : Int32).toNatClampNeg = 0 from rfl]
  simp only [wR]
  rw [if_neg (fun z => by have h1 := z.2.1; have h2 : ro (378 - 376) 1 = 1 := rfl; omega)]
theorem rN14 (I W : Nat → Nat → Int32) : wR I 1 W 390 (0 : Int32).toNatClampNeg = I 390 0 := by
  rw [show (0 : Int32).toNatClampNeg = 0 from rfl]
  simp only [wR]
  rw [if_neg (fun z => by have h1 := z.2.1; have h2 : ro (390 - 376) 1 = 1 := rfl; omega)]
theorem rN15 (I W : Nat → Nat → Int32) : wR I 1 W 389 (0 : Int32).toNatClampNeg = I 389 0 := by
  rw [show (0 : Int32).toNatClampNeg = 0 from rfl]
  simp only [wR]
  rw [if_neg (fun z => by have h1 := z.2.1; have h2 : ro (389 - 376) 1 = 1 := rfl; omega)]
def lT1 (W I : Nat → Nat → Int32) : Nat → Nat → Nat → Int32
  | 0 => W
  | p + 1 => xu (xu (lT1 W I p) 1 p (I 376 p)) 2 p (I 377 p)
def lT2 (W I : Nat → Nat → Int32) : Nat → Nat → Nat → Int32
  | 0 => W
  | s + 1 => (fun X => xu X 12 0 (setB (X 12 0) s (I 387 s))) (xu (xu (xu (xu (lT2 W I s) 5 s (I 383 s)) 6 s (I 384 s)) 9 s (I 385 s)) 10 s (I 386 s))
def lT3 (W I : Nat → Nat → Int32) : Nat → Nat → Nat → Int32
  | 0 => W
  | c + 1 => xu (lT3 W I c) 11 c (I 388 c)
def lT (W I : Nat → Nat → Int32) : Nat → Nat → Int32 := xu (xu (lT3 (lT2 (xu (lT1 W I 6) 13 0 (I 378 0)) I 12) I 8) 15 0 (I 389 0)) 14 0 (I 390 0)
set_option maxHeartbeats 2000000 in
theorem l_lay3 {E : xCl} {ex : Bool} {I W : Nat → Nat → Int32} {e : Int32} {J : Nat → Nat → Int64} {P : Nat → Nat → Nat} (hP : Pok P) (hp : ∀ j, j < 12 → I 387 j = 0 ∨ I 387 j = 1) (d : Nat) : ∀ j, j ≤ 8 → xR (xEx E ex (d + 1)) ex none yX11_layTried cX11_layTried none 147 [some (.ref 347), some (.int (nI j))] [] (SH, wR (wE I e) 1 (lT3 (lT2 (xu (lT1 W I 6) 13 0 (I 378 0)) I 12) I j), J, P) (xEq none (SH, wR (wE (rPl I) e) 1 (lT W I), J, P)) := by
  refine r_for (fun j => xR (xEx E ex (d + 1)) ex none yX11_layTried cX11_layTried none 147 [some (.ref 347), some (.int (nI j))] [] (SH, wR (wE I e) 1 (lT3 (lT2 (xu (lT1 W I 6) 13 0 (I 378 0)) I 12) I j), J, P) (xEq none (SH, wR (wE (rPl I) e) 1 (lT W I), J, P))) _ ?_ ?_
  · intro j hj ih
    refine r_iload_n dX11_layTried_147 rfl ?_
    refine r_bipush (v := 8) dX11_layTried_148 (by decide) ?_
    refine r_ic_ge 174 dX11_layTried_150 (by decide) (fun c150 => ?_) (fun c150 => ?_)
    · exact absurd c150 (lt8 hj)
    · refine r_aload_n dX11_layTried_153 rfl ?_
      refine r_getR dX11_layTried_154 flX11_136 sh_347 (by decide) rfl (pf_347_65 hP) ?_
      refine r_bipush (v := 8) dX11_layTried_157 (by decide) ?_
      refine r_iload_n dX11_layTried_159 rfl ?_
      refine r_iadd dX11_layTried_160 ?_
      refine r_aload_n dX11_layTried_161 rfl ?_
      refine r_getR dX11_layTried_162 flX11_136 sh_347 (by decide) rfl (pf_347_65 hP) ?_
      refine r_iload_n dX11_layTried_165 rfl ?_
      refine r_ialv dX11_layTried_166 sh_388 (vp_in_nI (by omega) (by omega)) ((rN11 _ _ hj).trans (wE_o _ _ (by decide) _)) ?_
      refine r_iasv dX11_layTried_167 sh_388 (io8 (vp_in_nI hj (by omega))) (rP11 _ _ (vp_in_nI hj (by omega)) _) ?_
      refine r_iinc1 (v := 1) dX11_layTried_168 (by decide) rfl ?_
      refine r_goto 147 dX11_layTried_171 (by decide) ?_
      rw [nI_1, nI_clamp (n := j) (by omega)]; exact ih
  · refine r_iload_n dX11_layTried_147 rfl ?_
    refine r_bipush (v := 8) dX11_layTried_148 (by decide) ?_
    refine r_ic_ge 174 dX11_layTried_150 (by decide) (fun c150 => ?_) (fun c150 => ?_)
    · refine r_aload_n dX11_layTried_174 rfl ?_
      refine r_getR dX11_layTried_175 flX11_139 sh_347 (by decide) rfl (pf_347_66 hP) ?_
      refine r_iconst (v := 1) dX11_layTried_178 (by decide) ?_
      refine r_aload_n dX11_layTried_179 rfl ?_
      refine r_getR dX11_layTried_180 flX11_139 sh_347 (by decide) rfl (pf_347_66 hP) ?_
      refine r_iconst (v := 0) dX11_layTried_183 (by decide) ?_
      refine r_ialv dX11_layTried_184 sh_389 ix2_0 ((rN15 _ _).trans (wE_o _ _ (by decide) _)) ?_
      refine r_iasv dX11_layTried_185 sh_389 ix2_1 (rU15_1 _ _ _) ?_
      refine r_aload_n dX11_layTried_186 rfl ?_
      refine r_getR dX11_layTried_187 flX11_142 sh_347 (by decide) rfl (pf_347_67 hP) ?_
      refine r_iconst (v := 1) dX11_layTried_190 (by decide) ?_
      refine r_aload_n dX11_layTried_191 rfl ?_
      refine r_getR dX11_layTried_192 flX11_142 sh_347 (by decide) rfl (pf_347_67 hP) ?_
      refine r_iconst (v := 0) dX11_layTried_195 (by decide) ?_
      refine r_ialv dX11_layTried_196 sh_390 ix2_0 ((rN14 _ _).trans (wE_o _ _ (by decide) _)) ?_
      refine r_iasv dX11_layTried_197 sh_390 ix2_1 (rU14_1 _ _ _) ?_
      refine r_aload_n dX11_layTried_198 rfl ?_
      refine r_cV0v dX11_layTried_199 vlX11_397 sh_347 (Nat.le_of_ble_eq_true rfl) (k_plainTried (b := 1) d) ?_
      exact r_vret dX11_layTried_202 rfl rfl rfl
    · exact absurd (by decide) c150
set_option maxHeartbeats 2000000 in
theorem l_lay2 {E : xCl} {ex : Bool} {I W : Nat → Nat → Int32} {e : Int32} {J : Nat → Nat → Int64} {P : Nat → Nat → Nat} (hP : Pok P) (hp : ∀ j, j < 12 → I 387 j = 0 ∨ I 387 j = 1) (d : Nat) : ∀ j, j ≤ 12 → xR (xEx E ex (d + 1)) ex none yX11_layTried cX11_layTried none 58 [some (.ref 347), some (.int (nI j))] [] (SH, wR (wE I e) 1 (lT2 (xu (lT1 W I 6) 13 0 (I 378 0)) I j), J, P) (xEq none (SH, wR (wE (rPl I) e) 1 (lT W I), J, P)) := by
  refine r_for (fun j => xR (xEx E ex (d + 1)) ex none yX11_layTried cX11_layTried none 58 [some (.ref 347), some (.int (nI j))] [] (SH, wR (wE I e) 1 (lT2 (xu (lT1 W I 6) 13 0 (I 378 0)) I j), J, P) (xEq none (SH, wR (wE (rPl I) e) 1 (lT W I), J, P))) _ ?_ ?_
  · intro j hj ih
    refine r_iload_n dX11_layTried_58 rfl ?_
    refine r_bipush (v := 12) dX11_layTried_59 (by decide) ?_
    refine r_ic_ge 145 dX11_layTried_61 (by decide) (fun c61 => ?_) (fun c61 => ?_)
    · exact absurd c61 (lt12 hj)
    · refine r_aload_n dX11_layTried_64 rfl ?_
      refine r_getR dX11_layTried_65 flX11_121 sh_347 (by decide) rfl (pf_347_60 hP) ?_
      refine r_bipush (v := 12) dX11_layTried_68 (by decide) ?_
      refine r_iload_n dX11_layTried_70 rfl ?_
      refine r_iadd dX11_layTried_71 ?_
      refine r_aload_n dX11_layTried_72 rfl ?_
      refine r_getR dX11_layTried_73 flX11_121 sh_347 (by decide) rfl (pf_347_60 hP) ?_
      refine r_iload_n dX11_layTried_76 rfl ?_
      refine r_ialv dX11_layTried_77 sh_383 (vp_in_nI (by omega) (by omega)) ((rN5 _ _ hj).trans (wE_o _ _ (by decide) _)) ?_
      refine r_iasv dX11_layTried_78 sh_383 (io12 (in12 hj)) (rP5 _ _ (in12 hj) _) ?_
      refine r_aload_n dX11_layTried_79 rfl ?_
      refine r_getR dX11_layTried_80 flX11_124 sh_347 (by decide) rfl (pf_347_61 hP) ?_
      refine r_bipush (v := 12) dX11_layTried_83 (by decide) ?_
      refine r_iload_n dX11_layTried_85 rfl ?_
      refine r_iadd dX11_layTried_86 ?_
      refine r_aload_n dX11_layTried_87 rfl ?_
      refine r_getR dX11_layTried_88 flX11_124 sh_347 (by decide) rfl (pf_347_61 hP) ?_
      refine r_iload_n dX11_layTried_91 rfl ?_
      refine r_ialv dX11_layTried_92 sh_384 (vp_in_nI (by omega) (by omega)) ((rN6 _ _ hj).trans (wE_o _ _ (by decide) _)) ?_
      refine r_iasv dX11_layTried_93 sh_384 (io12 (in12 hj)) (rP6 _ _ (in12 hj) _) ?_
      refine r_aload_n dX11_layTried_94 rfl ?_
      refine r_getR dX11_layTried_95 flX11_127 sh_347 (by decide) rfl (pf_347_62 hP) ?_
      refine r_bipush (v := 12) dX11_layTried_98 (by decide) ?_
      refine r_iload_n dX11_layTried_100 rfl ?_
      refine r_iadd dX11_layTried_101 ?_
      refine r_aload_n dX11_layTried_102 rfl ?_
      refine r_getR dX11_layTried_103 flX11_127 sh_347 (by decide) rfl (pf_347_62 hP) ?_
      refine r_iload_n dX11_layTried_106 rfl ?_
      refine r_ialv dX11_layTried_107 sh_385 (vp_in_nI (by omega) (by omega)) ((rN9 _ _ hj).trans (wE_o _ _ (by decide) _)) ?_
      refine r_iasv dX11_layTried_108 sh_385 (io12 (in12 hj)) (rP9 _ _ (in12 hj) _) ?_
      refine r_aload_n dX11_layTried_109 rfl ?_
      refine r_getR dX11_layTried_110 flX11_130 sh_347 (by decide) rfl (pf_347_63 hP) ?_
      refine r_bipush (v := 12) dX11_layTried_113 (by decide) ?_
      refine r_iload_n dX11_layTried_115 rfl ?_
      refine r_iadd dX11_layTried_116 ?_
      refine r_aload_n dX11_layTried_117 rfl ?_
      refine r_getR dX11_layTried_118 flX11_130 sh_347 (by decide) rfl (pf_347_63 hP) ?_
      refine r_iload_n dX11_layTried_121 rfl ?_
      refine r_ialv dX11_layTried_122 sh_386 (vp_in_nI (by omega) (by omega)) ((rN10 _ _ hj).trans (wE_o _ _ (by decide) _)) ?_
      refine r_iasv dX11_layTried_123 sh_386 (io12 (in12 hj)) (rP10 _ _ (in12 hj) _) ?_
      refine r_aload_n dX11_layTried_124 rfl ?_
      refine r_getR dX11_layTried_125 flX11_133 sh_347 (by decide) rfl (pf_347_64 hP) ?_
      refine r_bipush (v := 12) dX11_layTried_128 (by decide) ?_
      refine r_iload_n dX11_layTried_130 rfl ?_
      refine r_iadd dX11_layTried_131 ?_
      refine r_aload_n dX11_layTried_132 rfl ?_
      refine r_getR dX11_layTried_133 flX11_133 sh_347 (by decide) rfl (pf_347_64 hP) ?_
      refine r_iload_n dX11_layTried_136 rfl ?_
      refine r_ialv dX11_layTried_137 sh_387 (vp_in_nI (by omega) (by omega)) ((rN12 _ _ hj).trans (wE_o _ _ (by decide) _)) ?_
      refine r_iasv dX11_layTried_138 sh_387 (io12 (in12 hj)) (rP12 _ _ (in12 hj) (hp j hj)) ?_
      refine r_iinc1 (v := 1) dX11_layTried_139 (by decide) rfl ?_
      refine r_goto 58 dX11_layTried_142 (by decide) ?_
      rw [nI_1, nI_clamp (n := j) (by omega)]; exact ih
  · refine r_iload_n dX11_layTried_58 rfl ?_
    refine r_bipush (v := 12) dX11_layTried_59 (by decide) ?_
    refine r_ic_ge 145 dX11_layTried_61 (by decide) (fun c61 => ?_) (fun c61 => ?_)
    · refine r_iconst (v := 0) dX11_layTried_145 (by decide) ?_
      refine r_istore_n1 dX11_layTried_146 rfl ?_
      exact l_lay3 hP hp d 0 (Nat.zero_le _)
    · exact absurd (by decide) c61
set_option maxHeartbeats 2000000 in
theorem l_lay1 {E : xCl} {ex : Bool} {I W : Nat → Nat → Int32} {e : Int32} {J : Nat → Nat → Int64} {P : Nat → Nat → Nat} (hP : Pok P) (hp : ∀ j, j < 12 → I 387 j = 0 ∨ I 387 j = 1) (d : Nat) : ∀ j, j ≤ 6 → xR (xEx E ex (d + 1)) ex none yX11_layTried cX11_layTried none 2 [some (.ref 347), some (.int (nI j))] [] (SH, wR (wE I e) 1 (lT1 W I j), J, P) (xEq none (SH, wR (wE (rPl I) e) 1 (lT W I), J, P)) := by
  refine r_for (fun j => xR (xEx E ex (d + 1)) ex none yX11_layTried cX11_layTried none 2 [some (.ref 347), some (.int (nI j))] [] (SH, wR (wE I e) 1 (lT1 W I j), J, P) (xEq none (SH, wR (wE (rPl I) e) 1 (lT W I), J, P))) _ ?_ ?_
  · intro j hj ih
    refine r_iload_n dX11_layTried_2 rfl ?_
    refine r_bipush (v := 6) dX11_layTried_3 (by decide) ?_
    refine r_ic_ge 44 dX11_layTried_5 (by decide) (fun c5 => ?_) (fun c5 => ?_)
    · exact absurd c5 (lt6n hj)
    · refine r_aload_n dX11_layTried_8 rfl ?_
      refine r_getR dX11_layTried_9 flX11_100 sh_347 (by decide) rfl (pf_347_53 hP) ?_
      refine r_bipush (v := 6) dX11_layTried_12 (by decide) ?_
      refine r_iload_n dX11_layTried_14 rfl ?_
      refine r_iadd dX11_layTried_15 ?_
      refine r_aload_n dX11_layTried_16 rfl ?_
      refine r_getR dX11_layTried_17 flX11_100 sh_347 (by decide) rfl (pf_347_53 hP) ?_
      refine r_iload_n dX11_layTried_20 rfl ?_
      refine r_ialv dX11_layTried_21 sh_376 (vp_in_nI (by omega) (by omega)) ((rN1 _ _ hj).trans (wE_o _ _ (by decide) _)) ?_
      refine r_iasv dX11_layTried_22 sh_376 (io6 (in6n hj)) (rP1 _ _ (in6n hj) _) ?_
      refine r_aload_n dX11_layTried_23 rfl ?_
      refine r_getR dX11_layTried_24 flX11_103 sh_347 (by decide) rfl (pf_347_54 hP) ?_
      refine r_bipush (v := 6) dX11_layTried_27 (by decide) ?_
      refine r_iload_n dX11_layTried_29 rfl ?_
      refine r_iadd dX11_layTried_30 ?_
      refine r_aload_n dX11_layTried_31 rfl ?_
      refine r_getR dX11_layTried_32 flX11_103 sh_347 (by decide) rfl (pf_347_54 hP) ?_
      refine r_iload_n dX11_layTried_35 rfl ?_
      refine r_ialv dX11_layTried_36 sh_377 (vp_in_nI (by omega) (by omega)) ((rN2 _ _ hj).trans (wE_o _ _ (by decide) _)) ?_
      refine r_iasv dX11_layTried_37 sh_377 (io6 (in6n hj)) (rP2 _ _ (in6n hj) _) ?_
      refine r_iinc1 (v := 1) dX11_layTried_38 (by decide) rfl ?_
      refine r_goto 2 dX11_layTried_41 (by decide) ?_
      rw [nI_1, nI_clamp (n := j) (by omega)]; exact ih
  · refine r_iload_n dX11_layTried_2 rfl ?_
    refine r_bipush (v := 6) dX11_layTried_3 (by decide) ?_
    refine r_ic_ge 44 dX11_layTried_5 (by decide) (fun c5 => ?_) (fun c5 => ?_)
    · refine r_aload_n dX11_layTried_44 rfl ?_
      refine r_getR dX11_layTried_45 flX11_106 sh_347 (by decide) rfl (pf_347_55 hP) ?_
      refine r_iconst (v := 1) dX11_layTried_48 (by decide) ?_
      refine r_aload_n dX11_layTried_49 rfl ?_
      refine r_getR dX11_layTried_50 flX11_106 sh_347 (by decide) rfl (pf_347_55 hP) ?_
      refine r_iconst (v := 0) dX11_layTried_53 (by decide) ?_
      refine r_ialv dX11_layTried_54 sh_378 ix2_0 ((rN13 _ _).trans (wE_o _ _ (by decide) _)) ?_
      refine r_iasv dX11_layTried_55 sh_378 ix2_1 (rU13_1 _ _ _) ?_
      refine r_iconst (v := 0) dX11_layTried_56 (by decide) ?_
      refine r_istore_n1 dX11_layTried_57 rfl ?_
      exact l_lay2 hP hp d 0 (Nat.zero_le _)
    · exact absurd (by decide) c5
set_option maxHeartbeats 1000000 in
theorem k_lay {E : xCl} {ex : Bool} {I W : Nat → Nat → Int32} {e : Int32} {J : Nat → Nat → Int64} {P : Nat → Nat → Nat} (hP : Pok P) (hp : ∀ j, j < 12 → I 387 j = 0 ∨ I 387 j = 1) (d : Nat) : xEx E ex (d + 2) yX11_layTried [.ref 347] (SH, wR (wE I e) 1 W, J, P) none (SH, wR (wE (rPl I) e) 1 (lT W I), J, P) := by
  refine x_enter cqX11_layTried [some (.ref 347), none] rfl (by simp [lg_sl, Value.category]) ?_
  refine r_iconst (v := 0) dX11_layTried_0 (by decide) ?_
  refine r_istore_n1 dX11_layTried_1 rfl ?_
  exact l_lay1 hP hp d 0 (Nat.zero_le _)
theorem lT1_v (W I : Nat → Nat → Int32) : ∀ n, (∀ k, lT1 W I n 1 k = if k < n then I 376 k else W 1 k) ∧ (∀ k, lT1 W I n 2 k = if k < n then I 377 k else W 2 k) ∧ ∀ f k, f ≠ 1 → f ≠ 2 → lT1 W I n f k = W f k
  | 0 => ⟨fun k => by simp [lT1], fun k => by simp [lT1], fun f k _ _ => rfl⟩
  | n + 1 => by
    obtain ⟨h1, h2, h3⟩ := lT1_v W I n
    refine ⟨fun k => ?_, fun k => ?_, fun f k hf1 hf2 => ?_⟩
    · rw [lT1, xu_f _ _ (by decide)]
      simp only [xu, true_and]
      by_cases hk : k = n
      · subst hk; simp
      · rw [if_neg hk, h1 k]
        by_cases h : k < n
        · rw [if_pos h, if_pos (by omega)]
        · rw [if_neg h, if_neg (by omega)]
    · rw [lT1]
      simp only [xu, true_and]
      by_cases hk : k = n
      · subst hk; simp
      · rw [if_neg hk, if_neg (by simp), h2 k]
        by_cases h : k < n
        · rw [if_pos h, if_pos (by omega)]
        · rw [if_neg h, if_neg (by omega)]
    · rw [lT1, xu_f _ _ hf2, xu_f _ _ hf1, h3 f k hf1 hf2]
theorem lT3_v (W I : Nat → Nat → Int32) : ∀ n, (∀ k, lT3 W I n 11 k = if k < n then I 388 k else W 11 k) ∧ ∀ f k, f ≠ 11 → lT3 W I n f k = W f k
  | 0 => ⟨fun k => by simp [lT3], fun f k _ => rfl⟩
  | n + 1 => by
    obtain ⟨h1, h3⟩ := lT3_v W I n
    refine ⟨fun k => ?_, fun f k hf => ?_⟩
    · rw [lT3]
      simp only [xu, true_and]
      by_cases hk : k = n
      · subst hk; simp
      · rw [if_neg hk, h1 k]
        by_cases h : k < n
        · rw [if_pos h, if_pos (by omega)]
        · rw [if_neg h, if_neg (by omega)]
    · rw [lT3, xu_f _ _ hf, h3 f k hf]
theorem lT2_v (W I : Nat → Nat → Int32) (hp : ∀ j, j < 12 → I 387 j = 0 ∨ I 387 j = 1) : ∀ n, n ≤ 12 → (∀ k, k < n → lT2 W I n 5 k = I 383 k ∧ lT2 W I n 6 k = I 384 k ∧ lT2 W I n 9 k = I 385 k ∧ lT2 W I n 10 k = I 386 k ∧ bI (lT2 W I n 12 0) k = I 387 k) ∧ ∀ f k, f ≠ 5 → f ≠ 6 → f ≠ 9 → f ≠ 10 → f ≠ 12 → lT2 W I n f k = W f k
  | 0, _ => ⟨fun k h => absurd h (by omega), fun f k _ _ _ _ _ => rfl⟩
  | n + 1, hn => by
    obtain ⟨h1, h3⟩ := lT2_v W I hp n (by omega)
    refine ⟨fun k hk => ?_, fun f k a b c d e => ?_⟩
    · rw [lT2]
      simp only [xu]
      by_cases h : k = n
      · subst h
        refine ⟨by simp, by simp, by simp, by simp, ?_⟩
        simp only [and_self, if_true]
        rw [bI_set _ (by omega) (by omega) (hp k (by omega)), if_pos rfl]
      · obtain ⟨a1, a2, a3, a4, a5⟩ := h1 k (by omega)
        refine ⟨by simp [h, a1], by simp [h, a2], by simp [h, a3], by simp [h, a4], ?_⟩
        simp only [and_self, if_true]
        rw [bI_set _ (by omega) (by omega) (hp n (by omega)), if_neg h]
        simpa using a5
    · rw [lT2]
      dsimp only
      rw [xu_f _ _ e, xu_f _ _ d, xu_f _ _ c, xu_f _ _ b, xu_f _ _ a, h3 f k a b c d e]
theorem lT_v (W I : Nat → Nat → Int32) (hp : ∀ j, j < 12 → I 387 j = 0 ∨ I 387 j = 1) (hW : ∀ k, k < 12 → W 3 k = I 379 k ∧ W 4 k = I 380 k ∧ W 7 k = I 382 k ∧ W 8 k = I 381 k) : vA (lT W I) (vR I 0) := by
  have e3 := lT3_v (lT2 (xu (lT1 W I 6) 13 0 (I 378 0)) I 12) I 8
  have e2 := lT2_v (xu (lT1 W I 6) 13 0 (I 378 0)) I hp 12 (Nat.le_refl _)
  have e1 := lT1_v W I 6
  have g : ∀ f k, f ≠ 14 → f ≠ 15 → f ≠ 11 → lT W I f k = lT2 (xu (lT1 W I 6) 13 0 (I 378 0)) I 12 f k := fun f k h1 h2 h3 => by
    rw [lT, xu_f _ _ h1, xu_f _ _ h2, e3.2 f k h3]
  have g2 : ∀ f k, f ≠ 14 → f ≠ 15 → f ≠ 11 → f ≠ 5 → f ≠ 6 → f ≠ 9 → f ≠ 10 → f ≠ 12 → f ≠ 13 → lT W I f k = lT1 W I 6 f k := fun f k h1 h2 h3 h5 h6 h9 h10 h12 h13 => by
    rw [g f k h1 h2 h3, e2.2 f k h5 h6 h9 h10 h12, xu_f _ _ h13]
  refine ⟨fun k hk => ⟨?_, ?_⟩, fun k hk => ⟨?_, ?_, ?_, ?_, ?_, ?_, ?_, ?_, ?_⟩, fun k hk => ?_, ?_, ?_, ?_⟩
  · rw [g2 1 k (by decide) (by decide) (by decide) (by decide) (by decide) (by decide) (by decide) (by decide) (by decide), e1.1, if_pos hk]; simp [vR]
  · rw [g2 2 k (by decide) (by decide) (by decide) (by decide) (by decide) (by decide) (by decide) (by decide) (by decide), e1.2.1, if_pos hk]; simp [vR]
  · rw [g2 3 k (by decide) (by decide) (by decide) (by decide) (by decide) (by decide) (by decide) (by decide) (by decide), e1.2.2 3 k (by decide) (by decide), (hW k hk).1]; simp [vR]
  · rw [g2 4 k (by decide) (by decide) (by decide) (by decide) (by decide) (by decide) (by decide) (by decide) (by decide), e1.2.2 4 k (by decide) (by decide), (hW k hk).2.1]; simp [vR]
  · rw [g 5 k (by decide) (by decide) (by decide), (e2.1 k hk).1]; simp [vR]
  · rw [g 6 k (by decide) (by decide) (by decide), (e2.1 k hk).2.1]; simp [vR]
  · rw [g2 7 k (by decide) (by decide) (by decide) (by decide) (by decide) (by decide) (by decide) (by decide) (by decide), e1.2.2 7 k (by decide) (by decide), (hW k hk).2.2.1]; simp [vR]
  · rw [g2 8 k (by decide) (by decide) (by decide) (by decide) (by decide) (by decide) (by decide) (by decide) (by decide), e1.2.2 8 k (by decide) (by decide), (hW k hk).2.2.2]; simp [vR]
  · rw [g 9 k (by decide) (by decide) (by decide), (e2.1 k hk).2.2.1]; simp [vR]
  · rw [g 10 k (by decide) (by decide) (by decide), (e2.1 k hk).2.2.2.1]; simp [vR]
  · rw [g 12 0 (by decide) (by decide) (by decide), (e2.1 k hk).2.2.2.2]
    have := bt_b (g := fun j => I 387 (12 * 0 + j)) (by simpa using hp) hk 12 (Nat.le_refl _)
    rw [if_pos hk] at this
    simpa [vR] using this.symm
  · rw [lT, xu_f _ _ (by decide), xu_f _ _ (by decide), e3.1, if_pos hk]; simp [vR]
  · rw [g 13 0 (by decide) (by decide) (by decide), e2.2 13 0 (by decide) (by decide) (by decide) (by decide) (by decide), xu_s]; simp [vR]
  · rw [lT, xu_s]; simp [vR]
  · rw [lT, xu_f _ _ (by decide), xu_s]; simp [vR]
theorem k_layTried {E : xCl} {ex : Bool} {I : Nat → Nat → Int32} {e : Int32} {J : Nat → Nat → Int64} {P : Nat → Nat → Nat} (hP : Pok P) (hp : ∀ j, j < 24 → I 387 j = 0 ∨ I 387 j = 1) (d : Nat) : xEx E ex (d + 2) yX11_layTried [.ref 347] (SH, wE I e, J, P) none (SH, wR (wE (rPl I) e) 1 (vR I 0), J, P) := by
  have h := k_lay (E := E) (ex := ex) (I := I) (W := vR (wE I e) 1) (e := e) (J := J) hP (fun j hj => hp j (by omega)) d
  rw [wR_vR (wE I e) 1 (fun j hj => by rw [wE_o _ _ (by decide)]; exact hp _ (by omega)), wR_ext (wE (rPl I) e) 1 (lT_v (vR (wE I e) 1) I (fun j hj => hp j (by omega)) (fun k hk => ⟨by simp [vR, wE_o], by simp [vR, wE_o], by simp [vR, wE_o], by simp [vR, wE_o]⟩))] at h
  exact h
