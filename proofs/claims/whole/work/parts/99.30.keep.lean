/-! the reference keeps a text -/
def cpj (M : Nat → Nat → Int32) (c n j : Nat) : Nat → Nat → Int32 := fun a k => if a = c ∧ k < j then M c (n + k) else M a k
theorem cpj_0 (M : Nat → Nat → Int32) (c n : Nat) : cpj M c n 0 = M := by
  funext a k
  simp only [cpj]
  rw [if_neg (by omega)]
theorem cpj_r (M : Nat → Nat → Int32) {c n j : Nat} (hj : j ≤ n) : cpj M c n j c (n + j) = M c (n + j) := by
  simp only [cpj]
  rw [if_neg (by omega)]
theorem cpj_s (M : Nat → Nat → Int32) (c n j : Nat) : xu (cpj M c n j) c j (M c (n + j)) = cpj M c n (j + 1) := by
  funext a k
  simp only [xu, cpj]
  by_cases e : a = c ∧ k = j
  · obtain ⟨rfl, rfl⟩ := e
    rw [if_pos ⟨rfl, rfl⟩, if_pos (by omega)]
  · rw [if_neg e]
    by_cases e2 : a = c ∧ k < j
    · rw [if_pos e2, if_pos (by omega)]
    · rw [if_neg e2, if_neg (by omega)]
set_option maxHeartbeats 1000000 in
theorem cp_l {M : Nat → Nat → Int32} {c N n : Nat} (hc : 347 ≤ c ∧ c ≤ 403) (hsh : SH[c]? = some (.inr 0, N)) (h2 : 2 * n ≤ N) (hN : N ≤ 1000) : ∀ d j, j + d = n → rAt 0 yX11_copies cX11_copies none 2 [some (.ref c), some (.int (nI n)), some (.int (nI j))] [] (cpj M c n j) none (cpj M c n n) := by
  intro d
  induction d with
  | zero =>
    intro j hj E ex I J P n2 hn hP
    have e : j = n := by omega
    subst e
    refine r_iload_n dX11_copies_2 rfl ?_
    refine r_iload_n dX11_copies_3 rfl ?_
    refine r_ic_ge 21 dX11_copies_4 (by decide) (fun c4 => ?_) (fun c4 => ?_)
    · exact r_vret dX11_copies_21 rfl rfl rfl
    · exact absurd (nI_le (by omega) (by omega)) c4
  | succ d ih =>
    intro j hj E ex I J P n2 hn hP
    refine r_iload_n dX11_copies_2 rfl ?_
    refine r_iload_n dX11_copies_3 rfl ?_
    refine r_ic_ge 21 dX11_copies_4 (by decide) (fun c4 => ?_) (fun c4 => ?_)
    · exact absurd c4 (nI_ge (by omega) (by omega))
    · refine r_aload_n dX11_copies_7 rfl ?_
      refine r_iload_n dX11_copies_8 rfl ?_
      refine r_aload_n dX11_copies_9 rfl ?_
      refine r_iload_n dX11_copies_10 rfl ?_
      refine r_iload_n dX11_copies_11 rfl ?_
      refine r_iadd dX11_copies_12 ?_
      rw [show nI n + nI j = nI (n + j) from nI_add n j]
      refine r_ialv dX11_copies_13 hsh (vp_in_nI (n := n + j) (by omega) (by omega)) ((uR_r hc _).trans ((congrArg (cpj M c n j c) (nI_clamp (n := n + j) (by omega))).trans (cpj_r M (by omega)))) ?_
      refine r_iasv dX11_copies_14 hsh (vp_in_nI (n := j) (by omega) (by omega)) ((congrArg (fun z => xu _ _ z _) (nI_clamp (n := j) (by omega))).trans ((uR_x hc _ _).trans (congrArg (fun z => uR z _) (cpj_s M c n j)))) ?_
      refine r_iinc2 (v := 1) dX11_copies_15 (by decide) rfl ?_
      rw [nI_1]
      refine r_goto 2 dX11_copies_18 (by decide) ?_
      exact ih (j + 1) (by omega) E ex I J P n2 hn hP
theorem cp_r {M : Nat → Nat → Int32} {c N n : Nat} (hc : 347 ≤ c ∧ c ≤ 403) (hsh : SH[c]? = some (.inr 0, N)) (h2 : 2 * n ≤ N) (hN : N ≤ 1000) : rRun 1 yX11_copies [.ref c, .int (nI n)] M none (cpj M c n n) := by
  refine rAt.run (h := 0) cqX11_copies (ls := [some (.ref c), some (.int (nI n)), none]) rfl (by simp [lg_sl, Value.category]) ?_
  have z := cp_l (M := M) hc hsh h2 hN n 0 (by omega)
  rw [cpj_0] at z
  intro E ex I J P n2 hn hP
  refine r_iconst (v := 0) dX11_copies_0 (by decide) ?_
  refine r_istore_n2 dX11_copies_1 rfl ?_
  exact z E ex I J P n2 hn hP
def wd (a : Nat) : Nat := if a = 351 then 2 else if a ≤ 355 then 6 else if a ≤ 362 then 10 else if a ≤ 365 then 8 else if a ≤ 368 then 3 else 64
def kpP (m : Nat) (M : Nat → Nat → Int32) : Nat → Nat → Int32 := fun a k => if a = 347 ∧ 12 ≤ k ∧ k ≤ 15 then M 347 (k + 4) else if (351 ≤ a ∧ a < m ∧ a ≤ 371) ∧ k < wd a then M a (wd a + k) else M a k
theorem kpP_s {c n : Nat} (M : Nat → Nat → Int32) (hc : 351 ≤ c ∧ c ≤ 371) (hw : wd c = n) : cpj (kpP c M) c n n = kpP (c + 1) M := by
  subst hw
  funext a k
  simp only [cpj, kpP]
  by_cases e : a = c ∧ k < wd c
  · obtain ⟨rfl, e⟩ := e
    rw [if_pos ⟨rfl, e⟩, if_neg (by omega), if_neg (by omega), if_neg (by omega), if_pos (by omega)]
  · rw [if_neg e]
    by_cases e0 : a = 347 ∧ 12 ≤ k ∧ k ≤ 15
    · rw [if_pos e0, if_pos e0]
    · rw [if_neg e0, if_neg e0]
      by_cases e1 : (351 ≤ a ∧ a < c ∧ a ≤ 371) ∧ k < wd a
      · rw [if_pos e1, if_pos (by omega)]
      · rw [if_neg e1, if_neg (fun z => by
          by_cases e2 : a = c
          · subst e2; exact e ⟨rfl, z.2⟩
          · exact e1 ⟨⟨z.1.1, by omega, z.1.2.2⟩, z.2⟩)]
theorem cpk_r {M : Nat → Nat → Int32} {c N n : Nat} (hc : 351 ≤ c ∧ c ≤ 371) (hw : wd c = n) (hsh : SH[c]? = some (.inr 0, N)) (h2 : 2 * n ≤ N) (hN : N ≤ 1000) : rRun 1 yX11_copies [.ref c, .int (nI n)] (kpP c M) none (kpP (c + 1) M) := by
  have z := cp_r (M := kpP c M) (c := c) (by omega) hsh h2 hN
  rw [kpP_s M hc hw] at z
  exact z
theorem kpP_h (M : Nat → Nat → Int32) : xu (xu (xu (xu M 347 12 (M 347 16)) 347 13 (M 347 17)) 347 14 (M 347 18)) 347 15 (M 347 19) = kpP 351 M := by
  funext a k
  simp only [kpP]
  rw [if_neg (show ¬ ((351 ≤ a ∧ a < 351 ∧ a ≤ 371) ∧ k < wd a) by omega)]
  by_cases e : a = 347 ∧ 12 ≤ k ∧ k ≤ 15
  · obtain ⟨rfl, e1, e2⟩ := e
    rw [if_pos ⟨rfl, e1, e2⟩]
    rcases (show k = 12 ∨ k = 13 ∨ k = 14 ∨ k = 15 by omega) with rfl | rfl | rfl | rfl
    · rw [xu_ne (by omega), xu_ne (by omega), xu_ne (by omega), xu_s]
    · rw [xu_ne (by omega), xu_ne (by omega), xu_s]
    · rw [xu_ne (by omega), xu_s]
    · rw [xu_s]
  · rw [if_neg e, xu_ne (by omega), xu_ne (by omega), xu_ne (by omega), xu_ne (by omega)]
theorem kpP_b (M : Nat → Nat → Int32) : xu (xu (xu (kpP 366 M) 366 0 (M 366 3)) 366 1 (M 366 4)) 366 2 (M 366 5) = kpP 367 M := by
  funext a k
  by_cases e : a = 366 ∧ k < 3
  · obtain ⟨rfl, e⟩ := e
    have : kpP 367 M 366 k = M 366 (3 + k) := by
      simp only [kpP]
      rw [if_neg (by omega), if_pos ⟨by omega, e⟩]
      rfl
    rw [this]
    rcases (show k = 0 ∨ k = 1 ∨ k = 2 by omega) with rfl | rfl | rfl
    · rw [xu_ne (by omega), xu_ne (by omega), xu_s]
    · rw [xu_ne (by omega), xu_s]
    · rw [xu_s]
  · rw [xu_ne (by omega), xu_ne (by omega), xu_ne (by omega)]
    simp only [kpP]
    by_cases e0 : a = 347 ∧ 12 ≤ k ∧ k ≤ 15
    · rw [if_pos e0, if_pos e0]
    · rw [if_neg e0, if_neg e0]
      by_cases e1 : (351 ≤ a ∧ a < 366 ∧ a ≤ 371) ∧ k < wd a
      · rw [if_pos e1, if_pos (by omega)]
      · rw [if_neg e1, if_neg (fun z => by
          by_cases e2 : a = 366
          · subst e2; exact e ⟨rfl, z.2⟩
          · exact e1 ⟨⟨z.1.1, by omega, z.1.2.2⟩, z.2⟩)]
theorem kpP_366 (M : Nat → Nat → Int32) (k : Nat) : kpP 366 M 366 k = M 366 k := by
  simp only [kpP]
  rw [if_neg (by omega), if_neg (by omega)]
theorem nb01 {x : Int32} (h : x = 0 ∨ x = 1) : vp_nar .boolean x = x := by rcases h with rfl | rfl <;> rfl
set_option maxHeartbeats 4000000 in
theorem kpt_r {E : xCl} {ex : Bool} {M I : Nat → Nat → Int32} {J : Nat → Nat → Int64} {P : Nat → Nat → Nat} (hP : Pok P) (h366 : ∀ l, l < 3 → M 366 (3 + l) = 0 ∨ M 366 (3 + l) = 1) {n : Nat} (hn : 1 ≤ n) {Q : Option Value → xS → Prop} (cont : xR (xEx E ex n) ex none yX11_keepText cX11_keepText none 236 [some (.ref 347), some (.int 3)] [] (SH, uR (kpP 372 M) I, J, P) Q) : xR (xEx E ex n) ex none yX11_keepText cX11_keepText none 0 [some (.ref 347), none] [] (SH, uR M I, J, P) Q := by
  refine r_aload_n dX11_keepText_0 rfl ?_
  refine r_aload_n dX11_keepText_1 rfl ?_
  refine r_getIv dX11_keepText_2 flX11_255 sh_347 (by decide) rfl (uR_r (by decide) _) ?_
  refine r_putIv dX11_keepText_5 flX11_270 ⟨_, _, _, rfl, Or.inl rfl⟩ sh_347 (by decide) rfl rfl rfl (uR_x (by decide) _ _) ?_
  refine r_aload_n dX11_keepText_8 rfl ?_
  refine r_aload_n dX11_keepText_9 rfl ?_
  refine r_getIv dX11_keepText_10 flX11_258 sh_347 (by decide) rfl (uR_v (by decide) (xu_ne (by decide))) ?_
  refine r_putIv dX11_keepText_13 flX11_273 ⟨_, _, _, rfl, Or.inl rfl⟩ sh_347 (by decide) rfl rfl rfl (uR_x (by decide) _ _) ?_
  refine r_aload_n dX11_keepText_16 rfl ?_
  refine r_aload_n dX11_keepText_17 rfl ?_
  refine r_getIv dX11_keepText_18 flX11_261 sh_347 (by decide) rfl (uR_v (by decide) ((xu_ne (by decide)).trans (xu_ne (by decide)))) ?_
  refine r_putIv dX11_keepText_21 flX11_276 ⟨_, _, _, rfl, Or.inl rfl⟩ sh_347 (by decide) rfl rfl rfl (uR_x (by decide) _ _) ?_
  refine r_aload_n dX11_keepText_24 rfl ?_
  refine r_aload_n dX11_keepText_25 rfl ?_
  refine r_getIv dX11_keepText_26 flX11_264 sh_347 (by decide) rfl (uR_v (by decide) ((xu_ne (by decide)).trans ((xu_ne (by decide)).trans (xu_ne (by decide))))) ?_
  refine r_putIv dX11_keepText_29 flX11_279 ⟨_, _, _, rfl, Or.inl rfl⟩ sh_347 (by decide) rfl rfl rfl (uR_x (by decide) _ _) ?_
  rw [kpP_h M]
  refine r_aload_n dX11_keepText_32 rfl ?_
  refine r_getR dX11_keepText_33 flX11_24 sh_347 (by decide) rfl (pf_347_21 hP) ?_
  refine r_iconst (v := 2) dX11_keepText_36 (by decide) ?_
  refine r_cS2v dX11_keepText_37 slX11_282 (Nat.le_of_ble_eq_true rfl) (cpk_r (M := M) (c := 351) (n := 2) (by decide) (by decide) sh_351 (by decide) (by decide) E ex I J P n (by omega) hP) ?_
  refine r_aload_n dX11_keepText_40 rfl ?_
  refine r_getR dX11_keepText_41 flX11_27 sh_347 (by decide) rfl (pf_347_22 hP) ?_
  refine r_bipush (v := 6) dX11_keepText_44 (by decide) ?_
  refine r_cS2v dX11_keepText_46 slX11_282 (Nat.le_of_ble_eq_true rfl) (cpk_r (M := M) (c := 352) (n := 6) (by decide) (by decide) sh_352 (by decide) (by decide) E ex I J P n (by omega) hP) ?_
  refine r_aload_n dX11_keepText_49 rfl ?_
  refine r_getR dX11_keepText_50 flX11_30 sh_347 (by decide) rfl (pf_347_23 hP) ?_
  refine r_bipush (v := 6) dX11_keepText_53 (by decide) ?_
  refine r_cS2v dX11_keepText_55 slX11_282 (Nat.le_of_ble_eq_true rfl) (cpk_r (M := M) (c := 353) (n := 6) (by decide) (by decide) sh_353 (by decide) (by decide) E ex I J P n (by omega) hP) ?_
  refine r_aload_n dX11_keepText_58 rfl ?_
  refine r_getR dX11_keepText_59 flX11_33 sh_347 (by decide) rfl (pf_347_24 hP) ?_
  refine r_bipush (v := 6) dX11_keepText_62 (by decide) ?_
  refine r_cS2v dX11_keepText_64 slX11_282 (Nat.le_of_ble_eq_true rfl) (cpk_r (M := M) (c := 354) (n := 6) (by decide) (by decide) sh_354 (by decide) (by decide) E ex I J P n (by omega) hP) ?_
  refine r_aload_n dX11_keepText_67 rfl ?_
  refine r_getR dX11_keepText_68 flX11_36 sh_347 (by decide) rfl (pf_347_25 hP) ?_
  refine r_bipush (v := 6) dX11_keepText_71 (by decide) ?_
  refine r_cS2v dX11_keepText_73 slX11_282 (Nat.le_of_ble_eq_true rfl) (cpk_r (M := M) (c := 355) (n := 6) (by decide) (by decide) sh_355 (by decide) (by decide) E ex I J P n (by omega) hP) ?_
  refine r_aload_n dX11_keepText_76 rfl ?_
  refine r_getR dX11_keepText_77 flX11_39 sh_347 (by decide) rfl (pf_347_26 hP) ?_
  refine r_bipush (v := 10) dX11_keepText_80 (by decide) ?_
  refine r_cS2v dX11_keepText_82 slX11_282 (Nat.le_of_ble_eq_true rfl) (cpk_r (M := M) (c := 356) (n := 10) (by decide) (by decide) sh_356 (by decide) (by decide) E ex I J P n (by omega) hP) ?_
  refine r_aload_n dX11_keepText_85 rfl ?_
  refine r_getR dX11_keepText_86 flX11_42 sh_347 (by decide) rfl (pf_347_27 hP) ?_
  refine r_bipush (v := 10) dX11_keepText_89 (by decide) ?_
  refine r_cS2v dX11_keepText_91 slX11_282 (Nat.le_of_ble_eq_true rfl) (cpk_r (M := M) (c := 357) (n := 10) (by decide) (by decide) sh_357 (by decide) (by decide) E ex I J P n (by omega) hP) ?_
  refine r_aload_n dX11_keepText_94 rfl ?_
  refine r_getR dX11_keepText_95 flX11_45 sh_347 (by decide) rfl (pf_347_28 hP) ?_
  refine r_bipush (v := 10) dX11_keepText_98 (by decide) ?_
  refine r_cS2v dX11_keepText_100 slX11_282 (Nat.le_of_ble_eq_true rfl) (cpk_r (M := M) (c := 358) (n := 10) (by decide) (by decide) sh_358 (by decide) (by decide) E ex I J P n (by omega) hP) ?_
  refine r_aload_n dX11_keepText_103 rfl ?_
  refine r_getR dX11_keepText_104 flX11_48 sh_347 (by decide) rfl (pf_347_29 hP) ?_
  refine r_bipush (v := 10) dX11_keepText_107 (by decide) ?_
  refine r_cS2v dX11_keepText_109 slX11_282 (Nat.le_of_ble_eq_true rfl) (cpk_r (M := M) (c := 359) (n := 10) (by decide) (by decide) sh_359 (by decide) (by decide) E ex I J P n (by omega) hP) ?_
  refine r_aload_n dX11_keepText_112 rfl ?_
  refine r_getR dX11_keepText_113 flX11_51 sh_347 (by decide) rfl (pf_347_30 hP) ?_
  refine r_bipush (v := 10) dX11_keepText_116 (by decide) ?_
  refine r_cS2v dX11_keepText_118 slX11_282 (Nat.le_of_ble_eq_true rfl) (cpk_r (M := M) (c := 360) (n := 10) (by decide) (by decide) sh_360 (by decide) (by decide) E ex I J P n (by omega) hP) ?_
  refine r_aload_n dX11_keepText_121 rfl ?_
  refine r_getR dX11_keepText_122 flX11_54 sh_347 (by decide) rfl (pf_347_31 hP) ?_
  refine r_bipush (v := 10) dX11_keepText_125 (by decide) ?_
  refine r_cS2v dX11_keepText_127 slX11_282 (Nat.le_of_ble_eq_true rfl) (cpk_r (M := M) (c := 361) (n := 10) (by decide) (by decide) sh_361 (by decide) (by decide) E ex I J P n (by omega) hP) ?_
  refine r_aload_n dX11_keepText_130 rfl ?_
  refine r_getR dX11_keepText_131 flX11_57 sh_347 (by decide) rfl (pf_347_32 hP) ?_
  refine r_bipush (v := 10) dX11_keepText_134 (by decide) ?_
  refine r_cS2v dX11_keepText_136 slX11_282 (Nat.le_of_ble_eq_true rfl) (cpk_r (M := M) (c := 362) (n := 10) (by decide) (by decide) sh_362 (by decide) (by decide) E ex I J P n (by omega) hP) ?_
  refine r_aload_n dX11_keepText_139 rfl ?_
  refine r_getR dX11_keepText_140 flX11_60 sh_347 (by decide) rfl (pf_347_33 hP) ?_
  refine r_bipush (v := 8) dX11_keepText_143 (by decide) ?_
  refine r_cS2v dX11_keepText_145 slX11_282 (Nat.le_of_ble_eq_true rfl) (cpk_r (M := M) (c := 363) (n := 8) (by decide) (by decide) sh_363 (by decide) (by decide) E ex I J P n (by omega) hP) ?_
  refine r_aload_n dX11_keepText_148 rfl ?_
  refine r_getR dX11_keepText_149 flX11_63 sh_347 (by decide) rfl (pf_347_34 hP) ?_
  refine r_bipush (v := 8) dX11_keepText_152 (by decide) ?_
  refine r_cS2v dX11_keepText_154 slX11_282 (Nat.le_of_ble_eq_true rfl) (cpk_r (M := M) (c := 364) (n := 8) (by decide) (by decide) sh_364 (by decide) (by decide) E ex I J P n (by omega) hP) ?_
  refine r_aload_n dX11_keepText_157 rfl ?_
  refine r_getR dX11_keepText_158 flX11_66 sh_347 (by decide) rfl (pf_347_35 hP) ?_
  refine r_bipush (v := 8) dX11_keepText_161 (by decide) ?_
  refine r_cS2v dX11_keepText_163 slX11_282 (Nat.le_of_ble_eq_true rfl) (cpk_r (M := M) (c := 365) (n := 8) (by decide) (by decide) sh_365 (by decide) (by decide) E ex I J P n (by omega) hP) ?_
  refine r_iconst (v := 0) dX11_keepText_166 (by decide) ?_
  refine r_istore_n1 dX11_keepText_167 rfl ?_
  refine r_iload_n dX11_keepText_168 rfl ?_
  refine r_iconst (v := 3) dX11_keepText_169 (by decide) ?_
  refine r_ic_ge 193 dX11_keepText_170 (by decide) (fun c170 => ?_) (fun c170 => ?_)
  · exact absurd c170 (by decide)
  · refine r_aload_n dX11_keepText_173 rfl ?_
    refine r_getR dX11_keepText_174 flX11_69 sh_347 (by decide) rfl (pf_347_36 hP) ?_
    refine r_iload_n dX11_keepText_177 rfl ?_
    refine r_aload_n dX11_keepText_178 rfl ?_
    refine r_getR dX11_keepText_179 flX11_69 sh_347 (by decide) rfl (pf_347_36 hP) ?_
    refine r_iconst (v := 3) dX11_keepText_182 (by decide) ?_
    refine r_iload_n dX11_keepText_183 rfl ?_
    refine r_iadd dX11_keepText_184 ?_
    refine r_zalv dX11_keepText_185 sh_366 (vp_in_nI (n := 3) (by decide) (by decide)) ((uR_r (by decide) _).trans ((congrArg ((kpP 366 M) 366) (show ((3 : Int32) + (0)).toNatClampNeg = 3 by decide)).trans (kpP_366 M 3))) ?_
    refine r_zasv dX11_keepText_186 sh_366 (vp_in_nI (n := 0) (by decide) (by decide)) ((congrArg (fun z => xu _ _ z _) (show Int32.toNatClampNeg _ = 0 by decide)).trans ((congrArg (fun z => xu _ _ _ z) (nb01 (h366 0 (by decide)))).trans (uR_x (by decide) _ _))) ?_
    refine r_iinc1 (v := 1) dX11_keepText_187 (by decide) rfl ?_
    refine r_goto 168 dX11_keepText_190 (by decide) ?_
    refine r_iload_n dX11_keepText_168 rfl ?_
    refine r_iconst (v := 3) dX11_keepText_169 (by decide) ?_
    refine r_ic_ge 193 dX11_keepText_170 (by decide) (fun c170 => ?_) (fun c170 => ?_)
    · exact absurd c170 (by decide)
    · refine r_aload_n dX11_keepText_173 rfl ?_
      refine r_getR dX11_keepText_174 flX11_69 sh_347 (by decide) rfl (pf_347_36 hP) ?_
      refine r_iload_n dX11_keepText_177 rfl ?_
      refine r_aload_n dX11_keepText_178 rfl ?_
      refine r_getR dX11_keepText_179 flX11_69 sh_347 (by decide) rfl (pf_347_36 hP) ?_
      refine r_iconst (v := 3) dX11_keepText_182 (by decide) ?_
      refine r_iload_n dX11_keepText_183 rfl ?_
      refine r_iadd dX11_keepText_184 ?_
      refine r_zalv dX11_keepText_185 sh_366 (vp_in_nI (n := 4) (by decide) (by decide)) ((uR_r (by decide) _).trans ((congrArg ((xu (kpP 366 M) 366 0 (M 366 3)) 366) (show ((3 : Int32) + (0 + 1)).toNatClampNeg = 4 by decide)).trans ((xu_ne (by decide)).trans (kpP_366 M 4)))) ?_
      refine r_zasv dX11_keepText_186 sh_366 (vp_in_nI (n := 1) (by decide) (by decide)) ((congrArg (fun z => xu _ _ z _) (show Int32.toNatClampNeg _ = 1 by decide)).trans ((congrArg (fun z => xu _ _ _ z) (nb01 (h366 1 (by decide)))).trans (uR_x (by decide) _ _))) ?_
      refine r_iinc1 (v := 1) dX11_keepText_187 (by decide) rfl ?_
      refine r_goto 168 dX11_keepText_190 (by decide) ?_
      refine r_iload_n dX11_keepText_168 rfl ?_
      refine r_iconst (v := 3) dX11_keepText_169 (by decide) ?_
      refine r_ic_ge 193 dX11_keepText_170 (by decide) (fun c170 => ?_) (fun c170 => ?_)
      · exact absurd c170 (by decide)
      · refine r_aload_n dX11_keepText_173 rfl ?_
        refine r_getR dX11_keepText_174 flX11_69 sh_347 (by decide) rfl (pf_347_36 hP) ?_
        refine r_iload_n dX11_keepText_177 rfl ?_
        refine r_aload_n dX11_keepText_178 rfl ?_
        refine r_getR dX11_keepText_179 flX11_69 sh_347 (by decide) rfl (pf_347_36 hP) ?_
        refine r_iconst (v := 3) dX11_keepText_182 (by decide) ?_
        refine r_iload_n dX11_keepText_183 rfl ?_
        refine r_iadd dX11_keepText_184 ?_
        refine r_zalv dX11_keepText_185 sh_366 (vp_in_nI (n := 5) (by decide) (by decide)) ((uR_r (by decide) _).trans ((congrArg ((xu (xu (kpP 366 M) 366 0 (M 366 3)) 366 1 (M 366 4)) 366) (show ((3 : Int32) + (0 + 1 + 1)).toNatClampNeg = 5 by decide)).trans ((xu_ne (by decide)).trans ((xu_ne (by decide)).trans (kpP_366 M 5))))) ?_
        refine r_zasv dX11_keepText_186 sh_366 (vp_in_nI (n := 2) (by decide) (by decide)) ((congrArg (fun z => xu _ _ z _) (show Int32.toNatClampNeg _ = 2 by decide)).trans ((congrArg (fun z => xu _ _ _ z) (nb01 (h366 2 (by decide)))).trans (uR_x (by decide) _ _))) ?_
        refine r_iinc1 (v := 1) dX11_keepText_187 (by decide) rfl ?_
        refine r_goto 168 dX11_keepText_190 (by decide) ?_
        refine r_iload_n dX11_keepText_168 rfl ?_
        refine r_iconst (v := 3) dX11_keepText_169 (by decide) ?_
        refine r_ic_ge 193 dX11_keepText_170 (by decide) (fun c170 => ?_) (fun c170 => ?_)
        · rw [kpP_b M]
          refine r_aload_n dX11_keepText_193 rfl ?_
          refine r_getR dX11_keepText_194 flX11_72 sh_347 (by decide) rfl (pf_347_37 hP) ?_
          refine r_iconst (v := 3) dX11_keepText_197 (by decide) ?_
          refine r_cS2v dX11_keepText_198 slX11_282 (Nat.le_of_ble_eq_true rfl) (cpk_r (M := M) (c := 367) (n := 3) (by decide) (by decide) sh_367 (by decide) (by decide) E ex I J P n (by omega) hP) ?_
          refine r_aload_n dX11_keepText_201 rfl ?_
          refine r_getR dX11_keepText_202 flX11_75 sh_347 (by decide) rfl (pf_347_38 hP) ?_
          refine r_iconst (v := 3) dX11_keepText_205 (by decide) ?_
          refine r_cS2v dX11_keepText_206 slX11_282 (Nat.le_of_ble_eq_true rfl) (cpk_r (M := M) (c := 368) (n := 3) (by decide) (by decide) sh_368 (by decide) (by decide) E ex I J P n (by omega) hP) ?_
          refine r_aload_n dX11_keepText_209 rfl ?_
          refine r_getR dX11_keepText_210 flX11_78 sh_347 (by decide) rfl (pf_347_39 hP) ?_
          refine r_bipush (v := 64) dX11_keepText_213 (by decide) ?_
          refine r_cS2v dX11_keepText_215 slX11_282 (Nat.le_of_ble_eq_true rfl) (cpk_r (M := M) (c := 369) (n := 64) (by decide) (by decide) sh_369 (by decide) (by decide) E ex I J P n (by omega) hP) ?_
          refine r_aload_n dX11_keepText_218 rfl ?_
          refine r_getR dX11_keepText_219 flX11_81 sh_347 (by decide) rfl (pf_347_40 hP) ?_
          refine r_bipush (v := 64) dX11_keepText_222 (by decide) ?_
          refine r_cS2v dX11_keepText_224 slX11_282 (Nat.le_of_ble_eq_true rfl) (cpk_r (M := M) (c := 370) (n := 64) (by decide) (by decide) sh_370 (by decide) (by decide) E ex I J P n (by omega) hP) ?_
          refine r_aload_n dX11_keepText_227 rfl ?_
          refine r_getR dX11_keepText_228 flX11_84 sh_347 (by decide) rfl (pf_347_41 hP) ?_
          refine r_bipush (v := 64) dX11_keepText_231 (by decide) ?_
          refine r_cS2v dX11_keepText_233 slX11_282 (Nat.le_of_ble_eq_true rfl) (cpk_r (M := M) (c := 371) (n := 64) (by decide) (by decide) sh_371 (by decide) (by decide) E ex I J P n (by omega) hP) ?_
          exact cont
        · exact absurd (by decide) c170
