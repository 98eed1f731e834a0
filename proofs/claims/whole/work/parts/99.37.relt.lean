/-! the reference's rows of now, seen as a view -/
theorem ro0 (j : Nat) : ro j 0 = 0 := by unfold ro; split <;> simp
theorem w0_i (J V : Nat → Nat → Int32) {a k : Nat} (h : 376 ≤ a ∧ a ≤ 390) (hk : k < rq (a - 376)) : wR J 0 V a k = if a = 387 then bI (V 12 0) k else V (rf (a - 376)) k := by
  simp only [wR, ro0]
  rw [if_pos ⟨h, by omega, by omega⟩, Nat.sub_zero]
theorem w0_o (J V : Nat → Nat → Int32) {a k : Nat} (h : ¬ ((376 ≤ a ∧ a ≤ 390) ∧ k < rq (a - 376))) : wR J 0 V a k = J a k := by
  simp only [wR, ro0]
  rw [if_neg (fun z => h ⟨z.1, by omega⟩)]
theorem vE.le {np n m np' n' m' : Nat} {V W : Nat → Nat → Int32} (h : vE np n m V W) (h1 : np' ≤ np) (h2 : n' ≤ n) (h3 : m' ≤ m) : vE np' n' m' V W := ⟨fun k hk => h.1 k (by omega), fun k hk => h.2.1 k (by omega), fun k hk => h.2.2.1 k (by omega), h.2.2.2⟩
theorem vR_w0 (J V : Nat → Nat → Int32) : vE 6 12 8 (vR (wR J 0 V) 0) V := by
  refine ⟨fun k hk => ⟨?_, ?_⟩, fun k hk => ⟨?_, ?_, ?_, ?_, ?_, ?_, ?_, ?_, ?_⟩, fun k hk => ?_, ?_, ?_, ?_⟩
  · show wR J 0 V 376 (6 * 0 + k) = _; rw [Nat.mul_zero, Nat.zero_add, w0_i J V (a := 376) (by decide) hk]; rfl
  · show wR J 0 V 377 (6 * 0 + k) = _; rw [Nat.mul_zero, Nat.zero_add, w0_i J V (a := 377) (by decide) hk]; rfl
  · show wR J 0 V 379 k = _; rw [w0_i J V (a := 379) (by decide) hk]; rfl
  · show wR J 0 V 380 k = _; rw [w0_i J V (a := 380) (by decide) hk]; rfl
  · show wR J 0 V 383 (12 * 0 + k) = _; rw [Nat.mul_zero, Nat.zero_add, w0_i J V (a := 383) (by decide) hk]; rfl
  · show wR J 0 V 384 (12 * 0 + k) = _; rw [Nat.mul_zero, Nat.zero_add, w0_i J V (a := 384) (by decide) hk]; rfl
  · show wR J 0 V 382 k = _; rw [w0_i J V (a := 382) (by decide) hk]; rfl
  · show wR J 0 V 381 k = _; rw [w0_i J V (a := 381) (by decide) hk]; rfl
  · show wR J 0 V 385 (12 * 0 + k) = _; rw [Nat.mul_zero, Nat.zero_add, w0_i J V (a := 385) (by decide) hk]; rfl
  · show wR J 0 V 386 (12 * 0 + k) = _; rw [Nat.mul_zero, Nat.zero_add, w0_i J V (a := 386) (by decide) hk]; rfl
  · have h1 : ∀ j, j < 12 → wR J 0 V 387 (12 * 0 + j) = bI (V 12 0) j := fun j hj => by rw [Nat.mul_zero, Nat.zero_add, w0_i J V (a := 387) (by decide) hj]; rfl
    have := bt_b (g := fun j => wR J 0 V 387 (12 * 0 + j)) (fun j hj => by rw [h1 j hj]; exact bI_01 _ hj) hk 12 (Nat.le_refl _)
    rw [if_pos (by omega), h1 k hk] at this
    exact this
  · show wR J 0 V 388 (8 * 0 + k) = _; rw [Nat.mul_zero, Nat.zero_add, w0_i J V (a := 388) (by decide) hk]; rfl
  · show wR J 0 V 378 0 = _; rw [w0_i J V (a := 378) (by decide) (by decide)]; rfl
  · show wR J 0 V 390 0 = _; rw [w0_i J V (a := 390) (by decide) (by decide)]; rfl
  · show wR J 0 V 389 0 = _; rw [w0_i J V (a := 389) (by decide) (by decide)]; rfl
theorem Pt_w0 {J : Nat → Nat → Int32} (h : Pt J) (V : Nat → Nat → Int32) : Pt (wR J 0 V) := fun j hj => by
  by_cases h2 : j < 12
  · rw [w0_i J V (a := 387) (by decide) h2]
    exact bI_01 _ h2
  · rw [w0_o J V (a := 387) (fun z => h2 z.2)]
    exact h j hj
/-- both stand alike between two calls -/
def RX (I : Nat → Nat → Int32) (P : Nat → Nat → Nat) : Prop := ∃ t np q n m s kb u sn, Rel t np q n m s kb u sn I P
/-- a call answers alike on both sides, and leaves them alike -/
def Cl (E : xCl) (ex : Bool) (yC : MethodName) (vC : List Value) (yR : MethodName) (vR : List Value) : Prop := ∀ (I : Nat → Nat → Int32) (J : Nat → Nat → Int64) (P : Nat → Nat → Nat), RX I P → ∀ n, 30 ≤ n → ∃ r I1 J1 P1 I2 J2, xEx E ex n yC vC (SH, I, J, P) (some r) (SH, I1, J1, P1) ∧ xEx E ex n yR vR (SH, I1, J1, P1) (some r) (SH, I2, J2, P1) ∧ RX I2 P1
theorem uR_eq {I I1 : Nat → Nat → Int32} (h : ∀ a q, 347 ≤ a → a ≤ 403 → I1 a q = I a q) : uR I I1 = I1 := by
  funext a q
  simp only [uR]
  by_cases e : 347 ≤ a ∧ a ≤ 403
  · rw [if_pos e]; exact (h a q e.1 e.2).symm
  · rw [if_neg e]
theorem t2_in {t : Nat} (h : t ∈ TL) : 34 - t ∈ TL ∧ 34 - (34 - t) = t := by
  rcases tl_c h with rfl | rfl <;> decide
theorem Pok.pk {P P' : Nat → Nat → Nat} (h : Pok P) (g : Pk P P') : Pok P' := fun q hq => (g _ _ (p296 q hq)).trans (h q hq)
theorem Pt.c {I I' : Nat → Nat → Int32} (h : Pt I) (e : ∀ k, I' 387 k = I 387 k) : Pt I' := fun j hj => by rw [e j]; exact h j hj
/-- a text that isn't sound leaves all as it was -/
theorem text_f {t np q n m s kb u sn : Nat} {I K' M' : Nat → Nat → Int32} {P P' : Nat → Nat → Nat} (h : Rel t np q n m s kb u sn I P) (hf : jF K' M') (hb : jB K') (hl : LF (xu (xu I 347 2 0) 347 1 0) M') (hp : Pk (xu P 16 0 (34 - t + 1)) P') : Rel t np q n m s kb u sn (uR M' (uC (34 - t) K' (xu (xu (xu I 0 1 0) 0 2 (K' 2 4)) 0 3 (K' 2 5)))) P' := by
  obtain ⟨h1, h2, h3, h4, h5, h6, h7, h8, h9, h10⟩ := h
  have ht := tl_c h1.1
  have ht2 := (t2_in h1.1).1
  have eR : ∀ a k, 347 ≤ a → a ≤ 403 → uR M' (uC (34 - t) K' (xu (xu (xu I 0 1 0) 0 2 (K' 2 4)) 0 3 (K' 2 5))) a k = M' a k := fun a k z1 z2 => uR_r ⟨z1, z2⟩ k
  have eC : ∀ a k, ¬ (347 ≤ a ∧ a ≤ 403) → uR M' (uC (34 - t) K' (xu (xu (xu I 0 1 0) 0 2 (K' 2 4)) 0 3 (K' 2 5))) a k = uC (34 - t) K' (xu (xu (xu I 0 1 0) 0 2 (K' 2 4)) 0 3 (K' 2 5)) a k := fun a k z => by simp only [uR]; rw [if_neg z]
  have e : ∀ a k, ¬ (a = 1 ∨ a = 2 ∨ (16 ≤ a ∧ a ≤ 30) ∨ (34 - t ≤ a ∧ a < 34 - t + 13) ∨ (a = 0 ∧ 1 ≤ k ∧ k ≤ 3) ∨ (a = 347 ∧ (k = 1 ∨ k = 2)) ∨ (a = 347 ∧ ((4 ≤ k ∧ k ≤ 11) ∨ (16 ≤ k ∧ k ≤ 19) ∨ (44 ≤ k ∧ k ≤ 49))) ∨ a = 350 ∨ (a = 351 ∧ 2 ≤ k) ∨ (352 ≤ a ∧ a ≤ 355 ∧ 6 ≤ k) ∨ (356 ≤ a ∧ a ≤ 362 ∧ 10 ≤ k) ∨ (363 ≤ a ∧ a ≤ 365 ∧ 8 ≤ k) ∨ (366 ≤ a ∧ a ≤ 368 ∧ 3 ≤ k) ∨ (369 ≤ a ∧ a ≤ 371 ∧ 64 ≤ k) ∨ a = 372 ∨ a = 373) → uR M' (uC (34 - t) K' (xu (xu (xu I 0 1 0) 0 2 (K' 2 4)) 0 3 (K' 2 5))) a k = I a k := fun a k z => by
    by_cases c : 347 ≤ a ∧ a ≤ 403
    · exact (eR a k c.1 c.2).trans ((hl.1 a k (by omega)).trans ((xu_ne (by omega)).trans (xu_ne (by omega))))
    · exact (eC a k c).trans ((uC_o (by omega) (by omega) k).trans ((xu_ne (by omega)).trans ((xu_ne (by omega)).trans (xu_ne (by omega)))))
  refine ⟨⟨h1.1, (h1.2.1.xb hb16 _).pk hp, ?_, ?_, ?_, ?_⟩, ⟨⟨0, by omega, ?_, ?_, tbR.zero _ _⟩, ?_, fun k => ?_, fun k => ?_, ?_, ?_⟩, h3.c (fun a k z => e a k (by omega)), h4.c (fun a k z => e a k (by omega)), h5.c (fun a k z => e a k (by omega)), h6.c (fun a k z => e a k (by omega)) h3.1, h7.c (fun a k z => e a k (by omega)), h8.c (fun a k z => e a k (by omega)), h9.c (fun a k z => e a k (by omega)) (fun b z1 z2 => (hp _ _ (by omega)).trans (xu_ne (by omega))), h10.c (fun a k z => e a k (by omega)) ((hp _ _ (by omega)).trans (xu_ne (by omega)))⟩
  · exact ((hp _ _ (by omega)).trans (xu_ne (by omega))).trans h1.2.2.1
  · exact ((hp _ _ (by omega)).trans (xu_ne (by omega))).trans h1.2.2.2.1
  · exact ((hp _ _ (by omega)).trans (xu_ne (by omega))).trans h1.2.2.2.2.1
  · exact ((hp _ _ (by omega)).trans (xu_ne (by omega))).trans h1.2.2.2.2.2
  · exact (eC 0 1 (by omega)).trans ((uC_o (by omega) (by omega) 1).trans ((xu_ne (by omega)).trans ((xu_ne (by omega)).trans (xu_s _ _ _ _))))
  · exact (eR 347 1 (by omega) (by omega)).trans ((hl.1 _ _ (by omega)).trans (xu_s _ _ _ _))
  · rw [show uR M' (uC (34 - t) K' (xu (xu (xu I 0 1 0) 0 2 (K' 2 4)) 0 3 (K' 2 5))) 349 = I 349 from funext fun k => e 349 k (by omega)]; exact h2.2.1
  · rw [eC 19 k (by omega), eC 20 k (by omega), eC (34 - t + 4) k (by omega), uC_c ht2 (by decide), uC_c ht2 (by decide), uC_tb (b := 504) (by decide) (by decide)]
    exact hb k
  · rw [eR 356 k (by omega) (by omega), eR 357 k (by omega) (by omega), eR 361 k (by omega) (by omega), eR 363 k (by omega) (by omega)]
    refine hl.2 (fun k => ?_) k
    rw [xu_ne (by omega), xu_ne (by omega), xu_ne (by omega), xu_ne (by omega), xu_ne (by omega), xu_ne (by omega), xu_ne (by omega), xu_ne (by omega)]
    exact h2.2.2.2.1 k
  · rw [eC 0 2 (by omega), eR 347 4 (by omega) (by omega), uC_o (by omega) (by omega), xu_ne (by omega), xu_s]; exact hf.1
  · rw [eC 0 3 (by omega), eR 347 5 (by omega) (by omega), uC_o (by omega) (by omega), xu_s]; exact hf.2
