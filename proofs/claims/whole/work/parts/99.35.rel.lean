/-! what holds between both, between two calls -/
/-- a bridge of the program as it may stand: n strands, q of them told, as VF has them -/
def vG (np q n : Nat) (V VF : Nat → Nat → Int32) : Prop := Vok V n ∧ q ≤ n ∧ Tok V n ∧ Bd np n V ∧ (∀ j, j < n → V 9 j = 0 → in0 (V 5 j) 0 9999 ∧ in0 (V 6 j) 0 99) ∧ (∀ j, j < q → V 3 j = VF 3 j ∧ V 4 j = VF 4 j ∧ V 7 j = VF 7 j ∧ V 8 j = VF 8 j) ∧ (∃ x, x < 2 ^ q ∧ V 12 0 = nI x) ∧ V 14 0 = VF 14 0 ∧ in0 (V 15 0) 0 999
def zP (t : Nat) (P : Nat → Nat → Nat) : Prop := t ∈ TL ∧ Pok P ∧ P 0 5 = t + 1 ∧ P 2 2 = 34 - t + 1 ∧ P 44 0 = t + 1 ∧ P 56 0 = t + 1
def zT (t : Nat) (I : Nat → Nat → Int32) : Prop := (∃ nt, nt ≤ 700 ∧ I 0 1 = nI nt ∧ I 347 1 = nI nt ∧ tbR (I 1) (I 348) nt) ∧ rRow (I 349) 0 rWords ∧ (∀ k, vp_in (I 19 k) 6 ∧ vp_in (I 20 k) 6 ∧ vp_in (I (34 - t + 4) k) 6) ∧ jZ I ∧ I 0 2 = I 347 4 ∧ I 0 3 = I 347 5
def zE (t np : Nat) (I : Nat → Nat → Int32) : Prop := np ≤ 6 ∧ I t 3 = nI np ∧ I 347 12 = nI np ∧ ∀ j, j < np → I (t + 1) j = I 352 j ∧ I (t + 2) j = I 353 j ∧ (I (t + 2) j = 0 ∨ I (t + 2) j = 1) ∧ I (t + 3) j = I 355 j
def zX (t np m : Nat) (I : Nat → Nat → Int32) : Prop := m ≤ 8 ∧ I t 7 = nI m ∧ I 347 14 = nI m ∧ (∀ j, j < m → vp_in (I (t + 4) j) np ∧ I (t + 4) j = I 363 j ∧ I (t + 5) j = I 364 j ∧ I (t + 6) j = I 365 j) ∧ ∀ k, vp_in (I (t + 4) k) 6
def zL (t : Nat) (I : Nat → Nat → Int32) : Prop := Lok I t ∧ LwR I (Lv I t) ∧ I (t + 7) 5 = I 347 15
def zQ (t np q m : Nat) (I : Nat → Nat → Int32) : Prop := q ≤ 10 ∧ I t 9 = nI q ∧ I 347 13 = nI q ∧ vG np q q (vB I 44) (vB I 44) ∧ in0 (vB I 44 14 0) 0 999 ∧ (∀ j, j < np → vB I 44 1 j = I 354 j ∧ vB I 44 2 j = I 353 j) ∧ (∀ j, j < q → vB I 44 3 j = I 356 j ∧ vB I 44 4 j = I 357 j ∧ vB I 44 5 j = I 358 j ∧ vB I 44 6 j = I 359 j ∧ vB I 44 7 j = I 360 j ∧ vB I 44 8 j = 0 ∧ vB I 44 9 j = 0 ∧ vB I 44 10 j = I 362 j) ∧ (∀ k, k < m → vB I 44 11 k = 0) ∧ vB I 44 14 0 = I 351 0 ∧ vB I 44 15 0 = 0
def zN (np q n m : Nat) (I : Nat → Nat → Int32) : Prop := vG np q n (vB I 56) (vB I 44) ∧ vE np n m (vB I 56) (vR I 0) ∧ (∀ k, vp_in (I 379 k) 6) ∧ (∀ k, vp_in (I 380 k) 6) ∧ (∀ k, k < 12 → (I 386 k < 0 ∨ vp_in (I 386 k) 12) ∧ in0 (I 384 k) 0 198) ∧ Pt I
def zS1 (I : Nat → Nat → Int32) (j : Nat) : Prop := (I 97 j = 2 ∧ I 395 (4 * j) = -1 ∧ I 395 (4 * j + 1) = I 94 j ∧ ∃ z, z < j ∧ I 94 j = nI z) ∨ ((I 97 j = 0 ∨ I 97 j = 1) ∧ I 395 (4 * j + 3) = I 97 j ∧ I 395 (4 * j) = I 94 j ∧ in0 (I 94 j) 0 50 ∧ I 395 (4 * j + 1) = I 95 j ∧ in0 (I 95 j) 1 999 ∧ I 395 (4 * j + 2) = I 96 j)
def zS (s kb : Nat) (I : Nat → Nat → Int32) : Prop := s ≤ 24 ∧ I 93 4 = nI s ∧ I 347 76 = nI s ∧ I 93 5 = I 347 77 ∧ ((I 93 5 = -1 ∧ kb = s) ∨ (I 93 5 = nI kb ∧ kb ≤ s)) ∧ ∀ j, j < s → zS1 I j
/-- the same bridge, as far as its rows are long -/
def vSm (V W : Nat → Nat → Int32) : Prop := (∀ f k, 0 < f → f < 12 → k < bl f → V f k = W f k) ∧ ∀ f, 12 ≤ f → f < 16 → V f 0 = W f 0
/-- where the i-th saved bridge lies, when u are saved and the next goes to sn -/
def sv (sn u i : Nat) : Nat := 107 + 12 * ((sn + 20 - u + i) % 20)
/-- a saved bridge, and the reference's row of it -/
def eU (np q n m N i : Nat) (I Vs : Nat → Nat → Int32) : Prop := vG np q N Vs (vB I 44) ∧ N ≤ n ∧ (∀ k, k < np → Vs 1 k = I 400 (37 * i + k) ∧ Vs 2 k = I 400 (37 * i + 6 + k)) ∧ (∀ k, k < N → Vs 9 k = I 400 (37 * i + 12 + k) ∧ Vs 10 k = I 400 (37 * i + 24 + k) ∧ Vs 3 k = vB I 56 3 k ∧ Vs 4 k = vB I 56 4 k ∧ Vs 5 k = vB I 56 5 k ∧ Vs 6 k = vB I 56 6 k ∧ Vs 7 k = vB I 56 7 k ∧ Vs 8 k = vB I 56 8 k) ∧ (∀ k, k < 12 → I 400 (37 * i + 24 + k) < 0 ∨ vp_in (I 400 (37 * i + 24 + k)) 12) ∧ I 400 (37 * i + 36) = nI N ∧ (∀ k, k < m → Vs 11 k = vB I 56 11 k) ∧ Vs 12 0 = vB I 56 12 0 ∧ Vs 15 0 = vB I 56 15 0
def zU (t np q n m u sn : Nat) (I : Nat → Nat → Int32) (P : Nat → Nat → Nat) : Prop := u ≤ 20 ∧ sn < 20 ∧ I 0 13 = nI u ∧ I 0 12 = nI sn ∧ I 347 83 = nI u ∧ ∃ N : Nat → Nat, (∀ i, i < u → P (sv sn u i) 0 = t + 1 ∧ ∃ Vs, vSm (vB I (sv sn u i)) Vs ∧ eU np q n m (N i) i I Vs) ∧ ∀ i j, i ≤ j → j < u → N i ≤ N j
def zI (t np q m : Nat) (I : Nat → Nat → Int32) (P : Nat → Nat → Nat) : Prop := I 0 9 = I 347 85 ∧ (I 0 9 = 0 ∨ (I 0 9 = 1 ∧ P 68 0 = t + 1 ∧ ∃ ni Vi, vSm (vB I 68) Vi ∧ vG np q ni Vi (vB I 44) ∧ (∀ k, k < np → Vi 1 k = I 401 k ∧ Vi 2 k = I 401 (6 + k)) ∧ (∀ k, k < ni → Vi 9 k = I 401 (12 + k) ∧ Vi 10 k = I 401 (24 + k) ∧ Vi 3 k = I 402 k ∧ Vi 4 k = I 402 (12 + k) ∧ Vi 8 k = I 402 (24 + k) ∧ Vi 7 k = I 402 (36 + k) ∧ Vi 5 k = I 402 (48 + k) ∧ Vi 6 k = I 402 (60 + k) - I 402 (60 + k) / 1000 * 1000 ∧ bI (Vi 12 0) k = I 402 (60 + k) / 1000) ∧ (∀ k, k < 12 → (∃ z p, z ≤ 198 ∧ p ≤ 1 ∧ I 402 (60 + k) = nI (z + 1000 * p)) ∧ vp_in (I 402 k) 6 ∧ vp_in (I 402 (12 + k)) 6 ∧ (I 401 (24 + k) < 0 ∨ vp_in (I 401 (24 + k)) 12)) ∧ I 401 36 = nI ni ∧ (∀ k, k < m → Vi 11 k = I 403 k) ∧ Vi 15 0 = I 347 89))
def Rel (t np q n m s kb u sn : Nat) (I : Nat → Nat → Int32) (P : Nat → Nat → Nat) : Prop := zP t P ∧ zT t I ∧ zE t np I ∧ zX t np m I ∧ zL t I ∧ zQ t np q m I ∧ zN np q n m I ∧ zS s kb I ∧ zU t np q n m u sn I P ∧ zI t np q m I P
/-- all but what calls use as they go -/
def Ag (I I' : Nat → Nat → Int32) : Prop := ∀ a k, ¬ ((80 ≤ a ∧ a ≤ 91) ∨ (98 ≤ a ∧ a ≤ 106) ∨ (a = 347 ∧ (k = 2 ∨ k = 52 ∨ k = 69 ∨ k = 70 ∨ k = 71)) ∨ (391 ≤ a ∧ a ≤ 394) ∨ (396 ≤ a ∧ a ≤ 399) ∨ ((a = 376 ∨ a = 377) ∧ 6 ≤ k) ∨ (a = 378 ∧ 1 ≤ k) ∨ ((383 ≤ a ∧ a ≤ 387) ∧ 12 ≤ k) ∨ (a = 388 ∧ 8 ≤ k) ∨ ((a = 389 ∨ a = 390) ∧ 1 ≤ k)) → I' a k = I a k
def Ap (P P' : Nat → Nat → Nat) : Prop := ∀ a k, ¬ (a = 80 ∧ k = 0) → P' a k = P a k
theorem Ag.rf (I : Nat → Nat → Int32) : Ag I I := fun _ _ _ => rfl
theorem Ag.tr {I I1 I2 : Nat → Nat → Int32} (h : Ag I I1) (g : Ag I1 I2) : Ag I I2 := fun a k z => (g a k z).trans (h a k z)
theorem Ap.rf (P : Nat → Nat → Nat) : Ap P P := fun _ _ _ => rfl
theorem Ap.tr {P P1 P2 : Nat → Nat → Nat} (h : Ap P P1) (g : Ap P1 P2) : Ap P P2 := fun a k z => (g a k z).trans (h a k z)
theorem Ag.b {I I' : Nat → Nat → Int32} (h : Ag I I') {b : Nat} (hb : b + 11 < 80 ∨ (107 ≤ b ∧ b + 11 < 347)) : vB I' b = vB I b := by
  funext f k
  simp only [vB]
  split
  · exact h _ _ (by omega)
  · exact h _ _ (by omega)
theorem Ag.r {np n m : Nat} (hnp : np ≤ 6) (hn : n ≤ 12) (hm : m ≤ 8) {I I' : Nat → Nat → Int32} (h : Ag I I') (h1 : Pt I) (h2 : Pt I') : vE np n m (vR I 0) (vR I' 0) := by
  have e : ∀ a k, (376 ≤ a ∧ a ≤ 390) → ((a = 376 ∨ a = 377) → k < 6) → ((a = 378 ∨ a = 389 ∨ a = 390) → k = 0) → ((383 ≤ a ∧ a ≤ 387) → k < 12) → (a = 388 → k < 8) → I' a k = I a k := fun a k z1 z2 z3 z4 z5 => h a k (by omega)
  refine ⟨fun k hk => ⟨?_, ?_⟩, fun k hk => ⟨?_, ?_, ?_, ?_, ?_, ?_, ?_, ?_, ?_⟩, fun k hk => ?_, ?_, ?_, ?_⟩
  · exact (e 376 (6 * 0 + k) (by omega) (by omega) (by omega) (by omega) (by omega)).symm
  · exact (e 377 (6 * 0 + k) (by omega) (by omega) (by omega) (by omega) (by omega)).symm
  · exact (e 379 k (by omega) (by omega) (by omega) (by omega) (by omega)).symm
  · exact (e 380 k (by omega) (by omega) (by omega) (by omega) (by omega)).symm
  · exact (e 383 (12 * 0 + k) (by omega) (by omega) (by omega) (by omega) (by omega)).symm
  · exact (e 384 (12 * 0 + k) (by omega) (by omega) (by omega) (by omega) (by omega)).symm
  · exact (e 382 k (by omega) (by omega) (by omega) (by omega) (by omega)).symm
  · exact (e 381 k (by omega) (by omega) (by omega) (by omega) (by omega)).symm
  · exact (e 385 (12 * 0 + k) (by omega) (by omega) (by omega) (by omega) (by omega)).symm
  · exact (e 386 (12 * 0 + k) (by omega) (by omega) (by omega) (by omega) (by omega)).symm
  · have b1 : ∀ J, Pt J → bI (vR J 0 12 0) k = J 387 k := fun J hJ => by
      have := bt_b (g := fun j => J 387 (12 * 0 + j)) (fun j hj => hJ _ (by omega)) (show k < 12 by omega) 12 (Nat.le_refl _)
      rw [if_pos (by omega), Nat.mul_zero, Nat.zero_add] at this
      exact this
    rw [b1 I h1, b1 I' h2, e 387 k (by omega) (by omega) (by omega) (by omega) (by omega)]
  · exact (e 388 (8 * 0 + k) (by omega) (by omega) (by omega) (by omega) (by omega)).symm
  · exact (e 378 0 (by omega) (by omega) (by omega) (by omega) (by omega)).symm
  · exact (e 390 0 (by omega) (by omega) (by omega) (by omega) (by omega)).symm
  · exact (e 389 0 (by omega) (by omega) (by omega) (by omega) (by omega)).symm
