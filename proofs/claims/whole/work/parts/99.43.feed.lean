/-! feed -/
theorem wA_self {o : Nat} {I : Nat → Nat → Int32} {n : Nat} (h : I o 1 = nI n) : I = wA o I n (I (o + 1)) := (wA_id h).symm
theorem Rel.t {t np q n m s kb u sn : Nat} {I I' : Nat → Nat → Int32} {P : Nat → Nat → Nat} (h : Rel t np q n m s kb u sn I P) (e : ∀ a k, ¬ ((a = 0 ∧ k = 1) ∨ a = 1 ∨ a = 348 ∨ (a = 347 ∧ (k = 1 ∨ k = 2))) → I' a k = I a k) (hs : ∃ nt, nt ≤ 700 ∧ I' 0 1 = nI nt ∧ I' 347 1 = nI nt ∧ tbR (I' 1) (I' 348) nt) : Rel t np q n m s kb u sn I' P := by
  obtain ⟨h1, h2, h3, h4, h5, h6, h7, h8, h9, h10⟩ := h
  have ht := tl_c h1.1
  refine ⟨h1, ⟨hs, ?_, fun k => ?_, fun k => ?_, ?_, ?_⟩, h3.c (fun a k z => e a k (by omega)), h4.c (fun a k z => e a k (by omega)), h5.c (fun a k z => e a k (by omega)), h6.c (fun a k z => e a k (by omega)) h3.1, h7.c (fun a k z => e a k (by omega)), h8.c (fun a k z => e a k (by omega)), h9.c (fun a k z => e a k (by omega)) (fun b z1 z2 => rfl), h10.c (fun a k z => e a k (by omega)) rfl⟩
  · rw [show I' 349 = I 349 from funext fun k => e 349 k (by omega)]; exact h2.2.1
  · rw [e 19 k (by omega), e 20 k (by omega), e (34 - t + 4) k (by omega)]; exact h2.2.2.1 k
  · rw [e 356 k (by omega), e 357 k (by omega), e 361 k (by omega), e 363 k (by omega)]; exact h2.2.2.2.1 k
  · rw [e 0 2 (by omega), e 347 4 (by omega)]; exact h2.2.2.2.2.1
  · rw [e 0 3 (by omega), e 347 5 (by omega)]; exact h2.2.2.2.2.2
theorem feed_Cl {E : xCl} {ex : Bool} (a b c e f : Int32) : Cl E ex yX10_feed [.ref 0, .int a, .int b, .int c, .int e, .int f] yX11_feed [.ref 347, .int a, .int b, .int c, .int e, .int f] := by
  intro I J P hX N hN
  obtain ⟨t, np, q, n, m, s, kb, u, sn, h⟩ := hX
  have h1 := h.1
  obtain ⟨nt, hnt, n1, n2, hb⟩ := h.2.1.1
  by_cases hn : nt + 20 ≤ 700
  · have cc := k_feed_t (E := E) (ex := ex) (I := I) (T := I 1) (J := J) h1.2.1 hn a b c e f 0
    rw [wA_id n1] at cc
    have m1 : wA 0 I (nt + 20) (cTf (I 1) nt a b c e f) 347 1 = nI nt := (wA_o _ _ _ _ (by omega) (by omega)).trans n2
    have m2 : xu (wA 0 I (nt + 20) (cTf (I 1) nt a b c e f)) 347 2 0 347 1 = nI nt := (xu_ne (by omega)).trans m1
    have r8 : wA 0 I (nt + 20) (cTf (I 1) nt a b c e f) (347 + 1) = I 348 := funext fun k => wA_o _ _ _ _ (by omega) (by omega)
    have r9 : xu (wA 0 I (nt + 20) (cTf (I 1) nt a b c e f)) 347 2 0 (347 + 1) = I 348 := funext fun k => (xu_ne (by omega)).trans (congrFun r8 k)
    have w1 := wA_id m1
    have w2 := wA_id m2
    rw [r8] at w1
    rw [r9] at w2
    have rr := k_rfeed_t (E := E) (ex := ex) (I := xu (wA 0 I (nt + 20) (cTf (I 1) nt a b c e f)) 347 2 0) (T := I 348) (J := J) h1.2.1 hn a b c e f (I0 := wA 0 I (nt + 20) (cTf (I 1) nt a b c e f)) (by rw [w1, w2]) 0
    rw [w1] at rr
    refine ⟨_, _, _, _, _, _, x_le (by omega) cc, x_le (by omega) rr, t, np, q, n, m, s, kb, u, sn, h.t (fun a k z => ?_) ⟨nt + 20, hn, ?_, wA_n _ _ _ _, fun k hk => ?_⟩⟩
    · exact (wA_o _ _ _ _ (by omega) (by omega)).trans ((xu_ne (by omega)).trans (wA_o _ _ _ _ (by omega) (by omega)))
    · exact (wA_o _ _ _ _ (by omega) (by omega)).trans ((xu_ne (by omega)).trans (wA_n _ _ _ _))
    · rw [show (348 : Nat) = 347 + 1 from rfl, wA_t 347 _ _ _ (by omega), wA_o 347 _ _ _ (by omega) (by omega), xu_ne (by omega), show (1 : Nat) = 0 + 1 from rfl, wA_t 0 _ _ _ (by omega)]
      exact hb.feed a b c e f k hk
  · have cc := k_feed_f (E := E) (ex := ex) (I := I) (T := I 1) (J := J) (P := P) hn hnt a b c e f 0
    rw [wA_id n1] at cc
    have m2 : xu I 347 2 0 347 1 = nI nt := (xu_ne (by omega)).trans n2
    have r9 : xu I 347 2 0 (347 + 1) = I 348 := funext fun k => xu_ne (by omega)
    have w1 := wA_id n2
    have w2 := wA_id m2
    rw [r9] at w2
    have rr := k_rfeed_f (E := E) (ex := ex) (I := xu I 347 2 0) (T := I 348) (J := J) (P := P) hn hnt a b c e f (I0 := I) (by rw [w1, w2]) 0
    rw [w1, w2] at rr
    exact ⟨_, _, _, _, _, _, x_le (by omega) cc, x_le (by omega) rr, _, _, _, _, _, _, _, _, _, h.o⟩
