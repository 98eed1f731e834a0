/-! see, strikes, known: only the sags change -/
theorem Rel.s {t np q n m s kb u sn s' kb' : Nat} {I I' : Nat → Nat → Int32} {P : Nat → Nat → Nat} (h : Rel t np q n m s kb u sn I P) (e : ∀ a k, ¬ ((93 ≤ a ∧ a ≤ 97) ∨ a = 395 ∨ (a = 347 ∧ (k = 2 ∨ k = 52 ∨ k = 76 ∨ k = 77))) → I' a k = I a k) (hs : zS s' kb' I') : Rel t np q n m s' kb' u sn I' P := by
  obtain ⟨h1, h2, h3, h4, h5, h6, h7, h8, h9, h10⟩ := h
  have ht := tl_c h1.1
  exact ⟨h1, h2.c (fun a k z => e a k (by omega)), h3.c (fun a k z => e a k (by omega)), h4.c (fun a k z => e a k (by omega)), h5.c (fun a k z => e a k (by omega)), h6.c (fun a k z => e a k (by omega)) h3.1, h7.c (fun a k z => e a k (by omega)), hs, h9.c (fun a k z => e a k (by omega)) (fun b z1 z2 => rfl), h10.c (fun a k z => e a k (by omega)) rfl⟩
theorem Rel.o {t np q n m s kb u sn : Nat} {I : Nat → Nat → Int32} {P : Nat → Nat → Nat} (h : Rel t np q n m s kb u sn I P) : Rel t np q n m s kb u sn (xu I 347 2 0) P := by
  have := h.g (ag_e I (I 347 52)) (Ap.rf P) ((h.2.2.2.2.2.2.1.2.2.2.2.2.x2 2 0).x2 52 _)
  rwa [show wE (xu I 347 2 0) (I 347 52) = xu I 347 2 0 by
    have := wE_id (xu I 347 2 0)
    rwa [xu_ne (by omega)] at this] at this
theorem in0.of {x : Int32} {a b : Nat} (hb : b < 2 ^ 31) (h0 : ¬ x < nI a) (h1 : ¬ nI b < x) (hab : a ≤ b) : in0 x a b := by
  have z1 : ¬ x.toInt < (nI a).toInt := fun z => h0 (Int32.lt_iff_toInt_lt.mpr z)
  have z2 : ¬ (nI b).toInt < x.toInt := fun z => h1 (Int32.lt_iff_toInt_lt.mpr z)
  rw [nIi (by omega)] at z1 z2
  exact ⟨x.toInt.toNat, by omega, by omega, Int32.toInt_inj.mp (by rw [nIi (by omega)]; omega)⟩
theorem rNo_o {I : Nat → Nat → Int32} {s : Nat} {p1 p2 p3 p4 : Int32} {a k : Nat} (h : ¬ (a = 395 ∧ 4 * s ≤ k ∧ k < 4 * s + 4) ∧ ¬ (a = 347 ∧ k = 76)) : rNo I s p1 p2 p3 p4 a k = I a k := by
  unfold rNo
  rw [xu_ne (by omega), xu_ne (by omega), xu_ne (by omega), xu_ne (by omega), xu_ne (by omega)]
theorem sPut_o {I : Nat → Nat → Int32} {s : Nat} {p1 p2 p3 p4 : Int32} {a k : Nat} (h : ¬ ((94 ≤ a ∧ a ≤ 97) ∧ k = s) ∧ ¬ (a = 93 ∧ k = 4)) : sPut I s p1 p2 p3 p4 a k = I a k := by
  unfold sPut
  rw [xu_ne (by omega), xu_ne (by omega), xu_ne (by omega), xu_ne (by omega), xu_ne (by omega)]
theorem rNo_i (I : Nat → Nat → Int32) (s : Nat) (p1 p2 p3 p4 : Int32) : rNo I s p1 p2 p3 p4 395 (4 * s) = p1 ∧ rNo I s p1 p2 p3 p4 395 (4 * s + 1) = p2 ∧ rNo I s p1 p2 p3 p4 395 (4 * s + 2) = p3 ∧ rNo I s p1 p2 p3 p4 395 (4 * s + 3) = p4 ∧ rNo I s p1 p2 p3 p4 347 76 = nI (s + 1) := by
  unfold rNo
  refine ⟨?_, ?_, ?_, ?_, xu_s _ _ _ _⟩
  · rw [xu_ne (by omega), xu_ne (by omega), xu_ne (by omega), xu_ne (by omega), xu_s]
  · rw [xu_ne (by omega), xu_ne (by omega), xu_ne (by omega), xu_s]
  · rw [xu_ne (by omega), xu_ne (by omega), xu_s]
  · rw [xu_ne (by omega), xu_s]
theorem sPut_i (I : Nat → Nat → Int32) (s : Nat) (p1 p2 p3 p4 : Int32) : sPut I s p1 p2 p3 p4 94 s = p1 ∧ sPut I s p1 p2 p3 p4 95 s = p2 ∧ sPut I s p1 p2 p3 p4 96 s = p3 ∧ sPut I s p1 p2 p3 p4 97 s = p4 ∧ sPut I s p1 p2 p3 p4 93 4 = nI (s + 1) := by
  unfold sPut
  refine ⟨?_, ?_, ?_, ?_, xu_s _ _ _ _⟩
  · rw [xu_ne (by omega), xu_ne (by omega), xu_ne (by omega), xu_ne (by omega), xu_s]
  · rw [xu_ne (by omega), xu_ne (by omega), xu_ne (by omega), xu_s]
  · rw [xu_ne (by omega), xu_ne (by omega), xu_s]
  · rw [xu_ne (by omega), xu_s]
/-- one sag more, told alike -/
theorem Rel.put {t np q n m s kb u sn : Nat} {I : Nat → Nat → Int32} {P : Nat → Nat → Nat} (h : Rel t np q n m s kb u sn I P) (hs : s < 24) {c1 c2 c3 c4 r1 r2 r3 r4 : Int32} (hz : (c4 = 2 ∧ r1 = -1 ∧ r2 = c1 ∧ ∃ z, z < s ∧ c1 = nI z) ∨ ((c4 = 0 ∨ c4 = 1) ∧ r4 = c4 ∧ r1 = c1 ∧ in0 c1 0 50 ∧ r2 = c2 ∧ in0 c2 1 999 ∧ r3 = c3)) : RX (rNo (xu (sPut I s c1 c2 c3 c4) 347 2 0) s r1 r2 r3 r4) P := by
  have h8 := h.2.2.2.2.2.2.2.1
  have e : ∀ a k, ¬ ((93 ≤ a ∧ a ≤ 97) ∨ a = 395 ∨ (a = 347 ∧ (k = 2 ∨ k = 52 ∨ k = 76 ∨ k = 77))) → rNo (xu (sPut I s c1 c2 c3 c4) 347 2 0) s r1 r2 r3 r4 a k = I a k := fun a k z => (rNo_o (by omega)).trans ((xu_ne (by omega)).trans (sPut_o (by omega)))
  have ec : ∀ a k, 93 ≤ a → a ≤ 97 → rNo (xu (sPut I s c1 c2 c3 c4) 347 2 0) s r1 r2 r3 r4 a k = sPut I s c1 c2 c3 c4 a k := fun a k z1 z2 => (rNo_o (by omega)).trans (xu_ne (by omega))
  obtain ⟨i1, i2, i3, i4, i5⟩ := rNo_i (xu (sPut I s c1 c2 c3 c4) 347 2 0) s r1 r2 r3 r4
  obtain ⟨j1, j2, j3, j4, j5⟩ := sPut_i I s c1 c2 c3 c4
  have e77 : rNo (xu (sPut I s c1 c2 c3 c4) 347 2 0) s r1 r2 r3 r4 347 77 = I 347 77 := (rNo_o (by omega)).trans ((xu_ne (by omega)).trans (sPut_o (by omega)))
  have e5 : rNo (xu (sPut I s c1 c2 c3 c4) 347 2 0) s r1 r2 r3 r4 93 5 = I 93 5 := (ec 93 5 (by omega) (by omega)).trans (sPut_o (by omega))
  have hj : ∀ j, j < s + 1 → zS1 (rNo (xu (sPut I s c1 c2 c3 c4) 347 2 0) s r1 r2 r3 r4) j := by
    intro j hj
    by_cases c : j = s
    · subst c
      unfold zS1
      rw [ec 97 j (by omega) (by omega), ec 94 j (by omega) (by omega), ec 95 j (by omega) (by omega), ec 96 j (by omega) (by omega), i1, i2, i3, i4, j1, j2, j3, j4]
      exact hz
    · have := h8.2.2.2.2.2 j (by omega)
      unfold zS1 at this ⊢
      have ej : ∀ a, 94 ≤ a → a ≤ 97 → rNo (xu (sPut I s c1 c2 c3 c4) 347 2 0) s r1 r2 r3 r4 a j = I a j := fun a z1 z2 => (ec a j (by omega) (by omega)).trans (sPut_o (by omega))
      have er : ∀ k, k < 4 * s → rNo (xu (sPut I s c1 c2 c3 c4) 347 2 0) s r1 r2 r3 r4 395 k = I 395 k := fun k z => (rNo_o (by omega)).trans ((xu_ne (by omega)).trans (sPut_o (by omega)))
      rw [ej 97 (by omega) (by omega), ej 94 (by omega) (by omega), ej 95 (by omega) (by omega), ej 96 (by omega) (by omega), er (4 * j) (by omega), er (4 * j + 1) (by omega), er (4 * j + 2) (by omega), er (4 * j + 3) (by omega)]
      exact this
  rcases h8.2.2.2.2.1 with ⟨z, -⟩ | ⟨z, z2⟩
  · exact ⟨t, np, q, n, m, s + 1, s + 1, u, sn, h.s e ⟨by omega, (ec 93 4 (by omega) (by omega)).trans j5, i5, by rw [e5, e77]; exact h8.2.2.2.1, Or.inl ⟨e5.trans z, rfl⟩, hj⟩⟩
  · exact ⟨t, np, q, n, m, s + 1, kb, u, sn, h.s e ⟨by omega, (ec 93 4 (by omega) (by omega)).trans j5, i5, by rw [e5, e77]; exact h8.2.2.2.1, Or.inr ⟨e5.trans z, by omega⟩, hj⟩⟩
theorem see_Cl {E : xCl} {ex : Bool} (x1 x2 x3 x4 : Int32) : Cl E ex yX10_see [.ref 0, .int x1, .int x2, .int x3, .int x4] yX11_see [.ref 347, .int x1, .int x2, .int x3, .int x4] := by
  intro I J P hX N hN
  obtain ⟨t, np, q, n, m, s, kb, u, sn, h⟩ := hX
  have h1 := h.1
  have h8 := h.2.2.2.2.2.2.2.1
  by_cases c : rOkS x1 x2 x3
  · have c' : okS x1 x2 x3 := ⟨c.1.1, c.1.2, c.2.1.1, c.2.1.2, c.2.2.1, Int32.not_lt.mp c.2.2.2⟩
    by_cases cs : s < 24
    · have cc := k_see_t (E := E) (ex := ex) (J := J) h1.2.1 cs h8.2.1 x4 c' 0
      have rr := k_rsee (E := E) (ex := ex) (I := sPut I s x1 x2 x3 (if x4 = 0 then 0 else 1)) (J := J) (x4 := x4) h1.2.1 rfl cs ((xu_ne (by omega)).trans ((sPut_o (by omega)).trans h8.2.2.1)) c 0
      refine ⟨_, _, _, _, _, _, x_le (by omega) cc, x_le (by omega) rr, h.put cs (Or.inr ⟨?_, rfl, rfl, in0.of (by omega) c.1.1 c.1.2 (by omega), rfl, in0.of (by omega) c.2.1.1 c.2.1.2 (by omega), rfl⟩)⟩
      by_cases z : x4 = 0
      · rw [if_pos z]; exact Or.inl rfl
      · rw [if_neg z]; exact Or.inr rfl
    · have es : s = 24 := by have := h8.1; omega
      subst es
      have cc := k_see_f (E := E) (ex := ex) (J := J) h1.2.1 h8.2.1 x4 c' 0
      have rr := k_rsee_n (E := E) (ex := ex) (I := I) (J := J) (x4 := x4) h1.2.1 rfl (s := 24) (by omega) ((xu_ne (by omega)).trans h8.2.2.1) (x1 := x1) (x2 := x2) (x3 := x3) (fun z => absurd z.2 (by omega)) 0
      exact ⟨_, _, _, _, _, _, x_le (by omega) cc, x_le (by omega) rr, _, _, _, _, _, _, _, _, _, h.o⟩
  · have cc := k_see_n (E := E) (ex := ex) (I := I) (J := J) (P := P) (x1 := x1) (x2 := x2) (x3 := x3) x4 (fun z => c ⟨⟨z.1, z.2.1⟩, ⟨z.2.2.1, z.2.2.2.1⟩, z.2.2.2.2.1, Int32.not_lt.mpr z.2.2.2.2.2⟩) 0
    have rr := k_rsee_n (E := E) (ex := ex) (I := I) (J := J) (x4 := x4) h1.2.1 rfl h8.1 ((xu_ne (by omega)).trans h8.2.2.1) (x1 := x1) (x2 := x2) (x3 := x3) (fun z => c z.1) 0
    exact ⟨_, _, _, _, _, _, x_le (by omega) cc, x_le (by omega) rr, _, _, _, _, _, _, _, _, _, h.o⟩
theorem strikes_Cl {E : xCl} {ex : Bool} (x : Int32) : Cl E ex yX10_strikes [.ref 0, .int x] yX11_strikes [.ref 347, .int x] := by
  intro I J P hX N hN
  obtain ⟨t, np, q, n, m, s, kb, u, sn, h⟩ := hX
  have h1 := h.1
  have h8 := h.2.2.2.2.2.2.2.1
  by_cases c : ¬ x < 0 ∧ x < I 93 4
  · have c' : ¬ x < 0 ∧ x < nI s := by rw [← h8.2.1]; exact c
    by_cases cs : s < 24
    · have cc := k_strikes_t (E := E) (ex := ex) (J := J) h1.2.1 cs h8.2.1 c 0
      have rr := k_rstrikes (E := E) (ex := ex) (I := sPut I s x 0 0 2) (J := J) h1.2.1 rfl cs ((xu_ne (by omega)).trans ((sPut_o (by omega)).trans h8.2.2.1)) c' 0
      exact ⟨_, _, _, _, _, _, x_le (by omega) cc, x_le (by omega) rr, h.put cs (Or.inl ⟨rfl, rfl, rfl, in_lt (by omega) c'.1 c'.2⟩)⟩
    · have es : s = 24 := by have := h8.1; omega
      subst es
      have cc := k_strikes_f (E := E) (ex := ex) (J := J) h1.2.1 h8.2.1 c 0
      have rr := k_rstrikes_n (E := E) (ex := ex) (I := I) (J := J) h1.2.1 rfl (s := 24) (by omega) ((xu_ne (by omega)).trans h8.2.2.1) (x := x) (fun z => absurd z.2.2 (by omega)) 0
      exact ⟨_, _, _, _, _, _, x_le (by omega) cc, x_le (by omega) rr, _, _, _, _, _, _, _, _, _, h.o⟩
  · have cc := k_strikes_n (E := E) (ex := ex) (I := I) (J := J) h1.2.1 c 0
    have rr := k_rstrikes_n (E := E) (ex := ex) (I := I) (J := J) h1.2.1 rfl h8.1 ((xu_ne (by omega)).trans h8.2.2.1) (x := x) (fun z => c ⟨z.1, by rw [h8.2.1]; exact z.2.1⟩) 0
    exact ⟨_, _, _, _, _, _, x_le (by omega) cc, x_le (by omega) rr, _, _, _, _, _, _, _, _, _, h.o⟩
theorem known_Cl {E : xCl} {ex : Bool} (x : Int32) : Cl E ex yX10_known [.ref 0, .int x] yX11_known [.ref 347, .int x] := by
  intro I J P hX N hN
  obtain ⟨t, np, q, n, m, s, kb, u, sn, h⟩ := hX
  have h1 := h.1
  have h8 := h.2.2.2.2.2.2.2.1
  by_cases c : ¬ x < -1 ∧ x ≤ I 93 4
  · have cc := k_known_t (E := E) (ex := ex) (J := J) h1.2.1 c 0
    have rr := k_rknown_t (E := E) (ex := ex) (I := xu I 93 5 x) (J := J) (P := P) (x := x) h1.2.1 rfl ⟨c.1, by
      rw [xu_ne (by omega), xu_ne (by omega), h8.2.2.1, ← h8.2.1]; exact Int32.not_lt.mpr c.2⟩ 0
    have e : ∀ a k, ¬ ((a = 93 ∧ k = 5) ∨ (a = 347 ∧ (k = 2 ∨ k = 77))) → xu (xu (xu I 93 5 x) 347 2 0) 347 77 x a k = I a k := fun a k z => (xu_ne (by omega)).trans ((xu_ne (by omega)).trans (xu_ne (by omega)))
    have e5 : xu (xu (xu I 93 5 x) 347 2 0) 347 77 x 93 5 = x := (xu_ne (by omega)).trans ((xu_ne (by omega)).trans (xu_s _ _ _ _))
    have e7 : xu (xu (xu I 93 5 x) 347 2 0) 347 77 x 347 77 = x := xu_s _ _ _ _
    have hj : ∀ j, j < s → zS1 (xu (xu (xu I 93 5 x) 347 2 0) 347 77 x) j := fun j hj => by
      have := h8.2.2.2.2.2 j hj
      unfold zS1 at this ⊢
      rw [e 97 _ (by omega), e 94 _ (by omega), e 95 _ (by omega), e 96 _ (by omega), e 395 _ (by omega), e 395 _ (by omega), e 395 _ (by omega), e 395 _ (by omega)]
      exact this
    by_cases z : x = -1
    · exact ⟨_, _, _, _, _, _, x_le (by omega) cc, x_le (by omega) rr, t, np, q, n, m, s, s, u, sn, h.s (fun a k z => e a k (by omega)) ⟨h8.1, (e _ _ (by omega)).trans h8.2.1, (e _ _ (by omega)).trans h8.2.2.1, by rw [e5, e7], Or.inl ⟨e5.trans z, rfl⟩, hj⟩⟩
    · have z0 : ¬ x < 0 := fun y => by
        have y1 := Int32.lt_iff_toInt_lt.mp y
        have y2 : ¬ x.toInt < (-1 : Int32).toInt := fun w => c.1 (Int32.lt_iff_toInt_lt.mpr w)
        have e0 : (0 : Int32).toInt = 0 := by decide
        have e1 : (-1 : Int32).toInt = -1 := by decide
        exact z (Int32.toInt_inj.mp (by omega))
      have h24 := h8.1
      obtain ⟨k, hk1, hk2, rfl⟩ := in0.of (a := 0) (b := s) (by omega) z0 (by rw [← h8.2.1]; exact Int32.not_lt.mpr c.2) (by omega)
      exact ⟨_, _, _, _, _, _, x_le (by omega) cc, x_le (by omega) rr, t, np, q, n, m, s, k, u, sn, h.s (fun a k z => e a k (by omega)) ⟨h8.1, (e _ _ (by omega)).trans h8.2.1, (e _ _ (by omega)).trans h8.2.2.1, by rw [e5, e7], Or.inr ⟨e5, by omega⟩, hj⟩⟩
  · have cc := k_known_f (E := E) (ex := ex) (I := I) (J := J) h1.2.1 c 0
    have rr := k_rknown_f (E := E) (ex := ex) (I := I) (J := J) (P := P) (x := x) h1.2.1 rfl (fun z => c ⟨z.1, by
      have := z.2
      rw [xu_ne (by omega), h8.2.2.1, ← h8.2.1] at this
      exact Int32.not_lt.mp this⟩) 0
    exact ⟨_, _, _, _, _, _, x_le (by omega) cc, x_le (by omega) rr, _, _, _, _, _, _, _, _, _, h.o⟩
