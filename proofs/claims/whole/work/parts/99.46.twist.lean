/-! cross, twist, tie -/
theorem zE.p {t np : Nat} {I : Nat → Nat → Int32} (h : zE t np I) {p : Int32} (hp : isP I t p) : ∃ j, j < np ∧ p = nI j := by
  have := h.1
  unfold isP at hp
  rw [h.2.1] at hp
  exact in_lt (by omega) hp.1 (Int32.not_le.mp hp.2)
theorem cross_Cl {E : xCl} {ex : Bool} (p x : Int32) : Cl E ex yX10_cross [.ref 0, .int p, .int x] yX11_cross [.ref 347, .int p, .int x] := by
  intro I J P hX N hN
  obtain ⟨t, np, q, n, m, s, kb, u, sn, h⟩ := hX
  have h1 := h.1
  have h3 := h.2.2.1
  have h5 := h.2.2.2.2.1
  have h7 := h.2.2.2.2.2.2.1
  have h9 := h.2.2.2.2.2.2.2.2.1
  have hp := h7.2.2.2.2.2
  have np6 := h3.1
  have e3 : I t 3 = I 347 12 := h3.2.1.trans h3.2.2.1.symm
  by_cases c : okX I t p x
  · obtain ⟨j, hj, rfl⟩ := h3.p c.1
    have cj : (nI j).toNatClampNeg = j := nI_clamp (by omega)
    have eL : I (t + 3) j = I 355 j := (h3.2.2.2 j hj).2.2.2
    have eb := h7.2.1.br h7.1.1 h7.1.2.2.2.1 (LL.rf (Lv I t)) n (Nat.le_refl _)
    by_cases b : sBr (vB I 56) (Lv I t) n < I (t + 3) (nI j).toNatClampNeg + x
    · obtain ⟨J1, cc, -⟩ := k_cross_0 (E := E) (ex := ex) (I := I) (V := vB I 56) (J := J) h1.2.1 h1.1 h1.2.2.1 h1.2.2.2.2.2 h3.1 h3.2.1 h7.1.1 h5.1 c b 0
      rw [wB_vB] at cc
      obtain ⟨e', J2, rr, -⟩ := k_rcross_0 (E := E) (ex := ex) (I := I) (V := vR I 0) (e := I 347 52) (J := J1) h1.2.1 rfl h7.rv.1 h7.rv.2 h5.2.1.x2 (Lv_7 I t) h3.1 ((xu_ne (by omega)).trans h3.2.2.1) (p := nI j) (x := x) (by
        have := c
        unfold okX isP at this
        unfold rOkX
        rw [xu_ne (by omega), ← e3]; exact ⟨this.1, this.2.1, Int32.not_lt.mpr this.2.2⟩) (by
        rw [← eb, cj, xu_ne (by omega), ← eL, ← cj]; exact b) 0
      rw [preR hp, postR hp] at rr
      exact Cl.ro h (x_le (by omega) cc) (x_le (by omega) rr)
    · obtain ⟨J1, cc, -⟩ := k_cross_1 (E := E) (ex := ex) (I := I) (V := vB I 56) (J := J) h1.2.1 h1.1 h1.2.2.1 h1.2.2.2.2.2 h9.2.1 h9.2.2.2.1 h9.1 h9.2.2.1 h3.1 h3.2.1 h7.1.1 h5.1 c b 0
      rw [wB_vB, cj] at cc
      have a1 : ∀ a k, 347 ≤ a → xu (wB (svI I (vB I 56) sn u) 56 (xu (vB I 56) 2 j (1 - vB I 56 2 j))) 347 2 0 a k = xu I 347 2 0 a k := fun a k z => by
        simp only [xu]
        rw [act_e h9.2.1 (by have := h9.2.1; omega)]
      obtain ⟨e', J2, rr, -⟩ := k_rcross_1 (E := E) (ex := ex) (I := wB (svI I (vB I 56) sn u) 56 (xu (vB I 56) 2 j (1 - vB I 56 2 j))) (V := vR I 0) (e := I 347 52) (J := J1) (h1.2.1.xb (sv_b sn h9.2.1) (t + 1)) rfl h7.rv.1 h7.rv.2 (h5.2.1.x2.of (fun a z1 z2 => funext fun k => a1 a k (by omega))) (Lv_7 I t) h3.1 ((a1 _ _ (by omega)).trans ((xu_ne (by omega)).trans h3.2.2.1)) (p := nI j) (x := x) (by
        have := c
        unfold okX isP at this
        unfold rOkX
        rw [a1 _ _ (by omega), xu_ne (by omega), ← e3]; exact ⟨this.1, this.2.1, Int32.not_lt.mpr this.2.2⟩) h9.1 ((a1 _ _ (by omega)).trans ((xu_ne (by omega)).trans h9.2.2.2.2.1)) (by
        rw [← eb, cj, a1 _ _ (by omega), xu_ne (by omega), ← eL]; rw [cj] at b; exact b) 0
      rw [cj, ← (h7.2.1.1 j hj).2] at rr
      exact Cl.act h (Nat.le_refl n) (h7.1.act (fun f k _ z _ _ => xu_f _ _ z) (h7.1.2.2.1.xu (by decide)) (fun j2 _ z => by rw [xu_f _ _ (by decide)] at z; exact z)) (h7.2.1.x1 (by decide)) (vK.act (fun f k _ z _ _ => xu_f _ _ z)) (h7.w (fun f k _ z _ _ => xu_f _ _ z) (fun k hk => by rw [xu_f _ _ (by decide)]; exact h7.t12 k hk)) (x_le (by omega) cc) (x_le (by omega) rr)
  · have cc := k_cross_n (E := E) (ex := ex) (I := I) (V := vB I 56) (J := J) h1.2.1 h1.1 h1.2.2.1 h1.2.2.2.2.2 c 0
    rw [wB_vB] at cc
    have rr := k_rcross_n (E := E) (ex := ex) (I := I) (V := vR I 0) (e := I 347 52) (J := J) h1.2.1 rfl (p := p) (x := x) (fun z => c (by
      unfold rOkX at z
      rw [xu_ne (by omega), ← e3] at z
      exact ⟨z.1, z.2.1, Int32.not_lt.mp z.2.2⟩)) 0
    rw [preR hp, postR hp] at rr
    exact Cl.ro h (x_le (by omega) cc) (x_le (by omega) rr)
theorem m1_lt : (-1 : Int32) < 0 := by decide
theorem nI_n0 {k : Nat} (h : k < 2 ^ 31) : ¬ nI k < 0 := fun z => by
  have := Int32.lt_iff_toInt_lt.mp z
  rw [nIi h] at this
  have e0 : (0 : Int32).toInt = 0 := by decide
  omega
theorem nI_ij {a b : Nat} (ha : a < 2 ^ 31) (hb : b < 2 ^ 31) (h : nI a = nI b) : a = b := by
  have := congrArg Int32.toInt h
  rw [nIi ha, nIi hb] at this
  omega
theorem sUn_r {V : Nat → Nat → Int32} {n : Nat} (hv : Vok V n) (ht : Tok V n) {k : Nat} (hk : k < n) : sUn V k = rUn V k := by
  have n12 := hv.1
  unfold sUn rUn
  rcases ht k hk with z | ⟨y, z1, z2, z3, z4⟩
  · rw [z, if_pos m1_lt, if_neg (fun w => w.1 m1_lt)]
  · have hs : sSt V (nI y) := ⟨nI_n0 (by omega), hv.g z1, nI_ge (b := 12) (by omega) (by omega)⟩
    rw [z3, if_pos hs, if_neg (nI_n0 (by omega)), hv.c z1]
    funext f j
    simp only [xu]
    by_cases a1 : f = 10 ∧ j = k
    · rw [if_pos a1]
      by_cases a2 : f = 10 ∧ j = y
      · rw [if_pos a2]
      · rw [if_neg a2, if_pos a1]
    · rw [if_neg a1]
      by_cases a2 : f = 10 ∧ j = y
      · rw [if_pos a2, if_pos a2]
      · rw [if_neg a2, if_neg a2, if_neg a1]
theorem rUn_v {V : Nat → Nat → Int32} {n : Nat} (hv : Vok V n) (ht : Tok V n) {k : Nat} (hk : k < n) : (∀ f j, f ≠ 10 → rUn V k f j = V f j) ∧ rUn V k 10 k = -1 ∧ (∀ j, j < n → rUn V k 10 j = -1 ∨ (rUn V k 10 j = V 10 j ∧ j ≠ k ∧ V 10 j ≠ nI k)) := by
  have n12 := hv.1
  unfold rUn
  rcases ht k hk with z | ⟨y, z1, z2, z3, z4⟩
  · rw [z, if_pos m1_lt]
    refine ⟨fun f j hf => xu_f _ _ hf, xu_s _ _ _ _, fun j hj => ?_⟩
    by_cases e : j = k
    · subst e; exact Or.inl (xu_s _ _ _ _)
    · refine Or.inr ⟨xu_ne (by omega), e, fun w => ?_⟩
      rcases ht j hj with w1 | ⟨y2, w1, w2, w3, w4⟩
      · rw [w1] at w; exact nI_nm1 (q := k) (by omega) w.symm
      · rw [w3] at w
        have := nI_ij (by omega) (by omega) w
        subst this
        rw [z] at w4; exact nI_nm1 (q := j) (by omega) w4.symm
  · rw [z3, if_neg (nI_n0 (by omega)), hv.c z1]
    refine ⟨fun f j hf => (xu_f _ _ hf).trans (xu_f _ _ hf), (xu_ne (by omega)).trans (xu_s _ _ _ _), fun j hj => ?_⟩
    by_cases e : j = y
    · subst e; exact Or.inl (xu_s _ _ _ _)
    · by_cases e2 : j = k
      · subst e2; exact Or.inl ((xu_ne (by omega)).trans (xu_s _ _ _ _))
      · refine Or.inr ⟨(xu_ne (by omega)).trans (xu_ne (by omega)), e2, fun w => ?_⟩
        rcases ht j hj with w1 | ⟨y2, w1, w2, w3, w4⟩
        · rw [w1] at w; exact nI_nm1 (q := k) (by omega) w.symm
        · rw [w3] at w
          have := nI_ij (by omega) (by omega) w
          subst this
          rw [z3] at w4
          exact e (nI_ij (by omega) (by omega) w4).symm
theorem Tok.un {V : Nat → Nat → Int32} {n : Nat} (hv : Vok V n) (ht : Tok V n) {k : Nat} (hk : k < n) : Tok (rUn V k) n := fun j hj => by
  have n12 := hv.1
  obtain ⟨r1, r2, r3⟩ := rUn_v hv ht hk
  rcases r3 j hj with z | ⟨z1, z2, z3⟩
  · exact Or.inl z
  · rcases ht j hj with w | ⟨y, w1, w2, w3, w4⟩
    · exact Or.inl (z1.trans w)
    · refine Or.inr ⟨y, w1, w2, z1.trans w3, ?_⟩
      rcases r3 y w1 with v | ⟨v1, v2, v3⟩
      · exfalso
        have hyk : y ≠ k := fun a => z3 (by rw [w3, a])
        unfold rUn at v
        rcases ht k hk with g | ⟨g, g1, g2, g3, g4⟩
        · rw [g, if_pos m1_lt, xu_ne (by omega), w4] at v
          exact nI_nm1 (q := j) (by omega) v
        · rw [g3, if_neg (nI_n0 (by omega)), hv.c g1] at v
          by_cases e : y = g
          · subst e
            rw [w4] at g4
            exact z2 (nI_ij (by omega) (by omega) g4)
          · rw [xu_ne (by omega), xu_ne (by omega), w4] at v
            exact nI_nm1 (q := j) (by omega) v
      · rw [v1]; exact w4
theorem Vok.un {V : Nat → Nat → Int32} {n : Nat} (hv : Vok V n) (ht : Tok V n) {k : Nat} (hk : k < n) : Vok (rUn V k) n := by
  have e := (rUn_v hv ht hk).1
  exact ⟨hv.1, by rw [e 13 0 (by decide)]; exact hv.2.1, fun j => by rw [e 3 j (by decide)]; exact hv.2.2.1 j, fun j => by rw [e 4 j (by decide)]; exact hv.2.2.2 j⟩
theorem vE.un {np n m : Nat} {V W : Nat → Nat → Int32} (h : vE np n m V W) {k : Nat} (hk : k < n) : vE np n m (rUn V k) (rUn W k) := by
  unfold rUn
  rw [(h.2.1 k hk).2.2.2.2.2.2.2.1]
  split
  · exact h.x1 (by decide)
  · exact (h.x1 (by decide)).x1 (by decide)
/-- twisting, told by places -/
theorem twist_v {V : Nat → Nat → Int32} {n : Nat} (hv : Vok V n) (ht : Tok V n) {a c : Nat} (ha : a < n) (hc : c < n) : sTs V (nI a) (nI c) = rTs V (nI a) (nI c) ∧ Tok (rTs V (nI a) (nI c)) n ∧ ∀ f k, f ≠ 10 → rTs V (nI a) (nI c) f k = V f k := by
  have n12 := hv.1
  have v1 := hv.un ht ha
  have t1 := ht.un hv ha
  have v2 := v1.un t1 hc
  have t2 := t1.un v1 hc
  have e1 := rUn_v hv ht ha
  have e2 := rUn_v v1 t1 hc
  have m1 : rUn (rUn V a) c 10 a = -1 := by
    rcases e2.2.2 a ha with z | ⟨z, -⟩
    · exact z
    · exact z.trans e1.2.1
  unfold sTs rTs
  rw [hv.c ha, hv.c hc, sUn_r hv ht ha, sUn_r v1 t1 hc]
  by_cases e : nI a = nI c
  · rw [if_pos e, if_pos e]
    exact ⟨rfl, t2, fun f k hf => (e2.1 f k hf).trans (e1.1 f k hf)⟩
  · rw [if_neg e, if_neg e]
    have hac : a ≠ c := fun z => e (by rw [z])
    refine ⟨by unfold sTw; rw [hv.c ha, hv.c hc], fun j hj => ?_, fun f k hf => (xu_f _ _ hf).trans ((xu_f _ _ hf).trans ((e2.1 f k hf).trans (e1.1 f k hf)))⟩
    by_cases j1 : j = c
    · subst j1
      refine Or.inr ⟨a, ha, hac, xu_s _ _ _ _, ?_⟩
      rw [xu_ne (by omega), xu_s]
    · by_cases j2 : j = a
      · subst j2
        refine Or.inr ⟨c, hc, hac.symm, ?_, xu_s _ _ _ _⟩
        rw [xu_ne (by omega), xu_s]
      · rw [xu_ne (by omega), xu_ne (by omega)]
        rcases t2 j hj with z | ⟨y, z1, z2, z3, z4⟩
        · exact Or.inl z
        · refine Or.inr ⟨y, z1, z2, z3, ?_⟩
          have y1 : y ≠ a := fun w => by
            subst w; rw [m1] at z4; exact nI_nm1 (q := j) (by omega) z4.symm
          have y2 : y ≠ c := fun w => by
            subst w; rw [e2.2.1] at z4; exact nI_nm1 (q := j) (by omega) z4.symm
          rw [xu_ne (by omega), xu_ne (by omega)]; exact z4
theorem vE.ts {np n m : Nat} {V W : Nat → Nat → Int32} (h : vE np n m V W) (hv : Vok V n) {a c : Nat} (ha : a < n) (hc : c < n) : vE np n m (rTs V (nI a) (nI c)) (rTs W (nI a) (nI c)) := by
  unfold rTs
  rw [hv.c ha, hv.c hc]
  split
  · exact (h.un ha).un hc
  · exact ((((h.un ha).un hc).x1 (by decide))).x1 (by decide)
theorem T12.ts {V : Nat → Nat → Int32} (h : T12 V) {a c : Nat} (ha : a < 12) (hc : c < 12) : T12 (rTs V (nI a) (nI c)) := fun k hk => by
  unfold rTs
  split
  · exact (h.un _).un _ k hk
  · simp only [xu]; split
    · exact Or.inr (vp_in_nI ha (by decide))
    · split
      · exact Or.inr (vp_in_nI hc (by decide))
      · exact (h.un _).un _ k hk
theorem twist_Cl {E : xCl} {ex : Bool} (a c : Int32) : Cl E ex yX10_twist [.ref 0, .int a, .int c] yX11_twist [.ref 347, .int a, .int c] := by
  intro I J P hX N hN
  obtain ⟨t, np, q, n, m, s, kb, u, sn, h⟩ := hX
  have h1 := h.1
  have h7 := h.2.2.2.2.2.2.1
  have h9 := h.2.2.2.2.2.2.2.2.1
  have hp := h7.2.2.2.2.2
  have n12 := h7.1.1.1
  have ok : okT (vB I 56) a c ↔ rOkT (vR I 0) a c := by
    unfold okT rOkT
    by_cases c1 : sTh (vB I 56) a
    · have c1' := (h7.2.1.th h7.1.1 _).mp c1
      by_cases c2 : sTh (vB I 56) c
      · have c2' := (h7.2.1.th h7.1.1 _).mp c2
        obtain ⟨j, hj, rfl⟩ := h7.1.1.lt c1.1
        rw [h7.1.1.c hj, ← (h7.2.1.2.1 j hj).2.2.2.2.2.2.2.1]
        by_cases e : nI j = c
        · rw [if_pos e, if_pos e]
          have : vB I 56 10 j = -1 ↔ vB I 56 10 j < 0 := by
            rcases h7.1.2.2.1 j hj with z | ⟨y, z1, z2, z3, z4⟩
            · rw [z]; exact ⟨fun _ => m1_lt, fun _ => rfl⟩
            · rw [z3]; exact ⟨fun w => absurd w (nI_nm1 (by omega)), fun w => absurd w (nI_n0 (by omega))⟩
          rw [this]
          exact ⟨fun z => ⟨c1', c2', z.2.2⟩, fun z => ⟨c1, c2, z.2.2⟩⟩
        · rw [if_neg e, if_neg e]
          exact ⟨fun z => ⟨c1', c2', z.2.2⟩, fun z => ⟨c1, c2, z.2.2⟩⟩
      · exact ⟨fun z => absurd z.2.1 c2, fun z => absurd ((h7.2.1.th h7.1.1 _).mpr z.2.1) c2⟩
    · exact ⟨fun z => absurd z.1 c1, fun z => absurd ((h7.2.1.th h7.1.1 _).mpr z.1) c1⟩
  by_cases b : okT (vB I 56) a c
  · have b' := ok.mp b
    have cc := k_twist_t (E := E) (ex := ex) (I := I) (V := vB I 56) (J := J) h1.2.1 h1.1 h1.2.2.1 h1.2.2.2.2.2 h9.2.1 h9.2.2.2.1 h9.1 h9.2.2.1 b 0
    obtain ⟨j, hj, rfl⟩ := h7.1.1.lt b.1.1
    obtain ⟨k, hk, rfl⟩ := h7.1.1.lt b.2.1.1
    obtain ⟨v1, v2, v3⟩ := twist_v h7.1.1 h7.1.2.2.1 hj hk
    obtain ⟨w1, w2, w3⟩ := twist_v h7.rv.1 h7.rv.2 hj hk
    rw [wB_vB, v1] at cc
    have rr := k_rtwist_t (E := E) (ex := ex) (I := wB (svI I (vB I 56) sn u) 56 (rTs (vB I 56) (nI j) (nI k))) (V := vR I 0) (e := I 347 52) (J := J) (h1.2.1.xb (sv_b sn h9.2.1) (t + 1)) rfl h7.rv.1 h9.1 ((xu_ne (by omega)).trans ((act_e h9.2.1 (by have := h9.2.1; omega)).trans h9.2.2.2.2.1)) h7.t12 b' 0
    exact Cl.act h (Nat.le_refl n) (h7.1.act (fun f k _ _ _ z => v3 f k z) v2 (fun j2 _ z => by rw [v3 9 j2 (by decide)] at z; exact z)) (h7.2.1.ts h7.1.1 hj hk) (vK.act (fun f k _ _ _ z => v3 f k z)) (h7.w (fun f k _ _ _ z => w3 f k z) (fun i hi => h7.t12.ts (by omega) (by omega) i hi)) (x_le (by omega) cc) (x_le (by omega) rr)
  · have cc := k_twist_f (E := E) (ex := ex) (I := I) (V := vB I 56) (J := J) h1.2.1 h1.1 h1.2.2.1 h1.2.2.2.2.2 b 0
    rw [wB_vB] at cc
    have rr := k_rtwist_f (E := E) (ex := ex) (I := I) (V := vR I 0) (e := I 347 52) (J := J) h1.2.1 rfl h7.rv.1 (fun z => b (ok.mpr z)) 0
    rw [preR hp, postR hp] at rr
    exact Cl.ro h (x_le (by omega) cc) (x_le (by omega) rr)
