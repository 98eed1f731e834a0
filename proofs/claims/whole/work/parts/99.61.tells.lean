/-! tells -/
theorem sFq_r {g : Nat → Int32} (hg : ∀ k, ¬ g k < 0) (x : Int32) (i : Nat) : ∀ j, sFq g x i j = rFq g x i j ∧ (sFq g x i j = 0 ∨ sFq g x i j = 1)
  | 0 => ⟨rfl, Or.inr rfl⟩
  | j + 1 => by
    obtain ⟨h1, h2⟩ := sFq_r hg x i j
    rw [sFq, rFq, ← h1, ← sSag_r (hg j), ← sSag_r (hg i)]
    rcases h2 with z | z
    · rw [z, if_pos rfl]
      by_cases c : sSag x (g i) = sSag x (g j)
      · rw [if_pos c]; exact ⟨rfl, Or.inl rfl⟩
      · rw [if_neg c]; exact ⟨rfl, Or.inl rfl⟩
    · rw [z, if_neg (show ¬ (1 : Int32) = 0 by decide)]
      by_cases c : sSag x (g i) = sSag x (g j)
      · rw [if_pos c, if_pos c.symm]; exact ⟨rfl, Or.inl rfl⟩
      · rw [if_neg c, if_neg (fun y => c y.symm)]; exact ⟨rfl, Or.inr rfl⟩
theorem sWy_r {g : Nat → Int32} (hg : ∀ k, ¬ g k < 0) (x : Int32) : ∀ i, sWy g x i = rWy g x i ∧ ∃ w, (1 ≤ i → 1 ≤ w) ∧ w ≤ i ∧ sWy g x i = nI w
  | 0 => ⟨rfl, 0, by omega, by omega, rfl⟩
  | i + 1 => by
    obtain ⟨h1, w, h2, h3, h4⟩ := sWy_r hg x i
    have f := sFq_r hg x i i
    rw [sWy, rWy, ← f.1, ← h1]
    by_cases c : sFq g x i i = 0
    · rw [if_pos c, if_pos c]
      refine ⟨(Int32.add_zero _).symm, w, fun _ => ?_, by omega, h4⟩
      by_cases i0 : i = 0
      · subst i0
        exact absurd c (by rw [sFq]; decide)
      · exact h2 (by omega)
    · rw [if_neg c, if_neg c]
      refine ⟨rfl, w + 1, fun _ => by omega, by omega, ?_⟩
      rw [h4]; exact nI_add w 1
theorem sMt_r {g : Nat → Int32} (hg : ∀ k, ¬ g k < 0) {q : Nat} (hq : 1 ≤ q) (hq2 : q ≤ 11) : ∀ x, sMt g q (x + 1) = rMt g q (x + 1)
  | 0 => by
    obtain ⟨h1, w, h2, h3, h4⟩ := sWy_r hg (nI (0 + 1)) q
    rw [sMt, rMt, ← h1, h4]
    have n1 : ¬ nI w ≤ 0 := nI_ge (a := 0) (b := w) (by have := h2 hq; omega) (by omega)
    rw [if_neg (show ¬ nI w ≤ (sMt g q 0).2 from n1), if_neg (show ¬ nI w ≤ (rMt g q 0).2 from n1)]
  | x + 1 => by
    have h1 := (sWy_r hg (nI (x + 1 + 1)) q).1
    rw [sMt, rMt, ← h1, sMt_r hg hq hq2 x]
theorem sTl_c {M M' : Nat → Prop} {B B' : Nat → Int32} : ∀ n, (∀ c, c < n → (M c ↔ M' c) ∧ B c = B' c) → sTl M B n = sTl M' B' n
  | 0, _ => rfl
  | n + 1, h => by
    have ih := sTl_c n (fun c hc => h c (by omega))
    have z := h n (by omega)
    by_cases c : M n
    · rw [sTl_t c, sTl_t (z.1.mp c), ih, z.2]
    · rw [sTl_f c, sTl_f (fun y => c (z.1.mpr y)), ih]
theorem getD_p {P : Int32 → Prop} {d : Int32} (hd : P d) : ∀ (l : List Int32), (∀ x, x ∈ l → P x) → ∀ k, P (l.getD k d)
  | [], _, k => by simpa using hd
  | a :: l, h, 0 => by simpa using h a (List.mem_cons_self)
  | a :: l, h, k + 1 => by simpa using getD_p hd l (fun x hx => h x (List.mem_cons_of_mem a hx)) k
theorem sTl_p {M : Nat → Prop} {B : Nat → Int32} {P : Int32 → Prop} (hB : ∀ c, P (B c)) : ∀ n x, x ∈ sTl M B n → P x
  | 0, x, h => by rw [sTl] at h; exact absurd h (List.not_mem_nil)
  | n + 1, x, h => by
    by_cases c : M n
    · rw [sTl_t c, List.mem_append] at h
      rcases h with h | h
      · exact sTl_p hB n x h
      · rw [List.mem_singleton] at h; rw [h]; exact hB n
    · rw [sTl_f c] at h; exact sTl_p hB n x h
theorem tells_Cl {E : xCl} {ex : Bool} (x : Int32) : Cl E ex yX10_tells [.ref 0, .int x] yX11_tells [.ref 347, .int x] := by
  intro I J P hX N hN
  obtain ⟨t, np, q, n, m, s, kb, u, sn, h⟩ := hX
  have h1 := h.1
  have h2 := h.2.1
  have h4 := h.2.2.2.1
  have h5 := h.2.2.2.2.1
  have h6 := h.2.2.2.2.2.1
  have h7 := h.2.2.2.2.2.2.1
  have h8 := h.2.2.2.2.2.2.2.1
  have hp := h7.2.2.2.2.2
  have hs := h8.1
  have hkb : kb ≤ s := by
    rcases h8.2.2.2.2.1 with ⟨-, z⟩ | ⟨-, z⟩
    · omega
    · exact z
  by_cases c : ¬ x < 0 ∧ x ≤ 1
  · obtain ⟨l1, J1, W1, P1, cc, -, hPb⟩ := k_tells (E := E) (ex := ex) (I := I) (W := vB I 80) (J := J) h1.2.1 h1.1 h1.2.2.1 h1.2.2.2.2.1 h1.2.2.2.2.2 h6.2.2.2.1.1 h7.1.1 h5.1 h4.1 h4.2.1 h4.2.2.2.2 h8.1 h8.2.1 h6.1 h6.2.1 (q := kb) (by omega) h8.kb.1 c 0
    rw [wB_vB] at cc
    have i0 : ∀ a k, ¬ ((80 ≤ a ∧ a ≤ 91) ∨ a = 106) → ¬ (a = 347 ∧ k = 2) → xu (wB (wLs I l1) 80 W1) 347 2 0 a k = I a k := fun a k z1 z2 => (w80_e (by omega) z2).trans (wLs_o I l1 a k (by omega))
    have ev : vR (xu (wB (wLs I l1) 80 W1) 347 2 0) 0 = vR I 0 := vR_c (fun a k z1 z2 => i0 a k (by omega) (by omega))
    obtain ⟨l2, e', J2, W2, rr, -, hf⟩ := k_rtells (E := E) (ex := ex) (I := wB (wLs I l1) 80 W1) (J := J1) (P := P1) (h1.2.1.ap hPb) rfl h6.1 ((i0 _ _ (by omega) (by omega)).trans h6.2.2.1) (fun j hj => by rw [i0 _ _ (by omega) (by omega)]; exact (h2.2.2.2.1 j).2.2.1) (fun j hj => by
      have tk := h6.2.2.2.1.2.2.1 j hj
      have z := (h6.2.2.2.2.2.2.1 j hj).2.2.2.2.2.2.2
      rw [i0 _ _ (by omega) (by omega), ← z]
      rcases tk with w | ⟨y, w1, w2, w3, w4⟩
      · exact Or.inl w
      · refine Or.inr ⟨y, w1, w2, w3, ?_⟩
        rw [i0 _ _ (by omega) (by omega), ← (h6.2.2.2.2.2.2.1 y w1).2.2.2.2.2.2.2]; exact w4) (fun k => by rw [i0 _ _ (by omega) (by omega)]; exact h7.2.2.1 k) (fun k => by rw [i0 _ _ (by omega) (by omega)]; exact h7.2.2.2.1 k) (h5.2.1.of (fun a z1 z2 => funext fun k => i0 a k (by omega) (by omega))) (Lv_7 I t) h4.1 ((i0 _ _ (by omega) (by omega)).trans h4.2.2.1) (fun k => by rw [i0 _ _ (by omega) (by omega)]; exact (h2.2.2.2.1 k).2.2.2) (kb := kb) (by omega) (by
      have := h8.kb.2
      unfold rKb at this ⊢
      rw [i0 _ _ (by omega) (by omega), i0 _ _ (by omega) (by omega)]; exact this) (hp.c (fun k => i0 _ _ (by omega) (by omega))) (fun k hk z => by
      rw [i0 _ _ (by omega) (by omega)] at z ⊢
      rcases h8.2.2.2.2.2 k (by omega) with ⟨-, -, z3, y, z4, z5⟩ | ⟨-, -, z3, z4, -⟩
      · rw [z3, z5]; exact vp_in_nI (by omega) (by decide)
      · rw [z3] at z; exact absurd z (z4.lt0 (by omega))) (fun j hj z => by
      rw [i0 _ _ (by omega) (by omega)] at z
      rcases h8.2.2.2.2.2 j (by omega) with ⟨-, z2, -⟩ | ⟨-, -, z3, ⟨y, -, y2, y3⟩, -⟩
      · rw [z2] at z; exact absurd z (by decide)
      · rw [z3, y3] at z; exact nI_ge (a := y) (b := 51) (by omega) (by omega) z) (by rw [ev]; exact h7.rv.1) (by rw [ev]; exact h7.rv.2) (u := x) ⟨c.1, Int32.not_lt.mpr c.2⟩ 0
    have km := known_m h (I0 := xu (wB (wLs I l1) 80 W1) 347 2 0) (fun k => i0 395 k (by omega) (by omega))
    have eM : ∀ a k, (351 ≤ a ∧ a ≤ 390) ∨ a = 395 → cC (xu (wB (wLs I l1) 80 W1) 347 2 0) kb a k = I a k := fun a k z => (cC_o _ _ (by omega) k).trans (i0 a k (by omega) (by omega))
    have eV : vR (cC (xu (wB (wLs I l1) 80 W1) 347 2 0) kb) 0 = vR I 0 := vR_c (fun a k z1 z2 => eM a k (by omega))
    have hBc : ∀ c, sCd I t n c = sBr (sPa (vR (cC (xu (wB (wLs I l1) 80 W1) 347 2 0) kb) 0) (nI c) (nI q)) (Lv I t) n := fun c => by
      rw [eV]
      unfold sCd sPa
      rw [h6.2.1]
      exact (h7.2.1.x12 _).br (h7.1.1.xu (by decide) (by decide) (by decide)) (h7.1.2.2.2.1.xu (by decide) (by decide)) (LL.rf (Lv I t)) n (Nat.le_refl _)
    have hB0 : ∀ c, ¬ sCd I t n c < 0 := fun c => by
      unfold sCd sPa
      exact (in0.br (h7.1.1.xu (by decide) (by decide) (by decide)) (Vw.of h7.1.2.2.2.2.1 (fun f k z => xu_f _ _ (by omega))) (by rw [xu_f _ _ (by decide)]; exact h7.1.2.2.2.2.2.2.2.1 ▸ h6.2.2.2.2.1) (Lv I t) n (Nat.le_refl _)).lt0 (by have := h7.1.1.1; omega)
    rw [← sTl_c (q + 1) (fun c _ => ⟨made_E h eM km.1 km.2 c, hBc c⟩)] at rr
    have hl0 := getD_p (P := fun z => ¬ z < 0) (d := 0) (by decide) _ (sTl_p (P := fun z => ¬ z < 0) (M := fun c => sMk I (fun y => sBr ((sYr (sPa (vB I 44) (nI c) (I t 9)) (Lv I t) q (fun o => I (t + o)) m) y) (Lv I t) q) (sKb I kb 0 0) s (lastY I (sKb I kb 0 0) s)) hB0 (q + 1))
    have hlen := sTl_len (fun c => sMk I (fun y => sBr ((sYr (sPa (vB I 44) (nI c) (I t 9)) (Lv I t) q (fun o => I (t + o)) m) y) (Lv I t) q) (sKb I kb 0 0) s (lastY I (sKb I kb 0 0) s)) (sCd I t n) (q + 1)
    generalize sTl (fun c => sMk I (fun y => sBr ((sYr (sPa (vB I 44) (nI c) (I t 9)) (Lv I t) q (fun o => I (t + o)) m) y) (Lv I t) q) (sKb I kb 0 0) s (lastY I (sKb I kb 0 0) s)) (sCd I t n) (q + 1) = l at rr cc hl0 hlen
    have hans : (if l = [] then (-2 : Int32) else if x = 0 then (rMt (fun k => l.getD k 0) l.length 200).1 else (rMt (fun k => l.getD k 0) l.length 200).2) = (if l = [] then (-2 : Int32) else if x = 0 then (sMt (fun k => l.getD k 0) l.length 200).1 else (sMt (fun k => l.getD k 0) l.length 200).2) := by
      by_cases le : l = []
      · rw [if_pos le, if_pos le]
      · have lp : 1 ≤ l.length := by
          rcases l with _ | ⟨y, l'⟩
          · exact absurd rfl le
          · simp
        rw [if_neg le, if_neg le, sMt_r (g := fun k => l.getD k 0) hl0 lp (by have := h6.1; omega) 199]
    rw [hans] at rr
    rw [ev] at hf
    have e : ∀ a k, ¬ ((80 ≤ a ∧ a ≤ 91) ∨ (a = 347 ∧ (k = 2 ∨ k = 52 ∨ k = 69 ∨ k = 70 ∨ k = 71)) ∨ (98 ≤ a ∧ a ≤ 106) ∨ (391 ≤ a ∧ a ≤ 394) ∨ (396 ≤ a ∧ a ≤ 399)) → wE (rPl (wT (cC (xu (wB (wLs I l1) 80 W1) 347 2 0) kb) l2)) e' a k = I a k := fun a k z => by
      unfold wE rPl
      rw [xu_ne (by omega), xu_ne (by omega), xu_ne (by omega), xu_ne (by omega), wT_o _ _ (by omega), cC_o _ _ (by omega), i0 a k (by omega) (by omega)]
    exact ⟨_, _, _, _, _, _, x_le (by omega) cc, x_le (by omega) rr, t, np, q, n, m, s, kb, u, sn, h.g (ag_t e hf) hPb (pt_t (hp.c (fun k => e 387 k (by omega))))⟩
  · have cc := k_tells_n (E := E) (ex := ex) (I := I) (W := vB I 80) (J := J) (P := P) c 0
    rw [wB_vB] at cc
    have rr := k_rtells_n (E := E) (ex := ex) (I := I) (J := J) h1.2.1 rfl (u := x) (fun z => c ⟨z.1, Int32.not_lt.mp z.2⟩) 0
    exact ⟨_, _, _, _, _, _, x_le (by omega) cc, x_le (by omega) rr, _, _, _, _, _, _, _, _, _, h.o⟩
