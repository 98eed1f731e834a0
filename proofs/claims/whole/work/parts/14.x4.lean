/-! steps that read or write cells -/
theorem xPv_ok {S : xS} {ci a k : Nat} {ty : FieldType} {v : Value} {S' : xS} (h : xPv S ci a k ty v S') (b B : Nat) : xBut S S' a k ∧ xav S' ci a k = v ∧ narrow ty (xcv b B v) = xcv b B v ∧ fits ty (xcv b B v) = true := by
  cases v with
  | int x => obtain ⟨h1, h2, h3, rfl⟩ := h; exact ⟨xBut_pI _ _ _ _, by simp [xav, h1, gI, pI, xu], h2, h3⟩
  | long x => obtain ⟨h1, rfl, rfl⟩ := h; exact ⟨xBut_pJ _ _ _ _, by simp [xav, h1, gJ, pJ, xu], rfl, rfl⟩
  | ref x => obtain ⟨h1, h2, rfl⟩ := h; exact ⟨xBut_pP _ _ _ _, by simp [xav, h1, gP, pP, xu, xrv], by cases ty <;> rfl, by cases ty <;> first | rfl | cases h2⟩
  | null => obtain ⟨h1, h2, rfl⟩ := h; exact ⟨xBut_pP _ _ _ _, by simp [xav, h1, gP, pP, xu, xrv], by cases ty <;> rfl, h2⟩
  | _ => exact h.elim
theorem xlt {S : xS} {a : Nat} {q : xK × Nat} (h : S.1[a]? = some q) : a < S.1.length := (List.getElem?_eq_some_iff.mp h).1
theorem xe_5 {t : Nat → ClassId} {b B : Nat} {S : xS} {a n j : Nat} (h : S.1[a]? = some (.inr (j + 4), n)) : xe t b B S a = .inl (t 4, n, .inr (.inr (.inr (.inr (fun j => xro B (S.2.2.2 a j)))))) := by
  simp only [xe, List.getD_eq_getElem?_getD, h, Option.getD_some]
section XB
variable {p : Program} {l : Launch} {e : Env} {R : Room} {s : State} {m : MethodId} {args : Array Value} {below : List Frame} {meth : Method} {c : Code} {Q : State → Prop} {s0 : State} {a0 : Array Value} {D : va_G} {t : Nat → ClassId} {b nL : Nat} {y : MethodName} {cc : ByteArray} {ret : Option FieldType} {ex : Bool} {X : Option (Nat × (Nat → Int32))} {call : xCl}
def xB (i : Instr) : Bool := match i with
  | .getfield _ | .putfield _ | .iaload | .baload | .laload | .aaload | .iastore | .bastore | .lastore | .aastore | .arraylength => true
  | _ => false
set_option maxHeartbeats 4000000 in
theorem x_stepB (C : xC s0 a0 D t) (M : xMx p s m meth c s0 y cc nL ret) (hX : ∀ L xs, X = some (L, xs) → va_X b L xs s s0.heap ∧ b < s0.heap.size) {cells slots pc len pc' : Nat} {ls ls' : List (Option Value)} {st st' : List Value} {S S' : xS} {i : Instr} (hd : decode cc pc = .ok (i, len)) (hi : xB i = true) (h : xSm call ex X y pc len ls st S pc' ls' st' S' i)
    (kk : xG p l e R s m args below meth c Q s0 D t b nL cells slots pc' ls' st' S') : xG p l e R s m args below meth c Q s0 D t b nL cells slots pc ls st S := by
  obtain ⟨hx, hb, hml, hr, hlk, hown, hnm, hW⟩ := M
  have hts := C.w hW (args := args)
  have hK := C.k hW
  intro H locs lr hL hH hlo
  have hD := xws_D t b s0.heap.size S
  have hS := hH.S hlo
  have hP := hH.1
  have hget : ∀ {a : Nat} {q : xK × Nat}, S.1[a]? = some q → (xws t b s0.heap.size S)[a]? = some (s0.heap.size + a, xe t b s0.heap.size S a) := fun h => xws_get t b s0.heap.size S (xlt h)
  cases i with
  | getfield idx =>
    obtain ⟨rfl, ⟨rfl, rfl, rfl⟩, ci, k, ty, N, a, r, ⟨C', T, N', hc, hk, hf, hp⟩, hs, hkN, rfl, rfl⟩ := h
    obtain ⟨ty0, g1, g2, g3, g4⟩ := xcls hc
    exact va_get hx hb hts g3 hown hK hP a ((hget hs).trans (by rw [xe_obj hs] <;> rfl)) hc k hk (hts _ hf) (fun _ h => h) (by simp [hkN]) hd (kk H locs lr hL hH hlo)
  | putfield idx =>
    obtain ⟨rfl, rfl, rfl, ci, k, ty, N, a, v, ⟨C', T, N', hc, hk, hf, hp⟩, ⟨C2, T2, N2, hc2, hfin⟩, hs, hkN, rfl, hv⟩ := h
    obtain ⟨ty0, g1, g2, g3, g4⟩ := xcls hc
    obtain ⟨v1, v2, v3, v4⟩ := xPv_ok hv b s0.heap.size
    cases hc.symm.trans hc2
    have hw : (xws t b s0.heap.size S).set a (s0.heap.size + a, .inr (ci, ((List.range N).map (fun j => xcv b s0.heap.size (xav S ci a j))).set k (xcv b s0.heap.size v))) = xws t b s0.heap.size S' := v1.w (by rw [← v2]; exact v1.obj t b s0.heap.size hs)
    rcases hfin with hfin | ⟨hfin, hin, hdc⟩
    · exact va_put hx hb hts g3 ty0 g1 g2 hown hK hP hD hS a ((hget hs).trans (by rw [xe_obj hs] <;> rfl)) hc k hk (hts _ hf) (fun _ h => h) hfin hp v3 v4 (by simp [hkN]) hd (fun H1 locs1 hP1 hD1 hS1 => kk H1 locs1 lr hL (xH.of (by rw [← hw]; exact hP1) hS1) hS1.2.2)
    · exact va_putF hx hb hts g3 ty0 g1 g2 hown hK hP hD hS a ((hget hs).trans (by rw [xe_obj hs] <;> rfl)) hc k hk (hts _ hf) (fun _ h => h) hfin (hnm.trans hin) hdc hp v3 v4 (by simp [hkN]) hd (fun H1 locs1 hP1 hD1 hS1 => kk H1 locs1 lr hL (xH.of (by rw [← hw]; exact hP1) hS1) hS1.2.2)
  | iaload =>
    obtain ⟨rfl, ⟨rfl, rfl, rfl⟩, i, r, ⟨a, n, rfl, hs, hin, rfl⟩ | ⟨z, L, xs, hXe, rfl, hin, rfl⟩⟩ := h
    · exact va_iald hx hb hK hP a 0 ((hget hs).trans (by rw [xe_0 hs] <;> rfl)) rfl hin hd (kk H locs lr hL hH hlo)
    · obtain ⟨hX1, hX2⟩ := hX L xs hXe
      exact va_sld hx hb hX1 hX2 (Nat.not_le.mpr hX2) hS hin hd (kk H locs lr hL hH hlo)
  | baload =>
    obtain ⟨rfl, ⟨rfl, rfl, rfl⟩, i, r, a, n, j, rfl | rfl, rfl, hs, hin, rfl⟩ := h
    · exact va_bald hx hb hK hP a 1 ((hget hs).trans (by rw [xe_1 hs] <;> rfl)) rfl hin hd (kk H locs lr hL hH hlo)
    · exact va_zald hx hb hK hP a 2 ((hget hs).trans (by rw [xe_2 hs] <;> rfl)) rfl hin hd (kk H locs lr hL hH hlo)
  | laload =>
    obtain ⟨rfl, ⟨rfl, rfl, rfl⟩, i, r, a, n, rfl, hs, hin, rfl⟩ := h
    exact va_lald hx hb hK hP a 3 ((hget hs).trans (by rw [xe_3 hs] <;> rfl)) rfl hin hd (kk H locs lr hL hH hlo)
  | aaload =>
    obtain ⟨rfl, ⟨rfl, rfl, rfl⟩, i, r, a, n, rfl, hs, hin, rfl⟩ := h
    have k1 := kk H locs lr hL hH hlo
    rw [List.map_cons, ← xrf_rv] at k1
    exact va_aldq hx hb hK hP a 4 ((hget hs).trans (by rw [xe_4 hs] <;> rfl)) rfl hin hd k1
  | iastore =>
    obtain ⟨rfl, rfl, rfl, x, i, a, n, rfl, hs, hin, rfl⟩ := h
    have hw := (xBut_pI S a i.toNatClampNeg x).w (t := t) (b := b) (B := s0.heap.size) (e := .inl (t 0, n, .inl (upd (S.2.1 a) i.toNatClampNeg x))) (by
      rw [xe_0 (S := pI S a i.toNatClampNeg x) hs]; congr 4; funext j; by_cases hj : j = i.toNatClampNeg <;> simp [upd, pI, xu, hj])
    exact va_iast hx hb hK hP hD hS a 0 ((hget hs).trans (by rw [xe_0 hs] <;> rfl)) rfl hin hd (fun H1 locs1 hP1 hD1 hS1 => kk H1 locs1 lr hL (xH.of (by rw [← hw]; exact hP1) hS1) hS1.2.2)
  | bastore =>
    obtain ⟨rfl, rfl, rfl, x, i, a, n, rfl, hin, ⟨hs, rfl⟩ | ⟨hs, rfl⟩⟩ := h
    · have hw := (xBut_pI S a i.toNatClampNeg (vp_nar .byte x)).w (t := t) (b := b) (B := s0.heap.size) (e := .inl (t 1, n, .inl (upd (S.2.1 a) i.toNatClampNeg (vp_nar .byte x)))) (by
        rw [xe_1 (S := pI S a i.toNatClampNeg (vp_nar .byte x)) hs]; congr 4; funext j; by_cases hj : j = i.toNatClampNeg <;> simp [upd, pI, xu, hj])
      exact va_bast hx hb hK hP hD hS a 1 ((hget hs).trans (by rw [xe_1 hs] <;> rfl)) rfl hin hd (fun H1 locs1 hP1 hD1 hS1 => kk H1 locs1 lr hL (xH.of (by rw [← hw]; exact hP1) hS1) hS1.2.2)
    · have hw := (xBut_pI S a i.toNatClampNeg (vp_nar .boolean x)).w (t := t) (b := b) (B := s0.heap.size) (e := .inl (t 2, n, .inl (upd (S.2.1 a) i.toNatClampNeg (vp_nar .boolean x)))) (by
        rw [xe_2 (S := pI S a i.toNatClampNeg (vp_nar .boolean x)) hs]; congr 4; funext j; by_cases hj : j = i.toNatClampNeg <;> simp [upd, pI, xu, hj])
      exact va_zast hx hb hK hP hD hS a 2 ((hget hs).trans (by rw [xe_2 hs] <;> rfl)) rfl hin hd (fun H1 locs1 hP1 hD1 hS1 => kk H1 locs1 lr hL (xH.of (by rw [← hw]; exact hP1) hS1) hS1.2.2)
  | lastore =>
    obtain ⟨rfl, rfl, rfl, x, i, a, n, rfl, hs, hin, rfl⟩ := h
    have hw := (xBut_pJ S a i.toNatClampNeg x).w (t := t) (b := b) (B := s0.heap.size) (e := .inl (t 3, n, .inr (.inl (vp_updL (S.2.2.1 a) i.toNatClampNeg x)))) (by
      rw [xe_3 (S := pJ S a i.toNatClampNeg x) hs]; congr 5; funext j; by_cases hj : j = i.toNatClampNeg <;> simp [vp_updL, pJ, xu, hj])
    exact va_last hx hb hK hP hD hS a 3 ((hget hs).trans (by rw [xe_3 hs] <;> rfl)) rfl hin hd (fun H1 locs1 hP1 hD1 hS1 => kk H1 locs1 lr hL (xH.of (by rw [← hw]; exact hP1) hS1) hS1.2.2)
  | aastore =>
    obtain ⟨rfl, rfl, rfl, q, i, a, n, N, rfl, hs, hq, hin, rfl⟩ := h
    have hw := (xBut_pP S a i.toNatClampNeg (q + 1)).w (t := t) (b := b) (B := s0.heap.size) (e := .inl (t 4, n, .inr (.inr (.inr (.inr (va_up (fun j => xro s0.heap.size (S.2.2.2 a j)) i.toNatClampNeg (some (s0.heap.size + q)))))))) (by
      rw [xe_4 (S := pP S a i.toNatClampNeg (q + 1)) hs]; congr 8; funext j; by_cases hj : j = i.toNatClampNeg <;> simp [va_up, pP, xu, hj, xro])
    exact va_astq hx hb hK hP hD hS a 4 q 0 ((hget hs).trans (by rw [xe_4 hs] <;> rfl)) rfl ((hget hq).trans (by rw [xe_obj hq] <;> rfl)) rfl hin hd (fun H1 locs1 hP1 hD1 hS1 => kk H1 locs1 lr hL (xH.of (by rw [← hw]; exact hP1) hS1) hS1.2.2)
  | arraylength =>
    obtain ⟨rfl, ⟨rfl, rfl, rfl⟩, r, ⟨a, j, n, rfl, hs, rfl⟩ | ⟨z, L, xs, hXe, rfl, rfl⟩⟩ := h
    · match j, hs with
      | 0, hs => exact va_alen hx hb hK hP a 0 ((hget hs).trans (by rw [xe_0 hs])) rfl (v := Int32.ofNat n) rfl hd (kk H locs lr hL hH hlo)
      | 1, hs => exact va_alen hx hb hK hP a 1 ((hget hs).trans (by rw [xe_1 hs])) rfl (v := Int32.ofNat n) rfl hd (kk H locs lr hL hH hlo)
      | 2, hs => exact va_alen hx hb hK hP a 2 ((hget hs).trans (by rw [xe_2 hs])) rfl (v := Int32.ofNat n) rfl hd (kk H locs lr hL hH hlo)
      | 3, hs => exact va_alen hx hb hK hP a 3 ((hget hs).trans (by rw [xe_3 hs])) rfl (v := Int32.ofNat n) rfl hd (kk H locs lr hL hH hlo)
      | j + 4, hs => exact va_alen hx hb hK hP a 4 ((hget hs).trans (by rw [xe_5 hs])) rfl (v := Int32.ofNat n) rfl hd (kk H locs lr hL hH hlo)
    · obtain ⟨hX1, hX2⟩ := hX L xs hXe
      exact va_slen hx hb hX1 hX2 (Nat.not_le.mpr hX2) hS hd (kk H locs lr hL hH hlo)
  | _ => exact absurd hi (by simp [xB])
end XB
