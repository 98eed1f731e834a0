/-! partner: the walk of both -/
theorem sCho_skip {g : Nat → Int32} {st0 st : cS} {L : Nat} (hL : L < 2 ^ 12) (hl : st.l = nI L) {i : Nat} (h : sCho g st0 i = st) : ∀ d, i + d ≤ 12 → (∀ q, i ≤ q → q < i + d → ¬ L.testBit q = true) → sCho g st0 (i + d) = st
  | 0, _, _ => h
  | d + 1, hd, hb => by
    have ih := sCho_skip hL hl h d (by omega) (fun q z1 z2 => hb q z1 (by omega))
    rw [← Nat.add_assoc, sCho, ih]
    unfold stCh
    rw [hl, if_pos ((bz_0 (by omega) (by omega)).mpr (by simpa using hb (i + d) (by omega) (by omega)))]
theorem stCh_A {g : Nat → Int32} {f : Nat → Nat} {L j G s : Nat} {p : Nat → Int32} (hL : L < 2 ^ 12) (hf : wOk g f L) (hs : L.testBit s = true) (hs12 : s < 12) (hj5 : j ≤ 5) (h : isG f j (nD L (2 ^ s)) G) : stCh g (cS.mk (nI L) (nI j) (nI G) p) s = cS.mk (nI (nD L (2 ^ s))) (nI j) (nI G) (up p s (-2)) := by
  have e1 : mk1 (cS.mk (nI L) (nI j) (nI G) p) s = nI (nD L (2 ^ s)) := bz_clr hs12
  have e2 := sFp_A (s := s) (Nat.lt_of_le_of_lt (nD_le L (2 ^ s)) hL) (hf.d sbs_d) hj5 h
  unfold stCh
  rw [e1, if_neg (fun z => by
    have := (bz_0 (a := L) (k := s) (by omega) (by omega)).mp z
    rw [hs] at this; exact absurd this (by decide))]
  show (if sFp g s (nI (nD L (2 ^ s))) (nI j) (nI G) < 0 then _ else _) = _
  rw [e2, if_pos (by decide)]
theorem stCh_B {g : Nat → Int32} {f : Nat → Nat} {L j G s t : Nat} {p : Nat → Int32} (hL : L < 2 ^ 12) (hf : wOk g f L) (hs : L.testBit s = true) (hs12 : s < 12) (hj : 1 ≤ j) (hj5 : j ≤ 5) (hG : G < 2 ^ 30) (h : ¬ isG f j (nD L (2 ^ s)) G) (hp : tP f (nD L (2 ^ s)) j s G t) (hst : s < t) (ht : t < 12) (hn : ∀ q, s < q → q < t → ¬ tP f (nD L (2 ^ s)) j s G q) : ∃ G', isG f (j - 1) (nD (nD L (2 ^ s)) (2 ^ t)) G' ∧ stCh g (cS.mk (nI L) (nI j) (nI G) p) s = cS.mk (nI (nD (nD L (2 ^ s)) (2 ^ t))) (nI (j - 1)) (nI G') (up (up p s (nI t)) t (nI s)) := by
  have e1 : mk1 (cS.mk (nI L) (nI j) (nI G) p) s = nI (nD L (2 ^ s)) := bz_clr hs12
  have ws := hf s hs12 hs
  have e2 := sFp_B (Nat.lt_of_le_of_lt (nD_le L (2 ^ s)) hL) (hf.d sbs_d) ws hj hj5 hG h hp hst ht hn
  obtain ⟨G', z1, z2⟩ := hp.2
  have wt := hf t ht (sbs_d t hp.1)
  refine ⟨G', z1, ?_⟩
  unfold stCh
  rw [e1, if_neg (fun z => by
    have := (bz_0 (a := L) (k := s) (by omega) (by omega)).mp z
    rw [hs] at this; exact absurd this (by decide))]
  show (if sFp g s (nI (nD L (2 ^ s))) (nI j) (nI G) < 0 then _ else cS.mk (nI (nD L (2 ^ s)) &&& ((1 <<< (sFp g s (nI (nD L (2 ^ s))) (nI j) (nI G) &&& 31)) ^^^ (-1))) (nI j + (-1)) (nI G - (g s + g (sFp g s (nI (nD L (2 ^ s))) (nI j) (nI G)).toNatClampNeg) / 2) (up (up p s (sFp g s (nI (nD L (2 ^ s))) (nI j) (nI G))) (sFp g s (nI (nD L (2 ^ s))) (nI j) (nI G)).toNatClampNeg (nI s))) = _
  have e3 : nI (f s + f t) / 2 = nI ((f s + f t) / 2) := pk_div (d := 2) (by omega) (by omega) (by omega)
  rw [e2, if_neg (nI_n0 (by omega)), nI_clamp (by omega), bz_clr ht, pm1, nI_pr (by omega), ws.1, wt.1, nI_add, e3, pk_sub (by omega), show G - (f s + f t) / 2 = G' by omega]
