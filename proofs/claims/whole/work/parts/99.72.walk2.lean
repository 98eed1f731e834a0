/-! partner: the walk of both -/
theorem sCho_skip {g : Nat → Int32} {st0 st : cS} {L : Nat} (hL : L < 2 ^ 12) (hl : st.l = nI L) {i : Nat} (h : sCho g st0 i = st) : ∀ d, i + d ≤ 12 → (∀ q, i ≤ q → q < i + d → ¬ L.testBit q = true) → sCho g st0 (i + d) = st
  | 0, _, _ => h
  | d + 1, hd, hb => by
    have ih := sCho_skip hL hl h d (by omega) (fun q z1 z2 => hb q z1 (by omega))
    rw [← Nat.add_assoc, sCho, ih]
    unfold stCh
    rw [hl, if_pos ((bz_0 (by omega) (by omega)).mpr (by simpa using hb (i + d) (by omega) (by omega)))]
theorem stCh_A {g : Nat → Int32} {f : Nat → Nat} {L j G s : Nat} {p : Nat → Int32} (hL : L < 2 ^ 12) (hf : wOk g f L) (hs : L.testBit s = true) (hs12 : s < 12) (hj5 : j ≤ 5) (h : isG f j (nD L (2 ^ s)) G) : stCh g (cS.mk (nI L) (nI j) (nI G) p) s = cS.mk (nI (nD L (2 ^ s))) (nI j) (nI G) (up p s (-2)) := by
  have e1 : mk1 (cS.mk (nI L) (nI j) (nI G) p) s = nI (nD L (2 ^ s)) := bz_clr hs12
  have e2 := sFp_A (s := s) (Nat.lt_of_le_of_lt (nD_le L (2 ^ s)) hL) (hf.d sbs_d) hj5 h
  unfold stCh
  rw [e1, if_neg (fun z => by
    have := (bz_0 (a := L) (k := s) (by omega) (by omega)).mp z
    rw [hs] at this; exact absurd this (by decide))]
  show (if sFp g s (nI (nD L (2 ^ s))) (nI j) (nI G) < 0 then _ else _) = _
  rw [e2, if_pos (by decide)]
