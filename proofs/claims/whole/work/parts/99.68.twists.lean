/-! twists, answered alike -/
theorem ws_hi {f : Nat → Nat} {A n : Nat} (hA : A < 2 ^ n) : ∀ d, wsN f A (n + d) = wsN f A n
  | 0 => rfl
  | d + 1 => by
    rw [← Nat.add_assoc, wsN, ws_hi hA d, if_neg (fun z => by have := bit_lt hA z; omega)]; rfl
theorem sUt_w {V : Nat → Nat → Int32} {g : Nat → Int32} {f : Nat → Nat} {n p : Nat} (h14 : V 14 0 = nI p) (hg : ∀ i, i < n → g i = nI (f i)) : ∀ j, j ≤ n → sUt V g j = nI (p + wsN f (2 ^ n - 1) j)
  | 0, _ => h14
  | j + 1, hj => by
    rw [sUt, wsN, sUt_w h14 hg j (by omega), hg j (by omega), nI_add, Nat.testBit_two_pow_sub_one, if_pos (by simp; omega), Nat.add_assoc]
/-- both sides' number of twists -/
theorem twists_e {np n m : Nat} {V W : Nat → Nat → Int32} {g a0 m0 : Nat → Int32} (vv : vE np n m V W) (hv : Vok V n) (hb : Bd np n V) (hw : Vw n V) {p : Nat} (h14 : V 14 0 = nI p) (hp : p ≤ 999) (L : Nat → (Nat → Int64) → Int64) (hg : ∀ i, i < n → g i = sAl V L (nI i) 0) {k : Nat} (hk : k ≤ 5) : sUt V g n + sGain g (sTB V n) (nI k) = tAl W (uA a0 (fun s => sAl W L (nI s) 0) n) (uA m0 (fun _ => W 14 0) (k + 1)) n k (2 ^ n - 1) (6 * (2 ^ n - 1) + k) := by
  have n12 := hv.1
  have p12 : (2 : Nat) ^ n ≤ 2 ^ 12 := Nat.pow_le_pow_right (by omega) n12
  have pos : 0 < 2 ^ n := Nat.two_pow_pos n
  obtain ⟨q0, hT, hq⟩ := sTB_nI V n (by omega)
  have al : ∀ i, sAl V L (nI i) 0 = nI ((sAl V L (nI i) 0).toNatClampNeg) ∧ (sAl V L (nI i) 0).toNatClampNeg ≤ 9999 := fun i => by
    obtain ⟨z, -, z2, z3⟩ := in0.al hv hw L (nI i) 0
    rw [z3, nI_clamp (by omega)]; exact ⟨rfl, z2⟩
  have bits : ∀ i, i < n → (q0.testBit i = true ↔ V 9 i = 0) := fun i hi => by
    have z := sTB_d (V := V) n (by omega) i (by omega)
    rw [hT] at z
    have b : dB (nI q0) i ↔ q0.testBit i = true := bz_1 (by omega) (by omega)
    rw [← b, z]
    exact and_iff_right hi
  have eA : (2 ^ n - 1) &&& q0 = q0 := Nat.eq_of_testBit_eq fun i => by
    rw [Nat.testBit_and, Nat.testBit_two_pow_sub_one]
    by_cases c : q0.testBit i = true
    · have := bit_lt hq c
      rw [c]; simp [this]
    · have z : q0.testBit i = false := by simpa using c
      rw [z, Bool.and_false]
  obtain ⟨G, hG⟩ := isG.ex (fun i => (sAl V L (nI i) 0).toNatClampNeg) k q0
  have alW : ∀ i, sAl W L (nI i) 0 = sAl V L (nI i) 0 := fun i => (vv.al hv hb (LL.rf L) (nI i) 0).symm
  have tab := tab_v (V := W) (a := uA a0 (fun s => sAl W L (nI s) 0) n) (M := tAl W (uA a0 (fun s => sAl W L (nI s) 0) n) (uA m0 (fun _ => W 14 0) (k + 1)) n k (2 ^ n - 1)) (f := fun i => (sAl V L (nI i) 0).toNatClampNeg) (n := n) (k := k) (p := p) (Th := q0) n12 hk hp (fun i hi => by
      refine ⟨by rw [uA_v _ _ n hi, alW]; exact (al i).1, (al i).2, fun c => ?_⟩
      have e9 := (vv.2.1 i hi).2.2.2.2.2.2.1
      have : sAl V L (nI i) 0 = 0 := by
        unfold sAl
        rw [if_pos (Or.inl (fun z => c (by rw [← e9]; exact (hv.t hi).mp z)))]
      show (sAl V L (nI i) 0).toNatClampNeg = 0
      rw [this]; rfl) (fun i hi => by rw [bits i hi, (vv.2.1 i hi).2.2.2.2.2.2.1]) (fun j hj => by
      rw [tAl_0 _ _ _ _ hk (by omega), uA_v _ _ (k + 1) (by omega), ← vv.2.2.2.2.1]; exact h14) (fun S j s0 s1 s2 => tAl_law _ _ _ _ hk (by omega) s0 (by omega) s2) (2 ^ n) (2 ^ n - 1) (by omega) (by omega) k (Nat.le_refl _) G (by rw [eA]; exact hG)
  have gi : ∀ i, i < n → g i = nI ((fun i => (sAl V L (nI i) 0).toNatClampNeg) i) := fun i hi => (hg i hi).trans (al i).1
  have gn := (sGain_g (g := g) (S := q0) (by omega) (fun i _ hb => ⟨gi i (bit_lt hq hb), (al i).2⟩) (by omega) hG).1
  have hi := ws_hi (f := fun i => (sAl V L (nI i) 0).toNatClampNeg) (A := 2 ^ n - 1) (n := n) (by omega) (12 - n)
  rw [show n + (12 - n) = 12 by omega] at hi
  rw [tab, sUt_w h14 gi n (Nat.le_refl _), hT, gn, nI_add, hi]
