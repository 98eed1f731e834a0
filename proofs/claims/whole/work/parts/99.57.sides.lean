/-! rests, rest -/
theorem sSide_d {V : Nat → Nat → Int32} {sd : Nat → Int32} {w : Int32} : ∀ n, n ≤ 32 → ∀ k, k < 32 → (dB (sSide V sd w n) k ↔ k < n ∧ V 9 k = 0 ∧ sd (V 3 k).toNatClampNeg = w)
  | 0, _, k, hk => ⟨fun z => absurd z (dB_zero hk), fun z => absurd z.1 (by omega)⟩
  | n + 1, hn, k, hk => by
    have ih := sSide_d (V := V) (sd := sd) (w := w) n (by omega) k hk
    rw [sSide]
    by_cases c : V 9 n = 0 ∧ sd (V 3 n).toNatClampNeg = w
    · rw [if_pos c, dB_or _ (by omega) hk, ih]
      constructor
      · rintro (z | z)
        · exact ⟨by omega, z.2⟩
        · subst z; exact ⟨by omega, c⟩
      · intro z
        by_cases e : k = n
        · exact Or.inr e
        · exact Or.inl ⟨by omega, z.2⟩
    · rw [if_neg c, ih]
      constructor
      · intro z; exact ⟨by omega, z.2⟩
      · intro z
        refine ⟨?_, z.2⟩
        by_cases e : k = n
        · subst e; exact absurd z.2 c
        · omega
theorem dB_orr (x y : Int32) {k : Nat} (hk : k < 32) : dB (x ||| y) k ↔ dB x k ∨ dB y k := by
  rw [dB_iff _ hk, dB_iff _ hk, dB_iff _ hk, Int32.toBitVec_or, BitVec.getLsbD_or]
  simp
theorem gV_v (V : Nat → Nat → Int32) (h9 sd : Nat → Int32) (g : Nat) : ∀ j, (∀ f k, f ≠ 9 → gV V h9 sd g j f k = V f k) ∧ (∀ k, k < j → gC h9 sd g k → gV V h9 sd g j 9 k = 2) ∧ ∀ k, ¬ (k < j ∧ gC h9 sd g k) → gV V h9 sd g j 9 k = V 9 k
  | 0 => ⟨fun _ _ _ => rfl, fun k hk => absurd hk (by omega), fun _ _ => rfl⟩
  | j + 1 => by
    obtain ⟨i1, i2, i3⟩ := gV_v V h9 sd g j
    rw [gV]
    by_cases c : gC h9 sd g j
    · rw [if_pos c]
      refine ⟨fun f k hf => (xu_f _ _ hf).trans (i1 f k hf), fun k hk hc => ?_, fun k hk => ?_⟩
      · by_cases e : k = j
        · subst e; exact xu_s _ _ _ _
        · rw [xu_ne (by omega)]; exact i2 k (by omega) hc
      · have e : k ≠ j := fun z => hk ⟨by omega, by rw [z]; exact c⟩
        rw [xu_ne (by omega)]; exact i3 k (fun z => hk ⟨by omega, z.2⟩)
    · rw [if_neg c]
      refine ⟨i1, fun k hk hc => ?_, fun k hk => i3 k (fun z => hk ⟨by omega, z.2⟩)⟩
      by_cases e : k = j
      · subst e; exact absurd hc c
      · exact i2 k (by omega) hc
theorem gC_c {h9 sd h9' sd' : Nat → Int32} {j : Nat} (e1 : h9 j = h9' j) (e2 : sd j = sd' j) (g : Nat) : gC h9 sd g j ↔ gC h9' sd' g j := by unfold gC; rw [e1, e2]
theorem gA_c {h9 sd ow h9' sd' ow' : Nat → Int32} (g : Nat) {n : Nat} (e : ∀ j, j < n → h9 j = h9' j ∧ sd j = sd' j ∧ ow j = ow' j) : ∀ j, j ≤ n → gA h9 sd ow g j = gA h9' sd' ow' g j ∧ gB h9 sd ow g j = gB h9' sd' ow' g j
  | 0, _ => ⟨rfl, rfl⟩
  | j + 1, hj => by
    have z := e j (by omega)
    have ih := gA_c g e j (by omega)
    rw [gA, gA, gB, gB, ih.1, ih.2]
    by_cases c : gC h9 sd g j
    · rw [if_pos c, if_pos c, if_pos ((gC_c z.1 z.2.1 g).mp c), if_pos ((gC_c z.1 z.2.1 g).mp c), z.2.1, z.2.2]; exact ⟨rfl, rfl⟩
    · rw [if_neg c, if_neg c, if_neg (fun y => c ((gC_c z.1 z.2.1 g).mpr y)), if_neg (fun y => c ((gC_c z.1 z.2.1 g).mpr y))]; exact ⟨rfl, rfl⟩
theorem vE.gv {np n m : Nat} {V W : Nat → Nat → Int32} (h : vE np n m V W) {h9 sd h9' sd' : Nat → Int32} (g : Nat) {N : Nat} (e : ∀ j, j < N → h9 j = h9' j ∧ sd j = sd' j) : ∀ j, j ≤ N → vE np n m (gV V h9 sd g j) (gV W h9' sd' g j)
  | 0, _ => h
  | j + 1, hj => by
    have z := e j (by omega)
    rw [gV, gV]
    by_cases c : gC h9 sd g j
    · rw [if_pos c, if_pos ((gC_c z.1 z.2 g).mp c)]; exact (h.gv g e j (by omega)).x1 (by decide)
    · rw [if_neg c, if_neg (fun y => c ((gC_c z.1 z.2 g).mpr y))]; exact h.gv g e j (by omega)
theorem Bd.gv {np n : Nat} {V : Nat → Nat → Int32} (h : Bd np n V) (h9 sd : Nat → Int32) (g j : Nat) : Bd np n (gV V h9 sd g j) := fun k hk => by
  rw [(gV_v V h9 sd g j).1 3 k (by decide), (gV_v V h9 sd g j).1 4 k (by decide)]; exact h k hk
theorem d01 {g : Nat} (h : g < 4) : (nI g / 2 = 0 ∨ nI g / 2 = 1) ∧ (nI g - nI g / 2 * 2 = 0 ∨ nI g - nI g / 2 * 2 = 1) := by
  have key : ∀ g : Fin 4, (nI g.val / 2 = 0 ∨ nI g.val / 2 = 1) ∧ (nI g.val - nI g.val / 2 * 2 = 0 ∨ nI g.val - nI g.val / 2 * 2 = 1) := by decide
  exact key ⟨g, h⟩
theorem gA_s {V : Nat → Nat → Int32} {sd : Nat → Int32} {n : Nat} (hn : n ≤ 12) {g : Nat} (hg : g < 4) : ∀ j, j ≤ n → (nI g / 2 = 1 → gA (V 9) (fun k => sd (V 3 k).toNatClampNeg) (V 5) g j = sOn V (sSide V sd 0 n) j) ∧ (nI g / 2 = 0 → gA (V 9) (fun k => sd (V 3 k).toNatClampNeg) (V 5) g j = 0)
  | 0, _ => ⟨fun _ => rfl, fun _ => rfl⟩
  | j + 1, hj => by
    have ih := gA_s (V := V) (sd := sd) hn hg j (by omega)
    have b := sSide_d (V := V) (sd := sd) (w := 0) n (by omega) j (by omega)
    refine ⟨fun d => ?_, fun d => ?_⟩
    · rw [gA, sOn, ih.1 d]
      by_cases s0 : sd (V 3 j).toNatClampNeg = 0
      · by_cases v0 : V 9 j = 0
        · rw [if_pos (b.mpr ⟨by omega, v0, s0⟩), if_pos (show gC (V 9) (fun k => sd (V 3 k).toNatClampNeg) g j from ⟨v0, by rw [if_pos s0, d]; decide⟩), if_pos s0]
        · rw [if_neg (fun z => v0 (b.mp z).2.1), if_neg (fun z => v0 z.1)]
      · rw [if_neg (fun z => s0 (b.mp z).2.2)]
        by_cases g0 : gC (V 9) (fun k => sd (V 3 k).toNatClampNeg) g j
        · rw [if_pos g0, if_neg s0]; exact Int32.add_zero _
        · rw [if_neg g0]
    · rw [gA, ih.2 d]
      by_cases s0 : sd (V 3 j).toNatClampNeg = 0
      · rw [if_neg (fun z => z.2 (by rw [if_pos s0]; exact d))]
      · by_cases g0 : gC (V 9) (fun k => sd (V 3 k).toNatClampNeg) g j
        · rw [if_pos g0, if_neg s0]; exact Int32.add_zero _
        · rw [if_neg g0]
theorem gB_s {V : Nat → Nat → Int32} {sd : Nat → Int32} {n : Nat} (hn : n ≤ 12) (hs : ∀ j, j < n → sd (V 3 j).toNatClampNeg = 0 ∨ sd (V 3 j).toNatClampNeg = 1) {g : Nat} (hg : g < 4) : ∀ j, j ≤ n → (nI g - nI g / 2 * 2 = 1 → gB (V 9) (fun k => sd (V 3 k).toNatClampNeg) (V 5) g j = sOn V (sSide V sd 1 n) j) ∧ (nI g - nI g / 2 * 2 = 0 → gB (V 9) (fun k => sd (V 3 k).toNatClampNeg) (V 5) g j = 0)
  | 0, _ => ⟨fun _ => rfl, fun _ => rfl⟩
  | j + 1, hj => by
    have ih := gB_s (V := V) (sd := sd) hn hs hg j (by omega)
    have b := sSide_d (V := V) (sd := sd) (w := 1) n (by omega) j (by omega)
    refine ⟨fun d => ?_, fun d => ?_⟩
    · rw [gB, sOn, ih.1 d]
      by_cases s0 : sd (V 3 j).toNatClampNeg = 0
      · rw [if_neg (fun z => absurd (s0.symm.trans (b.mp z).2.2) (by decide))]
        by_cases g0 : gC (V 9) (fun k => sd (V 3 k).toNatClampNeg) g j
        · rw [if_pos g0, if_pos s0]; exact Int32.add_zero _
        · rw [if_neg g0]
      · by_cases v0 : V 9 j = 0
        · rw [if_pos (b.mpr ⟨by omega, v0, (hs j (by omega)).resolve_left s0⟩), if_pos (show gC (V 9) (fun k => sd (V 3 k).toNatClampNeg) g j from ⟨v0, by rw [if_neg s0, d]; decide⟩), if_neg s0]
        · rw [if_neg (fun z => v0 (b.mp z).2.1), if_neg (fun z => v0 z.1)]
    · rw [gB, ih.2 d]
      by_cases s0 : sd (V 3 j).toNatClampNeg = 0
      · by_cases g0 : gC (V 9) (fun k => sd (V 3 k).toNatClampNeg) g j
        · rw [if_pos g0, if_pos s0]; exact Int32.add_zero _
        · rw [if_neg g0]
      · rw [if_neg (fun z => z.2 (by rw [if_neg s0]; exact d))]
/-- the weights when the cliffs do g -/
theorem gW_s {V : Nat → Nat → Int32} {sd : Nat → Int32} {n : Nat} (hv : Vok V n) (ht : Tok V n) (hs : ∀ j, j < n → sd (V 3 j).toNatClampNeg = 0 ∨ sd (V 3 j).toNatClampNeg = 1) (L : Nat → (Nat → Int64) → Int64) {g : Nat} (hg : g < 4) : sWw V L n ((if nI g / 2 = 1 then sSide V sd 0 n else 0) ||| (if nI g - nI g / 2 * 2 = 1 then sSide V sd 1 n else 0)) = sBr (gV V (V 9) (fun k => sd (V 3 k).toNatClampNeg) g n) L n := by
  have n12 := hv.1
  obtain ⟨e1, e2, e3⟩ := gV_v V (V 9) (fun k => sd (V 3 k).toNatClampNeg) g n
  have dd := d01 hg
  refine sWo_cut hv ht e1 (fun k hk => ?_) n (Nat.le_refl _)
  have b0 := sSide_d (V := V) (sd := sd) (w := 0) n (by omega) k (by omega)
  have b1 := sSide_d (V := V) (sd := sd) (w := 1) n (by omega) k (by omega)
  have bo := dB_orr (if nI g / 2 = 1 then sSide V sd 0 n else 0) (if nI g - nI g / 2 * 2 = 1 then sSide V sd 1 n else 0) (k := k) (by omega)
  have bz := bI_01 ((if nI g / 2 = 1 then sSide V sd 0 n else 0) ||| (if nI g - nI g / 2 * 2 = 1 then sSide V sd 1 n else 0)) (k := k) (by omega)
  have bs : dB ((if nI g / 2 = 1 then sSide V sd 0 n else 0) ||| (if nI g - nI g / 2 * 2 = 1 then sSide V sd 1 n else 0)) k ↔ gC (V 9) (fun k => sd (V 3 k).toNatClampNeg) g k := by
    rw [bo]
    constructor
    · rintro (z | z)
      · by_cases d : nI g / 2 = 1
        · rw [if_pos d] at z
          have w := b0.mp z
          exact ⟨w.2.1, by rw [if_pos w.2.2, d]; decide⟩
        · rw [if_neg d] at z; exact absurd z (dB_zero (by omega))
      · by_cases d : nI g - nI g / 2 * 2 = 1
        · rw [if_pos d] at z
          have w := b1.mp z
          exact ⟨w.2.1, by rw [if_neg (show ¬ sd (V 3 k).toNatClampNeg = 0 by rw [w.2.2]; decide), d]; decide⟩
        · rw [if_neg d] at z; exact absurd z (dB_zero (by omega))
    · rintro ⟨z1, z2⟩
      by_cases s0 : sd (V 3 k).toNatClampNeg = 0
      · rw [if_pos s0] at z2
        left
        rw [if_pos (dd.1.resolve_left z2)]
        exact b0.mpr ⟨hk, z1, s0⟩
      · rw [if_neg s0] at z2
        right
        rw [if_pos (dd.2.resolve_left z2)]
        exact b1.mpr ⟨hk, z1, (hs k hk).resolve_left s0⟩
  by_cases c : gC (V 9) (fun k => sd (V 3 k).toNatClampNeg) g k
  · rw [e2 k hk c]
    have one := bs.mpr c
    exact ⟨fun z => absurd z (by decide), fun z => by
      have z2 := z.2
      rw [show ((if nI g / 2 = 1 then sSide V sd 0 n else 0) ||| (if nI g - nI g / 2 * 2 = 1 then sSide V sd 1 n else 0)) >>> (nI k &&& 31) &&& 1 = 1 from one] at z2
      exact absurd z2 (by decide)⟩
  · rw [e3 k (fun z => c z.2)]
    exact ⟨fun z => ⟨z, bz.resolve_right (fun y => c (bs.mp y))⟩, fun z => z.1⟩
theorem sGn_s {V : Nat → Nat → Int32} {sd : Nat → Int32} {n : Nat} (hv : Vok V n) (ht : Tok V n) (hs : ∀ j, j < n → sd (V 3 j).toNatClampNeg = 0 ∨ sd (V 3 j).toNatClampNeg = 1) (L : Nat → (Nat → Int64) → Int64) {g : Nat} (hg : g < 4) (w : Int32) : sGn V sd (sWw V L n) n 0 (nI g) w = gA (V 9) (fun k => sd (V 3 k).toNatClampNeg) (V 5) g n + (if sBr (gV V (V 9) (fun k => sd (V 3 k).toNatClampNeg) g n) L n < 1 then 0 else w) ∧ sGn V sd (sWw V L n) n 1 (nI g) w = gB (V 9) (fun k => sd (V 3 k).toNatClampNeg) (V 5) g n + (if sBr (gV V (V 9) (fun k => sd (V 3 k).toNatClampNeg) g n) L n < 1 then 0 else w) := by
  have dd := d01 hg
  have a := gA_s (V := V) (sd := sd) hv.1 hg n (Nat.le_refl _)
  have b := gB_s (V := V) (sd := sd) hv.1 hs hg n (Nat.le_refl _)
  unfold sGn
  rw [gW_s hv ht hs L hg]
  refine ⟨?_, ?_⟩
  · rw [if_pos rfl]
    rcases dd.1 with d | d
    · rw [if_neg (by rw [d]; decide), a.2 d, Int32.zero_add]
    · rw [if_pos d, a.1 d, Int32.add_comm]
  · rw [if_neg (show ¬ (1 : Int32) = 0 by decide)]
    rcases dd.2 with d | d
    · rw [if_neg (by rw [d]; decide), b.2 d, Int32.zero_add]
    · rw [if_pos d, b.1 d, Int32.add_comm]
