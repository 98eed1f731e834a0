/-! the reference: paint, a strand at a time -/
theorem bI_v (w : Int32) {k : Nat} (hk : k < 12) : bI w k = if w.toBitVec.getLsbD k = true then 1 else 0 := by
  by_cases h : w.toBitVec.getLsbD k = true
  · rw [if_pos h]; exact (dB_iff w (by omega)).mpr h
  · rw [if_neg h]
    have h1 : ¬ bI w k = 1 := fun z => h ((dB_iff w (by omega)).mp z)
    have h2 : bI w k = nI ((w >>> (nI k &&& 31)).toBitVec.toNat % 2 ^ 1) := pk_and _ 1 (by decide)
    rcases Nat.mod_two_eq_zero_or_one (w >>> (nI k &&& 31)).toBitVec.toNat with h3 | h3
    · rw [h2, show 2 ^ 1 = 2 from rfl, h3]; rfl
    · rw [h2, show 2 ^ 1 = 2 from rfl, h3] at h1; exact absurd rfl h1
def setB (w : Int32) (k : Nat) (v : Int32) : Int32 := if v = 1 then w ||| (1 <<< (nI k &&& 31)) else w &&& ((1 <<< (nI k &&& 31)) ^^^ (-1))
theorem bI_set (w : Int32) {k j : Nat} (hk : k < 12) (hj : j < 12) {v : Int32} (hv : v = 0 ∨ v = 1) : bI (setB w k v) j = if j = k then v else bI w j := by
  rw [bI_v _ hj, bI_v _ hj]
  unfold setB
  rcases hv with rfl | rfl
  · rw [if_neg (show ¬ (0 : Int32) = 1 by decide), Int32.toBitVec_and, Int32.toBitVec_xor, BitVec.getLsbD_and, BitVec.getLsbD_xor, dB_shl k j (by omega) (by omega)]
    have : (Int32.toBitVec (-1)).getLsbD j = true := by
      rw [show Int32.toBitVec (-1) = BitVec.allOnes 32 from by decide, BitVec.getLsbD_allOnes]
      simp; omega
    rw [this]
    by_cases h : j = k
    · subst h; simp
    · simp [h]
  · rw [if_pos (show (1 : Int32) = 1 from rfl), Int32.toBitVec_or, BitVec.getLsbD_or, dB_shl k j (by omega) (by omega)]
    by_cases h : j = k
    · subst h; simp
    · simp [h]
theorem bI_01 (w : Int32) {k : Nat} (hk : k < 12) : bI w k = 0 ∨ bI w k = 1 := by
  rw [bI_v w hk]; split
  · exact Or.inr rfl
  · exact Or.inl rfl
theorem wR_y (I : Nat → Nat → Int32) (b : Nat) (V : Nat → Nat → Int32) {k : Nat} (hk : k < 12) {v : Int32} (hv : v = 0 ∨ v = 1) : xu (wR I b V) 387 (12 * b + k) v = wR I b (xu V 12 0 (setB (V 12 0) k v)) := by
  have e1 : ro 11 b = 12 * b := rfl
  have e2 : rq 11 = 12 := rfl
  funext a' k'
  simp only [wR, xu]
  by_cases h1 : (376 ≤ a' ∧ a' ≤ 390) ∧ (ro (a' - 376) b ≤ k' ∧ k' < ro (a' - 376) b + rq (a' - 376))
  · rw [if_pos h1, if_pos h1]
    by_cases h2 : a' = 387
    · subst h2
      have h1 := h1.2
      simp only [show 387 - 376 = 11 from rfl, e1, e2] at h1 ⊢
      simp only [true_and, and_self, if_true]
      rw [bI_set _ hk (by omega) hv]
      by_cases h3 : k' = 12 * b + k
      · rw [if_pos h3, if_pos (by omega)]
      · rw [if_neg h3, if_neg (by omega)]
    · rw [if_neg (fun z => h2 z.1), if_neg h2, if_neg h2, if_neg (fun z => absurd (rf_inj (a' - 376) (by omega) 11 (by decide) z.1) (by omega))]
  · rw [if_neg h1, if_neg h1, if_neg]
    rintro ⟨rfl, z2⟩
    apply h1
    simp only [show 387 - 376 = 11 from rfl, e1, e2]
    omega
theorem rW12 (I V : Nat → Nat → Int32) {b : Nat} (hb : b < 2) {x : Int32} (hx : vp_in x 12) {v : Int32} (hv : v = 0 ∨ v = 1) : xu (wR I b V) 387 (12 * nI b + x).toNatClampNeg v = wR I b (xu V 12 0 (setB (V 12 0) x.toNatClampNeg v)) := by rw [cx12 hb hx]; exact wR_y I b V (vlt hx) hv
theorem rY12 (I V : Nat → Nat → Int32) {x : Int32} (hx : vp_in x 12) {v : Int32} (hv : v = 0 ∨ v = 1) : xu (wR I 0 V) 387 x.toNatClampNeg v = wR I 0 (xu V 12 0 (setB (V 12 0) x.toNatClampNeg v)) := by have := rW12 I V (b := 0) (by decide) hx hv; rwa [mz12, z32] at this
theorem rP12 (I V : Nat → Nat → Int32) {x : Int32} (hx : vp_in x 12) {v : Int32} (hv : v = 0 ∨ v = 1) : xu (wR I 1 V) 387 (12 + x).toNatClampNeg v = wR I 1 (xu V 12 0 (setB (V 12 0) x.toNatClampNeg v)) := by have := rW12 I V (b := 1) (by decide) hx hv; rwa [mw12] at this
/-! remembering -/
def pT1 (I : Nat → Nat → Int32) (row i : Nat) (V : Nat → Nat → Int32) : Nat → Nat → Nat → Int32
  | 0 => I
  | p + 1 => xu (xu (pT1 I row i V p) row (i + p) (V 1 p)) row (i + 6 + p) (V 2 p)
def pT2 (I : Nat → Nat → Int32) (row i : Nat) (V : Nat → Nat → Int32) : Nat → Nat → Nat → Int32
  | 0 => I
  | s + 1 => xu (xu (pT2 I row i V s) row (i + 12 + s) (V 9 s)) row (i + 24 + s) (V 10 s)
def pPut (I : Nat → Nat → Int32) (row i : Nat) (V : Nat → Nat → Int32) : Nat → Nat → Int32 := xu (pT2 (pT1 I row i V 6) row i V 12) row (i + 36) (V 13 0)
def tT1 (V : Nat → Nat → Int32) (g : Nat → Int32) (i : Nat) : Nat → Nat → Nat → Int32
  | 0 => V
  | p + 1 => xu (xu (tT1 V g i p) 1 p (g (i + p))) 2 p (g (i + 6 + p))
def tT2 (V : Nat → Nat → Int32) (g : Nat → Int32) (i : Nat) : Nat → Nat → Nat → Int32
  | 0 => V
  | s + 1 => xu (xu (tT2 V g i s) 9 s (g (i + 12 + s))) 10 s (g (i + 24 + s))
def tTake (V : Nat → Nat → Int32) (g : Nat → Int32) (i : Nat) : Nat → Nat → Int32 := xu (tT2 (tT1 V g i 6) g i 12) 13 0 (g (i + 36))
theorem cA {i j : Nat} (h : i + j < 2 ^ 31) : (nI i + nI j).toNatClampNeg = i + j := by rw [nI_add, nI_clamp h]
theorem in_A {i j n : Nat} (h : i + j < n) (hn : n < 2 ^ 31) : vp_in (nI i + nI j) n := by rw [nI_add]; exact vp_in_nI h hn
theorem cA6 {i j : Nat} (h : i + 6 + j < 2 ^ 31) : (nI i + 6 + nI j).toNatClampNeg = i + 6 + j := by rw [show (6 : Int32) = nI 6 from rfl, nI_add, nI_add, nI_clamp h]
theorem in_A6 {i j n : Nat} (h : i + 6 + j < n) (hn : n < 2 ^ 31) : vp_in (nI i + 6 + nI j) n := by rw [show (6 : Int32) = nI 6 from rfl, nI_add, nI_add]; exact vp_in_nI h hn
theorem cA12 {i j : Nat} (h : i + 12 + j < 2 ^ 31) : (nI i + 12 + nI j).toNatClampNeg = i + 12 + j := by rw [show (12 : Int32) = nI 12 from rfl, nI_add, nI_add, nI_clamp h]
theorem in_A12 {i j n : Nat} (h : i + 12 + j < n) (hn : n < 2 ^ 31) : vp_in (nI i + 12 + nI j) n := by rw [show (12 : Int32) = nI 12 from rfl, nI_add, nI_add]; exact vp_in_nI h hn
theorem cA24 {i j : Nat} (h : i + 24 + j < 2 ^ 31) : (nI i + 24 + nI j).toNatClampNeg = i + 24 + j := by rw [show (24 : Int32) = nI 24 from rfl, nI_add, nI_add, nI_clamp h]
theorem in_A24 {i j n : Nat} (h : i + 24 + j < n) (hn : n < 2 ^ 31) : vp_in (nI i + 24 + nI j) n := by rw [show (24 : Int32) = nI 24 from rfl, nI_add, nI_add]; exact vp_in_nI h hn
theorem cA36 {i : Nat} (h : i + 36 < 2 ^ 31) : (nI i + 36).toNatClampNeg = i + 36 := cA (j := 36) h
theorem in_A36 {i n : Nat} (h : i + 36 < n) (hn : n < 2 ^ 31) : vp_in (nI i + 36) n := in_A (j := 36) h hn
theorem lt6n {j : Nat} (h : j < 6) : ¬ (6 : Int32) ≤ nI j := fun q => nI_ge (a := j) (b := 6) h (by omega) q
theorem in6n {j : Nat} (h : j < 6) : vp_in (nI j) 6 := vp_in_nI h (by omega)
theorem cl6n {j : Nat} (h : j < 6) : (nI j).toNatClampNeg = j := nI_clamp (by omega)
set_option maxHeartbeats 1000000 in
theorem l_put2 {E : xCl} {ex : Bool} {I V : Nat → Nat → Int32} {e : Int32} {J : Nat → Nat → Int64} {P : Nat → Nat → Nat} (hP : Pok P) {row i len : Nat} (hs : SH[row]? = some (.inr 0, len)) (hr : 390 < row) (hne : row ≠ 347) (hi : i + 37 ≤ len) (hl : len < 2 ^ 31) (d : Nat) : ∀ j, j ≤ 12 → xR (xEx E ex d) ex none yX11_put cX11_put none 41 [some (.ref 347), some (.ref row), some (.int (nI i)), some (.int (nI j))] [] (SH, wR (wE (pT2 (pT1 I row i V 6) row i V j) e) 0 V, J, P) (xEq none (SH, wR (wE (pPut I row i V) e) 0 V, J, P)) := by
  refine r_for (fun j => xR (xEx E ex d) ex none yX11_put cX11_put none 41 [some (.ref 347), some (.ref row), some (.int (nI i)), some (.int (nI j))] [] (SH, wR (wE (pT2 (pT1 I row i V 6) row i V j) e) 0 V, J, P) (xEq none (SH, wR (wE (pPut I row i V) e) 0 V, J, P))) _ ?_ ?_
  · intro j hj ih
    refine r_iload_n dX11_put_41 rfl ?_
    refine r_bipush (v := 12) dX11_put_42 (by decide) ?_
    refine r_ic_ge 81 dX11_put_44 (by decide) (fun c44 => ?_) (fun c44 => ?_)
    · exact absurd c44 (lt12 hj)
    · refine r_aload_n dX11_put_47 rfl ?_
      refine r_iload_n dX11_put_48 rfl ?_
      refine r_bipush (v := 12) dX11_put_49 (by decide) ?_
      refine r_iadd dX11_put_51 ?_
      refine r_iload_n dX11_put_52 rfl ?_
      refine r_iadd dX11_put_53 ?_
      refine r_aload_n dX11_put_54 rfl ?_
      refine r_getR dX11_put_55 flX11_127 sh_347 (by decide) rfl (pf_347_62 hP) ?_
      refine r_iload_n dX11_put_58 rfl ?_
      refine r_ialv dX11_put_59 sh_385 (iz12 (in12 hj)) ((rZ9 _ _ (in12 hj)).trans (congrArg (V 9) (cl12 hj))) ?_
      refine r_iasv dX11_put_60 hs (in_A12 (by omega) hl) ((wR_xo _ _ _ (Or.inr hr) _ _).trans (congrArg (fun z => wR z _ _) (wE_c _ _ _ (fun z => hne z.1)))) ?_
      refine r_aload_n dX11_put_61 rfl ?_
      refine r_iload_n dX11_put_62 rfl ?_
      refine r_bipush (v := 24) dX11_put_63 (by decide) ?_
      refine r_iadd dX11_put_65 ?_
      refine r_iload_n dX11_put_66 rfl ?_
      refine r_iadd dX11_put_67 ?_
      refine r_aload_n dX11_put_68 rfl ?_
      refine r_getR dX11_put_69 flX11_130 sh_347 (by decide) rfl (pf_347_63 hP) ?_
      refine r_iload_n dX11_put_72 rfl ?_
      refine r_ialv dX11_put_73 sh_386 (iz12 (in12 hj)) ((rZ10 _ _ (in12 hj)).trans (congrArg (V 10) (cl12 hj))) ?_
      refine r_iasv dX11_put_74 hs (in_A24 (by omega) hl) ((wR_xo _ _ _ (Or.inr hr) _ _).trans (congrArg (fun z => wR z _ _) (wE_c _ _ _ (fun z => hne z.1)))) ?_
      refine r_iinc3 (v := 1) dX11_put_75 (by decide) rfl ?_
      refine r_goto 41 dX11_put_78 (by decide) ?_
      rw [nI_1, cA12 (by omega), cA24 (by omega)]; exact ih
  · refine r_iload_n dX11_put_41 rfl ?_
    refine r_bipush (v := 12) dX11_put_42 (by decide) ?_
    refine r_ic_ge 81 dX11_put_44 (by decide) (fun c44 => ?_) (fun c44 => ?_)
    · refine r_aload_n dX11_put_81 rfl ?_
      refine r_iload_n dX11_put_82 rfl ?_
      refine r_bipush (v := 36) dX11_put_83 (by decide) ?_
      refine r_iadd dX11_put_85 ?_
      refine r_aload_n dX11_put_86 rfl ?_
      refine r_getR dX11_put_87 flX11_106 sh_347 (by decide) rfl (pf_347_55 hP) ?_
      refine r_iconst (v := 0) dX11_put_90 (by decide) ?_
      refine r_ialv dX11_put_91 sh_378 ix2_0 (rS13_0 _ _) ?_
      refine r_iasv dX11_put_92 hs (in_A36 (by omega) hl) ((wR_xo _ _ _ (Or.inr hr) _ _).trans (congrArg (fun z => wR z _ _) (wE_c _ _ _ (fun z => hne z.1)))) ?_
      exact r_vret dX11_put_93 rfl rfl (by rw [cA36 (by omega)]; rfl)
    · exact absurd (by decide) c44
set_option maxHeartbeats 1000000 in
theorem l_put1 {E : xCl} {ex : Bool} {I V : Nat → Nat → Int32} {e : Int32} {J : Nat → Nat → Int64} {P : Nat → Nat → Nat} (hP : Pok P) {row i len : Nat} (hs : SH[row]? = some (.inr 0, len)) (hr : 390 < row) (hne : row ≠ 347) (hi : i + 37 ≤ len) (hl : len < 2 ^ 31) (d : Nat) : ∀ j, j ≤ 6 → xR (xEx E ex d) ex none yX11_put cX11_put none 2 [some (.ref 347), some (.ref row), some (.int (nI i)), some (.int (nI j))] [] (SH, wR (wE (pT1 I row i V j) e) 0 V, J, P) (xEq none (SH, wR (wE (pPut I row i V) e) 0 V, J, P)) := by
  refine r_for (fun j => xR (xEx E ex d) ex none yX11_put cX11_put none 2 [some (.ref 347), some (.ref row), some (.int (nI i)), some (.int (nI j))] [] (SH, wR (wE (pT1 I row i V j) e) 0 V, J, P) (xEq none (SH, wR (wE (pPut I row i V) e) 0 V, J, P))) _ ?_ ?_
  · intro j hj ih
    refine r_iload_n dX11_put_2 rfl ?_
    refine r_bipush (v := 6) dX11_put_3 (by decide) ?_
    refine r_ic_ge 39 dX11_put_5 (by decide) (fun c5 => ?_) (fun c5 => ?_)
    · exact absurd c5 (lt6n hj)
    · refine r_aload_n dX11_put_8 rfl ?_
      refine r_iload_n dX11_put_9 rfl ?_
      refine r_iload_n dX11_put_10 rfl ?_
      refine r_iadd dX11_put_11 ?_
      refine r_aload_n dX11_put_12 rfl ?_
      refine r_getR dX11_put_13 flX11_100 sh_347 (by decide) rfl (pf_347_53 hP) ?_
      refine r_iload_n dX11_put_16 rfl ?_
      refine r_ialv dX11_put_17 sh_376 (iz6 (in6n hj)) ((rZ1 _ _ (in6n hj)).trans (congrArg (V 1) (cl6n hj))) ?_
      refine r_iasv dX11_put_18 hs (in_A (by omega) hl) ((wR_xo _ _ _ (Or.inr hr) _ _).trans (congrArg (fun z => wR z _ _) (wE_c _ _ _ (fun z => hne z.1)))) ?_
      refine r_aload_n dX11_put_19 rfl ?_
      refine r_iload_n dX11_put_20 rfl ?_
      refine r_bipush (v := 6) dX11_put_21 (by decide) ?_
      refine r_iadd dX11_put_23 ?_
      refine r_iload_n dX11_put_24 rfl ?_
      refine r_iadd dX11_put_25 ?_
      refine r_aload_n dX11_put_26 rfl ?_
      refine r_getR dX11_put_27 flX11_103 sh_347 (by decide) rfl (pf_347_54 hP) ?_
      refine r_iload_n dX11_put_30 rfl ?_
      refine r_ialv dX11_put_31 sh_377 (iz6 (in6n hj)) ((rZ2 _ _ (in6n hj)).trans (congrArg (V 2) (cl6n hj))) ?_
      refine r_iasv dX11_put_32 hs (in_A6 (by omega) hl) ((wR_xo _ _ _ (Or.inr hr) _ _).trans (congrArg (fun z => wR z _ _) (wE_c _ _ _ (fun z => hne z.1)))) ?_
      refine r_iinc3 (v := 1) dX11_put_33 (by decide) rfl ?_
      refine r_goto 2 dX11_put_36 (by decide) ?_
      rw [nI_1, cA (by omega), cA6 (by omega)]; exact ih
  · refine r_iload_n dX11_put_2 rfl ?_
    refine r_bipush (v := 6) dX11_put_3 (by decide) ?_
    refine r_ic_ge 39 dX11_put_5 (by decide) (fun c5 => ?_) (fun c5 => ?_)
    · refine r_iconst (v := 0) dX11_put_39 (by decide) ?_
      refine r_istore_n3 dX11_put_40 rfl ?_
      exact l_put2 hP hs hr hne hi hl d 0 (Nat.zero_le _)
    · exact absurd (by decide) c5
set_option maxHeartbeats 1000000 in
theorem k_put {E : xCl} {ex : Bool} {I V : Nat → Nat → Int32} {e : Int32} {J : Nat → Nat → Int64} {P : Nat → Nat → Nat} (hP : Pok P) {row i len : Nat} (hs : SH[row]? = some (.inr 0, len)) (hr : 390 < row) (hne : row ≠ 347) (hi : i + 37 ≤ len) (hl : len < 2 ^ 31) (d : Nat) : xEx E ex (d + 1) yX11_put [.ref 347, .ref row, .int (nI i)] (SH, wR (wE I e) 0 V, J, P) none (SH, wR (wE (pPut I row i V) e) 0 V, J, P) := by
  refine x_enter cqX11_put [some (.ref 347), some (.ref row), some (.int (nI i)), none] rfl (by simp [lg_sl, Value.category]) ?_
  refine r_iconst (v := 0) dX11_put_0 (by decide) ?_
  refine r_istore_n3 dX11_put_1 rfl ?_
  exact l_put1 hP hs hr hne hi hl d 0 (Nat.zero_le _)
theorem rY1' (I V : Nat → Nat → Int32) {j : Nat} (hj : j < 6) (v : Int32) : xu (wR I 0 V) 376 j v = wR I 0 (xu V 1 j v) := by have := rY1 I V (x := nI j) (vp_in_nI hj (by decide)) v; rwa [nI_clamp (by omega)] at this
theorem rY2' (I V : Nat → Nat → Int32) {j : Nat} (hj : j < 6) (v : Int32) : xu (wR I 0 V) 377 j v = wR I 0 (xu V 2 j v) := by have := rY2 I V (x := nI j) (vp_in_nI hj (by decide)) v; rwa [nI_clamp (by omega)] at this
theorem rY9' (I V : Nat → Nat → Int32) {j : Nat} (hj : j < 12) (v : Int32) : xu (wR I 0 V) 385 j v = wR I 0 (xu V 9 j v) := by have := rY9 I V (x := nI j) (vp_in_nI hj (by decide)) v; rwa [nI_clamp (by omega)] at this
theorem rY10' (I V : Nat → Nat → Int32) {j : Nat} (hj : j < 12) (v : Int32) : xu (wR I 0 V) 386 j v = wR I 0 (xu V 10 j v) := by have := rY10 I V (x := nI j) (vp_in_nI hj (by decide)) v; rwa [nI_clamp (by omega)] at this
set_option maxHeartbeats 1000000 in
theorem l_take2 {E : xCl} {ex : Bool} {I V : Nat → Nat → Int32} {e : Int32} {J : Nat → Nat → Int64} {P : Nat → Nat → Nat} (hP : Pok P) {row i len : Nat} (hs : SH[row]? = some (.inr 0, len)) (hr : 390 < row) (hne : row ≠ 347) (hi : i + 37 ≤ len) (hl : len < 2 ^ 31) (d : Nat) : ∀ j, j ≤ 12 → xR (xEx E ex d) ex none yX11_take cX11_take none 41 [some (.ref 347), some (.ref row), some (.int (nI i)), some (.int (nI j))] [] (SH, wR (wE I e) 0 (tT2 (tT1 V (I row) i 6) (I row) i j), J, P) (xEq none (SH, wR (wE I e) 0 (tTake V (I row) i), J, P)) := by
  refine r_for (fun j => xR (xEx E ex d) ex none yX11_take cX11_take none 41 [some (.ref 347), some (.ref row), some (.int (nI i)), some (.int (nI j))] [] (SH, wR (wE I e) 0 (tT2 (tT1 V (I row) i 6) (I row) i j), J, P) (xEq none (SH, wR (wE I e) 0 (tTake V (I row) i), J, P))) _ ?_ ?_
  · intro j hj ih
    refine r_iload_n dX11_take_41 rfl ?_
    refine r_bipush (v := 12) dX11_take_42 (by decide) ?_
    refine r_ic_ge 81 dX11_take_44 (by decide) (fun c44 => ?_) (fun c44 => ?_)
    · exact absurd c44 (lt12 hj)
    · refine r_aload_n dX11_take_47 rfl ?_
      refine r_getR dX11_take_48 flX11_127 sh_347 (by decide) rfl (pf_347_62 hP) ?_
      refine r_iload_n dX11_take_51 rfl ?_
      refine r_aload_n dX11_take_52 rfl ?_
      refine r_iload_n dX11_take_53 rfl ?_
      refine r_bipush (v := 12) dX11_take_54 (by decide) ?_
      refine r_iadd dX11_take_56 ?_
      refine r_iload_n dX11_take_57 rfl ?_
      refine r_iadd dX11_take_58 ?_
      refine r_ialv dX11_take_59 hs (in_A12 (by omega) hl) ((wR_o _ _ _ (Or.inr hr) _).trans ((wE_o _ _ hne _).trans (congrArg (I row) (cA12 (by omega))))) ?_
      refine r_iasv dX11_take_60 sh_385 (iz12 (in12 hj)) ((congrArg (fun z => xu _ _ z _) (cl12 hj)).trans (rY9' _ _ hj _)) ?_
      refine r_aload_n dX11_take_61 rfl ?_
      refine r_getR dX11_take_62 flX11_130 sh_347 (by decide) rfl (pf_347_63 hP) ?_
      refine r_iload_n dX11_take_65 rfl ?_
      refine r_aload_n dX11_take_66 rfl ?_
      refine r_iload_n dX11_take_67 rfl ?_
      refine r_bipush (v := 24) dX11_take_68 (by decide) ?_
      refine r_iadd dX11_take_70 ?_
      refine r_iload_n dX11_take_71 rfl ?_
      refine r_iadd dX11_take_72 ?_
      refine r_ialv dX11_take_73 hs (in_A24 (by omega) hl) ((wR_o _ _ _ (Or.inr hr) _).trans ((wE_o _ _ hne _).trans (congrArg (I row) (cA24 (by omega))))) ?_
      refine r_iasv dX11_take_74 sh_386 (iz12 (in12 hj)) ((congrArg (fun z => xu _ _ z _) (cl12 hj)).trans (rY10' _ _ hj _)) ?_
      refine r_iinc3 (v := 1) dX11_take_75 (by decide) rfl ?_
      refine r_goto 41 dX11_take_78 (by decide) ?_
      rw [nI_1]; exact ih
  · refine r_iload_n dX11_take_41 rfl ?_
    refine r_bipush (v := 12) dX11_take_42 (by decide) ?_
    refine r_ic_ge 81 dX11_take_44 (by decide) (fun c44 => ?_) (fun c44 => ?_)
    · refine r_aload_n dX11_take_81 rfl ?_
      refine r_getR dX11_take_82 flX11_106 sh_347 (by decide) rfl (pf_347_55 hP) ?_
      refine r_iconst (v := 0) dX11_take_85 (by decide) ?_
      refine r_aload_n dX11_take_86 rfl ?_
      refine r_iload_n dX11_take_87 rfl ?_
      refine r_bipush (v := 36) dX11_take_88 (by decide) ?_
      refine r_iadd dX11_take_90 ?_
      refine r_ialv dX11_take_91 hs (in_A36 (by omega) hl) ((wR_o _ _ _ (Or.inr hr) _).trans ((wE_o _ _ hne _).trans (congrArg (I row) (cA36 (by omega))))) ?_
      refine r_iasv dX11_take_92 sh_378 ix2_0 (rU13_0 _ _ _) ?_
      exact r_vret dX11_take_93 rfl rfl rfl
    · exact absurd (by decide) c44
set_option maxHeartbeats 1000000 in
theorem l_take1 {E : xCl} {ex : Bool} {I V : Nat → Nat → Int32} {e : Int32} {J : Nat → Nat → Int64} {P : Nat → Nat → Nat} (hP : Pok P) {row i len : Nat} (hs : SH[row]? = some (.inr 0, len)) (hr : 390 < row) (hne : row ≠ 347) (hi : i + 37 ≤ len) (hl : len < 2 ^ 31) (d : Nat) : ∀ j, j ≤ 6 → xR (xEx E ex d) ex none yX11_take cX11_take none 2 [some (.ref 347), some (.ref row), some (.int (nI i)), some (.int (nI j))] [] (SH, wR (wE I e) 0 (tT1 V (I row) i j), J, P) (xEq none (SH, wR (wE I e) 0 (tTake V (I row) i), J, P)) := by
  refine r_for (fun j => xR (xEx E ex d) ex none yX11_take cX11_take none 2 [some (.ref 347), some (.ref row), some (.int (nI i)), some (.int (nI j))] [] (SH, wR (wE I e) 0 (tT1 V (I row) i j), J, P) (xEq none (SH, wR (wE I e) 0 (tTake V (I row) i), J, P))) _ ?_ ?_
  · intro j hj ih
    refine r_iload_n dX11_take_2 rfl ?_
    refine r_bipush (v := 6) dX11_take_3 (by decide) ?_
    refine r_ic_ge 39 dX11_take_5 (by decide) (fun c5 => ?_) (fun c5 => ?_)
    · exact absurd c5 (lt6n hj)
    · refine r_aload_n dX11_take_8 rfl ?_
      refine r_getR dX11_take_9 flX11_100 sh_347 (by decide) rfl (pf_347_53 hP) ?_
      refine r_iload_n dX11_take_12 rfl ?_
      refine r_aload_n dX11_take_13 rfl ?_
      refine r_iload_n dX11_take_14 rfl ?_
      refine r_iload_n dX11_take_15 rfl ?_
      refine r_iadd dX11_take_16 ?_
      refine r_ialv dX11_take_17 hs (in_A (by omega) hl) ((wR_o _ _ _ (Or.inr hr) _).trans ((wE_o _ _ hne _).trans (congrArg (I row) (cA (by omega))))) ?_
      refine r_iasv dX11_take_18 sh_376 (iz6 (in6n hj)) ((congrArg (fun z => xu _ _ z _) (cl6n hj)).trans (rY1' _ _ hj _)) ?_
      refine r_aload_n dX11_take_19 rfl ?_
      refine r_getR dX11_take_20 flX11_103 sh_347 (by decide) rfl (pf_347_54 hP) ?_
      refine r_iload_n dX11_take_23 rfl ?_
      refine r_aload_n dX11_take_24 rfl ?_
      refine r_iload_n dX11_take_25 rfl ?_
      refine r_bipush (v := 6) dX11_take_26 (by decide) ?_
      refine r_iadd dX11_take_28 ?_
      refine r_iload_n dX11_take_29 rfl ?_
      refine r_iadd dX11_take_30 ?_
      refine r_ialv dX11_take_31 hs (in_A6 (by omega) hl) ((wR_o _ _ _ (Or.inr hr) _).trans ((wE_o _ _ hne _).trans (congrArg (I row) (cA6 (by omega))))) ?_
      refine r_iasv dX11_take_32 sh_377 (iz6 (in6n hj)) ((congrArg (fun z => xu _ _ z _) (cl6n hj)).trans (rY2' _ _ hj _)) ?_
      refine r_iinc3 (v := 1) dX11_take_33 (by decide) rfl ?_
      refine r_goto 2 dX11_take_36 (by decide) ?_
      rw [nI_1]; exact ih
  · refine r_iload_n dX11_take_2 rfl ?_
    refine r_bipush (v := 6) dX11_take_3 (by decide) ?_
    refine r_ic_ge 39 dX11_take_5 (by decide) (fun c5 => ?_) (fun c5 => ?_)
    · refine r_iconst (v := 0) dX11_take_39 (by decide) ?_
      refine r_istore_n3 dX11_take_40 rfl ?_
      exact l_take2 hP hs hr hne hi hl d 0 (Nat.zero_le _)
    · exact absurd (by decide) c5
set_option maxHeartbeats 1000000 in
theorem k_take {E : xCl} {ex : Bool} {I V : Nat → Nat → Int32} {e : Int32} {J : Nat → Nat → Int64} {P : Nat → Nat → Nat} (hP : Pok P) {row i len : Nat} (hs : SH[row]? = some (.inr 0, len)) (hr : 390 < row) (hne : row ≠ 347) (hi : i + 37 ≤ len) (hl : len < 2 ^ 31) (d : Nat) : xEx E ex (d + 1) yX11_take [.ref 347, .ref row, .int (nI i)] (SH, wR (wE I e) 0 V, J, P) none (SH, wR (wE I e) 0 (tTake V (I row) i), J, P) := by
  refine x_enter cqX11_take [some (.ref 347), some (.ref row), some (.int (nI i)), none] rfl (by simp [lg_sl, Value.category]) ?_
  refine r_iconst (v := 0) dX11_take_0 (by decide) ?_
  refine r_istore_n3 dX11_take_1 rfl ?_
  exact l_take1 hP hs hr hne hi hl d 0 (Nat.zero_le _)
def rSh (I : Nat → Nat → Int32) : Nat → Nat → Nat → Int32
  | 0 => I
  | k + 1 => xu (rSh I k) 400 k (rSh I k 400 (k + 37))
def rRem (I V : Nat → Nat → Int32) (u : Nat) : Nat → Nat → Int32 := if u = 20 then xu (pPut (xu (rSh I 703) 347 83 (nI 19)) 400 (37 * 19) V) 347 83 (nI 20) else xu (pPut I 400 (37 * u) V) 347 83 (nI (u + 1))
theorem pPut_o {I : Nat → Nat → Int32} {row i : Nat} {V : Nat → Nat → Int32} {a : Nat} (h : a ≠ row) (k : Nat) : pPut I row i V a k = I a k := by
  have h1 : ∀ p, pT1 I row i V p a k = I a k := fun p => by
    induction p with
    | zero => rfl
    | succ p ih => rw [pT1, xu_f _ _ h, xu_f _ _ h, ih]
  have h2 : ∀ (I2 : Nat → Nat → Int32) s, pT2 I2 row i V s a k = I2 a k := fun I2 s => by
    induction s with
    | zero => rfl
    | succ s ih => rw [pT2, xu_f _ _ h, xu_f _ _ h, ih]
  rw [pPut, xu_f _ _ h, h2, h1]
theorem rSh_o {I : Nat → Nat → Int32} {a : Nat} (h : a ≠ 400) (k : Nat) : ∀ q, rSh I q a k = I a k
  | 0 => rfl
  | q + 1 => by rw [rSh, xu_f _ _ h, rSh_o h k q]
theorem rRem_o {I V : Nat → Nat → Int32} {u a k : Nat} (h : a ≠ 400) (h2 : ¬ (a = 347 ∧ k = 83)) : rRem I V u a k = I a k := by
  have e : ∀ (K : Nat → Nat → Int32) (v : Int32), xu K 347 83 v a k = K a k := fun K v => if_neg h2
  unfold rRem; split
  · rw [e, pPut_o h, e, rSh_o h]
  · rw [e, pPut_o h]
theorem rRem_83 {I V : Nat → Nat → Int32} {u : Nat} : rRem I V u 347 83 = nI (if u = 20 then 20 else u + 1) := by
  unfold rRem; split
  · exact xu_s _ _ _ _
  · exact xu_s _ _ _ _
set_option maxHeartbeats 1000000 in
theorem l_rem {E : xCl} {ex : Bool} {I V : Nat → Nat → Int32} {e : Int32} {J : Nat → Nat → Int64} {P : Nat → Nat → Nat} (hP : Pok P) (d : Nat) {Q : Option Value → xS → Prop} (K : xR (xEx E ex d) ex none yX11_remember cX11_remember none 39 [some (.ref 347), some (.int (nI 703))] [] (SH, wR (wE (rSh I 703) e) 0 V, J, P) Q) : ∀ j, j ≤ 703 → xR (xEx E ex d) ex none yX11_remember cX11_remember none 11 [some (.ref 347), some (.int (nI j))] [] (SH, wR (wE (rSh I j) e) 0 V, J, P) Q := by
  refine r_for (fun j => xR (xEx E ex d) ex none yX11_remember cX11_remember none 11 [some (.ref 347), some (.int (nI j))] [] (SH, wR (wE (rSh I j) e) 0 V, J, P) Q) _ ?_ ?_
  · intro j hj ih
    refine r_iload_n dX11_remember_11 rfl ?_
    refine r_sipush (v := 703) dX11_remember_12 (by decide) ?_
    refine r_ic_ge 39 dX11_remember_15 (by decide) (fun c15 => ?_) (fun c15 => ?_)
    · exact absurd c15 (nI_ge (a := j) (b := 703) hj (by omega))
    · refine r_aload_n dX11_remember_18 rfl ?_
      refine r_getR dX11_remember_19 flX11_175 sh_347 (by decide) rfl (pf_347_84 hP) ?_
      refine r_iload_n dX11_remember_22 rfl ?_
      refine r_aload_n dX11_remember_23 rfl ?_
      refine r_getR dX11_remember_24 flX11_175 sh_347 (by decide) rfl (pf_347_84 hP) ?_
      refine r_iload_n dX11_remember_27 rfl ?_
      refine r_bipush (v := 37) dX11_remember_28 (by decide) ?_
      refine r_iadd dX11_remember_30 ?_
      refine r_ialv dX11_remember_31 sh_400 (in_A (j := 37) (by omega) (by decide)) ((wR_o _ _ _ (by decide) _).trans ((wE_o _ _ (by decide) _).trans (congrArg (rSh I j 400) (cA (j := 37) (by omega))))) ?_
      refine r_iasv dX11_remember_32 sh_400 (vp_in_nI (by omega) (by omega)) ((wR_xo _ _ _ (by decide) _ _).trans (congrArg (fun z => wR z _ _) (wE_c _ _ _ (fun z => absurd z.1 (by decide))))) ?_
      refine r_iinc1 (v := 1) dX11_remember_33 (by decide) rfl ?_
      refine r_goto 11 dX11_remember_36 (by decide) ?_
      rw [nI_1, nI_clamp (n := j) (by omega)]; exact ih
  · refine r_iload_n dX11_remember_11 rfl ?_
    refine r_sipush (v := 703) dX11_remember_12 (by decide) ?_
    refine r_ic_ge 39 dX11_remember_15 (by decide) (fun c15 => ?_) (fun c15 => ?_)
    · exact K
    · exact absurd (by decide) c15
set_option maxHeartbeats 2000000 in
theorem k_rem20 {E : xCl} {ex : Bool} {I V : Nat → Nat → Int32} {e : Int32} {J : Nat → Nat → Int64} {P : Nat → Nat → Nat} (hP : Pok P) (hu : I 347 83 = 20) (d : Nat) : xEx E ex (d + 2) yX11_remember [.ref 347] (SH, wR (wE I e) 0 V, J, P) none (SH, wR (wE (rRem I V 20) e) 0 V, J, P) := by
  refine x_enter cqX11_remember [some (.ref 347), none] rfl (by simp [lg_sl, Value.category]) ?_
  refine r_aload_n dX11_remember_0 rfl ?_
  refine r_getIv dX11_remember_1 flX11_403 sh_347 (by decide) rfl ((wR_o _ _ _ (by decide) _).trans ((wE_f _ _ (by decide)).trans hu)) ?_
  refine r_bipush (v := 20) dX11_remember_4 (by decide) ?_
  refine r_ic_ne 49 dX11_remember_6 (by decide) (fun c6 => ?_) (fun c6 => ?_)
  · exact absurd rfl c6
  · refine r_iconst (v := 0) dX11_remember_9 (by decide) ?_
    refine r_istore_n1 dX11_remember_10 rfl ?_
    refine l_rem (I := I) hP (d + 1) ?_ 0 (Nat.zero_le _)
    refine r_aload_n dX11_remember_39 rfl ?_
    refine r_dup dX11_remember_40 rfl ?_
    refine r_getIv dX11_remember_41 flX11_403 sh_347 (by decide) rfl ((wR_o _ _ _ (by decide) _).trans ((wE_f _ _ (by decide)).trans ((rSh_o (by decide) _ _).trans hu))) ?_
    refine r_iconst (v := 1) dX11_remember_44 (by decide) ?_
    refine r_isub dX11_remember_45 ?_
    refine r_putIv dX11_remember_46 flX11_403 ⟨_, _, _, rfl, Or.inl rfl⟩ sh_347 (by decide) rfl rfl rfl ((wR_xo _ _ _ (by decide) _ _).trans (congrArg (fun z => wR z _ _) (wE_c _ _ _ (by decide)))) ?_
    refine r_aload_n dX11_remember_49 rfl ?_
    refine r_aload_n dX11_remember_50 rfl ?_
    refine r_getR dX11_remember_51 flX11_175 sh_347 (by decide) rfl (pf_347_84 hP) ?_
    refine r_bipush (v := 37) dX11_remember_54 (by decide) ?_
    refine r_aload_n dX11_remember_56 rfl ?_
    refine r_getIv dX11_remember_57 flX11_403 sh_347 (by decide) rfl ((wR_o _ _ _ (by decide) _).trans ((wE_f _ _ (by decide)).trans (xu_s _ _ _ _))) ?_
    refine r_imul dX11_remember_60 ?_
    refine r_cV2v dX11_remember_61 vlX11_548 sh_347 (Nat.le_of_ble_eq_true rfl) (k_put hP (row := 400) (i := 37 * 19) sh_400 (by decide) (by decide) (by omega) (by decide) d) ?_
    refine r_aload_n dX11_remember_64 rfl ?_
    refine r_dup dX11_remember_65 rfl ?_
    refine r_getIv dX11_remember_66 flX11_403 sh_347 (by decide) rfl ((wR_o _ _ _ (by decide) _).trans ((wE_f _ _ (by decide)).trans ((pPut_o (by decide) _).trans (xu_s _ _ _ _)))) ?_
    refine r_iconst (v := 1) dX11_remember_69 (by decide) ?_
    refine r_iadd dX11_remember_70 ?_
    refine r_putIv dX11_remember_71 flX11_403 ⟨_, _, _, rfl, Or.inl rfl⟩ sh_347 (by decide) rfl rfl rfl ((wR_xo _ _ _ (by decide) _ _).trans (congrArg (fun z => wR z _ _) (wE_c _ _ _ (by decide)))) ?_
    exact r_vret dX11_remember_74 rfl rfl rfl
set_option maxHeartbeats 2000000 in
theorem k_remU {E : xCl} {ex : Bool} {I V : Nat → Nat → Int32} {e : Int32} {J : Nat → Nat → Int64} {P : Nat → Nat → Nat} (hP : Pok P) {u : Nat} (hu20 : u < 20) (hu : I 347 83 = nI u) (d : Nat) : xEx E ex (d + 2) yX11_remember [.ref 347] (SH, wR (wE I e) 0 V, J, P) none (SH, wR (wE (rRem I V u) e) 0 V, J, P) := by
  refine x_enter cqX11_remember [some (.ref 347), none] rfl (by simp [lg_sl, Value.category]) ?_
  refine r_aload_n dX11_remember_0 rfl ?_
  refine r_getIv dX11_remember_1 flX11_403 sh_347 (by decide) rfl ((wR_o _ _ _ (by decide) _).trans ((wE_f _ _ (by decide)).trans hu)) ?_
  refine r_bipush (v := 20) dX11_remember_4 (by decide) ?_
  refine r_ic_ne 49 dX11_remember_6 (by decide) (fun c6 => ?_) (fun c6 => ?_)
  · refine r_aload_n dX11_remember_49 rfl ?_
    refine r_aload_n dX11_remember_50 rfl ?_
    refine r_getR dX11_remember_51 flX11_175 sh_347 (by decide) rfl (pf_347_84 hP) ?_
    refine r_bipush (v := 37) dX11_remember_54 (by decide) ?_
    refine r_aload_n dX11_remember_56 rfl ?_
    refine r_getIv dX11_remember_57 flX11_403 sh_347 (by decide) rfl ((wR_o _ _ _ (by decide) _).trans ((wE_f _ _ (by decide)).trans hu)) ?_
    refine r_imul dX11_remember_60 ?_
    refine r_cV2v dX11_remember_61 vlX11_548 sh_347 (Nat.le_of_ble_eq_true rfl) (by have z := k_put (E := E) (ex := ex) (I := I) (V := V) (e := e) (J := J) hP (row := 400) (i := 37 * u) sh_400 (by decide) (by decide) (by omega) (by decide) d; rw [← pk_mul] at z; exact z) ?_
    refine r_aload_n dX11_remember_64 rfl ?_
    refine r_dup dX11_remember_65 rfl ?_
    refine r_getIv dX11_remember_66 flX11_403 sh_347 (by decide) rfl ((wR_o _ _ _ (by decide) _).trans ((wE_f _ _ (by decide)).trans ((pPut_o (by decide) _).trans hu))) ?_
    refine r_iconst (v := 1) dX11_remember_69 (by decide) ?_
    refine r_iadd dX11_remember_70 ?_
    refine r_putIv dX11_remember_71 flX11_403 ⟨_, _, _, rfl, Or.inl rfl⟩ sh_347 (by decide) rfl rfl rfl ((wR_xo _ _ _ (by decide) _ _).trans (congrArg (fun z => wR z _ _) (wE_c _ _ _ (by decide)))) ?_
    exact r_vret dX11_remember_74 rfl rfl (by rw [rRem, if_neg (by omega), ← nI_1])
  · exact absurd c6 (fun z => by have := (nI_eq (a := u) (b := 20) (by omega) (by omega)).mp z; omega)
theorem k_rem {E : xCl} {ex : Bool} {I V : Nat → Nat → Int32} {e : Int32} {J : Nat → Nat → Int64} {P : Nat → Nat → Nat} (hP : Pok P) {u : Nat} (hu20 : u ≤ 20) (hu : I 347 83 = nI u) (d : Nat) : xEx E ex (d + 2) yX11_remember [.ref 347] (SH, wR (wE I e) 0 V, J, P) none (SH, wR (wE (rRem I V u) e) 0 V, J, P) := by
  by_cases h : u = 20
  · subst h; exact k_rem20 hP hu d
  · exact k_remU hP (by omega) hu d
