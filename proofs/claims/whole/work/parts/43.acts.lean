/-! acts: saved, undone, images -/
theorem wB_comm (I V W : Nat → Nat → Int32) {b q : Nat} (hb : b ∈ BR) (hq : q ∈ BR) (hne : q ≠ b) : wB (wB I b V) q W = wB (wB I q W) b V := by
  have k1 := br_br b hb q hq hne 0 (by decide)
  have k2 := br_br b hb q hq hne 11 (by decide)
  funext a k
  by_cases h1 : a < q ∨ q + 11 < a
  · rw [wB_o _ q W h1]
    by_cases h2 : a < b ∨ b + 11 < a
    · rw [wB_o _ b V h2, wB_o _ b V h2, wB_o _ q W h1]
    · simp only [wB]
      by_cases h3 : a = b
      · subst h3
        simp only [if_true]
        split
        · rfl
        · first | rfl | (rw [if_neg (by omega), if_neg (by omega)]; done) | (rw [if_neg (by omega)]; done)
      · rw [if_neg h3, if_neg h3]
        split
        · rfl
        · first | rfl | (rw [if_neg (by omega), if_neg (by omega)]; done) | (rw [if_neg (by omega)]; done)
  · have h2 : a < b ∨ b + 11 < a := by omega
    rw [wB_o _ b V h2]
    simp only [wB]
    by_cases h3 : a = q
    · subst h3
      simp only [if_true]
      split
      · rfl
      · first | rfl | (rw [if_neg (by omega), if_neg (by omega)]; done) | (rw [if_neg (by omega)]; done)
    · rw [if_neg h3, if_neg h3]
      split
      · rfl
      · first | rfl | (rw [if_neg (by omega), if_neg (by omega)]; done) | (rw [if_neg (by omega)]; done)
theorem wB_vw (I' I V : Nat → Nat → Int32) (q b : Nat) : wB I' q (vB (wB I b V) b) = wB I' q V := by
  refine wB_ext I' q (fun f k h1 h2 h3 => ?_) (fun f h1 h2 => ?_)
  · rw [vB, if_pos h2, wB_a I b V h1 h2 h3]
  · rw [vB, if_neg (by omega), wB_i I b V ⟨h1, h2⟩]
theorem vB_o (I V : Nat → Nat → Int32) {b q : Nat} (hb : b ∈ BR) (hq : q ∈ BR) (hne : q ≠ b) : vB (wB I b V) q = vB I q := by
  funext f k
  simp only [vB]
  split
  · exact wB_o I b V (br_br b hb q hq hne f (by assumption)) k
  · exact wB_o I b V (br_br b hb q hq hne 0 (by decide)) f
theorem xu_id {α : Type} (f : Nat → Nat → α) {a k : Nat} {v : α} (h : f a k = v) : xu f a k v = f := by
  funext a' k'
  simp only [xu]
  split
  · rename_i q; rw [q.1, q.2, h]
  · rfl
/-- another bridge becomes what is now -/
theorem k_becomeN {E : xCl} {ex : Bool} {I V : Nat → Nat → Int32} {J : Nat → Nat → Int64} {P : Nat → Nat → Nat} (hP : Pok P) {t : Nat} (ht : t ∈ TL) (hbt : P 56 0 = t + 1) {q : Nat} (hq : q ∈ BR) (hne : 56 ≠ q) (d : Nat) : xEx E ex (d + 1) yX0_become [.ref q, .ref 56] (SH, wB I 56 V, J, P) none (SH, wB (wB I q V) 56 V, J, xu P q 0 (t + 1)) := by
  have h := k_become (E := E) (ex := ex) (I := wB I 56 V) (V := vB (wB I 56 V) q) (J := J) hP hq hb56 hne ht hbt d
  rw [wB_vB, wB_vw, wB_comm I V V hb56 hq (Ne.symm hne)] at h
  exact h
/-- what is now becomes another bridge -/
theorem k_becomeB {E : xCl} {ex : Bool} {I V : Nat → Nat → Int32} {J : Nat → Nat → Int64} {P : Nat → Nat → Nat} (hP : Pok P) {t : Nat} (ht : t ∈ TL) (hbt : P 56 0 = t + 1) {q : Nat} (hq : q ∈ BR) (hne : q ≠ 56) (hqt : P q 0 = t + 1) (d : Nat) : xEx E ex (d + 1) yX0_become [.ref 56, .ref q] (SH, wB I 56 V, J, P) none (SH, wB I 56 (vB I q), J, P) := by
  have h := k_become (E := E) (ex := ex) (I := I) (V := V) (J := J) hP hb56 hq hne ht hqt d
  rw [xu_id P hbt] at h
  exact h
theorem sv_b : ∀ s, s < 20 → 107 + 12 * s ∈ BR := by decide
theorem sv_m : ∀ s, s < 20 → (92, s, 107 + 12 * s + 1) ∈ REFS := by decide +kernel
theorem sv_p {P : Nat → Nat → Nat} (h : Pok P) {s : Nat} (hs : s < 20) : P 92 (nI s).toNatClampNeg = 107 + 12 * s + 1 := by rw [nI_clamp (by omega)]; exact h.at (sv_m s hs)
theorem in20 {s : Nat} (h : s < 20) : vp_in (nI s) 20 := vp_in_nI h (by omega)
theorem rem20 (s : Nat) (h : s < 1000) : nI s + 1 - (nI s + 1) / 20 * 20 = nI ((s + 1) % 20) := by rw [nI_1, show (20 : Int32) = nI 20 from rfl, pk_rem (by omega) (by omega) (by omega)]
theorem min20 (c : Nat) (h : c ≤ 20) : (if nI c + 1 < 20 then nI c + 1 else 20) = nI (min 20 (c + 1)) := by
  rw [nI_1, show (20 : Int32) = nI 20 from rfl]
  by_cases h1 : c + 1 < 20
  · rw [if_pos (nI_lt (a := c + 1) (b := 20) h1 (by omega)), Nat.min_eq_right (by omega)]
  · rw [if_neg (nI_nlt (a := c + 1) (b := 20) (by omega) (by omega)), Nat.min_eq_left (by omega)]
/-- an act is saved: in the ring's next bridge -/
def svI (I V : Nat → Nat → Int32) (sn cn : Nat) : Nat → Nat → Int32 := xu (xu (wB I (107 + 12 * sn) V) 0 12 (nI ((sn + 1) % 20))) 0 13 (nI (min 20 (cn + 1)))
set_option maxHeartbeats 1000000 in
theorem k_saveAct {E : xCl} {ex : Bool} {I V : Nat → Nat → Int32} {J : Nat → Nat → Int64} {P : Nat → Nat → Nat} (hP : Pok P) {t : Nat} (ht : t ∈ TL) (hx5 : P 0 5 = t + 1) (hbt : P 56 0 = t + 1) {sn cn : Nat} (hsn : sn < 20) (h12 : I 0 12 = nI sn) (hcn : cn ≤ 20) (h13 : I 0 13 = nI cn) (d : Nat) : xEx E ex (d + 2) yX10_saveAct [.ref 0] (SH, wB I 56 V, J, P) none (SH, wB (svI I V sn cn) 56 V, J, xu P (107 + 12 * sn) 0 (t + 1)) := by
  refine x_enter cqX10_saveAct [some (.ref 0)] rfl (by simp [lg_sl, Value.category]) ?_
  refine r_aload_n dX10_saveAct_0 rfl ?_
  refine r_getR dX10_saveAct_1 flX10_51 sh_0 (by decide) rfl (pf_0_11 hP) ?_
  refine r_aload_n dX10_saveAct_4 rfl ?_
  refine r_getIv dX10_saveAct_5 flX10_397 sh_0 (by decide) rfl ((wB_o _ _ _ (br_x _ hb56 0 (by decide)) _).trans h12) ?_
  refine r_aal dX10_saveAct_8 sh_92 (in20 hsn) (sv_p hP hsn) ?_
  refine r_aload_n dX10_saveAct_9 rfl ?_
  refine r_getR dX10_saveAct_10 flX10_42 sh_0 (by decide) rfl (pf_0_7 hP) ?_
  refine r_cV1v dX10_saveAct_13 vlX10_119 (br_s _ (sv_b sn hsn)) (Nat.le_of_ble_eq_true rfl) (k_becomeN hP ht hbt (sv_b sn hsn) (by omega) d) ?_
  have hP := hP.xb (sv_b sn hsn) (t + 1)
  refine r_aload_n dX10_saveAct_16 rfl ?_
  refine r_aload_n dX10_saveAct_17 rfl ?_
  refine r_getIv dX10_saveAct_18 flX10_397 sh_0 (by decide) rfl ((wB_o _ _ _ (br_x _ hb56 0 (by decide)) _).trans ((wB_o _ _ _ (br_x _ (sv_b sn hsn) 0 (by decide)) _).trans h12)) ?_
  refine r_iconst (v := 1) dX10_saveAct_21 (by decide) ?_
  refine r_iadd dX10_saveAct_22 ?_
  refine r_bipush (v := 20) dX10_saveAct_23 (by decide) ?_
  refine r_irem dX10_saveAct_25 (by decide) ?_
  refine r_putIv dX10_saveAct_26 flX10_397 ⟨_, _, _, rfl, Or.inl rfl⟩ sh_0 (by decide) rfl rfl rfl (wB_xo _ _ (br_x _ hb56 0 (by decide)) _ _) ?_
  refine r_aload_n dX10_saveAct_29 rfl ?_
  refine r_bipush (v := 20) dX10_saveAct_30 (by decide) ?_
  refine r_aload_n dX10_saveAct_32 rfl ?_
  refine r_getIv dX10_saveAct_33 flX10_400 sh_0 (by decide) rfl (v := nI cn) (by rw [wB_o _ _ _ (br_x _ hb56 0 (by decide)), show xu (wB I (107 + 12 * sn) V) 0 12 (nI sn + 1 - (nI sn + 1) / 20 * 20) 0 13 = wB I (107 + 12 * sn) V 0 13 from by simp [xu], wB_o _ _ _ (br_x _ (sv_b sn hsn) 0 (by decide))]; exact h13) ?_
  refine r_iconst (v := 1) dX10_saveAct_36 (by decide) ?_
  refine r_iadd dX10_saveAct_37 ?_
  refine r_mmin dX10_saveAct_38 hlX10_246 (Nat.le_of_ble_eq_true rfl) ?_
  refine r_putIv dX10_saveAct_41 flX10_400 ⟨_, _, _, rfl, Or.inl rfl⟩ sh_0 (by decide) rfl rfl rfl (wB_xo _ _ (br_x _ hb56 0 (by decide)) _ _) ?_
  exact r_vret dX10_saveAct_44 rfl rfl (by rw [svI, ← rem20 sn (by omega), ← min20 cn hcn])
set_option maxHeartbeats 1000000 in
theorem k_forgetActs {E : xCl} {ex : Bool} {I V : Nat → Nat → Int32} {J : Nat → Nat → Int64} {P : Nat → Nat → Nat}  (d : Nat) : xEx E ex (d + 1) yX10_forgetActs [.ref 0] (SH, wB I 56 V, J, P) none (SH, wB (xu I 0 13 0) 56 V, J, P) := by
  refine x_enter cqX10_forgetActs [some (.ref 0)] rfl (by simp [lg_sl, Value.category]) ?_
  refine r_aload_n dX10_forgetActs_0 rfl ?_
  refine r_iconst (v := 0) dX10_forgetActs_1 (by decide) ?_
  refine r_putIv dX10_forgetActs_2 flX10_400 ⟨_, _, _, rfl, Or.inl rfl⟩ sh_0 (by decide) rfl rfl rfl (wB_xo _ _ (br_x _ hb56 0 (by decide)) _ _) ?_
  exact r_vret dX10_forgetActs_5 rfl rfl rfl
set_option maxHeartbeats 1000000 in
theorem k_forgive_t {E : xCl} {ex : Bool} {I V : Nat → Nat → Int32} {J : Nat → Nat → Int64} {P : Nat → Nat → Nat} (hP : Pok P) {t : Nat} (ht : t ∈ TL) (hx5 : P 0 5 = t + 1) (hbt : P 56 0 = t + 1) {sn cn : Nat} (hsn : sn < 20) (h12 : I 0 12 = nI sn) (hcn : cn ≤ 20) (h13 : I 0 13 = nI cn) {s : Int32} (h : sTh V s) (d : Nat) : xEx E ex (d + 3) yX10_forgive [.ref 0, .int s] (SH, wB I 56 V, J, P) (some (.int 1)) (SH, wB (svI I V sn cn) 56 (xu V 9 s.toNatClampNeg 2), J, xu P (107 + 12 * sn) 0 (t + 1)) := by
  refine x_enter cqX10_forgive [some (.ref 0), some (.int s)] rfl (by simp [lg_sl, Value.category]) ?_
  refine r_aload_n dX10_forgive_0 rfl ?_
  refine r_getR dX10_forgive_1 flX10_42 sh_0 (by decide) rfl (pf_0_7 hP) ?_
  refine r_iload_n dX10_forgive_4 rfl ?_
  refine r_cV1i dX10_forgive_5 vlX10_220 (br_s _ hb56) (Nat.le_of_ble_eq_true rfl) (k_isThere_t hP hb56 h d) ?_
  refine r_if_ne 13 dX10_forgive_8 (by decide) (fun c8 => ?_) (fun c8 => ?_)
  · refine r_aload_n dX10_forgive_13 rfl ?_
    refine r_cV0v dX10_forgive_14 vlX10_254 sh_0 (Nat.le_of_ble_eq_true rfl) (k_saveAct hP ht hx5 hbt hsn h12 hcn h13 (d)) ?_
    have hP := hP.xb (sv_b sn hsn) (t + 1); have hbt : xu P (107 + 12 * sn) 0 (t + 1) 56 0 = t + 1 := (xu_f _ _ (by omega)).trans hbt; have hx5 : xu P (107 + 12 * sn) 0 (t + 1) 0 5 = t + 1 := (xu_f _ _ (by omega)).trans hx5
    refine r_aload_n dX10_forgive_17 rfl ?_
    refine r_getR dX10_forgive_18 flX10_42 sh_0 (by decide) rfl (pf_0_7 hP) ?_
    refine r_getR dX10_forgive_21 flX10_190 (br_s _ hb56) (by decide) rfl (br_p9 hP _ hb56) ?_
    refine r_iload_n dX10_forgive_24 rfl ?_
    refine r_iconst (v := 2) dX10_forgive_25 (by decide) ?_
    refine r_iasv dX10_forgive_26 (br_a9 _ hb56) h.in (wB_xa _ _ _ (by decide) (by decide) (vlt h.in) _) ?_
    refine r_iconst (v := 1) dX10_forgive_27 (by decide) ?_
    exact r_iret dX10_forgive_28 rfl rfl rfl rfl
  · exact absurd c8 (by decide)
set_option maxHeartbeats 1000000 in
theorem k_forgive_f {E : xCl} {ex : Bool} {I V : Nat → Nat → Int32} {J : Nat → Nat → Int64} {P : Nat → Nat → Nat} (hP : Pok P) {t : Nat} (ht : t ∈ TL) (hx5 : P 0 5 = t + 1) (hbt : P 56 0 = t + 1) {s : Int32} (h : ¬ sTh V s) (d : Nat) : xEx E ex (d + 3) yX10_forgive [.ref 0, .int s] (SH, wB I 56 V, J, P) (some (.int 0)) (SH, wB I 56 V, J, P) := by
  refine x_enter cqX10_forgive [some (.ref 0), some (.int s)] rfl (by simp [lg_sl, Value.category]) ?_
  refine r_aload_n dX10_forgive_0 rfl ?_
  refine r_getR dX10_forgive_1 flX10_42 sh_0 (by decide) rfl (pf_0_7 hP) ?_
  refine r_iload_n dX10_forgive_4 rfl ?_
  refine r_cV1i dX10_forgive_5 vlX10_220 (br_s _ hb56) (Nat.le_of_ble_eq_true rfl) (k_isThere_f hP hb56 h d) ?_
  refine r_if_ne 13 dX10_forgive_8 (by decide) (fun c8 => ?_) (fun c8 => ?_)
  · exact absurd c8 (by decide)
  · refine r_iconst (v := 0) dX10_forgive_11 (by decide) ?_
    exact r_iret dX10_forgive_12 rfl rfl rfl rfl
set_option maxHeartbeats 1000000 in
theorem k_pay_t {E : xCl} {ex : Bool} {I V : Nat → Nat → Int32} {J : Nat → Nat → Int64} {P : Nat → Nat → Nat} (hP : Pok P) {t : Nat} (ht : t ∈ TL) (hx5 : P 0 5 = t + 1) (hbt : P 56 0 = t + 1) {sn cn : Nat} (hsn : sn < 20) (h12 : I 0 12 = nI sn) (hcn : cn ≤ 20) (h13 : I 0 13 = nI cn) {n : Nat} (hv : Vok V n) {s : Int32} (h : sCan V s) (d : Nat) : xEx E ex (d + 4) yX10_pay [.ref 0, .int s] (SH, wB I 56 V, J, P) (some (.int 1)) (SH, wB (svI I V sn cn) 56 (sPay V s.toNatClampNeg), J, xu P (107 + 12 * sn) 0 (t + 1)) := by
  refine x_enter cqX10_pay [some (.ref 0), some (.int s)] rfl (by simp [lg_sl, Value.category]) ?_
  refine r_aload_n dX10_pay_0 rfl ?_
  refine r_getR dX10_pay_1 flX10_42 sh_0 (by decide) rfl (pf_0_7 hP) ?_
  refine r_iload_n dX10_pay_4 rfl ?_
  refine r_cV1i dX10_pay_5 vlX10_261 (br_s _ hb56) (Nat.le_of_ble_eq_true rfl) (k_canPay_t hP hb56 hv h d) ?_
  refine r_if_ne 13 dX10_pay_8 (by decide) (fun c8 => ?_) (fun c8 => ?_)
  · refine r_aload_n dX10_pay_13 rfl ?_
    refine r_cV0v dX10_pay_14 vlX10_254 sh_0 (Nat.le_of_ble_eq_true rfl) (k_saveAct hP ht hx5 hbt hsn h12 hcn h13 (d + 1)) ?_
    have hP := hP.xb (sv_b sn hsn) (t + 1); have hbt : xu P (107 + 12 * sn) 0 (t + 1) 56 0 = t + 1 := (xu_f _ _ (by omega)).trans hbt; have hx5 : xu P (107 + 12 * sn) 0 (t + 1) 0 5 = t + 1 := (xu_f _ _ (by omega)).trans hx5
    refine r_aload_n dX10_pay_17 rfl ?_
    refine r_getR dX10_pay_18 flX10_42 sh_0 (by decide) rfl (pf_0_7 hP) ?_
    refine r_iload_n dX10_pay_21 rfl ?_
    refine r_cV1v dX10_pay_22 vlX10_264 (br_s _ hb56) (Nat.le_of_ble_eq_true rfl) (k_payOut hP hb56 hv h.1.in (d + 2)) ?_
    refine r_iconst (v := 1) dX10_pay_25 (by decide) ?_
    exact r_iret dX10_pay_26 rfl rfl rfl rfl
  · exact absurd c8 (by decide)
set_option maxHeartbeats 1000000 in
theorem k_pay_f {E : xCl} {ex : Bool} {I V : Nat → Nat → Int32} {J : Nat → Nat → Int64} {P : Nat → Nat → Nat} (hP : Pok P) {t : Nat} (ht : t ∈ TL) (hx5 : P 0 5 = t + 1) (hbt : P 56 0 = t + 1) {n : Nat} (hv : Vok V n) {s : Int32} (h : ¬ sCan V s) (d : Nat) : xEx E ex (d + 4) yX10_pay [.ref 0, .int s] (SH, wB I 56 V, J, P) (some (.int 0)) (SH, wB I 56 V, J, P) := by
  refine x_enter cqX10_pay [some (.ref 0), some (.int s)] rfl (by simp [lg_sl, Value.category]) ?_
  refine r_aload_n dX10_pay_0 rfl ?_
  refine r_getR dX10_pay_1 flX10_42 sh_0 (by decide) rfl (pf_0_7 hP) ?_
  refine r_iload_n dX10_pay_4 rfl ?_
  refine r_cV1i dX10_pay_5 vlX10_261 (br_s _ hb56) (Nat.le_of_ble_eq_true rfl) (k_canPay_f hP hb56 hv h d) ?_
  refine r_if_ne 13 dX10_pay_8 (by decide) (fun c8 => ?_) (fun c8 => ?_)
  · exact absurd c8 (by decide)
  · refine r_iconst (v := 0) dX10_pay_11 (by decide) ?_
    exact r_iret dX10_pay_12 rfl rfl rfl rfl
