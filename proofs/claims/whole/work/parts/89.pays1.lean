/-! the class: in which order strands can be paid -/
def wC (I : Nat → Nat → Int32) (ch dd : Nat → Int32) : Nat → Nat → Int32 := fun a k => if a = 104 ∧ k < 12 then ch k else if a = 105 ∧ k < 128 then dd k else I a k
theorem wC_o (I : Nat → Nat → Int32) (ch dd : Nat → Int32) {a : Nat} (h : a ≠ 104) (h' : a ≠ 105) (k : Nat) : wC I ch dd a k = I a k := by simp [wC, h, h']
theorem wC_c (I : Nat → Nat → Int32) (ch dd : Nat → Int32) {k : Nat} (h : k < 12) : wC I ch dd 104 k = ch k := by simp [wC, h]
theorem wC_d (I : Nat → Nat → Int32) (ch dd : Nat → Int32) {k : Nat} (h : k < 128) : wC I ch dd 105 k = dd k := by simp [wC, h]
theorem wC_xc (I : Nat → Nat → Int32) (ch dd : Nat → Int32) {k : Nat} (h : k < 12) (v : Int32) : xu (wC I ch dd) 104 k v = wC I (up ch k v) dd := by
  funext a q
  simp only [xu, wC, up]
  by_cases ha : a = 104
  · subst ha
    by_cases hq : q = k
    · subst hq; simp [h]
    · simp [hq]
  · simp [ha]
theorem wC_xd (I : Nat → Nat → Int32) (ch dd : Nat → Int32) {k : Nat} (h : k < 128) (v : Int32) : xu (wC I ch dd) 105 k v = wC I ch (up dd k v) := by
  funext a q
  simp only [xu, wC, up]
  by_cases ha : a = 105
  · subst ha
    by_cases hq : q = k
    · subst hq; simp [h]
    · simp [hq]
  · simp [ha]
theorem to104 : ∀ t ∈ TL, ∀ f, f < 13 → t + f ≠ 104 ∧ t + f ≠ 105 := by decide +kernel
theorem tl_C (I : Nat → Nat → Int32) (ch dd : Nat → Int32) {t : Nat} (ht : t ∈ TL) (f k : Nat) (hf : f < 13) : wC I ch dd (t + f) k = I (t + f) k := wC_o I ch dd (to104 t ht f hf).1 (to104 t ht f hf).2 k
theorem d32 {S : Nat} (h : S < 4096) : nI S / 32 = nI (S / 32) := pk_div (d := 32) (by omega) (by decide) (by decide)
theorem m32 {S : Nat} (h : S < 4096) : nI S - nI S / 32 * 32 = nI (S % 32) := pk_rem (d := 32) (by omega) (by decide) (by decide)
/-- no way to the end goes through T -/
def nT (ok : Nat → Nat → Prop) (A T : Nat) : Prop := ∀ S i, S.testBit i = false → S ||| 2 ^ i = T → ¬ gE ok A S i
/-- the row of dead sets tells only of such -/
def Dk (ok : Nat → Nat → Prop) (A : Nat) (dd : Nat → Int32) : Prop := ∀ T, T < 4096 → dB (dd (T / 32)) (T % 32) → nT ok A T
theorem Dk.m {ok : Nat → Nat → Prop} {A : Nat} {dd : Nat → Int32} (h : Dk ok A dd) {S : Nat} (hS : S < 4096) (hn : nT ok A S) : Dk ok A (up dd (S / 32) (dd (S / 32) ||| (1 <<< (nI (S % 32) &&& 31)))) := by
  intro T hT hb
  by_cases e : T / 32 = S / 32
  · rw [e, up_s, dB_or _ (Nat.mod_lt _ (by decide)) (Nat.mod_lt _ (by decide))] at hb
    rcases hb with hb | hb
    · exact h T hT (by rw [e]; exact hb)
    · rw [show T = S by have := Nat.div_add_mod T 32; have := Nat.div_add_mod S 32; omega]; exact hn
  · rw [up0 _ _ _ e] at hb; exact h T hT hb
set_option maxHeartbeats 1000000 in
theorem k_isDead_t {E : xCl} {ex : Bool} {I V : Nat → Nat → Int32} {ch dd : Nat → Int32} {J : Nat → Nat → Int64} {P : Nat → Nat → Nat} (hP : Pok P) {S : Nat} (hS : S < 4096) (h : dB (dd (S / 32)) (S % 32)) (d : Nat) : xEx E ex (d + 1) yX4_isDead [.ref 103, .int (nI S)] (SH, wB (wC I ch dd) 80 V, J, P) (some (.int 1)) (SH, wB (wC I ch dd) 80 V, J, P) := by
  refine x_enter cqX4_isDead [some (.ref 103), some (.int (nI S)), none] rfl (by simp [lg_sl, Value.category]) ?_
  refine r_iload_n dX4_isDead_0 rfl ?_
  refine r_bipush (v := 32) dX4_isDead_1 (by decide) ?_
  refine r_idiv dX4_isDead_3 (by decide) ?_
  rw [d32 hS]
  refine r_istore_n2 dX4_isDead_4 rfl ?_
  refine r_iload_n dX4_isDead_5 rfl ?_
  refine r_if_lt 35 dX4_isDead_6 (by decide) (fun c6 => ?_) (fun c6 => ?_)
  · exact absurd c6 (nI_pos (by omega))
  · refine r_iload_n dX4_isDead_9 rfl ?_
    refine r_aload_n dX4_isDead_10 rfl ?_
    refine r_getR dX4_isDead_11 flX4_15 sh_103 (by decide) rfl (pf_103_1 hP) ?_
    refine r_alen dX4_isDead_14 sh_105 ?_
    refine r_ic_ge 35 dX4_isDead_15 (by decide) (fun c15 => ?_) (fun c15 => ?_)
    · exact absurd c15 (nI_ge (a := S / 32) (b := 128) (by omega) (by decide))
    · refine r_aload_n dX4_isDead_18 rfl ?_
      refine r_getR dX4_isDead_19 flX4_15 sh_103 (by decide) rfl (pf_103_1 hP) ?_
      refine r_iload_n dX4_isDead_22 rfl ?_
      refine r_ialv dX4_isDead_23 sh_105 (vp_in_nI (by omega) (by omega)) ((wB_o _ _ _ (br_x _ hb80 105 (by decide)) _).trans ((congrArg (wC I ch dd 105) (nI_clamp (n := S / 32) (by omega))).trans (wC_d _ _ _ (by omega)))) ?_
      refine r_iload_n dX4_isDead_24 rfl ?_
      refine r_bipush (v := 32) dX4_isDead_25 (by decide) ?_
      refine r_irem dX4_isDead_27 (by decide) ?_
      rw [m32 hS]
      refine r_ishr dX4_isDead_28 ?_
      refine r_iconst (v := 1) dX4_isDead_29 (by decide) ?_
      refine r_iand dX4_isDead_30 ?_
      refine r_iconst (v := 1) dX4_isDead_31 (by decide) ?_
      refine r_ic_ne 39 dX4_isDead_32 (by decide) (fun c32 => ?_) (fun c32 => ?_)
      · exact absurd h c32
      · refine r_iconst (v := 1) dX4_isDead_35 (by decide) ?_
        refine r_goto 40 dX4_isDead_36 (by decide) ?_
        exact r_iret dX4_isDead_40 rfl rfl rfl rfl
set_option maxHeartbeats 1000000 in
theorem k_isDead_f {E : xCl} {ex : Bool} {I V : Nat → Nat → Int32} {ch dd : Nat → Int32} {J : Nat → Nat → Int64} {P : Nat → Nat → Nat} (hP : Pok P) {S : Nat} (hS : S < 4096) (h : ¬ dB (dd (S / 32)) (S % 32)) (d : Nat) : xEx E ex (d + 1) yX4_isDead [.ref 103, .int (nI S)] (SH, wB (wC I ch dd) 80 V, J, P) (some (.int 0)) (SH, wB (wC I ch dd) 80 V, J, P) := by
  refine x_enter cqX4_isDead [some (.ref 103), some (.int (nI S)), none] rfl (by simp [lg_sl, Value.category]) ?_
  refine r_iload_n dX4_isDead_0 rfl ?_
  refine r_bipush (v := 32) dX4_isDead_1 (by decide) ?_
  refine r_idiv dX4_isDead_3 (by decide) ?_
  rw [d32 hS]
  refine r_istore_n2 dX4_isDead_4 rfl ?_
  refine r_iload_n dX4_isDead_5 rfl ?_
  refine r_if_lt 35 dX4_isDead_6 (by decide) (fun c6 => ?_) (fun c6 => ?_)
  · exact absurd c6 (nI_pos (by omega))
  · refine r_iload_n dX4_isDead_9 rfl ?_
    refine r_aload_n dX4_isDead_10 rfl ?_
    refine r_getR dX4_isDead_11 flX4_15 sh_103 (by decide) rfl (pf_103_1 hP) ?_
    refine r_alen dX4_isDead_14 sh_105 ?_
    refine r_ic_ge 35 dX4_isDead_15 (by decide) (fun c15 => ?_) (fun c15 => ?_)
    · exact absurd c15 (nI_ge (a := S / 32) (b := 128) (by omega) (by decide))
    · refine r_aload_n dX4_isDead_18 rfl ?_
      refine r_getR dX4_isDead_19 flX4_15 sh_103 (by decide) rfl (pf_103_1 hP) ?_
      refine r_iload_n dX4_isDead_22 rfl ?_
      refine r_ialv dX4_isDead_23 sh_105 (vp_in_nI (by omega) (by omega)) ((wB_o _ _ _ (br_x _ hb80 105 (by decide)) _).trans ((congrArg (wC I ch dd 105) (nI_clamp (n := S / 32) (by omega))).trans (wC_d _ _ _ (by omega)))) ?_
      refine r_iload_n dX4_isDead_24 rfl ?_
      refine r_bipush (v := 32) dX4_isDead_25 (by decide) ?_
      refine r_irem dX4_isDead_27 (by decide) ?_
      rw [m32 hS]
      refine r_ishr dX4_isDead_28 ?_
      refine r_iconst (v := 1) dX4_isDead_29 (by decide) ?_
      refine r_iand dX4_isDead_30 ?_
      refine r_iconst (v := 1) dX4_isDead_31 (by decide) ?_
      refine r_ic_ne 39 dX4_isDead_32 (by decide) (fun c32 => ?_) (fun c32 => ?_)
      · refine r_iconst (v := 0) dX4_isDead_39 (by decide) ?_
        exact r_iret dX4_isDead_40 rfl rfl rfl rfl
      · exact absurd c32 h
set_option maxHeartbeats 1000000 in
theorem k_markDead {E : xCl} {ex : Bool} {I V : Nat → Nat → Int32} {ch dd : Nat → Int32} {J : Nat → Nat → Int64} {P : Nat → Nat → Nat} (hP : Pok P) {S : Nat} (hS : S < 4096) (d : Nat) : xEx E ex (d + 1) yX4_markDead [.ref 103, .int (nI S)] (SH, wB (wC I ch dd) 80 V, J, P) none (SH, wB (wC I ch (up dd (S / 32) (dd (S / 32) ||| (1 <<< (nI (S % 32) &&& 31))))) 80 V, J, P) := by
  refine x_enter cqX4_markDead [some (.ref 103), some (.int (nI S)), none] rfl (by simp [lg_sl, Value.category]) ?_
  refine r_iload_n dX4_markDead_0 rfl ?_
  refine r_bipush (v := 32) dX4_markDead_1 (by decide) ?_
  refine r_idiv dX4_markDead_3 (by decide) ?_
  rw [d32 hS]
  refine r_istore_n2 dX4_markDead_4 rfl ?_
  refine r_iload_n dX4_markDead_5 rfl ?_
  refine r_if_lt 33 dX4_markDead_6 (by decide) (fun c6 => ?_) (fun c6 => ?_)
  · exact absurd c6 (nI_pos (by omega))
  · refine r_iload_n dX4_markDead_9 rfl ?_
    refine r_aload_n dX4_markDead_10 rfl ?_
    refine r_getR dX4_markDead_11 flX4_15 sh_103 (by decide) rfl (pf_103_1 hP) ?_
    refine r_alen dX4_markDead_14 sh_105 ?_
    refine r_ic_ge 33 dX4_markDead_15 (by decide) (fun c15 => ?_) (fun c15 => ?_)
    · exact absurd c15 (nI_ge (a := S / 32) (b := 128) (by omega) (by decide))
    · refine r_aload_n dX4_markDead_18 rfl ?_
      refine r_getR dX4_markDead_19 flX4_15 sh_103 (by decide) rfl (pf_103_1 hP) ?_
      refine r_iload_n dX4_markDead_22 rfl ?_
      refine r_dup2 dX4_markDead_23 rfl rfl ?_
      refine r_ialv dX4_markDead_24 sh_105 (vp_in_nI (by omega) (by omega)) ((wB_o _ _ _ (br_x _ hb80 105 (by decide)) _).trans ((congrArg (wC I ch dd 105) (nI_clamp (n := S / 32) (by omega))).trans (wC_d _ _ _ (by omega)))) ?_
      refine r_iconst (v := 1) dX4_markDead_25 (by decide) ?_
      refine r_iload_n dX4_markDead_26 rfl ?_
      refine r_bipush (v := 32) dX4_markDead_27 (by decide) ?_
      refine r_irem dX4_markDead_29 (by decide) ?_
      rw [m32 hS]
      refine r_ishl dX4_markDead_30 ?_
      refine r_ior dX4_markDead_31 ?_
      refine r_iasv dX4_markDead_32 sh_105 (vp_in_nI (by omega) (by omega)) (show _ = wB (wC I ch (up dd (S / 32) (dd (S / 32) ||| (1 <<< (nI (S % 32) &&& 31))))) 80 V from (wB_xo _ _ (br_x _ hb80 105 (by decide)) _ _).trans (congrArg (fun z => wB z 80 V) (by rw [nI_clamp (n := S / 32) (by omega), wC_xd _ _ _ (by omega)]))) ?_
      exact r_vret dX4_markDead_33 rfl rfl rfl
