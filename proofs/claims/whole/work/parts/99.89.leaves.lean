/-! constructors of what the ledger is made of (by program, wip/gen2/ctor.py) -/
theorem i_X0 {E : xCl} {b : Nat} (hb : b ∈ BR) {t : Nat} (ht : PI b 0 = t + 1) {I : Nat → Nat → Int32} {P : Nat → Nat → Nat} (hI : ∀ a k, b ≤ a → I a k = 0) (hP : ∀ a k, b ≤ a → a < b + 12 → P a k = PI a k) (d : Nat) : xEx E true (d + 2) yX0_init [.ref b, .ref t] (SH.take (b + 1), I, J0, zr P (b)) none (SH.take (b + 12), I, J0, P) := by
  have hr : ∀ k, xu P b 0 0 b k = [0, b + 1 + 1, b + 2 + 1, b + 3 + 1, b + 4 + 1, b + 5 + 1, b + 6 + 1, b + 7 + 1, b + 8 + 1, b + 9 + 1, b + 10 + 1, b + 11 + 1].getD k 0 := fun k => by
    cases k with
    | zero => exact xu_s P b 0 0
    | succ k => exact (xu_ne (by omega)).trans ((hP b (k + 1) (by omega) (by omega)).trans (PI_r (prow_b b hb) (k + 1)))
  refine x_enter cqX0_init [some (.ref b), some (.ref t)] rfl (by simp [lg_sl, Value.category]) ?_
  rw [show zr P b = zr (xu P b 0 0) b from by funext a k; by_cases e : a = b <;> simp [zr, xu, e], zr_up]
  refine r_aload_n dX0_init_0 rfl ?_
  refine r_oi dX0_init_1 olX0_3 (by simp [Value.category]) ?_
  refine r_aload_n dX0_init_4 rfl ?_
  refine r_bipush (v := 6) dX0_init_5 (by decide) ?_
  refine c_newa (q := b + 1) (m := 6) dX0_init_7 ⟨by decide, by decide, by decide⟩ rfl (br_a1 b hb) (fun k => hI _ k (by omega)) (fun k => (rwp_o (by omega) k).trans ((xu_ne (by omega)).trans ((hP _ k (by omega) (by omega)).trans (PI_e (prow_ba b hb 0 (by omega)) k)))) ?_
  refine c_put (n := b) (i := 0) dX0_init_9 flX0_9 ⟨_, _, _, rfl, Or.inr ⟨rfl, rfl, rfl⟩⟩ (br_s b hb) (by omega) (by decide) rfl rfl (by omega) (fun z z1 z2 => by rw [show z = 0 by omega, hr]; rfl) (by rw [hr]; rfl) ?_
  refine r_aload_n dX0_init_12 rfl ?_
  refine r_bipush (v := 6) dX0_init_13 (by decide) ?_
  refine c_newa (q := b + 2) (m := 6) dX0_init_15 ⟨by decide, by decide, by decide⟩ rfl (br_a2 b hb) (fun k => hI _ k (by omega)) (fun k => (rwp_o (by omega) k).trans ((xu_ne (by omega)).trans ((hP _ k (by omega) (by omega)).trans (PI_e (prow_ba b hb 1 (by omega)) k)))) ?_
  refine c_put (n := b) (i := 2) dX0_init_17 flX0_15 ⟨_, _, _, rfl, Or.inr ⟨rfl, rfl, rfl⟩⟩ (br_s b hb) (by omega) (by decide) rfl rfl (by omega) (fun z z1 z2 => by omega) (by rw [hr]; rfl) ?_
  refine r_aload_n dX0_init_20 rfl ?_
  refine r_bipush (v := 12) dX0_init_21 (by decide) ?_
  refine c_newa (q := b + 3) (m := 12) dX0_init_23 ⟨by decide, by decide, by decide⟩ rfl (br_a3 b hb) (fun k => hI _ k (by omega)) (fun k => (rwp_o (by omega) k).trans ((xu_ne (by omega)).trans ((hP _ k (by omega) (by omega)).trans (PI_e (prow_ba b hb 2 (by omega)) k)))) ?_
  refine c_put (n := b) (i := 3) dX0_init_25 flX0_18 ⟨_, _, _, rfl, Or.inr ⟨rfl, rfl, rfl⟩⟩ (br_s b hb) (by omega) (by decide) rfl rfl (by omega) (fun z z1 z2 => by omega) (by rw [hr]; rfl) ?_
  refine r_aload_n dX0_init_28 rfl ?_
  refine r_bipush (v := 12) dX0_init_29 (by decide) ?_
  refine c_newa (q := b + 4) (m := 12) dX0_init_31 ⟨by decide, by decide, by decide⟩ rfl (br_a4 b hb) (fun k => hI _ k (by omega)) (fun k => (rwp_o (by omega) k).trans ((xu_ne (by omega)).trans ((hP _ k (by omega) (by omega)).trans (PI_e (prow_ba b hb 3 (by omega)) k)))) ?_
  refine c_put (n := b) (i := 4) dX0_init_33 flX0_21 ⟨_, _, _, rfl, Or.inr ⟨rfl, rfl, rfl⟩⟩ (br_s b hb) (by omega) (by decide) rfl rfl (by omega) (fun z z1 z2 => by omega) (by rw [hr]; rfl) ?_
  refine r_aload_n dX0_init_36 rfl ?_
  refine r_bipush (v := 12) dX0_init_37 (by decide) ?_
  refine c_newa (q := b + 5) (m := 12) dX0_init_39 ⟨by decide, by decide, by decide⟩ rfl (br_a5 b hb) (fun k => hI _ k (by omega)) (fun k => (rwp_o (by omega) k).trans ((xu_ne (by omega)).trans ((hP _ k (by omega) (by omega)).trans (PI_e (prow_ba b hb 4 (by omega)) k)))) ?_
  refine c_put (n := b) (i := 5) dX0_init_41 flX0_24 ⟨_, _, _, rfl, Or.inr ⟨rfl, rfl, rfl⟩⟩ (br_s b hb) (by omega) (by decide) rfl rfl (by omega) (fun z z1 z2 => by omega) (by rw [hr]; rfl) ?_
  refine r_aload_n dX0_init_44 rfl ?_
  refine r_bipush (v := 12) dX0_init_45 (by decide) ?_
  refine c_newa (q := b + 6) (m := 12) dX0_init_47 ⟨by decide, by decide, by decide⟩ rfl (br_a6 b hb) (fun k => hI _ k (by omega)) (fun k => (rwp_o (by omega) k).trans ((xu_ne (by omega)).trans ((hP _ k (by omega) (by omega)).trans (PI_e (prow_ba b hb 5 (by omega)) k)))) ?_
  refine c_put (n := b) (i := 6) dX0_init_49 flX0_27 ⟨_, _, _, rfl, Or.inr ⟨rfl, rfl, rfl⟩⟩ (br_s b hb) (by omega) (by decide) rfl rfl (by omega) (fun z z1 z2 => by omega) (by rw [hr]; rfl) ?_
  refine r_aload_n dX0_init_52 rfl ?_
  refine r_bipush (v := 12) dX0_init_53 (by decide) ?_
  refine c_newa (q := b + 7) (m := 12) dX0_init_55 ⟨by decide, by decide, by decide⟩ rfl (br_a7 b hb) (fun k => hI _ k (by omega)) (fun k => (rwp_o (by omega) k).trans ((xu_ne (by omega)).trans ((hP _ k (by omega) (by omega)).trans (PI_e (prow_ba b hb 6 (by omega)) k)))) ?_
  refine c_put (n := b) (i := 7) dX0_init_57 flX0_30 ⟨_, _, _, rfl, Or.inr ⟨rfl, rfl, rfl⟩⟩ (br_s b hb) (by omega) (by decide) rfl rfl (by omega) (fun z z1 z2 => by omega) (by rw [hr]; rfl) ?_
  refine r_aload_n dX0_init_60 rfl ?_
  refine r_bipush (v := 12) dX0_init_61 (by decide) ?_
  refine c_newa (q := b + 8) (m := 12) dX0_init_63 ⟨by decide, by decide, by decide⟩ rfl (br_a8 b hb) (fun k => hI _ k (by omega)) (fun k => (rwp_o (by omega) k).trans ((xu_ne (by omega)).trans ((hP _ k (by omega) (by omega)).trans (PI_e (prow_ba b hb 7 (by omega)) k)))) ?_
  refine c_put (n := b) (i := 8) dX0_init_65 flX0_33 ⟨_, _, _, rfl, Or.inr ⟨rfl, rfl, rfl⟩⟩ (br_s b hb) (by omega) (by decide) rfl rfl (by omega) (fun z z1 z2 => by omega) (by rw [hr]; rfl) ?_
  refine r_aload_n dX0_init_68 rfl ?_
  refine r_bipush (v := 12) dX0_init_69 (by decide) ?_
  refine c_newa (q := b + 9) (m := 12) dX0_init_71 ⟨by decide, by decide, by decide⟩ rfl (br_a9 b hb) (fun k => hI _ k (by omega)) (fun k => (rwp_o (by omega) k).trans ((xu_ne (by omega)).trans ((hP _ k (by omega) (by omega)).trans (PI_e (prow_ba b hb 8 (by omega)) k)))) ?_
  refine c_put (n := b) (i := 9) dX0_init_73 flX0_36 ⟨_, _, _, rfl, Or.inr ⟨rfl, rfl, rfl⟩⟩ (br_s b hb) (by omega) (by decide) rfl rfl (by omega) (fun z z1 z2 => by omega) (by rw [hr]; rfl) ?_
  refine r_aload_n dX0_init_76 rfl ?_
  refine r_bipush (v := 12) dX0_init_77 (by decide) ?_
  refine c_newa (q := b + 10) (m := 12) dX0_init_79 ⟨by decide, by decide, by decide⟩ rfl (br_a10 b hb) (fun k => hI _ k (by omega)) (fun k => (rwp_o (by omega) k).trans ((xu_ne (by omega)).trans ((hP _ k (by omega) (by omega)).trans (PI_e (prow_ba b hb 9 (by omega)) k)))) ?_
  refine c_put (n := b) (i := 10) dX0_init_81 flX0_39 ⟨_, _, _, rfl, Or.inr ⟨rfl, rfl, rfl⟩⟩ (br_s b hb) (by omega) (by decide) rfl rfl (by omega) (fun z z1 z2 => by omega) (by rw [hr]; rfl) ?_
  refine r_aload_n dX0_init_84 rfl ?_
  refine r_bipush (v := 8) dX0_init_85 (by decide) ?_
  refine c_newa (q := b + 11) (m := 8) dX0_init_87 ⟨by decide, by decide, by decide⟩ rfl (br_a11 b hb) (fun k => hI _ k (by omega)) (fun k => (rwp_o (by omega) k).trans ((xu_ne (by omega)).trans ((hP _ k (by omega) (by omega)).trans (PI_e (prow_ba b hb 10 (by omega)) k)))) ?_
  refine c_put (n := b) (i := 11) dX0_init_89 flX0_42 ⟨_, _, _, rfl, Or.inr ⟨rfl, rfl, rfl⟩⟩ (br_s b hb) (by omega) (by decide) rfl rfl (by omega) (fun z z1 z2 => by omega) (by rw [hr]; rfl) ?_
  rw [rwp_end (fun k hk => by rw [hr]; exact gd_big (by simpa using hk))]
  refine r_aload_n dX0_init_92 rfl ?_
  refine r_aload_n dX0_init_93 rfl ?_
  refine r_cV1v dX0_init_94 vlX0_45 (tk (br_s b hb) (by omega)) (by simp) (i_bclr hb (tk (br_s b hb) (by omega)) (tk (br_a11 b hb) (by omega)) ((hr 11).trans rfl) (fun k => hI _ k (by omega)) (fun k => hI _ k (by omega)) d) ?_
  exact r_vret dX0_init_97 rfl rfl (congrArg (fun z => ((SH.take (b + 12), I, J0, z) : xS)) (by
    funext a k
    by_cases e : a = b ∧ k = 0
    · rw [e.1, e.2, xu_s]; exact ((hP b 0 (by omega) (by omega)).trans ht).symm
    · rw [xu_ne e, xu_ne e])).symm
theorem i_X2 {E : xCl} {t : Nat} (ht : t ∈ TL) {I : Nat → Nat → Int32} {P : Nat → Nat → Nat} (hI : ∀ a k, t + 7 ≤ a → I a k = 0) (hP : ∀ a k, t + 7 ≤ a → a < t + 13 → P a k = PI a k) (d : Nat) : xEx E true (d + 1) yX2_init [.ref (t + 7)] (SH.take (t + 7 + 1), I, J0, zr P (t + 7)) none (SH.take (t + 13), I, J0, P) := by
  have hr : ∀ k, P (t + 7) k = [t + 8 + 1, t + 9 + 1, t + 10 + 1, t + 11 + 1, t + 12 + 1].getD k 0 := fun k => (hP _ k (by omega) (by omega)).trans (PI_r (prow_w t ht) k)
  refine x_enter cqX2_init [some (.ref (t + 7))] rfl (by simp [lg_sl, Value.category]) ?_
  rw [zr_up]
  refine r_aload_n dX2_init_0 rfl ?_
  refine r_oi dX2_init_1 olX2_5 (by simp [Value.category]) ?_
  refine r_aload_n dX2_init_4 rfl ?_
  refine r_bipush (v := 64) dX2_init_5 (by decide) ?_
  refine c_newa (q := t + 7 + 1) (m := 64) dX2_init_7 ⟨by decide, by decide, by decide⟩ rfl (tw_a0 t ht) (fun k => hI _ k (by omega)) (fun k => (rwp_o (by omega) k).trans ((hP _ k (by omega) (by omega)).trans (PI_e (prow_ta t ht 8 (by omega) (by omega) (by omega)) k))) ?_
  refine c_put (n := t + 7) (i := 0) dX2_init_9 flX2_11 ⟨_, _, _, rfl, Or.inr ⟨rfl, rfl, rfl⟩⟩ (tl_w t ht) (by omega) (by decide) rfl rfl (by omega) (fun z z1 z2 => by omega) (by rw [hr]; rfl) ?_
  refine r_aload_n dX2_init_12 rfl ?_
  refine r_iconst (v := 3) dX2_init_13 (by decide) ?_
  refine c_newa (q := t + 7 + 2) (m := 3) dX2_init_14 ⟨by decide, by decide, by decide⟩ rfl (tw_a1 t ht) (fun k => hI _ k (by omega)) (fun k => (rwp_o (by omega) k).trans ((hP _ k (by omega) (by omega)).trans (PI_e (prow_ta t ht 9 (by omega) (by omega) (by omega)) k))) ?_
  refine c_put (n := t + 7) (i := 1) dX2_init_16 flX2_17 ⟨_, _, _, rfl, Or.inr ⟨rfl, rfl, rfl⟩⟩ (tl_w t ht) (by omega) (by decide) rfl rfl (by omega) (fun z z1 z2 => by omega) (by rw [hr]; rfl) ?_
  refine r_aload_n dX2_init_19 rfl ?_
  refine r_iconst (v := 3) dX2_init_20 (by decide) ?_
  refine c_newa (q := t + 7 + 3) (m := 3) dX2_init_21 ⟨by decide, by decide, by decide⟩ rfl (tw_a2 t ht) (fun k => hI _ k (by omega)) (fun k => (rwp_o (by omega) k).trans ((hP _ k (by omega) (by omega)).trans (PI_e (prow_ta t ht 10 (by omega) (by omega) (by omega)) k))) ?_
  refine c_put (n := t + 7) (i := 2) dX2_init_23 flX2_20 ⟨_, _, _, rfl, Or.inr ⟨rfl, rfl, rfl⟩⟩ (tl_w t ht) (by omega) (by decide) rfl rfl (by omega) (fun z z1 z2 => by omega) (by rw [hr]; rfl) ?_
  refine r_aload_n dX2_init_26 rfl ?_
  refine r_bipush (v := 7) dX2_init_27 (by decide) ?_
  refine c_newa (q := t + 7 + 4) (m := 7) dX2_init_29 ⟨by decide, by decide, by decide⟩ rfl (tw_a3 t ht) (fun k => hI _ k (by omega)) (fun k => (rwp_o (by omega) k).trans ((hP _ k (by omega) (by omega)).trans (PI_e (prow_ta t ht 11 (by omega) (by omega) (by omega)) k))) ?_
  refine c_put (n := t + 7) (i := 3) dX2_init_31 flX2_23 ⟨_, _, _, rfl, Or.inr ⟨rfl, rfl, rfl⟩⟩ (tl_w t ht) (by omega) (by decide) rfl rfl (by omega) (fun z z1 z2 => by omega) (by rw [hr]; rfl) ?_
  refine r_aload_n dX2_init_34 rfl ?_
  refine r_bipush (v := 64) dX2_init_35 (by decide) ?_
  refine c_newa (q := t + 7 + 5) (m := 64) dX2_init_37 ⟨by decide, by decide, by decide⟩ rfl (tw_a4 t ht) (fun k => hI _ k (by omega)) (fun k => (rwp_o (by omega) k).trans ((hP _ k (by omega) (by omega)).trans (PI_e (prow_ta t ht 12 (by omega) (by omega) (by omega)) k))) ?_
  refine c_put (n := t + 7) (i := 4) dX2_init_39 flX2_27 ⟨_, _, _, rfl, Or.inr ⟨rfl, rfl, rfl⟩⟩ (tl_w t ht) (by omega) (by decide) rfl rfl (by omega) (fun z z1 z2 => by omega) (by rw [hr]; rfl) ?_
  rw [rwp_end (fun k hk => by rw [hr]; exact gd_big (by simpa using hk))]
  exact r_vret dX2_init_42 rfl rfl rfl
theorem i_X6 {E : xCl} {t : Nat} (ht : t ∈ TL) {I : Nat → Nat → Int32} {P : Nat → Nat → Nat} (hI : ∀ a k, t ≤ a → I a k = 0) (hP : ∀ a k, t ≤ a → a < t + 13 → P a k = PI a k) (d : Nat) : xEx E true (d + 3) yX6_init [.ref t] (SH.take (t + 1), I, J0, zr P (t)) none (SH.take (t + 13), lCl I t 3, J0, P) := by
  have hr : ∀ k, P (t) k = [t + 1 + 1, t + 2 + 1, t + 3 + 1, 0, t + 4 + 1, t + 5 + 1, t + 6 + 1, 0, t + 7 + 1].getD k 0 := fun k => (hP _ k (by omega) (by omega)).trans (PI_r (prow_t t ht) k)
  refine x_enter cqX6_init [some (.ref t)] rfl (by simp [lg_sl, Value.category]) ?_
  rw [zr_up]
  refine r_aload_n dX6_init_0 rfl ?_
  refine r_oi dX6_init_1 olX6_3 (by simp [Value.category]) ?_
  refine r_aload_n dX6_init_4 rfl ?_
  refine r_bipush (v := 6) dX6_init_5 (by decide) ?_
  refine c_newa (q := t + 1) (m := 6) dX6_init_7 ⟨by decide, by decide, by decide⟩ rfl (tl_a0 t ht) (fun k => hI _ k (by omega)) (fun k => (rwp_o (by omega) k).trans ((hP _ k (by omega) (by omega)).trans (PI_e (prow_ta t ht 1 (by omega) (by omega) (by omega)) k))) ?_
  refine c_put (n := t) (i := 0) dX6_init_9 flX6_9 ⟨_, _, _, rfl, Or.inr ⟨rfl, rfl, rfl⟩⟩ (tl_s t ht) (by omega) (by decide) rfl rfl (by omega) (fun z z1 z2 => by omega) (by rw [hr]; rfl) ?_
  refine r_aload_n dX6_init_12 rfl ?_
  refine r_bipush (v := 6) dX6_init_13 (by decide) ?_
  refine c_newa (q := t + 2) (m := 6) dX6_init_15 ⟨by decide, by decide, by decide⟩ rfl (tl_a1 t ht) (fun k => hI _ k (by omega)) (fun k => (rwp_o (by omega) k).trans ((hP _ k (by omega) (by omega)).trans (PI_e (prow_ta t ht 2 (by omega) (by omega) (by omega)) k))) ?_
  refine c_put (n := t) (i := 1) dX6_init_17 flX6_15 ⟨_, _, _, rfl, Or.inr ⟨rfl, rfl, rfl⟩⟩ (tl_s t ht) (by omega) (by decide) rfl rfl (by omega) (fun z z1 z2 => by omega) (by rw [hr]; rfl) ?_
  refine r_aload_n dX6_init_20 rfl ?_
  refine r_bipush (v := 6) dX6_init_21 (by decide) ?_
  refine c_newa (q := t + 3) (m := 6) dX6_init_23 ⟨by decide, by decide, by decide⟩ rfl (tl_a2 t ht) (fun k => hI _ k (by omega)) (fun k => (rwp_o (by omega) k).trans ((hP _ k (by omega) (by omega)).trans (PI_e (prow_ta t ht 3 (by omega) (by omega) (by omega)) k))) ?_
  refine c_put (n := t) (i := 2) dX6_init_25 flX6_18 ⟨_, _, _, rfl, Or.inr ⟨rfl, rfl, rfl⟩⟩ (tl_s t ht) (by omega) (by decide) rfl rfl (by omega) (fun z z1 z2 => by omega) (by rw [hr]; rfl) ?_
  refine r_aload_n dX6_init_28 rfl ?_
  refine r_bipush (v := 8) dX6_init_29 (by decide) ?_
  refine c_newa (q := t + 4) (m := 8) dX6_init_31 ⟨by decide, by decide, by decide⟩ rfl (tl_a4 t ht) (fun k => hI _ k (by omega)) (fun k => (rwp_o (by omega) k).trans ((hP _ k (by omega) (by omega)).trans (PI_e (prow_ta t ht 4 (by omega) (by omega) (by omega)) k))) ?_
  refine c_put (n := t) (i := 3) dX6_init_33 flX6_21 ⟨_, _, _, rfl, Or.inr ⟨rfl, rfl, rfl⟩⟩ (tl_s t ht) (by omega) (by decide) rfl rfl (by omega) (fun z z1 z2 => by rw [show z = 3 by omega, hr]; rfl) (by rw [hr]; rfl) ?_
  refine r_aload_n dX6_init_36 rfl ?_
  refine r_bipush (v := 8) dX6_init_37 (by decide) ?_
  refine c_newa (q := t + 5) (m := 8) dX6_init_39 ⟨by decide, by decide, by decide⟩ rfl (tl_a5 t ht) (fun k => hI _ k (by omega)) (fun k => (rwp_o (by omega) k).trans ((hP _ k (by omega) (by omega)).trans (PI_e (prow_ta t ht 5 (by omega) (by omega) (by omega)) k))) ?_
  refine c_put (n := t) (i := 5) dX6_init_41 flX6_24 ⟨_, _, _, rfl, Or.inr ⟨rfl, rfl, rfl⟩⟩ (tl_s t ht) (by omega) (by decide) rfl rfl (by omega) (fun z z1 z2 => by omega) (by rw [hr]; rfl) ?_
  refine r_aload_n dX6_init_44 rfl ?_
  refine r_bipush (v := 8) dX6_init_45 (by decide) ?_
  refine c_newa (q := t + 6) (m := 8) dX6_init_47 ⟨by decide, by decide, by decide⟩ rfl (tl_a6 t ht) (fun k => hI _ k (by omega)) (fun k => (rwp_o (by omega) k).trans ((hP _ k (by omega) (by omega)).trans (PI_e (prow_ta t ht 6 (by omega) (by omega) (by omega)) k))) ?_
  refine c_put (n := t) (i := 6) dX6_init_49 flX6_27 ⟨_, _, _, rfl, Or.inr ⟨rfl, rfl, rfl⟩⟩ (tl_s t ht) (by omega) (by decide) rfl rfl (by omega) (fun z z1 z2 => by omega) (by rw [hr]; rfl) ?_
  refine r_aload_n dX6_init_52 rfl ?_
  refine c_new (q := t + 7) dX6_init_53 nlX6_30 (tl_w t ht) (fun k => hI _ k (by omega)) ?_
  refine r_dup dX6_init_56 rfl ?_
  refine r_cI0 dX6_init_57 ilX6_32 (by simp [Value.category]) (i_X2 ht (fun a k z => hI a k (by omega)) (fun a k z1 z2 => (rwp_o (by omega) k).trans (hP a k (by omega) (by omega))) (d + 1)) ?_
  refine c_put (n := t) (i := 7) dX6_init_60 flX6_33 ⟨_, _, _, rfl, Or.inr ⟨rfl, rfl, rfl⟩⟩ (tl_s t ht) (by omega) (by decide) rfl rfl (by omega) (fun z z1 z2 => by rw [show z = 7 by omega, hr]; rfl) (by rw [hr]; rfl) ?_
  rw [rwp_end (fun k hk => by rw [hr]; exact gd_big (by simpa using hk))]
  refine r_aload_n dX6_init_63 rfl ?_
  refine r_cV0v dX6_init_64 vlX6_37 (tk (tl_s t ht) (by omega)) (by simp) (i_tclr ht (tk (tl_s t ht) (by omega)) (tk (tl_w t ht) (by omega)) (tk (tw_a1 t ht) (by omega)) (tk (tw_a2 t ht) (by omega)) ((hr 8).trans rfl) ((hP _ 1 (by omega) (by omega)).trans (PI_r (prow_w t ht) 1)) ((hP _ 2 (by omega) (by omega)).trans (PI_r (prow_w t ht) 2)) (fun k => hI _ k (by omega)) (hI _ _ (by omega)) (hI _ _ (by omega)) d) ?_
  exact r_vret dX6_init_67 rfl rfl rfl
theorem i_X8 {E : xCl} {I : Nat → Nat → Int32} {P : Nat → Nat → Nat} (hI : ∀ a k, 28 ≤ a → I a k = 0) (hP : ∀ a k, 28 ≤ a → a < 29 → P a k = PI a k) (d : Nat) : xEx E true (d + 1) yX8_init [.ref 28, .ref 1] (SH.take (28 + 1), I, J0, zr P (28)) none (SH.take (29), I, J0, P) := by
  have hr : ∀ k, P (28) k = [2].getD k 0 := fun k => (hP _ k (by omega) (by omega)).trans (PI_r (prow_28) k)
  refine x_enter cqX8_init [some (.ref 28), some (.ref 1)] rfl (by simp [lg_sl, Value.category]) ?_
  rw [zr_up]
  refine r_aload_n dX8_init_0 rfl ?_
  refine r_oi dX8_init_1 olX8_3 (by simp [Value.category]) ?_
  refine r_aload_n dX8_init_4 rfl ?_
  refine r_aload_n dX8_init_5 rfl ?_
  refine c_put (n := 28) (i := 0) dX8_init_6 flX8_9 ⟨_, _, _, rfl, Or.inr ⟨rfl, rfl, rfl⟩⟩ (sh_28) (by omega) (by decide) rfl rfl (by omega) (fun z z1 z2 => by omega) (by rw [hr]; rfl) ?_
  rw [rwp_end (fun k hk => by rw [hr]; exact gd_big (by simpa using hk))]
  exact r_vret dX8_init_9 rfl rfl rfl
theorem i_X5 {E : xCl} {I : Nat → Nat → Int32} {P : Nat → Nat → Nat} (hI : ∀ a k, 93 ≤ a → I a k = 0) (hP : ∀ a k, 93 ≤ a → a < 98 → P a k = PI a k) (d : Nat) : xEx E true (d + 1) yX5_init [.ref 93] (SH.take (93 + 1), I, J0, zr P (93)) none (SH.take (98), xu I 93 5 (-1), J0, P) := by
  have hr : ∀ k, P (93) k = [95, 96, 97, 98].getD k 0 := fun k => (hP _ k (by omega) (by omega)).trans (PI_r (prow_93) k)
  refine x_enter cqX5_init [some (.ref 93)] rfl (by simp [lg_sl, Value.category]) ?_
  rw [zr_up]
  refine r_aload_n dX5_init_0 rfl ?_
  refine r_oi dX5_init_1 olX5_3 (by simp [Value.category]) ?_
  refine r_aload_n dX5_init_4 rfl ?_
  refine r_bipush (v := 24) dX5_init_5 (by decide) ?_
  refine c_newa (q := 93 + 1) (m := 24) dX5_init_7 ⟨by decide, by decide, by decide⟩ rfl (by decide +kernel) (fun k => hI _ k (by omega)) (fun k => (rwp_o (by omega) k).trans ((hP _ k (by omega) (by omega)).trans (PI_e (prow_a94 0 (by omega)) k))) ?_
  refine c_put (n := 93) (i := 0) dX5_init_9 flX5_9 ⟨_, _, _, rfl, Or.inr ⟨rfl, rfl, rfl⟩⟩ (show SH[93]? = some (.inl 5, 6) from by decide +kernel) (by omega) (by decide) rfl rfl (by omega) (fun z z1 z2 => by omega) (by rw [hr]; rfl) ?_
  refine r_aload_n dX5_init_12 rfl ?_
  refine r_bipush (v := 24) dX5_init_13 (by decide) ?_
  refine c_newa (q := 93 + 2) (m := 24) dX5_init_15 ⟨by decide, by decide, by decide⟩ rfl (by decide +kernel) (fun k => hI _ k (by omega)) (fun k => (rwp_o (by omega) k).trans ((hP _ k (by omega) (by omega)).trans (PI_e (prow_a94 1 (by omega)) k))) ?_
  refine c_put (n := 93) (i := 1) dX5_init_17 flX5_15 ⟨_, _, _, rfl, Or.inr ⟨rfl, rfl, rfl⟩⟩ (show SH[93]? = some (.inl 5, 6) from by decide +kernel) (by omega) (by decide) rfl rfl (by omega) (fun z z1 z2 => by omega) (by rw [hr]; rfl) ?_
  refine r_aload_n dX5_init_20 rfl ?_
  refine r_bipush (v := 24) dX5_init_21 (by decide) ?_
  refine c_newa (q := 93 + 3) (m := 24) dX5_init_23 ⟨by decide, by decide, by decide⟩ rfl (by decide +kernel) (fun k => hI _ k (by omega)) (fun k => (rwp_o (by omega) k).trans ((hP _ k (by omega) (by omega)).trans (PI_e (prow_a94 2 (by omega)) k))) ?_
  refine c_put (n := 93) (i := 2) dX5_init_25 flX5_18 ⟨_, _, _, rfl, Or.inr ⟨rfl, rfl, rfl⟩⟩ (show SH[93]? = some (.inl 5, 6) from by decide +kernel) (by omega) (by decide) rfl rfl (by omega) (fun z z1 z2 => by omega) (by rw [hr]; rfl) ?_
  refine r_aload_n dX5_init_28 rfl ?_
  refine r_bipush (v := 24) dX5_init_29 (by decide) ?_
  refine c_newa (q := 93 + 4) (m := 24) dX5_init_31 ⟨by decide, by decide, by decide⟩ rfl (by decide +kernel) (fun k => hI _ k (by omega)) (fun k => (rwp_o (by omega) k).trans ((hP _ k (by omega) (by omega)).trans (PI_e (prow_a94 3 (by omega)) k))) ?_
  refine c_put (n := 93) (i := 3) dX5_init_33 flX5_21 ⟨_, _, _, rfl, Or.inr ⟨rfl, rfl, rfl⟩⟩ (show SH[93]? = some (.inl 5, 6) from by decide +kernel) (by omega) (by decide) rfl rfl (by omega) (fun z z1 z2 => by omega) (by rw [hr]; rfl) ?_
  refine r_aload_n dX5_init_36 rfl ?_
  refine r_iconst (v := -1) dX5_init_37 (by decide) ?_
  refine r_putI dX5_init_38 flX5_24 ⟨_, _, _, rfl, Or.inl rfl⟩ (tk (show SH[93]? = some (.inl 5, 6) from by decide +kernel) (by omega)) (by decide) rfl rfl rfl ?_
  rw [rwp_end (fun k hk => by rw [hr]; exact gd_big (by simpa using hk))]
  exact r_vret dX5_init_41 rfl rfl rfl
theorem i_X9 {E : xCl} {I : Nat → Nat → Int32} {P : Nat → Nat → Nat} (hI : ∀ a k, 98 ≤ a → I a k = 0) (hP : ∀ a k, 98 ≤ a → a < 101 → P a k = PI a k) (d : Nat) : xEx E true (d + 1) yX9_init [.ref 98] (SH.take (98 + 1), I, J0, zr P (98)) none (SH.take (101), I, J0, P) := by
  have hr : ∀ k, P (98) k = [100, 101].getD k 0 := fun k => (hP _ k (by omega) (by omega)).trans (PI_r (prow_98) k)
  refine x_enter cqX9_init [some (.ref 98)] rfl (by simp [lg_sl, Value.category]) ?_
  rw [zr_up]
  refine r_aload_n dX9_init_0 rfl ?_
  refine r_oi dX9_init_1 olX9_3 (by simp [Value.category]) ?_
  refine r_aload_n dX9_init_4 rfl ?_
  refine r_bipush (v := 12) dX9_init_5 (by decide) ?_
  refine c_newa (q := 98 + 1) (m := 12) dX9_init_7 ⟨by decide, by decide, by decide⟩ rfl (by decide +kernel) (fun k => hI _ k (by omega)) (fun k => (rwp_o (by omega) k).trans ((hP _ k (by omega) (by omega)).trans (PI_e (prow_a99 0 (by omega)) k))) ?_
  refine c_put (n := 98) (i := 0) dX9_init_9 flX9_9 ⟨_, _, _, rfl, Or.inr ⟨rfl, rfl, rfl⟩⟩ (show SH[98]? = some (.inl 9, 2) from by decide +kernel) (by omega) (by decide) rfl rfl (by omega) (fun z z1 z2 => by omega) (by rw [hr]; rfl) ?_
  refine r_aload_n dX9_init_12 rfl ?_
  refine r_bipush (v := 12) dX9_init_13 (by decide) ?_
  refine c_newa (q := 98 + 2) (m := 12) dX9_init_15 ⟨by decide, by decide, by decide⟩ rfl (by decide +kernel) (fun k => hI _ k (by omega)) (fun k => (rwp_o (by omega) k).trans ((hP _ k (by omega) (by omega)).trans (PI_e (prow_a99 1 (by omega)) k))) ?_
  refine c_put (n := 98) (i := 1) dX9_init_17 flX9_15 ⟨_, _, _, rfl, Or.inr ⟨rfl, rfl, rfl⟩⟩ (show SH[98]? = some (.inl 9, 2) from by decide +kernel) (by omega) (by decide) rfl rfl (by omega) (fun z z1 z2 => by omega) (by rw [hr]; rfl) ?_
  rw [rwp_end (fun k hk => by rw [hr]; exact gd_big (by simpa using hk))]
  exact r_vret dX9_init_20 rfl rfl rfl
theorem i_X3 {E : xCl} {I : Nat → Nat → Int32} {P : Nat → Nat → Nat} (hI : ∀ a k, 101 ≤ a → I a k = 0) (hP : ∀ a k, 101 ≤ a → a < 103 → P a k = PI a k) (d : Nat) : xEx E true (d + 1) yX3_init [.ref 101] (SH.take (101 + 1), I, J0, zr P (101)) none (SH.take (103), I, J0, P) := by
  have hr : ∀ k, P (101) k = [103].getD k 0 := fun k => (hP _ k (by omega) (by omega)).trans (PI_r (prow_101) k)
  refine x_enter cqX3_init [some (.ref 101)] rfl (by simp [lg_sl, Value.category]) ?_
  rw [zr_up]
  refine r_aload_n dX3_init_0 rfl ?_
  refine r_oi dX3_init_1 olX3_3 (by simp [Value.category]) ?_
  refine r_aload_n dX3_init_4 rfl ?_
  refine r_bipush (v := 12) dX3_init_5 (by decide) ?_
  refine c_newa (q := 101 + 1) (m := 12) dX3_init_7 ⟨by decide, by decide, by decide⟩ rfl (by decide +kernel) (fun k => hI _ k (by omega)) (fun k => (rwp_o (by omega) k).trans ((hP _ k (by omega) (by omega)).trans (PI_e (prow_a102 0 (by omega)) k))) ?_
  refine c_put (n := 101) (i := 0) dX3_init_9 flX3_9 ⟨_, _, _, rfl, Or.inr ⟨rfl, rfl, rfl⟩⟩ (show SH[101]? = some (.inl 3, 1) from by decide +kernel) (by omega) (by decide) rfl rfl (by omega) (fun z z1 z2 => by omega) (by rw [hr]; rfl) ?_
  rw [rwp_end (fun k hk => by rw [hr]; exact gd_big (by simpa using hk))]
  exact r_vret dX3_init_12 rfl rfl rfl
theorem i_X4 {E : xCl} {I : Nat → Nat → Int32} {P : Nat → Nat → Nat} (hI : ∀ a k, 103 ≤ a → I a k = 0) (hP : ∀ a k, 103 ≤ a → a < 106 → P a k = PI a k) (d : Nat) : xEx E true (d + 1) yX4_init [.ref 103] (SH.take (103 + 1), I, J0, zr P (103)) none (SH.take (106), I, J0, P) := by
  have hr : ∀ k, P (103) k = [105, 106].getD k 0 := fun k => (hP _ k (by omega) (by omega)).trans (PI_r (prow_103) k)
  refine x_enter cqX4_init [some (.ref 103)] rfl (by simp [lg_sl, Value.category]) ?_
  rw [zr_up]
  refine r_aload_n dX4_init_0 rfl ?_
  refine r_oi dX4_init_1 olX4_3 (by simp [Value.category]) ?_
  refine r_aload_n dX4_init_4 rfl ?_
  refine r_bipush (v := 12) dX4_init_5 (by decide) ?_
  refine c_newa (q := 103 + 1) (m := 12) dX4_init_7 ⟨by decide, by decide, by decide⟩ rfl (by decide +kernel) (fun k => hI _ k (by omega)) (fun k => (rwp_o (by omega) k).trans ((hP _ k (by omega) (by omega)).trans (PI_e (prow_a104 0 (by omega)) k))) ?_
  refine c_put (n := 103) (i := 0) dX4_init_9 flX4_9 ⟨_, _, _, rfl, Or.inr ⟨rfl, rfl, rfl⟩⟩ (show SH[103]? = some (.inl 4, 4) from by decide +kernel) (by omega) (by decide) rfl rfl (by omega) (fun z z1 z2 => by omega) (by rw [hr]; rfl) ?_
  refine r_aload_n dX4_init_12 rfl ?_
  refine r_sipush (v := 128) dX4_init_13 (by decide) ?_
  refine c_newa (q := 103 + 2) (m := 128) dX4_init_16 ⟨by decide, by decide, by decide⟩ rfl (by decide +kernel) (fun k => hI _ k (by omega)) (fun k => (rwp_o (by omega) k).trans ((hP _ k (by omega) (by omega)).trans (PI_e (prow_a104 1 (by omega)) k))) ?_
  refine c_put (n := 103) (i := 1) dX4_init_18 flX4_15 ⟨_, _, _, rfl, Or.inr ⟨rfl, rfl, rfl⟩⟩ (show SH[103]? = some (.inl 4, 4) from by decide +kernel) (by omega) (by decide) rfl rfl (by omega) (fun z z1 z2 => by omega) (by rw [hr]; rfl) ?_
  rw [rwp_end (fun k hk => by rw [hr]; exact gd_big (by simpa using hk))]
  exact r_vret dX4_init_21 rfl rfl rfl
