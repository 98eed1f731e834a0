/-! the class: endBears, search -/
def cB (A i : Nat) : Nat := nD A (2 ^ i - 1)
theorem cB_bit (A i k : Nat) : (cB A i).testBit k = (A.testBit k && decide (i ≤ k)) := by
  rw [cB, nD_bit, Nat.testBit_two_pow_sub_one]
  by_cases h : k < i
  · simp [h, show ¬ i ≤ k by omega]
  · simp [h, show i ≤ k by omega]
theorem cB_0 (A : Nat) : cB A 0 = A := Nat.eq_of_testBit_eq (fun k => by rw [cB_bit]; simp)
theorem cB_12 {A : Nat} (h : A < 4096) : cB A 12 = 0 := Nat.eq_of_testBit_eq (fun k => by
  rw [cB_bit, Nat.zero_testBit]
  by_cases hk : 12 ≤ k
  · rw [Nat.testBit_lt_two_pow (Nat.lt_of_lt_of_le (show A < 2 ^ 12 from h) (Nat.pow_le_pow_right (by decide) hk))]; simp
  · simp [hk])
theorem cB_t {A i : Nat} (h : A.testBit i = true) : cB A i = cB A (i + 1) ||| 2 ^ i := Nat.eq_of_testBit_eq (fun k => by
  rw [or2_bit, cB_bit, cB_bit]
  by_cases e : i = k
  · subst e; simp [h]
  · by_cases h1 : i ≤ k
    · simp [e, h1, show i + 1 ≤ k by omega]
    · simp [e, h1, show ¬ i + 1 ≤ k by omega])
theorem cB_f {A i : Nat} (h : ¬ A.testBit i = true) : cB A i = cB A (i + 1) := Nat.eq_of_testBit_eq (fun k => by
  rw [cB_bit, cB_bit]
  by_cases e : i = k
  · subst e; simp [h]
  · by_cases h1 : i ≤ k
    · simp [h1, show i + 1 ≤ k by omega]
    · simp [h1, show ¬ i + 1 ≤ k by omega])
theorem cB_s (A i : Nat) : (cB A (i + 1)).testBit i = false := by rw [cB_bit]; simp
theorem eE_end {ok : Nat → Nat → Prop} {A : Nat} : ∀ c S, cE ok A c S → S ≠ A → ∃ T i, T ||| 2 ^ i = A ∧ ok T i
  | 0, _, h, hne => absurd h hne
  | c + 1, S, h, hne => by
    rcases h with h | ⟨i, h1, h2, h3, h4, h5⟩
    · exact absurd h hne
    · by_cases e : S ||| 2 ^ i = A
      · exact ⟨S, i, e, h4⟩
      · exact eE_end c _ h5 e
/-- the end bears -/
def eB (N : Nat → Nat → Int32) (L : Nat → (Nat → Int64) → Int64) (n : Nat) (w : Int32) (A : Nat) : Prop := ¬ sBr (vS N A) L n < w
theorem eE_eB {N : Nat → Nat → Int32} {L : Nat → (Nat → Int64) → Int64} {n : Nat} {w : Int32} {A : Nat} (e : A ≠ 0) (h : eE (cOk N L n w) A 0) : eB N L n w A := by
  obtain ⟨c, hc⟩ := h
  obtain ⟨T, i, h1, h2⟩ := eE_end c 0 hc (fun z => e z.symm)
  show ¬ sBr (vS N A) L n < w
  rw [← h1]
  exact h2.2
set_option maxHeartbeats 1000000 in
theorem l_eb1 {E : xCl} {ex : Bool} {I : Nat → Nat → Int32} {ch dd : Nat → Int32} {P : Nat → Nat → Nat} (hP : Pok P) {n : Nat} {N : Nat → Nat → Int32} (hv : Vok N n) {A : Nat} (hA12 : A < 4096) {w : Int32} (hwa : I 103 2 = nI A) (hlo : I 103 3 = w) {y3 : Option Value} {J1 : Nat → Nat → Int64} (d : Nat) {Q : Option Value → xS → Prop} (K : xR (xEx E ex (d + 6)) ex none yX4_endBears cX4_endBears (some .boolean) 31 [some (.ref 103), some (.ref 80), some (.int (nI 12)), y3] [] (SH, wB (wC I ch dd) 80 (pV N A 12), J1, P) Q) : ∀ j, j ≤ 12 → xR (xEx E ex (d + 6)) ex none yX4_endBears cX4_endBears (some .boolean) 2 [some (.ref 103), some (.ref 80), some (.int (nI j)), y3] [] (SH, wB (wC I ch dd) 80 (pV N A j), J1, P) Q := by
  refine r_for (fun j => xR (xEx E ex (d + 6)) ex none yX4_endBears cX4_endBears (some .boolean) 2 [some (.ref 103), some (.ref 80), some (.int (nI j)), y3] [] (SH, wB (wC I ch dd) 80 (pV N A j), J1, P) Q) _ ?_ ?_
  · intro j hj ih
    refine r_iload_n dX4_endBears_2 rfl ?_
    refine r_bipush (v := 12) dX4_endBears_3 (by decide) ?_
    refine r_ic_ge 31 dX4_endBears_5 (by decide) (fun c5 => ?_) (fun c5 => ?_)
    · exact absurd c5 (lt12 hj)
    · refine r_aload_n dX4_endBears_8 rfl ?_
      refine r_getIv dX4_endBears_9 flX4_18 sh_103 (by decide) rfl ((wB_o _ _ _ (br_x _ hb80 103 (by decide)) _).trans ((wC_o _ _ _ (by decide) (by decide) _).trans hwa)) ?_
      refine r_iload_n dX4_endBears_12 rfl ?_
      refine r_ishr dX4_endBears_13 ?_
      refine r_iconst (v := 1) dX4_endBears_14 (by decide) ?_
      refine r_iand dX4_endBears_15 ?_
      refine r_iconst (v := 1) dX4_endBears_16 (by decide) ?_
      refine r_ic_ne 25 dX4_endBears_17 (by decide) (fun c17 => ?_) (fun c17 => ?_)
      · refine r_iinc2 (v := 1) dX4_endBears_25 (by decide) rfl ?_
        refine r_goto 2 dX4_endBears_28 (by decide) ?_
        rw [nI_1]; rw [pV, if_neg (fun z => c17 ((bz_1 (by omega) (by omega)).mpr z))] at ih; exact ih
      · refine r_aload_n dX4_endBears_20 rfl ?_
        refine r_iload_n dX4_endBears_21 rfl ?_
        refine r_cV1v dX4_endBears_22 vlX4_33 (br_s _ hb80) (Nat.le_of_ble_eq_true rfl) (by have z := k_payOut (E := E) (ex := ex) (I := wC I ch dd) (V := (pV N A j)) (J := J1) hP hb80 (hv.pv A j) (i := nI j) (in12 (by omega)) (d + 5); rw [nI_clamp (n := j) (by omega)] at z; exact z) ?_
        refine r_iinc2 (v := 1) dX4_endBears_25 (by decide) rfl ?_
        refine r_goto 2 dX4_endBears_28 (by decide) ?_
        rw [nI_1]; rw [pV, if_pos ((bz_1 (by omega) (by omega)).mp c17)] at ih; exact ih
  · refine r_iload_n dX4_endBears_2 rfl ?_
    refine r_bipush (v := 12) dX4_endBears_3 (by decide) ?_
    refine r_ic_ge 31 dX4_endBears_5 (by decide) (fun c5 => ?_) (fun c5 => ?_)
    · exact K
    · exact absurd (by decide) c5
set_option maxHeartbeats 1000000 in
theorem l_eb2 {E : xCl} {ex : Bool} {I : Nat → Nat → Int32} {ch dd : Nat → Int32} {P : Nat → Nat → Nat} (hP : Pok P) {n : Nat} {N : Nat → Nat → Int32} (hv : Vok N n) {A : Nat} (hA12 : A < 4096) {w : Int32} (hwa : I 103 2 = nI A) (hlo : I 103 3 = w) (hN : ∀ i, A.testBit i = true → N 9 i = 0) {r : Int32} (hr : narrow .boolean (.int r) = .int r) {J1 : Nat → Nat → Int64} (d : Nat) {Q : Option Value → xS → Prop} (K : Q (some (.int r)) (SH, wB (wC I ch dd) 80 N, J1, P)) : ∀ j, j ≤ 12 → xR (xEx E ex (d + 6)) ex none yX4_endBears cX4_endBears (some .boolean) 50 [some (.ref 103), some (.ref 80), some (.int r), some (.int (nI j))] [] (SH, wB (wC I ch dd) 80 (vS N (cB A j)), J1, P) Q := by
  refine r_for (fun j => xR (xEx E ex (d + 6)) ex none yX4_endBears cX4_endBears (some .boolean) 50 [some (.ref 103), some (.ref 80), some (.int r), some (.int (nI j))] [] (SH, wB (wC I ch dd) 80 (vS N (cB A j)), J1, P) Q) _ ?_ ?_
  · intro j hj ih
    refine r_iload_n dX4_endBears_50 rfl ?_
    refine r_bipush (v := 12) dX4_endBears_51 (by decide) ?_
    refine r_ic_ge 79 dX4_endBears_53 (by decide) (fun c53 => ?_) (fun c53 => ?_)
    · exact absurd c53 (lt12 hj)
    · refine r_aload_n dX4_endBears_56 rfl ?_
      refine r_getIv dX4_endBears_57 flX4_18 sh_103 (by decide) rfl ((wB_o _ _ _ (br_x _ hb80 103 (by decide)) _).trans ((wC_o _ _ _ (by decide) (by decide) _).trans hwa)) ?_
      refine r_iload_n dX4_endBears_60 rfl ?_
      refine r_ishr dX4_endBears_61 ?_
      refine r_iconst (v := 1) dX4_endBears_62 (by decide) ?_
      refine r_iand dX4_endBears_63 ?_
      refine r_iconst (v := 1) dX4_endBears_64 (by decide) ?_
      refine r_ic_ne 73 dX4_endBears_65 (by decide) (fun c65 => ?_) (fun c65 => ?_)
      · refine r_iinc3 (v := 1) dX4_endBears_73 (by decide) rfl ?_
        refine r_goto 50 dX4_endBears_76 (by decide) ?_
        rw [nI_1]; rw [cB_f (fun z => c65 ((bz_1 (by omega) (by omega)).mpr z))]; exact ih
      · refine r_aload_n dX4_endBears_68 rfl ?_
        refine r_iload_n dX4_endBears_69 rfl ?_
        refine r_cV1v dX4_endBears_70 vlX4_43 (br_s _ hb80) (Nat.le_of_ble_eq_true rfl) (by have z := k_takeBack (E := E) (ex := ex) (I := wC I ch dd) (V := vS N (cB A j)) (J := J1) hP hb80 (hv.vS _) (i := nI j) (in12 (by omega)) (d + 5); rw [nI_clamp (n := j) (by omega), cB_t ((bz_1 (by omega) (by omega)).mp c65), vS_back N (by omega) (cB_s A j) (hN j ((bz_1 (by omega) (by omega)).mp c65))] at z; rw [cB_t ((bz_1 (by omega) (by omega)).mp c65)]; exact z) ?_
        refine r_iinc3 (v := 1) dX4_endBears_73 (by decide) rfl ?_
        refine r_goto 50 dX4_endBears_76 (by decide) ?_
        rw [nI_1]; exact ih
  · refine r_iload_n dX4_endBears_50 rfl ?_
    refine r_bipush (v := 12) dX4_endBears_51 (by decide) ?_
    refine r_ic_ge 79 dX4_endBears_53 (by decide) (fun c53 => ?_) (fun c53 => ?_)
    · refine r_iload_n dX4_endBears_79 rfl ?_
      exact r_iretq dX4_endBears_80 rfl hr (by rw [cB_12 hA12, vS_0] ; exact K)
    · exact absurd (by decide) c53
set_option maxHeartbeats 2000000 in
theorem k_endBears {E : xCl} {ex : Bool} {I : Nat → Nat → Int32} {ch dd : Nat → Int32} {J : Nat → Nat → Int64} {P : Nat → Nat → Nat} (hP : Pok P) {n : Nat} {N : Nat → Nat → Int32} (hv : Vok N n) {A : Nat} (hA12 : A < 4096) {w : Int32} (hwa : I 103 2 = nI A) (hlo : I 103 3 = w) {t : Nat} (ht : t ∈ TL) (hb8 : P 80 0 = t + 1) (hL : Lok I t) (hN : ∀ i, A.testBit i = true → N 9 i = 0) (r : Int32) (h1 : eB N (Lv I t) n w A → r = 1) (h0 : ¬ eB N (Lv I t) n w A → r = 0) (d : Nat) : ∃ J', xEx E ex (d + 7) yX4_endBears [.ref 103, .ref 80] (SH, wB (wC I ch dd) 80 N, J, P) (some (.int r)) (SH, wB (wC I ch dd) 80 N, J', P) ∧ Jok J J' t := by
  refine Qj.use (x_enterq (d := d + 6) cqX4_endBears [some (.ref 103), some (.ref 80), none, none] rfl (by simp [lg_sl, Value.category]) ?_)
  refine r_iconst (v := 0) dX4_endBears_0 (by decide) ?_
  refine r_istore_n2 dX4_endBears_1 rfl ?_
  refine l_eb1 hP hv hA12 hwa hlo d ?_ 0 (Nat.zero_le _)
  rw [pV_vS N A 12 (Nat.le_refl _), Nat.mod_eq_of_lt (show A < 2 ^ 12 from hA12)]
  refine r_aload_n dX4_endBears_31 rfl ?_
  obtain ⟨J32, hx32, hj32⟩ := k_bridgeBears (E := E) (ex := ex) (I := wC I ch dd) (V := vS N A) (J := J) hP hb80 ht hb8 (hv.vS A) (Lok_of (tl_C I ch dd ht) hL) d
  rw [Lv_of (tl_C I ch dd ht)] at hx32
  refine r_cV0i dX4_endBears_32 vlX4_39 (br_s _ hb80) (Nat.le_of_ble_eq_true rfl) hx32 ?_
  refine r_aload_n dX4_endBears_35 rfl ?_
  refine r_getIv dX4_endBears_36 flX4_22 sh_103 (by decide) rfl ((wB_o _ _ _ (br_x _ hb80 103 (by decide)) _).trans ((wC_o _ _ _ (by decide) (by decide) _).trans hlo)) ?_
  refine r_ic_lt 46 dX4_endBears_39 (by decide) (fun c39 => ?_) (fun c39 => ?_)
  · refine r_iconst (v := 0) dX4_endBears_46 (by decide) ?_
    refine r_istore_n2 dX4_endBears_47 rfl ?_
    refine r_iconst (v := 0) dX4_endBears_48 (by decide) ?_
    refine r_istore_n3 dX4_endBears_49 rfl ?_
    have z := l_eb2 (E := E) (ex := ex) (I := I) (ch := ch) (dd := dd) (r := 0) (J1 := J32) hP hv hA12 hwa hlo hN (by decide) d (Q := Qj (wB (wC I ch dd) 80 N) J P t (some (.int r))) (by rw [show (some (Value.int r)) = some (.int 0) from by rw [h0 (fun z => z c39)]]; exact Qj.mk hj32) 0 (Nat.zero_le _)
    rw [cB_0] at z; exact z
  · refine r_iconst (v := 1) dX4_endBears_42 (by decide) ?_
    refine r_goto 47 dX4_endBears_43 (by decide) ?_
    refine r_istore_n2 dX4_endBears_47 rfl ?_
    refine r_iconst (v := 0) dX4_endBears_48 (by decide) ?_
    refine r_istore_n3 dX4_endBears_49 rfl ?_
    have z := l_eb2 (E := E) (ex := ex) (I := I) (ch := ch) (dd := dd) (r := 1) (J1 := J32) hP hv hA12 hwa hlo hN (by decide) d (Q := Qj (wB (wC I ch dd) 80 N) J P t (some (.int r))) (by rw [show (some (Value.int r)) = some (.int 1) from by rw [h1 c39]]; exact Qj.mk hj32) 0 (Nat.zero_le _)
    rw [cB_0] at z; exact z
