/-! the class: search, order -/
theorem wC_id (I : Nat → Nat → Int32) : wC I (I 104) (I 105) = I := by
  funext a k
  simp only [wC]
  split
  · rename_i h; rw [h.1]
  · split
    · rename_i h; rw [h.1]
    · rfl
theorem Dk_0 (ok : Nat → Nat → Prop) (A : Nat) (dd : Nat → Int32) : Dk ok A (uA dd (fun _ => 0) 128) := fun T hT hb => by
  rw [uA_v dd (fun _ => 0) 128 (by omega)] at hb
  exact absurd hb (dB_zero (Nat.mod_lt _ (by decide)))
def QS (I : Nat → Nat → Int32) (J : Nat → Nat → Int64) (P : Nat → Nat → Nat) (t : Nat) (ok : Nat → Nat → Prop) (A : Nat) : Option Value → xS → Prop := fun r1 S1 => (r1 = some (.int 1) ∧ eE ok A 0 ∧ ∃ ch2 dd2 W2 J2, S1 = (SH, wB (wC I ch2 dd2) 80 W2, J2, P) ∧ Jok J J2 t ∧ ∀ q, q < pcT A 12 → ch2 q = nI (nxE ok A (ptE ok A 0 q))) ∨ (r1 = some (.int 0) ∧ ¬ eE ok A 0 ∧ ∃ ch2 dd2 W2 J2, S1 = (SH, wB (wC I ch2 dd2) 80 W2, J2, P) ∧ Jok J J2 t)
set_option maxHeartbeats 1000000 in
theorem l_search {E : xCl} {ex : Bool} {I2 N : Nat → Nat → Int32} {J : Nat → Nat → Int64} {P : Nat → Nat → Nat} (hP : Pok P) {A : Nat} {w : Int32} (d : Nat) {Q : Option Value → xS → Prop} (K : xR (xEx E ex (d + 20)) ex none yX4_search cX4_search (some .boolean) 37 [some (.ref 103), some (.ref 80), some (.int (nI A)), some (.int w), some (.int (nI 128))] [] (SH, wB (wC I2 (I2 104) (uA (I2 105) (fun _ => 0) 128)) 80 N, J, P) Q) : ∀ j, j ≤ 128 → xR (xEx E ex (d + 20)) ex none yX4_search cX4_search (some .boolean) 13 [some (.ref 103), some (.ref 80), some (.int (nI A)), some (.int w), some (.int (nI j))] [] (SH, wB (wC I2 (I2 104) (uA (I2 105) (fun _ => 0) j)) 80 N, J, P) Q := by
  refine r_for (fun j => xR (xEx E ex (d + 20)) ex none yX4_search cX4_search (some .boolean) 13 [some (.ref 103), some (.ref 80), some (.int (nI A)), some (.int w), some (.int (nI j))] [] (SH, wB (wC I2 (I2 104) (uA (I2 105) (fun _ => 0) j)) 80 N, J, P) Q) _ ?_ ?_
  · intro j hj ih
    refine r_iload dX4_search_13 rfl ?_
    refine r_aload_n dX4_search_15 rfl ?_
    refine r_getR dX4_search_16 flX4_15 sh_103 (by decide) rfl (pf_103_1 hP) ?_
    refine r_alen dX4_search_19 sh_105 ?_
    refine r_ic_ge 37 dX4_search_20 (by decide) (fun c20 => ?_) (fun c20 => ?_)
    · exact absurd c20 (nI_ge (a := j) (b := 128) hj (by decide))
    · refine r_aload_n dX4_search_23 rfl ?_
      refine r_getR dX4_search_24 flX4_15 sh_103 (by decide) rfl (pf_103_1 hP) ?_
      refine r_iload dX4_search_27 rfl ?_
      refine r_iconst (v := 0) dX4_search_29 (by decide) ?_
      refine r_iasv dX4_search_30 sh_105 (vp_in_nI hj (by decide)) (show _ = wB (wC I2 (I2 104) (uA (I2 105) (fun _ => 0) (j + 1))) 80 N from (wB_xo _ _ (br_x _ hb80 105 (by decide)) _ _).trans (congrArg (fun z => wB z 80 N) (by rw [nI_clamp (n := j) (by omega), wC_xd _ _ _ (by omega)]; rfl))) ?_
      refine r_iinc4 (v := 1) dX4_search_31 (by decide) rfl ?_
      refine r_goto 13 dX4_search_34 (by decide) ?_
      rw [nI_1]; exact ih
  · refine r_iload dX4_search_13 rfl ?_
    refine r_aload_n dX4_search_15 rfl ?_
    refine r_getR dX4_search_16 flX4_15 sh_103 (by decide) rfl (pf_103_1 hP) ?_
    refine r_alen dX4_search_19 sh_105 ?_
    refine r_ic_ge 37 dX4_search_20 (by decide) (fun c20 => ?_) (fun c20 => ?_)
    · exact K
    · exact absurd (by decide) c20
set_option maxHeartbeats 4000000 in
theorem k_search {E : xCl} {ex : Bool} {I I2 : Nat → Nat → Int32} {J : Nat → Nat → Int64} {P : Nat → Nat → Nat} (hP : Pok P) {n : Nat} {N : Nat → Nat → Int32} (hv : Vok N n) {A : Nat} (hA : A < 2 ^ n) (hA0 : A ≠ 0) {w : Int32} (hI2 : xu (xu I 103 2 (nI A)) 103 3 w = I2) {t : Nat} (ht : t ∈ TL) (hb8 : P 80 0 = t + 1) (hL : Lok I2 t) (hN : ∀ i, A.testBit i = true → N 9 i = 0) (d : Nat) : ∃ r1 S1, xEx E ex (d + 21) yX4_search [.ref 103, .ref 80, .int (nI A), .int w] (SH, wB I 80 N, J, P) r1 S1 ∧ QS I2 J P t (cOk N (Lv I2 t) n w) A r1 S1 := by
  have hn12 := hv.1
  have hA12 : A < 4096 := Nat.lt_of_lt_of_le hA (pow12 hn12)
  have hpA := pcT_le A 12
  have hwa : I2 103 2 = nI A := by rw [← hI2, xu_k _ _ _ _ (by decide), xu_s]
  have hlo : I2 103 3 = w := by rw [← hI2, xu_s]
  refine x_enterq (d := d + 20) cqX4_search [some (.ref 103), some (.ref 80), some (.int (nI A)), some (.int w), none] rfl (by simp [lg_sl, Value.category]) ?_
  refine r_aload_n dX4_search_0 rfl ?_
  refine r_iload_n dX4_search_1 rfl ?_
  refine r_putIv dX4_search_2 flX4_18 ⟨_, _, _, rfl, Or.inl rfl⟩ sh_103 (by decide) rfl rfl rfl (wB_xo _ _ (br_x _ hb80 103 (by decide)) _ _) ?_
  refine r_aload_n dX4_search_5 rfl ?_
  refine r_iload_n dX4_search_6 rfl ?_
  refine r_putIv dX4_search_7 flX4_22 ⟨_, _, _, rfl, Or.inl rfl⟩ sh_103 (by decide) rfl rfl rfl (wB_xo _ _ (br_x _ hb80 103 (by decide)) _ _) ?_
  refine r_iconst (v := 0) dX4_search_10 (by decide) ?_
  refine r_istore4 dX4_search_11 rfl ?_
  rw [show wB (xu (xu I 103 2 (nI A)) 103 3 w) 80 N = wB (wC I2 (I2 104) (I2 105)) 80 N from by rw [hI2, wC_id]]
  refine l_search hP d ?_ 0 (Nat.zero_le _)
  by_cases hE : eB N (Lv I2 t) n w A
  · obtain ⟨J9, hx9, hj9⟩ := k_endBears (E := E) (ex := ex) (I := I2) (ch := I2 104) (dd := (uA (I2 105) (fun _ => 0) 128)) (J := J) hP hv hA12 hwa hlo ht hb8 hL hN 1 (fun _ => rfl) (fun z => absurd hE z) (d + 13)
    refine r_aload_n dX4_search_37 rfl ?_
    refine r_aload_n dX4_search_38 rfl ?_
    refine r_cV1i dX4_search_39 vlX4_25 sh_103 (Nat.le_of_ble_eq_true rfl) hx9 ?_
    refine r_if_eq 59 dX4_search_42 (by decide) (fun c42 => ?_) (fun c42 => ?_)
    · exact absurd c42 (by decide)
    · refine r_aload_n dX4_search_45 rfl ?_
      refine r_aload_n dX4_search_46 rfl ?_
      refine r_iconst (v := 0) dX4_search_47 (by decide) ?_
      refine r_iconst (v := 0) dX4_search_48 (by decide) ?_
      obtain ⟨r1, S1, hx1, ⟨rfl, hE2, ch2, dd2, W2, J2, rfl, hj2, hpath⟩ | ⟨rfl, hnE, dd2, J2, rfl, hj2, hD2⟩⟩ := k_payRest (E := E) (ex := ex) (I := I2) hP ht hb8 hv hL hA hwa hlo hN (d + 13 - pcT A 12) (pcT A 12) 0 (I2 104) (uA (I2 105) (fun _ => 0) 128) J9 (by rw [show pcT 0 12 = 0 from by decide, Nat.zero_add]) (by decide) (fun k hk => by rw [Nat.zero_testBit] at hk; cases hk) (Dk_0 _ _ _)
      · rw [vS_0, show d + 13 - pcT A 12 + pcT A 12 + 7 = d + 20 by omega] at hx1
        refine r_cV3i dX4_search_49 vlX4_29 sh_103 (Nat.le_of_ble_eq_true rfl) hx1 ?_
        refine r_if_eq 59 dX4_search_52 (by decide) (fun c52 => ?_) (fun c52 => ?_)
        · exact absurd c52 (by decide)
        · refine r_iconst (v := 1) dX4_search_55 (by decide) ?_
          refine r_goto 60 dX4_search_56 (by decide) ?_
          exact r_iretq dX4_search_60 rfl rfl (Or.inl ⟨rfl, hE2, ch2, dd2, W2, J2, rfl, hj9.tr hj2, fun q hq => by have := hpath q hq; rw [show pcT 0 12 = 0 from by decide, Nat.zero_add] at this; exact this⟩)
      · rw [vS_0, show d + 13 - pcT A 12 + pcT A 12 + 7 = d + 20 by omega] at hx1
        refine r_cV3i dX4_search_49 vlX4_29 sh_103 (Nat.le_of_ble_eq_true rfl) hx1 ?_
        refine r_if_eq 59 dX4_search_52 (by decide) (fun c52 => ?_) (fun c52 => ?_)
        · refine r_iconst (v := 0) dX4_search_59 (by decide) ?_
          exact r_iretq dX4_search_60 rfl rfl (Or.inr ⟨rfl, hnE, _, _, _, _, rfl, hj9.tr hj2⟩)
        · exact absurd c52 (by decide)
  · obtain ⟨J9, hx9, hj9⟩ := k_endBears (E := E) (ex := ex) (I := I2) (ch := I2 104) (dd := (uA (I2 105) (fun _ => 0) 128)) (J := J) hP hv hA12 hwa hlo ht hb8 hL hN 0 (fun z => absurd z hE) (fun _ => rfl) (d + 13)
    refine r_aload_n dX4_search_37 rfl ?_
    refine r_aload_n dX4_search_38 rfl ?_
    refine r_cV1i dX4_search_39 vlX4_25 sh_103 (Nat.le_of_ble_eq_true rfl) hx9 ?_
    refine r_if_eq 59 dX4_search_42 (by decide) (fun c42 => ?_) (fun c42 => ?_)
    · refine r_iconst (v := 0) dX4_search_59 (by decide) ?_
      exact r_iretq dX4_search_60 rfl rfl (Or.inr ⟨rfl, fun z => hE (eE_eB hA0 z), _, _, _, _, rfl, hj9⟩)
    · exact absurd c42 (by decide)
