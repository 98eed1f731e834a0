/-! the reference: chance whole -/
theorem JX.tx {J J1 J2 : Nat → Nat → Int64} (h1 : JX J J1) (h2 : JX J1 J2) : JX J J2 := fun a k h h' h'' => (h2 a k h h' h'').trans (h1 a k h h' h'')
theorem JX_bk {J J1 : Nat → Nat → Int64} (h : JX J J1) : JokR J (xu J1 347 68 (J 347 68)) := fun a k h1 h2 => by
  by_cases q : a = 347 ∧ k = 68
  · rw [q.1, q.2, xu_s]
  · simp only [xu, if_neg q]; exact h a k h1 h2 q
set_option maxHeartbeats 1000000 in
theorem l_chin {E : xCl} {ex : Bool} {I : Nat → Nat → Int32} {J : Nat → Nat → Int64} {P : Nat → Nat → Nat} (hP : Pok P) (hp : Pt I) {n : Nat} (hv : Vok (vR I 0) n) (hk : Tok (vR I 0) n) {L : Nat → (Nat → Int64) → Int64} (hL : LwR I L) (h7 : L7 L) {m : Nat} (hm : m ≤ 8) (hc : I 347 14 = nI m) (hg : ∀ k, vp_in (I 363 k) 6) {kn : Nat} (hkn : kn ≤ 30) {x1 u r ii : Int32} {hd x : Int64} (d : Nat) {Q : Option Value → xS → Prop} (K : ∀ e2 J2 y9 y10, JX J J2 → J2 347 68 = (sChY (vR I 0) L n (rT I) m x kn).1 → xR (xEx E ex (d + 8)) ex none yX11_chance cX11_chance (some .int) 154 [some (.ref 347), some (.int x1), some (.int (nI kn)), some (.int u), some (.long hd), none, some (.int r), some (.int ii), some (.int (nI kn)), y9, y10] [] (SH, wR (wE (rPl I) e2) 1 (sChY (vR I 0) L n (rT I) m x kn).2, J2, P) Q) : ∀ c j e1 J1 y9 y10, j + c = kn → JX J J1 → J1 347 68 = (sChY (vR I 0) L n (rT I) m x j).1 → xR (xEx E ex (d + 8)) ex none yX11_chance cX11_chance (some .int) 64 [some (.ref 347), some (.int x1), some (.int (nI kn)), some (.int u), some (.long hd), none, some (.int r), some (.int ii), some (.int (nI j)), y9, y10] [] (SH, wR (wE (rPl I) e1) 1 (sChY (vR I 0) L n (rT I) m x j).2, J1, P) Q := by
  intro c
  induction c with
  | zero =>
    intro j e1 J1 y9 y10 hj hJ h68
    refine r_iload dX11_chance_64 rfl ?_
    refine r_iload_n dX11_chance_66 rfl ?_
    refine r_ic_ge 154 dX11_chance_67 (by decide) (fun c67 => ?_) (fun c67 => ?_)
    · rw [show j = kn by omega] at *; exact K _ _ _ _ hJ h68
    · exact absurd (nI_le (by omega) (by omega)) c67
  | succ c ih =>
    intro j e1 J1 y9 y10 hj hJ h68
    exact t_chturn hP (hv.cy L (rT I) m x j) (hk.cy L (rT I) m x j) hL h7 hm hc hg h68 (by omega) hkn d (fun e2 J2 z9 z10 h2 h3 => ih (j + 1) e2 J2 z9 z10 (by omega) (hJ.tx h2) h3)
set_option maxHeartbeats 4000000 in
theorem l_chout {E : xCl} {ex : Bool} {I : Nat → Nat → Int32} {J : Nat → Nat → Int64} {P : Nat → Nat → Nat} (hP : Pok P) (hp : Pt I) {n : Nat} (hv : Vok (vR I 0) n) (hk : Tok (vR I 0) n) {L : Nat → (Nat → Int64) → Int64} (hL : LwR I L) (h7 : L7 L) {m : Nat} (hm : m ≤ 8) (hc : I 347 14 = nI m) (hg : ∀ k, vp_in (I 363 k) 6) {kn : Nat} (hkn : kn ≤ 30) {x1 u : Int32} {x0 : Int64} (d : Nat) : ∀ c i I1 W e1 J1 y8 y9 y10, i + c = 10 → (I1 = I ∨ I1 = rPl I) → (c = 0 → I1 = rPl I) → FX (vR I 0) W → JX J J1 → J1 347 68 = (sChD (vR I 0) L n (rT I) m kn u x0 i).1 → xR (xEx E ex (d + 8)) ex none yX11_chance cX11_chance (some .int) 50 [some (.ref 347), some (.int x1), some (.int (nI kn)), some (.int u), some (.long (J 347 68)), none, some (.int (sChD (vR I 0) L n (rT I) m kn u x0 i).2), some (.int (nI i)), y8, y9, y10] [] (SH, wR (wE I1 e1) 1 W, J1, P) (QT (rPl I) (vR I 0) J P (some (.int (sChD (vR I 0) L n (rT I) m kn u x0 10).2))) := by
  intro c
  induction c with
  | zero =>
    intro i I1 W e1 J1 y8 y9 y10 hj hI1 hI2 hfx hJ h68
    rw [hI2 rfl]
    refine r_iload dX11_chance_50 rfl ?_
    refine r_bipush (v := 10) dX11_chance_52 (by decide) ?_
    refine r_ic_ge 179 dX11_chance_54 (by decide) (fun c54 => ?_) (fun c54 => ?_)
    · refine r_aload_n dX11_chance_179 rfl ?_
      refine r_lload dX11_chance_180 rfl ?_
      refine r_putJ dX11_chance_182 flX11_393 ⟨_, _, _, rfl, Or.inl rfl⟩ sh_347 (by decide) rfl rfl ?_
      refine r_iload dX11_chance_185 rfl ?_
      exact r_iretq dX11_chance_187 rfl rfl (by rw [show i = 10 by omega]; exact QT.mk (JX_bk hJ) hfx)
    · exact absurd (by rw [show i = 10 by omega]; decide) c54
  | succ c ih =>
    intro i I1 W e1 J1 y8 y9 y10 hj hI1 hI2 hfx hJ h68
    refine r_iload dX11_chance_50 rfl ?_
    refine r_bipush (v := 10) dX11_chance_52 (by decide) ?_
    refine r_ic_ge 179 dX11_chance_54 (by decide) (fun c54 => ?_) (fun c54 => ?_)
    · exact absurd c54 (nI_ge (a := i) (b := 10) (by omega) (by omega))
    · refine r_aload_n dX11_chance_57 rfl ?_
      refine r_cV0v dX11_chance_58 vlX11_482 sh_347 (Nat.le_of_ble_eq_true rfl) (k_lay3 hP hp hI1 hfx (d + 6)) ?_
      refine r_iconst (v := 0) dX11_chance_61 (by decide) ?_
      refine r_istore8 dX11_chance_62 rfl ?_
      refine l_chin (J := J) (x := (sChD (vR I 0) L n (rT I) m kn u x0 i).1) hP hp hv hk hL h7 hm hc hg hkn d (fun e2 J2 z9 z10 h2 h3 => ?_) kn 0 e1 J1 _ _ (Nat.zero_add _) hJ h68
      refine r_iload dX11_chance_154 rfl ?_
      refine r_aload_n dX11_chance_156 rfl ?_
      refine r_iconst (v := 1) dX11_chance_157 (by decide) ?_
      obtain ⟨e9, J9, hx9, hj9⟩ := k_rbridge (E := E) (ex := ex) (I := rPl I) (V := (sChY (vR I 0) L n (rT I) m (sChD (vR I 0) L n (rT I) m kn u x0 i).1 kn).2) (e := e2) (J := J2) hP (b := 1) (by decide) (hv.cy L (rT I) m _ kn) (hk.cy L (rT I) m _ kn) hL.pl h7 (d + 2)
      refine r_cV1i dX11_chance_158 vlX11_443 sh_347 (Nat.le_of_ble_eq_true rfl) hx9 ?_
      refine r_iload_n dX11_chance_161 rfl ?_
      refine r_ic_lt 169 dX11_chance_162 (by decide) (fun c162 => ?_) (fun c162 => ?_)
      · refine r_iconst (v := 0) dX11_chance_169 (by decide) ?_
        refine r_iadd dX11_chance_170 ?_
        refine r_istore6 dX11_chance_171 rfl ?_
        refine r_iinc7 (v := 1) dX11_chance_173 (by decide) rfl ?_
        refine r_goto 50 dX11_chance_176 (by decide) ?_
        rw [nI_1, Int32.add_zero]; have z := ih (i + 1) _ _ e9 J9 (some (.int (nI kn))) z9 z10 (by omega) (Or.inr rfl) (fun _ => rfl) ((FX.rf _).cy L n (rT I) m (sChD (vR I 0) L n (rT I) m kn u x0 i).1 kn) (h2.tr hj9) (by rw [hj9 347 68 (by decide) (by decide), h3, sChD_lt c162]); rw [sChD_lt c162] at z; exact z
      · refine r_iconst (v := 1) dX11_chance_165 (by decide) ?_
        refine r_goto 170 dX11_chance_166 (by decide) ?_
        refine r_iadd dX11_chance_170 ?_
        refine r_istore6 dX11_chance_171 rfl ?_
        refine r_iinc7 (v := 1) dX11_chance_173 (by decide) rfl ?_
        refine r_goto 50 dX11_chance_176 (by decide) ?_
        rw [nI_1]; have z := ih (i + 1) _ _ e9 J9 (some (.int (nI kn))) z9 z10 (by omega) (Or.inr rfl) (fun _ => rfl) ((FX.rf _).cy L n (rT I) m (sChD (vR I 0) L n (rT I) m kn u x0 i).1 kn) (h2.tr hj9) (by rw [hj9 347 68 (by decide) (by decide), h3, sChD_ge c162]); rw [sChD_ge c162] at z; exact z
abbrev rOkC (s k u : Int32) : Prop := ¬ s < 0 ∧ (¬ k < 1 ∧ ¬ 30 < k) ∧ (¬ u < 0 ∧ ¬ 9999 < u)
set_option maxHeartbeats 1000000 in
theorem k_rchance_n {E : xCl} {ex : Bool} {I I0 : Nat → Nat → Int32} {e : Int32} {J : Nat → Nat → Int64} {P : Nat → Nat → Nat} (hP : Pok P) (hI : xu I 347 2 0 = I0) {s k u : Int32} (h : ¬ rOkC s k u) (d : Nat) : xEx E ex (d + 2) yX11_chance [.ref 347, .int s, .int k, .int u] (SH, wE I e, J, P) (some (.int (-1))) (SH, wE I0 e, J, P) := by
  refine x_enter cqX11_chance [some (.ref 347), some (.int s), some (.int k), some (.int u), none, none, none, none, none, none, none] rfl (by simp [lg_sl, Value.category]) ?_
  refine r_aload_n dX11_chance_0 rfl ?_
  refine r_iconst (v := 0) dX11_chance_1 (by decide) ?_
  refine r_putIv dX11_chance_2 flX11_193 ⟨_, _, _, rfl, Or.inl rfl⟩ sh_347 (by decide) rfl rfl rfl ((wE_c _ _ _ (by decide)).trans (congrArg (fun z => wE z _) hI)) ?_
  refine r_iload_n dX11_chance_5 rfl ?_
  refine r_if_lt 30 dX11_chance_6 (by decide) (fun c6 => ?_) (fun c6 => ?_)
  · refine r_iconst (v := (-1)) dX11_chance_30 (by decide) ?_
    exact r_iret dX11_chance_31 rfl rfl rfl rfl
  · refine r_iload_n dX11_chance_9 rfl ?_
    refine r_iconst (v := 1) dX11_chance_10 (by decide) ?_
    refine r_bipush (v := 30) dX11_chance_11 (by decide) ?_
    by_cases h13 : ¬ k < 1 ∧ ¬ 30 < k
    · refine r_cS3i dX11_chance_13 slX11_238 (Nat.le_of_ble_eq_true rfl) (k_isIn_t h13 d) ?_
      refine r_if_eq 30 dX11_chance_16 (by decide) (fun c16 => ?_) (fun c16 => ?_)
      · exact absurd c16 (by decide)
      · refine r_iload_n dX11_chance_19 rfl ?_
        refine r_iconst (v := 0) dX11_chance_20 (by decide) ?_
        refine r_sipush (v := 9999) dX11_chance_21 (by decide) ?_
        by_cases h24 : ¬ u < 0 ∧ ¬ 9999 < u
        · refine r_cS3i dX11_chance_24 slX11_238 (Nat.le_of_ble_eq_true rfl) (k_isIn_t h24 d) ?_
          refine r_if_ne 32 dX11_chance_27 (by decide) (fun c27 => ?_) (fun c27 => ?_)
          · exact absurd ⟨c6, h13, h24⟩ h
          · exact absurd c27 (by decide)
        · refine r_cS3i dX11_chance_24 slX11_238 (Nat.le_of_ble_eq_true rfl) (k_isIn_f h24 d) ?_
          refine r_if_ne 32 dX11_chance_27 (by decide) (fun c27 => ?_) (fun c27 => ?_)
          · exact absurd c27 (by decide)
          · refine r_iconst (v := (-1)) dX11_chance_30 (by decide) ?_
            exact r_iret dX11_chance_31 rfl rfl rfl rfl
    · refine r_cS3i dX11_chance_13 slX11_238 (Nat.le_of_ble_eq_true rfl) (k_isIn_f h13 d) ?_
      refine r_if_eq 30 dX11_chance_16 (by decide) (fun c16 => ?_) (fun c16 => ?_)
      · refine r_iconst (v := (-1)) dX11_chance_30 (by decide) ?_
        exact r_iret dX11_chance_31 rfl rfl rfl rfl
      · exact absurd c16 (by decide)
set_option maxHeartbeats 2000000 in
theorem k_rchance {E : xCl} {ex : Bool} {I I0 : Nat → Nat → Int32} {e : Int32} {J : Nat → Nat → Int64} {P : Nat → Nat → Nat} (hP : Pok P) (hI : xu I 347 2 0 = I0)  (hp : Pt I0) {n : Nat} (hv : Vok (vR I0 0) n) (hk : Tok (vR I0 0) n) {L : Nat → (Nat → Int64) → Int64} (hL : LwR I0 L) (h7 : L7 L) {m : Nat} (hm : m ≤ 8) (hc : I0 347 14 = nI m) (hg : ∀ k, vp_in (I0 363 k) 6) {kn : Nat} (hkn : kn ≤ 30) {s u : Int32} (h : rOkC s (nI kn) u) (d : Nat) : ∃ e' J' W', xEx E ex (d + 9) yX11_chance [.ref 347, .int s, .int (nI kn), .int u] (SH, wE I e, J, P) (some (.int (sChD (vR I0 0) L n (rT I0) m kn u s.toInt64 10).2)) (SH, wR (wE (rPl I0) e') 1 W', J', P) ∧ JokR J J' ∧ FX (vR I0 0) W' := by
  refine QT.use (x_enterq (d := d + 8) cqX11_chance [some (.ref 347), some (.int s), some (.int (nI kn)), some (.int u), none, none, none, none, none, none, none] rfl (by simp [lg_sl, Value.category]) ?_)
  refine r_aload_n dX11_chance_0 rfl ?_
  refine r_iconst (v := 0) dX11_chance_1 (by decide) ?_
  refine r_putIv dX11_chance_2 flX11_193 ⟨_, _, _, rfl, Or.inl rfl⟩ sh_347 (by decide) rfl rfl rfl ((wE_c _ _ _ (by decide)).trans (congrArg (fun z => wE z _) hI)) ?_
  refine r_iload_n dX11_chance_5 rfl ?_
  refine r_if_lt 30 dX11_chance_6 (by decide) (fun c6 => ?_) (fun c6 => ?_)
  · exact absurd c6 h.1
  · refine r_iload_n dX11_chance_9 rfl ?_
    refine r_iconst (v := 1) dX11_chance_10 (by decide) ?_
    refine r_bipush (v := 30) dX11_chance_11 (by decide) ?_
    refine r_cS3i dX11_chance_13 slX11_238 (Nat.le_of_ble_eq_true rfl) (k_isIn_t h.2.1 (d + 7)) ?_
    refine r_if_eq 30 dX11_chance_16 (by decide) (fun c16 => ?_) (fun c16 => ?_)
    · exact absurd c16 (by decide)
    · refine r_iload_n dX11_chance_19 rfl ?_
      refine r_iconst (v := 0) dX11_chance_20 (by decide) ?_
      refine r_sipush (v := 9999) dX11_chance_21 (by decide) ?_
      refine r_cS3i dX11_chance_24 slX11_238 (Nat.le_of_ble_eq_true rfl) (k_isIn_t h.2.2 (d + 7)) ?_
      refine r_if_ne 32 dX11_chance_27 (by decide) (fun c27 => ?_) (fun c27 => ?_)
      · refine r_aload_n dX11_chance_32 rfl ?_
        refine r_getJ dX11_chance_33 flX11_393 sh_347 (by decide) rfl ?_
        refine r_lstore4 dX11_chance_36 rfl ?_
        refine r_aload_n dX11_chance_38 rfl ?_
        refine r_iload_n dX11_chance_39 rfl ?_
        refine r_i2l dX11_chance_40 ?_
        refine r_putJ dX11_chance_41 flX11_393 ⟨_, _, _, rfl, Or.inl rfl⟩ sh_347 (by decide) rfl rfl ?_
        refine r_iconst (v := 0) dX11_chance_44 (by decide) ?_
        refine r_istore6 dX11_chance_45 rfl ?_
        refine r_iconst (v := 0) dX11_chance_47 (by decide) ?_
        refine r_istore7 dX11_chance_48 rfl ?_
        have z := l_chout (E := E) (ex := ex) (I := I0) (J := J) hP hp hv hk hL h7 hm hc hg hkn (x1 := s) (u := u) (x0 := s.toInt64) d 10 0 I0 (vR I0 1) e (xu J 347 68 s.toInt64) none none none (by omega) (Or.inl rfl) (fun z => absurd z (by decide)) (FX.v1 I0) ((JX.rf J).xu _) (xu_s _ _ _ _)
        rw [raw1 hp] at z; exact z
      · exact absurd c27 (by decide)
