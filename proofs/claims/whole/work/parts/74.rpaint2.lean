/-! the reference: paintedBits whole -/
theorem aT1_eq {I I' : Nat → Nat → Int32} (h : ∀ a k, a ≠ 347 → a ≠ 396 → I' a k = I a k) (W : Nat → Nat → Int32) : ∀ n, aT1 W I' n = aT1 W I n
  | 0 => rfl
  | n + 1 => by rw [aT1, aT1, aT1_eq h W n, h 354 n (by decide) (by decide), h 353 n (by decide) (by decide)]
theorem aT2_eq {I I' : Nat → Nat → Int32} (h : ∀ a k, a ≠ 347 → a ≠ 396 → I' a k = I a k) (b : Nat) (W : Nat → Nat → Int32) : ∀ n, aT2 I' b W n = aT2 I b W n
  | 0 => rfl
  | n + 1 => by
    rw [aT2, aT2, aT2_eq h b W n]
    unfold aS
    rw [h 361 n (by decide) (by decide), h 356 n (by decide) (by decide), h 357 n (by decide) (by decide), h 360 n (by decide) (by decide), h 358 n (by decide) (by decide), h 359 n (by decide) (by decide), h 362 n (by decide) (by decide)]
theorem aT_eq {I I' : Nat → Nat → Int32} (h : ∀ a k, a ≠ 347 → a ≠ 396 → I' a k = I a k) (b q : Nat) (W : Nat → Nat → Int32) : aT I' b q W = aT I b q W := by
  rw [aT, aT, aT1_eq h, aT2_eq h, h 351 0 (by decide) (by decide)]
theorem aT_pl (I : Nat → Nat → Int32) (b q : Nat) (W : Nat → Nat → Int32) : aT (rPl I) b q W = aT I b q W := aT_eq (fun a k h _ => rPl_o h k) b q W
theorem pa_bits {q s : Nat} (hq : q ≤ 10) (hs : s ≤ q) {x : Int32} (hx : (s = q ∧ x = -1) ∨ (s < q ∧ x = nI s)) : ∀ k, k < 12 → bI (if nI q ≤ nI s then (0 : Int32) else 1 <<< (nI s &&& 31)) k = if nI k = x then 1 else 0 := by
  intro k hk
  rcases hx with ⟨h1, h2⟩ | ⟨h1, h2⟩
  · rw [if_pos (nI_le (by omega) (by omega)), bI_0 hk, h2, if_neg (nI_nm1 (by omega))]
  · rw [if_neg (nI_ge h1 (by omega)), bI_v _ hk, dB_shl s k (by omega) (by omega), h2]
    by_cases h : k = s
    · subst h; simp
    · rw [if_neg (by simp [h]), if_neg (fun z => h ((nI_eq (by omega) (by omega)).mp z))]
/-- the told bridge with one strand painted (none, if it is behind all) -/
def cU (I : Nat → Nat → Int32) (q s : Nat) (W : Nat → Nat → Int32) : Nat → Nat → Int32 := sPa (aT I 1 q W) (nI s) (nI q)
def cM (I : Nat → Nat → Int32) (L : Nat → (Nat → Int64) → Int64) (q m kb : Nat) (s : Nat) : Prop := sMr I (fun y => sBr (sYr (cU I q s (vR I 0)) L q (rT I) m y) L q) kb (cLs I kb)
theorem Bd.vok {V : Nat → Nat → Int32} {n : Nat} (h : Vok V n) : Bd 6 n V := fun k _ => ⟨h.2.2.1 k, h.2.2.2 k⟩
theorem or_0 (x : Int32) : x ||| 0 = x := by simp
set_option maxHeartbeats 4000000 in
theorem l_pbs {E : xCl} {ex : Bool} {I : Nat → Nat → Int32} {J : Nat → Nat → Int64} {P : Nat → Nat → Nat} (hP : Pok P) {q : Nat} (hq10 : q ≤ 10) (hq : I 347 13 = nI q) (hp1 : ∀ j, j < 10 → I 361 j = 0 ∨ I 361 j = 1) (ht : ∀ j, j < q → I 362 j = -1 ∨ ∃ z, z < q ∧ z ≠ j ∧ I 362 j = nI z ∧ I 362 z = nI j) (h3 : ∀ k, vp_in (I 379 k) 6) (h4 : ∀ k, vp_in (I 380 k) 6) {L : Nat → (Nat → Int64) → Int64} (hL : LwR I L) (h7 : L7 L) {m : Nat} (hm : m ≤ 8) (hc : I 347 14 = nI m) (hg : ∀ k, vp_in (I 363 k) 6) {kb : Nat} (hkb24 : kb ≤ 24) (hkb : rKb I = nI kb) (h51 : ¬ nI 51 ≤ cLs I kb) (h0l : nI 0 ≤ cLs I kb) (d : Nat) : ∀ c s e1 J1 W, s + c = q + 1 → FX (vR I 0) W → JokR J J1 → ∀ y4 y5, xR (xEx E ex (d + 11)) ex none yX11_paintedBits cX11_paintedBits (some .int) 136 [some (.ref 347), some (.int (cLs I kb)), some (.int (sPd (cM I L q m kb) s)), some (.int (nI s)), y4, y5] [] (SH, wR (wE (rPl I) e1) 1 W, J1, P) (QT (rPl I) (vR I 0) J P (some (.int (sPd (cM I L q m kb) (q + 1))))) := by
  intro c
  induction c with
  | zero =>
    intro s e1 J1 W hs hfx hJ y4 y5
    refine r_iload_n dX11_paintedBits_136 rfl ?_
    refine r_aload_n dX11_paintedBits_137 rfl ?_
    refine r_getIv dX11_paintedBits_138 flX11_273 sh_347 (by decide) rfl ((wR_o _ _ _ (by decide) _).trans ((wE_f _ _ (by decide)).trans ((rPl_k (by decide) (by decide) (by decide)).trans hq))) ?_
    refine r_ic_gt 237 dX11_paintedBits_141 (by decide) (fun c141 => ?_) (fun c141 => ?_)
    · refine r_iload_n dX11_paintedBits_237 rfl ?_
      exact r_iretq dX11_paintedBits_238 rfl rfl (by rw [show s = q + 1 by omega]; exact QT.mk hJ hfx)
    · exact absurd (nI_lt (a := q) (b := s) (by omega) (by omega)) c141
  | succ c ih =>
    intro s e1 J1 W hs hfx hJ y4 y5
    have hW3 : ∀ k, vp_in (W 3 k) 6 := fun k => by rw [hfx 3 k (by simp)]; exact h3 k
    have hW4 : ∀ k, vp_in (W 4 k) 6 := fun k => by rw [hfx 4 k (by simp)]; exact h4 k
    have hvU : Vok (cU I q s W) q := (Vok.aT hq10 hp1 hW3 hW4).xu (by decide) (by decide) (by decide)
    have hkU : Tok (cU I q s W) q := (Tok.aT hq10 hp1 ht).xu (by decide)
    have hfU : FX (vR I 0) (cU I q s W) := (FX.aT hq10 hp1 hfx).xu (by decide)
    have eU : vE 6 q 8 (cU I q s W) (cU I q s (vR I 0)) := (aT_E I hq10 hp1 hfx).x12 _
    have eU' : vE 6 q m (cU I q s W) (cU I q s (vR I 0)) := ⟨eU.1, eU.2.1, fun k hk => eU.2.2.1 k (by omega), eU.2.2.2⟩
    have eB : (fun y => sBr (sYr (cU I q s W) L q (rT I) m y) L q) = (fun y => sBr (sYr (cU I q s (vR I 0)) L q (rT I) m y) L q) := funext (fun y => (eU'.yr hvU (Bd.vok hvU) (LL.rf L) (tE.rf m _) y).br' (hvU.yr L (rT I) m y) (Bd.vok (hvU.yr L (rT I) m y)) (LL.rf L))
    refine r_iload_n dX11_paintedBits_136 rfl ?_
    refine r_aload_n dX11_paintedBits_137 rfl ?_
    refine r_getIv dX11_paintedBits_138 flX11_273 sh_347 (by decide) rfl ((wR_o _ _ _ (by decide) _).trans ((wE_f _ _ (by decide)).trans ((rPl_k (by decide) (by decide) (by decide)).trans hq))) ?_
    refine r_ic_gt 237 dX11_paintedBits_141 (by decide) (fun c141 => ?_) (fun c141 => ?_)
    · exact absurd c141 (nI_nlt (a := q) (b := s) (by omega) (by omega))
    · refine r_aload_n dX11_paintedBits_144 rfl ?_
      refine r_iconst (v := 1) dX11_paintedBits_145 (by decide) ?_
      have z146 := k_atFirst (E := E) (ex := ex) (I := rPl I) (V := W) (e := e1) (J := J1) hP (b := 1) (by decide) hq10 ((rPl_k (by decide) (by decide) (by decide)).trans hq) (fun j hj => by rw [rPl_o (by decide)]; exact hp1 j hj) (d + 10)
      rw [aT_pl] at z146
      refine r_cV1v dX11_paintedBits_146 vlX11_390 sh_347 (Nat.le_of_ble_eq_true rfl) z146 ?_
      refine r_aload_n dX11_paintedBits_149 rfl ?_
      refine r_iload_n dX11_paintedBits_150 rfl ?_
      refine r_aload_n dX11_paintedBits_151 rfl ?_
      refine r_getIv dX11_paintedBits_152 flX11_273 sh_347 (by decide) rfl ((wR_o _ _ _ (by decide) _).trans ((wE_f _ _ (by decide)).trans ((rPl_k (by decide) (by decide) (by decide)).trans hq))) ?_
      refine r_ic_ne 162 dX11_paintedBits_155 (by decide) (fun c155 => ?_) (fun c155 => ?_)
      · refine r_iload_n dX11_paintedBits_162 rfl ?_
        refine r_cV1v dX11_paintedBits_163 vlX11_522 sh_347 (Nat.le_of_ble_eq_true rfl) (show xEx E ex (d + 11) _ _ _ none (SH, wR (wE (rPl I) e1) 1 (cU I q s W), J1, P) from k_paintsOne hP _ _ (pa_bits hq10 (by omega) (Or.inr ⟨Nat.lt_of_le_of_ne (by omega) (fun z => c155 (by rw [z])), rfl⟩)) (d + 10)) ?_
        refine r_aload_n dX11_paintedBits_166 rfl ?_
        refine r_iconst (v := 0) dX11_paintedBits_167 (by decide) ?_
        refine r_aload_n dX11_paintedBits_168 rfl ?_
        refine r_iconst (v := 1) dX11_paintedBits_169 (by decide) ?_
        obtain ⟨e170, J170, hx170, hj170⟩ := k_rbridge (E := E) (ex := ex) (I := rPl I) (V := cU I q s W) (e := e1) (J := J1) hP (b := 1) (by decide) hvU hkU hL.pl h7 (d + 5)
        have hj170 := hJ.tr hj170
        refine r_cV1i dX11_paintedBits_170 vlX11_443 sh_347 (Nat.le_of_ble_eq_true rfl) hx170 ?_
        by_cases h173 : ∀ k, k < kb → okB I (sBr (cU I q s W) L q) 0 k
        · refine r_cV2i dX11_paintedBits_173 vlX11_525 sh_347 (Nat.le_of_ble_eq_true rfl) (k_iso_t hP hkb24 hkb h173 (d + 9)) ?_
          refine r_istore4 dX11_paintedBits_176 rfl ?_
          refine r_iconst (v := 1) dX11_paintedBits_178 (by decide) ?_
          refine r_istore5 dX11_paintedBits_179 rfl ?_
          refine l_pby hP hvU hkU hL h7 hm hc hg hkb24 hkb h51 d (fun r e2 J2 y5 t2 h2 hr => ?_) 50 0 e170 J170 (by omega) hj170 (fun y hy hl k hk => by rw [show y = 0 by omega]; exact h173 k hk)
          rcases hr with ⟨rfl, hr⟩ | ⟨rfl, hr⟩
          · rw [eB] at hr
            refine r_iload_n dX11_paintedBits_216 rfl ?_
            refine r_iload dX11_paintedBits_217 rfl ?_
            refine r_if_eq 228 dX11_paintedBits_219 (by decide) (fun c219 => ?_) (fun c219 => ?_)
            · exact absurd c219 (by decide)
            · refine r_iconst (v := 1) dX11_paintedBits_222 (by decide) ?_
              refine r_iload_n dX11_paintedBits_223 rfl ?_
              refine r_ishl dX11_paintedBits_224 ?_
              refine r_goto 229 dX11_paintedBits_225 (by decide) ?_
              refine r_ior dX11_paintedBits_229 ?_
              refine r_istore_n2 dX11_paintedBits_230 rfl ?_
              refine r_iinc3 (v := 1) dX11_paintedBits_231 (by decide) rfl ?_
              refine r_goto 136 dX11_paintedBits_234 (by decide) ?_
              rw [nI_1]; have z := ih (s + 1) e2 J2 _ (by omega) (FX.yr hfU L q (rT I) m t2) h2; rw [sPd_t hr] at z; exact z _ _
          · rw [eB] at hr
            refine r_iload_n dX11_paintedBits_216 rfl ?_
            refine r_iload dX11_paintedBits_217 rfl ?_
            refine r_if_eq 228 dX11_paintedBits_219 (by decide) (fun c219 => ?_) (fun c219 => ?_)
            · refine r_iconst (v := 0) dX11_paintedBits_228 (by decide) ?_
              refine r_ior dX11_paintedBits_229 ?_
              refine r_istore_n2 dX11_paintedBits_230 rfl ?_
              refine r_iinc3 (v := 1) dX11_paintedBits_231 (by decide) rfl ?_
              refine r_goto 136 dX11_paintedBits_234 (by decide) ?_
              rw [nI_1, or_0]; have z := ih (s + 1) e2 J2 _ (by omega) (FX.yr hfU L q (rT I) m t2) h2; rw [sPd_f hr] at z; exact z _ _
            · exact absurd c219 (by decide)
        · refine r_cV2i dX11_paintedBits_173 vlX11_525 sh_347 (Nat.le_of_ble_eq_true rfl) (k_iso_f hP hkb24 hkb h173 (d + 9)) ?_
          refine r_istore4 dX11_paintedBits_176 rfl ?_
          refine r_iconst (v := 1) dX11_paintedBits_178 (by decide) ?_
          refine r_istore5 dX11_paintedBits_179 rfl ?_
          refine z_pb (t := 1) (t2 := 0) hP hvU hkU hL h7 hm hc hg hkb24 hkb d (fun r e2 J2 y5 t2 h2 hr => ?_) hj170 (fun z => h173 (fun k hk => z 0 (by omega) h0l k hk))
          rcases hr with ⟨rfl, hr⟩ | ⟨rfl, hr⟩
          · rw [eB] at hr
            refine r_iload_n dX11_paintedBits_216 rfl ?_
            refine r_iload dX11_paintedBits_217 rfl ?_
            refine r_if_eq 228 dX11_paintedBits_219 (by decide) (fun c219 => ?_) (fun c219 => ?_)
            · exact absurd c219 (by decide)
            · refine r_iconst (v := 1) dX11_paintedBits_222 (by decide) ?_
              refine r_iload_n dX11_paintedBits_223 rfl ?_
              refine r_ishl dX11_paintedBits_224 ?_
              refine r_goto 229 dX11_paintedBits_225 (by decide) ?_
              refine r_ior dX11_paintedBits_229 ?_
              refine r_istore_n2 dX11_paintedBits_230 rfl ?_
              refine r_iinc3 (v := 1) dX11_paintedBits_231 (by decide) rfl ?_
              refine r_goto 136 dX11_paintedBits_234 (by decide) ?_
              rw [nI_1]; have z := ih (s + 1) e2 J2 _ (by omega) (FX.yr hfU L q (rT I) m t2) h2; rw [sPd_t hr] at z; exact z _ _
          · rw [eB] at hr
            refine r_iload_n dX11_paintedBits_216 rfl ?_
            refine r_iload dX11_paintedBits_217 rfl ?_
            refine r_if_eq 228 dX11_paintedBits_219 (by decide) (fun c219 => ?_) (fun c219 => ?_)
            · refine r_iconst (v := 0) dX11_paintedBits_228 (by decide) ?_
              refine r_ior dX11_paintedBits_229 ?_
              refine r_istore_n2 dX11_paintedBits_230 rfl ?_
              refine r_iinc3 (v := 1) dX11_paintedBits_231 (by decide) rfl ?_
              refine r_goto 136 dX11_paintedBits_234 (by decide) ?_
              rw [nI_1, or_0]; have z := ih (s + 1) e2 J2 _ (by omega) (FX.yr hfU L q (rT I) m t2) h2; rw [sPd_f hr] at z; exact z _ _
            · exact absurd c219 (by decide)
      · refine r_iconst (v := (-1)) dX11_paintedBits_158 (by decide) ?_
        refine r_goto 163 dX11_paintedBits_159 (by decide) ?_
        refine r_cV1v dX11_paintedBits_163 vlX11_522 sh_347 (Nat.le_of_ble_eq_true rfl) (show xEx E ex (d + 11) _ _ _ none (SH, wR (wE (rPl I) e1) 1 (cU I q s W), J1, P) from k_paintsOne hP _ _ (pa_bits hq10 (by omega) (Or.inl ⟨(nI_eq (a := s) (b := q) (by omega) (by omega)).mp c155, rfl⟩)) (d + 10)) ?_
        refine r_aload_n dX11_paintedBits_166 rfl ?_
        refine r_iconst (v := 0) dX11_paintedBits_167 (by decide) ?_
        refine r_aload_n dX11_paintedBits_168 rfl ?_
        refine r_iconst (v := 1) dX11_paintedBits_169 (by decide) ?_
        obtain ⟨e170, J170, hx170, hj170⟩ := k_rbridge (E := E) (ex := ex) (I := rPl I) (V := cU I q s W) (e := e1) (J := J1) hP (b := 1) (by decide) hvU hkU hL.pl h7 (d + 5)
        have hj170 := hJ.tr hj170
        refine r_cV1i dX11_paintedBits_170 vlX11_443 sh_347 (Nat.le_of_ble_eq_true rfl) hx170 ?_
        by_cases h173 : ∀ k, k < kb → okB I (sBr (cU I q s W) L q) 0 k
        · refine r_cV2i dX11_paintedBits_173 vlX11_525 sh_347 (Nat.le_of_ble_eq_true rfl) (k_iso_t hP hkb24 hkb h173 (d + 9)) ?_
          refine r_istore4 dX11_paintedBits_176 rfl ?_
          refine r_iconst (v := 1) dX11_paintedBits_178 (by decide) ?_
          refine r_istore5 dX11_paintedBits_179 rfl ?_
          refine l_pby hP hvU hkU hL h7 hm hc hg hkb24 hkb h51 d (fun r e2 J2 y5 t2 h2 hr => ?_) 50 0 e170 J170 (by omega) hj170 (fun y hy hl k hk => by rw [show y = 0 by omega]; exact h173 k hk)
          rcases hr with ⟨rfl, hr⟩ | ⟨rfl, hr⟩
          · rw [eB] at hr
            refine r_iload_n dX11_paintedBits_216 rfl ?_
            refine r_iload dX11_paintedBits_217 rfl ?_
            refine r_if_eq 228 dX11_paintedBits_219 (by decide) (fun c219 => ?_) (fun c219 => ?_)
            · exact absurd c219 (by decide)
            · refine r_iconst (v := 1) dX11_paintedBits_222 (by decide) ?_
              refine r_iload_n dX11_paintedBits_223 rfl ?_
              refine r_ishl dX11_paintedBits_224 ?_
              refine r_goto 229 dX11_paintedBits_225 (by decide) ?_
              refine r_ior dX11_paintedBits_229 ?_
              refine r_istore_n2 dX11_paintedBits_230 rfl ?_
              refine r_iinc3 (v := 1) dX11_paintedBits_231 (by decide) rfl ?_
              refine r_goto 136 dX11_paintedBits_234 (by decide) ?_
              rw [nI_1]; have z := ih (s + 1) e2 J2 _ (by omega) (FX.yr hfU L q (rT I) m t2) h2; rw [sPd_t hr] at z; exact z _ _
          · rw [eB] at hr
            refine r_iload_n dX11_paintedBits_216 rfl ?_
            refine r_iload dX11_paintedBits_217 rfl ?_
            refine r_if_eq 228 dX11_paintedBits_219 (by decide) (fun c219 => ?_) (fun c219 => ?_)
            · refine r_iconst (v := 0) dX11_paintedBits_228 (by decide) ?_
              refine r_ior dX11_paintedBits_229 ?_
              refine r_istore_n2 dX11_paintedBits_230 rfl ?_
              refine r_iinc3 (v := 1) dX11_paintedBits_231 (by decide) rfl ?_
              refine r_goto 136 dX11_paintedBits_234 (by decide) ?_
              rw [nI_1, or_0]; have z := ih (s + 1) e2 J2 _ (by omega) (FX.yr hfU L q (rT I) m t2) h2; rw [sPd_f hr] at z; exact z _ _
            · exact absurd c219 (by decide)
        · refine r_cV2i dX11_paintedBits_173 vlX11_525 sh_347 (Nat.le_of_ble_eq_true rfl) (k_iso_f hP hkb24 hkb h173 (d + 9)) ?_
          refine r_istore4 dX11_paintedBits_176 rfl ?_
          refine r_iconst (v := 1) dX11_paintedBits_178 (by decide) ?_
          refine r_istore5 dX11_paintedBits_179 rfl ?_
          refine z_pb (t := 1) (t2 := 0) hP hvU hkU hL h7 hm hc hg hkb24 hkb d (fun r e2 J2 y5 t2 h2 hr => ?_) hj170 (fun z => h173 (fun k hk => z 0 (by omega) h0l k hk))
          rcases hr with ⟨rfl, hr⟩ | ⟨rfl, hr⟩
          · rw [eB] at hr
            refine r_iload_n dX11_paintedBits_216 rfl ?_
            refine r_iload dX11_paintedBits_217 rfl ?_
            refine r_if_eq 228 dX11_paintedBits_219 (by decide) (fun c219 => ?_) (fun c219 => ?_)
            · exact absurd c219 (by decide)
            · refine r_iconst (v := 1) dX11_paintedBits_222 (by decide) ?_
              refine r_iload_n dX11_paintedBits_223 rfl ?_
              refine r_ishl dX11_paintedBits_224 ?_
              refine r_goto 229 dX11_paintedBits_225 (by decide) ?_
              refine r_ior dX11_paintedBits_229 ?_
              refine r_istore_n2 dX11_paintedBits_230 rfl ?_
              refine r_iinc3 (v := 1) dX11_paintedBits_231 (by decide) rfl ?_
              refine r_goto 136 dX11_paintedBits_234 (by decide) ?_
              rw [nI_1]; have z := ih (s + 1) e2 J2 _ (by omega) (FX.yr hfU L q (rT I) m t2) h2; rw [sPd_t hr] at z; exact z _ _
          · rw [eB] at hr
            refine r_iload_n dX11_paintedBits_216 rfl ?_
            refine r_iload dX11_paintedBits_217 rfl ?_
            refine r_if_eq 228 dX11_paintedBits_219 (by decide) (fun c219 => ?_) (fun c219 => ?_)
            · refine r_iconst (v := 0) dX11_paintedBits_228 (by decide) ?_
              refine r_ior dX11_paintedBits_229 ?_
              refine r_istore_n2 dX11_paintedBits_230 rfl ?_
              refine r_iinc3 (v := 1) dX11_paintedBits_231 (by decide) rfl ?_
              refine r_goto 136 dX11_paintedBits_234 (by decide) ?_
              rw [nI_1, or_0]; have z := ih (s + 1) e2 J2 _ (by omega) (FX.yr hfU L q (rT I) m t2) h2; rw [sPd_f hr] at z; exact z _ _
            · exact absurd c219 (by decide)
theorem vR_C (I : Nat → Nat → Int32) (kb b : Nat) : vR (cC I kb) b = vR I b := by
  funext f k
  simp only [vR, cC_o I kb (show (376 : Nat) ≠ 396 by decide), cC_o I kb (show (377 : Nat) ≠ 396 by decide), cC_o I kb (show (378 : Nat) ≠ 396 by decide), cC_o I kb (show (379 : Nat) ≠ 396 by decide), cC_o I kb (show (380 : Nat) ≠ 396 by decide), cC_o I kb (show (381 : Nat) ≠ 396 by decide), cC_o I kb (show (382 : Nat) ≠ 396 by decide), cC_o I kb (show (383 : Nat) ≠ 396 by decide), cC_o I kb (show (384 : Nat) ≠ 396 by decide), cC_o I kb (show (385 : Nat) ≠ 396 by decide), cC_o I kb (show (386 : Nat) ≠ 396 by decide), cC_o I kb (show (387 : Nat) ≠ 396 by decide), cC_o I kb (show (388 : Nat) ≠ 396 by decide), cC_o I kb (show (389 : Nat) ≠ 396 by decide), cC_o I kb (show (390 : Nat) ≠ 396 by decide)]
theorem LwR.C {I : Nat → Nat → Int32} {L : Nat → (Nat → Int64) → Int64} (h : LwR I L) (kb : Nat) : LwR (cC I kb) L := h.of (fun a h1 h2 => funext (fun k => cC_o I kb (by omega) k))
theorem cLs_0 (I : Nat → Nat → Int32) : ∀ n, nI 0 ≤ cLs I n
  | 0 => by show nI 0 ≤ (0 : Int32); decide
  | n + 1 => by
    rw [cLs]; split
    · rename_i h; exact Int32.le_trans (cLs_0 I n) (Int32.le_of_lt (Int32.not_le.mp h.2))
    · exact cLs_0 I n
theorem cLs_51 {I : Nat → Nat → Int32} {kb : Nat} (h : ∀ j, j < kb → ¬ nI 51 ≤ I 395 (4 * j)) : ∀ n, n ≤ kb → ¬ nI 51 ≤ cLs I n
  | 0, _ => by show ¬ nI 51 ≤ (0 : Int32); decide
  | n + 1, hn => by
    rw [cLs]; split
    · exact h n (by omega)
    · exact cLs_51 h n (by omega)
set_option maxHeartbeats 2000000 in
theorem k_paintedBits {E : xCl} {ex : Bool} {I : Nat → Nat → Int32} {J : Nat → Nat → Int64} {P : Nat → Nat → Nat} (hP : Pok P) {q : Nat} (hq10 : q ≤ 10) (hq : I 347 13 = nI q) (hp1 : ∀ j, j < 10 → I 361 j = 0 ∨ I 361 j = 1) (ht : ∀ j, j < q → I 362 j = -1 ∨ ∃ z, z < q ∧ z ≠ j ∧ I 362 j = nI z ∧ I 362 z = nI j) (h3 : ∀ k, vp_in (I 379 k) 6) (h4 : ∀ k, vp_in (I 380 k) 6) {L : Nat → (Nat → Int64) → Int64} (hL : LwR I L) (h7 : L7 L) {m : Nat} (hm : m ≤ 8) (hc : I 347 14 = nI m) (hg : ∀ k, vp_in (I 363 k) 6) {kb : Nat} (hkb24 : kb ≤ 24) (hkb : rKb I = nI kb) (hp : Pt I) (hst : ∀ k, k < kb → I 395 (4 * k) < 0 → vp_in (I 395 (4 * k + 1)) 24) (h51 : ∀ j, j < kb → ¬ nI 51 ≤ I 395 (4 * j)) (d : Nat) : ∃ e' J' W', xEx E ex (d + 12) yX11_paintedBits [.ref 347] (SH, I, J, P) (some (.int (sPd (cM (cC I kb) L q m kb) (q + 1)))) (SH, wR (wE (rPl (cC I kb)) e') 1 W', J', P) ∧ JokR J J' ∧ FX (vR I 0) W' := by
  have key := QT.use (x_enterq (E := E) (ex := ex) (y := yX11_paintedBits) (vs := [.ref 347]) (S := (SH, I, J, P)) (Q := QT (rPl (cC I kb)) (vR (cC I kb) 0) J P (some (.int (sPd (cM (cC I kb) L q m kb) (q + 1))))) (d := d + 11) cqX11_paintedBits [some (.ref 347), none, none, none, none, none] rfl (by simp [lg_sl, Value.category]) ?_)
  · rw [vR_C] at key; exact key
  refine r_iconst (v := 0) dX11_paintedBits_0 (by decide) ?_
  refine r_istore_n1 dX11_paintedBits_1 rfl ?_
  refine r_iconst (v := 0) dX11_paintedBits_2 (by decide) ?_
  refine r_istore_n2 dX11_paintedBits_3 rfl ?_
  refine l_pb1 hP hkb24 hkb d ?_ 0 (Nat.zero_le _)
  refine r_aload_n dX11_paintedBits_25 rfl ?_
  refine r_cV0i dX11_paintedBits_26 vlX11_519 sh_347 (Nat.le_of_ble_eq_true rfl) (by have z := k_knownByI (E := E) (ex := ex) (I := cT1 I kb) (J := J) (P := P) (d + 10); rw [rKb_eq (fun k => cT1_o I (by decide) k kb), hkb] at z; exact z) ?_
  refine r_iconst (v := 1) dX11_paintedBits_29 (by decide) ?_
  refine r_isub dX11_paintedBits_30 ?_
  refine r_istore_n2 dX11_paintedBits_31 rfl ?_
  refine l_pb2 hP d kb (cT1 I kb) hkb24 (fun k hk hz => by rw [cT1_o I (by decide)] at hz ⊢; exact hst k hk hz) (fun x2 => ?_)
  refine r_iconst (v := 0) dX11_paintedBits_78 (by decide) ?_
  refine r_istore_n2 dX11_paintedBits_79 rfl ?_
  refine l_pb3 (I := cC I kb) hP hkb24 (by rw [rKb_eq (fun k => cC_o I kb (by decide) k)]; exact hkb) d ?_ 0 (Nat.zero_le _)
  refine r_iconst (v := 0) dX11_paintedBits_128 (by decide) ?_
  refine r_istore_n2 dX11_paintedBits_129 rfl ?_
  refine r_aload_n dX11_paintedBits_130 rfl ?_
  refine r_cV0v dX11_paintedBits_131 vlX11_397 sh_347 (Nat.le_of_ble_eq_true rfl) (by have z := k_plainTried (E := E) (ex := ex) (I := cC I kb) (V := vR (cC I kb) 1) (e := cC I kb 347 52) (J := J) (P := P) (b := 1) (d + 10); rw [raw1 (fun j hj => by rw [cC_o I kb (by decide)]; exact hp j hj), wE_id] at z; exact z) ?_
  refine r_iconst (v := 0) dX11_paintedBits_134 (by decide) ?_
  refine r_istore_n3 dX11_paintedBits_135 rfl ?_
  have z := l_pbs (E := E) (ex := ex) (I := cC I kb) (J := J) hP hq10 (by rw [cC_o I kb (by decide)]; exact hq) (fun j hj => by rw [cC_o I kb (by decide)]; exact hp1 j hj) (by simp only [cC_o I kb (show (362 : Nat) ≠ 396 by decide)]; exact ht) (fun k => by rw [cC_o I kb (by decide)]; exact h3 k) (fun k => by rw [cC_o I kb (by decide)]; exact h4 k) (hL.C kb) h7 hm (by rw [cC_o I kb (by decide)]; exact hc) (fun k => by rw [cC_o I kb (by decide)]; exact hg k) hkb24 (by rw [rKb_eq (fun k => cC_o I kb (by decide) k)]; exact hkb) (cLs_51 (kb := kb) (fun j hj => by rw [cC_o I kb (by decide)]; exact h51 j hj) kb (Nat.le_refl _)) (cLs_0 _ kb) d (q + 1) 0 (cC I kb 347 52) J (vR (cC I kb) 1) (by omega) (FX.v1 _) (JokR.rf J) none none
  exact z
theorem k_rpainted {E : xCl} {ex : Bool} {I I0 : Nat → Nat → Int32} {J : Nat → Nat → Int64} {P : Nat → Nat → Nat} (hP : Pok P) (hI : xu I 347 2 0 = I0) {q : Nat} (hq10 : q ≤ 10) (hq : I0 347 13 = nI q) (hp1 : ∀ j, j < 10 → I0 361 j = 0 ∨ I0 361 j = 1) (ht : ∀ j, j < q → I0 362 j = -1 ∨ ∃ z, z < q ∧ z ≠ j ∧ I0 362 j = nI z ∧ I0 362 z = nI j) (h3 : ∀ k, vp_in (I0 379 k) 6) (h4 : ∀ k, vp_in (I0 380 k) 6) {L : Nat → (Nat → Int64) → Int64} (hL : LwR I0 L) (h7 : L7 L) {m : Nat} (hm : m ≤ 8) (hc : I0 347 14 = nI m) (hg : ∀ k, vp_in (I0 363 k) 6) {kb : Nat} (hkb24 : kb ≤ 24) (hkb : rKb I0 = nI kb) (hp : Pt I0) (hst : ∀ k, k < kb → I0 395 (4 * k) < 0 → vp_in (I0 395 (4 * k + 1)) 24) (h51 : ∀ j, j < kb → ¬ nI 51 ≤ I0 395 (4 * j)) (d : Nat) : ∃ e' J' W', xEx E ex (d + 13) yX11_painted [.ref 347] (SH, I, J, P) (some (.int (sPd (cM (cC I0 kb) L q m kb) (q + 1)))) (SH, wR (wE (rPl (cC I0 kb)) e') 1 W', J', P) ∧ JokR J J' ∧ FX (vR I0 0) W' := by
  refine QT.use (x_enterq (d := d + 12) cqX11_painted [some (.ref 347)] rfl (by simp [lg_sl, Value.category]) ?_)
  refine r_aload_n dX11_painted_0 rfl ?_
  refine r_iconst (v := 0) dX11_painted_1 (by decide) ?_
  refine r_putIv dX11_painted_2 flX11_193 ⟨_, _, _, rfl, Or.inl rfl⟩ sh_347 (by decide) rfl rfl rfl hI ?_
  refine r_aload_n dX11_painted_5 rfl ?_
  obtain ⟨e6, J6, W6, hx6, hj6, hf6⟩ := k_paintedBits (E := E) (ex := ex) (I := I0) (J := J) hP hq10 hq hp1 ht h3 h4 hL h7 hm hc hg hkb24 hkb hp hst h51 d
  refine r_cV0i dX11_painted_6 vlX11_528 sh_347 (Nat.le_of_ble_eq_true rfl) hx6 ?_
  exact r_iretq dX11_painted_9 rfl rfl (QT.mk hj6 hf6)
