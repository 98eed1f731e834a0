/-! the reference: years that are only tried -/
/-- who owes whom, tied when and due when: the same -/
def FX (V W : Nat → Nat → Int32) : Prop := ∀ f k, (f = 3 ∨ f = 4 ∨ f = 7 ∨ f = 8) → W f k = V f k
theorem FX.rf (V : Nat → Nat → Int32) : FX V V := fun _ _ _ => rfl
theorem FX.xu {V W : Nat → Nat → Int32} (h : FX V W) {f k : Nat} {v : Int32} (hf : f ≠ 3 ∧ f ≠ 4 ∧ f ≠ 7 ∧ f ≠ 8) : FX V (xu W f k v) := fun g q hg => by
  rw [xu_f _ _ (by omega)]; exact h g q hg
theorem FX.C {V W : Nat → Nat → Int32} (h : FX V W) (L : Nat → (Nat → Int64) → Int64) (n : Nat) (T : Nat → Nat → Int32) (j : Nat) : FX V (stC W L n T j) := by
  unfold stC; split
  · split
    · exact h.xu (by decide)
    · exact (h.xu (by decide)).xu (by decide)
  · exact h
theorem FX.CA {V W : Nat → Nat → Int32} (h : FX V W) (L : Nat → (Nat → Int64) → Int64) (n : Nat) (T : Nat → Nat → Int32) : ∀ j, FX V (sCA W L n T j)
  | 0 => h
  | j + 1 => (FX.CA h L n T j).C L n T j
theorem FX.fr {V W : Nat → Nat → Int32} (h : FX V W) (i w : Int32) : FX V (sFr W i w) := by
  unfold sFr; split
  · split
    · exact h.xu (by decide)
    · exact (h.xu (by decide)).xu (by decide)
  · exact h
theorem FX.FA {V W : Nat → Nat → Int32} (h : FX V W) (L : Nat → (Nat → Int64) → Int64) : ∀ j, FX V (sFA W L j)
  | 0 => h
  | j + 1 => by
    rw [sFA, stF]; split
    · exact (FX.FA h L j).fr _ _
    · exact FX.FA h L j
theorem FX.GA {V W : Nat → Nat → Int32} (h : FX V W) (L : Nat → (Nat → Int64) → Int64) : ∀ j, FX V (sGA W L j)
  | 0 => h
  | j + 1 => by
    rw [sGA, stG]; split
    · exact (FX.GA h L j).xu (by decide)
    · exact FX.GA h L j
theorem FX.pay {V W : Nat → Nat → Int32} (h : FX V W) (k : Nat) : FX V (sPay W k) := by
  unfold sPay sMv
  exact ((h.xu (by decide)).xu (by decide)).xu (by decide)
theorem FX.PA {V W : Nat → Nat → Int32} (h : FX V W) : ∀ j, FX V (sPA W j)
  | 0 => h
  | j + 1 => by
    rw [sPA, stP]; split
    · split
      · exact FX.PA h j
      · exact (FX.PA h j).pay j
    · exact FX.PA h j
theorem FX.go {V W : Nat → Nat → Int32} (h : FX V W) (L : Nat → (Nat → Int64) → Int64) (n : Nat) (T : Nat → Nat → Int32) (m : Nat) (lo : Int32) : FX V (sGo W L n T m lo) := by
  unfold sGo
  have h1 := h.CA L n T m
  dsimp only
  refine FX.xu ?_ (by decide)
  have h2 : FX V (if lo = 0 then sCA W L n T m else sFA (sCA W L n T m) L n) := by split; exact h1; exact h1.FA L n
  have h3 : FX V (if lo = 4 then (if lo = 0 then sCA W L n T m else sFA (sCA W L n T m) L n) else sGA (if lo = 0 then sCA W L n T m else sFA (sCA W L n T m) L n) L n) := by split; exact h2; exact h2.GA L n
  split
  · exact h3
  · exact h3.PA n
theorem FX.yr {V W : Nat → Nat → Int32} (h : FX V W) (L : Nat → (Nat → Int64) → Int64) (n : Nat) (T : Nat → Nat → Int32) (m : Nat) : ∀ j, FX V (sYr W L n T m j)
  | 0 => h
  | j + 1 => (FX.yr h L n T m j).go L n T m (-1)
theorem FX.yl {V W : Nat → Nat → Int32} (h : FX V W) (L : Nat → (Nat → Int64) → Int64) (n : Nat) (T : Nat → Nat → Int32) (m : Nat) (lo : Int32) : ∀ j, FX V (sYl W L n T m lo j)
  | 0 => h
  | j + 1 => (FX.yl h L n T m lo j).go L n T m lo
theorem Tok.yl {V : Nat → Nat → Int32} {n : Nat} (h : Tok V n) (L : Nat → (Nat → Int64) → Int64) (T : Nat → Nat → Int32) (m : Nat) (lo : Int32) : ∀ j, Tok (sYl V L n T m lo j) n
  | 0 => h
  | j + 1 => (Tok.yl h L T m lo j).go L T m lo
theorem vR_E (I : Nat → Nat → Int32) (e : Int32) (b : Nat) : vR (wE I e) b = vR I b := by
  funext f k; simp only [vR, wE_o I e (show (376 : Nat) ≠ 347 by decide), wE_o I e (show (377 : Nat) ≠ 347 by decide), wE_o I e (show (378 : Nat) ≠ 347 by decide), wE_o I e (show (379 : Nat) ≠ 347 by decide), wE_o I e (show (380 : Nat) ≠ 347 by decide), wE_o I e (show (381 : Nat) ≠ 347 by decide), wE_o I e (show (382 : Nat) ≠ 347 by decide), wE_o I e (show (383 : Nat) ≠ 347 by decide), wE_o I e (show (384 : Nat) ≠ 347 by decide), wE_o I e (show (385 : Nat) ≠ 347 by decide), wE_o I e (show (386 : Nat) ≠ 347 by decide), wE_o I e (show (387 : Nat) ≠ 347 by decide), wE_o I e (show (388 : Nat) ≠ 347 by decide), wE_o I e (show (389 : Nat) ≠ 347 by decide), wE_o I e (show (390 : Nat) ≠ 347 by decide)]
/-- the reference's rows of paint hold 0 and 1 -/
def Pt (I : Nat → Nat → Int32) : Prop := ∀ j, j < 24 → I 387 j = 0 ∨ I 387 j = 1
theorem wR0 {I : Nat → Nat → Int32} (hp : Pt I) (e : Int32) : wR (wE I e) 0 (vR I 0) = wE I e := by
  have h := wR_vR (wE I e) 0 (fun j hj => by rw [wE_o _ _ (by decide)]; exact hp _ (by omega))
  rw [vR_E] at h; exact h
/-- the end of a question that tries years: the tried bridge is left anyhow -/
def QT (I : Nat → Nat → Int32) (V : Nat → Nat → Int32) (J : Nat → Nat → Int64) (P : Nat → Nat → Nat) (r : Option Value) : Option Value → xS → Prop := fun r1 S1 => r1 = r ∧ ∃ e' J' W', S1 = (SH, wR (wE I e') 1 W', J', P) ∧ JokR J J' ∧ FX V W'
theorem QT.mk {I V W : Nat → Nat → Int32} {J : Nat → Nat → Int64} {P : Nat → Nat → Nat} {r : Option Value} {e' : Int32} {J' : Nat → Nat → Int64} (h : JokR J J') (h2 : FX V W) : QT I V J P r r (SH, wR (wE I e') 1 W, J', P) := ⟨rfl, e', J', W, rfl, h, h2⟩
theorem QT.use {E : xCl} {ex : Bool} {d : Nat} {y : MethodName} {vs : List Value} {S : xS} {I V : Nat → Nat → Int32} {J : Nat → Nat → Int64} {P : Nat → Nat → Nat} {r : Option Value} (h : ∃ r1 S1, xEx E ex d y vs S r1 S1 ∧ QT I V J P r r1 S1) : ∃ e' J' W', xEx E ex d y vs S r (SH, wR (wE I e') 1 W', J', P) ∧ JokR J J' ∧ FX V W' := by
  obtain ⟨r1, S1, h1, h2, e', J', W', h3, h4, h5⟩ := h
  subst h2; subst h3
  exact ⟨e', J', W', h1, h4, h5⟩
theorem k_eStr_t {E : xCl} {ex : Bool} {I : Nat → Nat → Int32} {e : Int32} {J : Nat → Nat → Int64} {P : Nat → Nat → Nat} (hP : Pok P) (hp : Pt I) {n : Nat} (hv : Vok (vR I 0) n) {x : Int32} (h : sSt (vR I 0) x) (d : Nat) : xEx E ex (d + 1) yX11_isStrand [.ref 347, .int x] (SH, wE I e, J, P) (some (.int 1)) (SH, wE I e, J, P) := by
  have z := k_rStr_t (E := E) (ex := ex) (I := I) (V := vR I 0) (e := e) (J := J) hP hv h d
  rw [wR0 hp] at z; exact z
theorem k_eStr_f {E : xCl} {ex : Bool} {I : Nat → Nat → Int32} {e : Int32} {J : Nat → Nat → Int64} {P : Nat → Nat → Nat} (hP : Pok P) (hp : Pt I) {n : Nat} (hv : Vok (vR I 0) n) {x : Int32} (h : ¬ sSt (vR I 0) x) (d : Nat) : xEx E ex (d + 1) yX11_isStrand [.ref 347, .int x] (SH, wE I e, J, P) (some (.int 0)) (SH, wE I e, J, P) := by
  have z := k_rStr_f (E := E) (ex := ex) (I := I) (V := vR I 0) (e := e) (J := J) hP hv h d
  rw [wR0 hp] at z; exact z
set_option maxHeartbeats 2000000 in
theorem l_rlife {E : xCl} {ex : Bool} {I : Nat → Nat → Int32} {J : Nat → Nat → Int64} {P : Nat → Nat → Nat} (hP : Pok P) {n : Nat} {V : Nat → Nat → Int32} (hv : Vok V n) (hk : Tok V n) {L : Nat → (Nat → Int64) → Int64} (hL : LwR I L) (h7 : L7 L) {m : Nat} (hm : m ≤ 8) (hc : I 347 14 = nI m) (hg : ∀ k, vp_in (I 363 k) 6) {s : Int32} (h : sSt V s) (d : Nat) : ∀ c j e1 J1, j + c = 99 → JokR J J1 → xR (xEx E ex (d + 8)) ex none yX11_life cX11_life (some .int) 21 [some (.ref 347), some (.int s), some (.int (nI j))] [] (SH, wR (wE (rPl I) e1) 1 (sYr V L n (rT I) m j), J1, P) (QT (rPl I) V J P (some (.int (sLf (sYr V L n (rT I) m) s c j)))) := by
  intro c
  induction c with
  | zero =>
    intro j e1 J1 hj hJ
    refine r_iload_n dX11_life_21 rfl ?_
    refine r_bipush (v := 99) dX11_life_22 (by decide) ?_
    refine r_ic_ge 49 dX11_life_24 (by decide) (fun c24 => ?_) (fun c24 => ?_)
    · refine r_bipush (v := 99) dX11_life_49 (by decide) ?_
      exact r_iretq dX11_life_51 rfl rfl (by rw [sLf, show j = 99 by omega]; exact QT.mk hJ ((FX.rf V).yr L n (rT I) m _))
    · exact absurd (by rw [show j = 99 by omega]; decide) c24
  | succ c ih =>
    intro j e1 J1 hj hJ
    have hvj := hv.yr L (rT I) m j
    refine r_iload_n dX11_life_21 rfl ?_
    refine r_bipush (v := 99) dX11_life_22 (by decide) ?_
    refine r_ic_ge 49 dX11_life_24 (by decide) (fun c24 => ?_) (fun c24 => ?_)
    · exact absurd c24 (nI_ge (a := j) (b := 99) (by omega) (by omega))
    · refine r_aload_n dX11_life_27 rfl ?_
      refine r_iconst (v := 1) dX11_life_28 (by decide) ?_
      refine r_iload_n dX11_life_29 rfl ?_
      by_cases h30 : sYr V L n (rT I) m j 9 s.toNatClampNeg = 0
      · refine r_cV2i dX11_life_30 vlX11_418 sh_347 (Nat.le_of_ble_eq_true rfl) (k_rTh_t (b := 1) hP (by decide) (vin12 h.1 h.2.2) h30 (d + 7)) ?_
        have q30 := (hvj.th h.1 (by rw [hvj.2.1, ← hv.2.1]; exact h.2.1)).mpr h30
        refine r_if_ne 38 dX11_life_33 (by decide) (fun c33 => ?_) (fun c33 => ?_)
        · refine r_aload_n dX11_life_38 rfl ?_
          refine r_iconst (v := 1) dX11_life_39 (by decide) ?_
          obtain ⟨e40, J40, hx40, hj40⟩ := k_goOn (E := E) (ex := ex) (I := rPl I) (V := (sYr V L n (rT I) m j)) (e := e1) (J := J1) hP (b := 1) (by decide) hvj (hk.yr L (rT I) m j) hL.pl h7 hm ((rPl_k (by decide) (by decide) (by decide)).trans hc) (fun k => by rw [rPl_o (by decide)]; exact hg k) (lo := -1) ⟨fun _ => by decide, fun _ => rPl_69 I⟩ ⟨fun _ => by decide, fun _ => rPl_71 I⟩ ⟨fun _ => by decide, fun _ => rPl_70 I⟩ d
          rw [rPl_T] at hx40
          have hj40 := hJ.tr hj40
          refine r_cV1v dX11_life_40 vlX11_479 sh_347 (Nat.le_of_ble_eq_true rfl) hx40 ?_
          refine r_iinc2 (v := 1) dX11_life_43 (by decide) rfl ?_
          refine r_goto 21 dX11_life_46 (by decide) ?_
          rw [nI_1, sLf, if_pos q30]; exact ih (j + 1) _ _ (by omega) hj40
        · exact absurd c33 (by decide)
      · refine r_cV2i dX11_life_30 vlX11_418 sh_347 (Nat.le_of_ble_eq_true rfl) (k_rTh_f (b := 1) hP (by decide) (vin12 h.1 h.2.2) h30 (d + 7)) ?_
        have q30 := fun z => h30 ((hvj.th h.1 (by rw [hvj.2.1, ← hv.2.1]; exact h.2.1)).mp z)
        refine r_if_ne 38 dX11_life_33 (by decide) (fun c33 => ?_) (fun c33 => ?_)
        · exact absurd c33 (by decide)
        · refine r_iload_n dX11_life_36 rfl ?_
          exact r_iretq dX11_life_37 rfl rfl (by rw [sLf, if_neg q30]; exact QT.mk hJ ((FX.rf V).yr L n (rT I) m j))
set_option maxHeartbeats 1000000 in
theorem k_rlife_n {E : xCl} {ex : Bool} {I I0 : Nat → Nat → Int32} {e : Int32} {J : Nat → Nat → Int64} {P : Nat → Nat → Nat} (hP : Pok P) (hI : xu I 347 2 0 = I0) (hp : Pt I0) {n : Nat} (hv : Vok (vR I0 0) n) {s : Int32} (h : ¬ sSt (vR I0 0) s) (d : Nat) : xEx E ex (d + 2) yX11_life [.ref 347, .int s] (SH, wE I e, J, P) (some (.int (-1))) (SH, wE I0 e, J, P) := by
  refine x_enter cqX11_life [some (.ref 347), some (.int s), none] rfl (by simp [lg_sl, Value.category]) ?_
  refine r_aload_n dX11_life_0 rfl ?_
  refine r_iconst (v := 0) dX11_life_1 (by decide) ?_
  refine r_putIv dX11_life_2 flX11_193 ⟨_, _, _, rfl, Or.inl rfl⟩ sh_347 (by decide) rfl rfl rfl ((wE_c _ _ _ (by decide)).trans (congrArg (fun z => wE z _) hI)) ?_
  refine r_aload_n dX11_life_5 rfl ?_
  refine r_iload_n dX11_life_6 rfl ?_
  refine r_cV1i dX11_life_7 vlX11_465 sh_347 (Nat.le_of_ble_eq_true rfl) (k_eStr_f hP hp hv h d) ?_
  refine r_if_ne 15 dX11_life_10 (by decide) (fun c10 => ?_) (fun c10 => ?_)
  · exact absurd c10 (by decide)
  · refine r_iconst (v := (-1)) dX11_life_13 (by decide) ?_
    exact r_iret dX11_life_14 rfl rfl rfl rfl
set_option maxHeartbeats 2000000 in
theorem k_rlife {E : xCl} {ex : Bool} {I I0 : Nat → Nat → Int32} {e : Int32} {J : Nat → Nat → Int64} {P : Nat → Nat → Nat} (hP : Pok P) (hI : xu I 347 2 0 = I0)  (hp : Pt I0) {n : Nat} (hv : Vok (vR I0 0) n) (hk : Tok (vR I0 0) n) {L : Nat → (Nat → Int64) → Int64} (hL : LwR I0 L) (h7 : L7 L) {m : Nat} (hm : m ≤ 8) (hc : I0 347 14 = nI m) (hg : ∀ k, vp_in (I0 363 k) 6) {s : Int32} (h : sSt (vR I0 0) s) (d : Nat) : ∃ e' J' W', xEx E ex (d + 9) yX11_life [.ref 347, .int s] (SH, wE I e, J, P) (some (.int (sLf (sYr (vR I0 0) L n (rT I0) m) s 99 0))) (SH, wR (wE (rPl I0) e') 1 W', J', P) ∧ JokR J J' ∧ FX (vR I0 0) W' := by
  refine QT.use (x_enterq (d := d + 8) cqX11_life [some (.ref 347), some (.int s), none] rfl (by simp [lg_sl, Value.category]) ?_)
  refine r_aload_n dX11_life_0 rfl ?_
  refine r_iconst (v := 0) dX11_life_1 (by decide) ?_
  refine r_putIv dX11_life_2 flX11_193 ⟨_, _, _, rfl, Or.inl rfl⟩ sh_347 (by decide) rfl rfl rfl ((wE_c _ _ _ (by decide)).trans (congrArg (fun z => wE z _) hI)) ?_
  refine r_aload_n dX11_life_5 rfl ?_
  refine r_iload_n dX11_life_6 rfl ?_
  refine r_cV1i dX11_life_7 vlX11_465 sh_347 (Nat.le_of_ble_eq_true rfl) (k_eStr_t hP hp hv h (d + 7)) ?_
  refine r_if_ne 15 dX11_life_10 (by decide) (fun c10 => ?_) (fun c10 => ?_)
  · refine r_aload_n dX11_life_15 rfl ?_
    refine r_cV0v dX11_life_16 vlX11_482 sh_347 (Nat.le_of_ble_eq_true rfl) (k_layTried hP hp (d + 6)) ?_
    refine r_iconst (v := 0) dX11_life_19 (by decide) ?_
    refine r_istore_n2 dX11_life_20 rfl ?_
    exact l_rlife hP hv hk hL h7 hm hc hg h d 99 0 e J (by omega) (JokR.rf J)
  · exact absurd c10 (by decide)
/-- the first of the told crossings of a year that was refused -/
def rAf (T V : Nat → Nat → Int32) (y : Int32) : Nat → Nat → Int32
  | 0, _ => -1
  | c + 1, j => if T 6 j = y ∧ V 11 j = 2 then nI j else rAf T V y c (j + 1)
def rAh (T : Nat → Nat → Int32) (Y : Nat → Nat → Nat → Int32) (m : Nat) : Nat → Nat → Int32
  | 0, _ => -2
  | c + 1, j => if rAf T (Y (j + 1)) (Y j 15 0) m 0 = -1 then rAh T Y m c (j + 1) else rAf T (Y (j + 1)) (Y j 15 0) m 0
theorem rAf_n (T V : Nat → Nat → Int32) (y : Int32) : ∀ c j, j + c < 2 ^ 31 → rAf T V y c j = -1 ∨ ∃ q, j ≤ q ∧ q < j + c ∧ rAf T V y c j = nI q
  | 0, _, _ => Or.inl rfl
  | c + 1, j, h => by
    rw [rAf]; split
    · exact Or.inr ⟨j, by omega, by omega, rfl⟩
    · rcases rAf_n T V y c (j + 1) (by omega) with h2 | ⟨q, h2, h3, h4⟩
      · exact Or.inl h2
      · exact Or.inr ⟨q, by omega, by omega, h4⟩
theorem nI_nm1 {q : Nat} (h : q < 2 ^ 31) : ¬ nI q = -1 := fun z => by
  have := nI_pos h; rw [z] at this; exact this (by decide)
set_option maxHeartbeats 2000000 in
theorem t_rahead {E : xCl} {ex : Bool} {I V : Nat → Nat → Int32} {e1 : Int32} {J1 : Nat → Nat → Int64} {P : Nat → Nat → Nat} (hP : Pok P) {m : Nat} (hm : m ≤ 8) (hc : I 347 14 = nI m) {x1 x2 y : Int32} (d : Nat) {Q : Option Value → xS → Prop} : ∀ c q, q + c = m → (K1 : rAf (rT I) V y c q = -1 → ∀ k4, xR (xEx E ex d) ex none yX11_ahead cX11_ahead (some .int) 86 [some (.ref 347), some (.int x1), some (.int x2), some (.int y), some (.int k4)] [] (SH, wR (wE (rPl I) e1) 1 V, J1, P) Q) → (K2 : ¬ rAf (rT I) V y c q = -1 → Q (some (.int (rAf (rT I) V y c q))) (SH, wR (wE (rPl I) e1) 1 V, J1, P)) → xR (xEx E ex d) ex none yX11_ahead cX11_ahead (some .int) 43 [some (.ref 347), some (.int x1), some (.int x2), some (.int y), some (.int (nI q))] [] (SH, wR (wE (rPl I) e1) 1 V, J1, P) Q := by
  intro c
  induction c with
  | zero =>
    intro q hq K1 K2
    refine r_iload dX11_ahead_43 rfl ?_
    refine r_aload_n dX11_ahead_45 rfl ?_
    refine r_getIv dX11_ahead_46 flX11_276 sh_347 (by decide) rfl ((wR_o _ _ _ (by decide) _).trans ((wE_f _ _ (by decide)).trans ((rPl_k (by decide) (by decide) (by decide)).trans hc))) ?_
    refine r_ic_ge 86 dX11_ahead_49 (by decide) (fun c49 => ?_) (fun c49 => ?_)
    · exact K1 rfl _
    · exact absurd (nI_le (by omega) (by omega)) c49
  | succ c ih =>
    intro q hq K1 K2
    refine r_iload dX11_ahead_43 rfl ?_
    refine r_aload_n dX11_ahead_45 rfl ?_
    refine r_getIv dX11_ahead_46 flX11_276 sh_347 (by decide) rfl ((wR_o _ _ _ (by decide) _).trans ((wE_f _ _ (by decide)).trans ((rPl_k (by decide) (by decide) (by decide)).trans hc))) ?_
    refine r_ic_ge 86 dX11_ahead_49 (by decide) (fun c49 => ?_) (fun c49 => ?_)
    · exact absurd c49 (nI_ge (by omega) (by omega))
    · refine r_aload_n dX11_ahead_52 rfl ?_
      refine r_getR dX11_ahead_53 flX11_66 sh_347 (by decide) rfl (pf_347_35 hP) ?_
      refine r_iload dX11_ahead_56 rfl ?_
      refine r_ialv dX11_ahead_58 sh_365 (iz8 (vp_in_nI (by omega) (by omega))) ((wR_o _ _ _ (by decide) _).trans ((wE_o _ _ (by decide) _).trans ((rPl_o (by decide) _).trans (congrArg (I 365) (cl8 (by omega) hm))))) ?_
      refine r_iload_n dX11_ahead_59 rfl ?_
      refine r_ic_ne 80 dX11_ahead_60 (by decide) (fun c60 => ?_) (fun c60 => ?_)
      · refine r_iinc4 (v := 1) dX11_ahead_80 (by decide) rfl ?_
        refine r_goto 43 dX11_ahead_83 (by decide) ?_
        rw [nI_1]; have z : rAf (rT I) V y (c + 1) q = rAf (rT I) V y c (q + 1) := if_neg (fun z => c60 z.1)
        rw [z] at K1 K2; exact ih (q + 1) (by omega) K1 K2
      · refine r_aload_n dX11_ahead_63 rfl ?_
        refine r_getR dX11_ahead_64 flX11_136 sh_347 (by decide) rfl (pf_347_65 hP) ?_
        refine r_bipush (v := 8) dX11_ahead_67 (by decide) ?_
        refine r_iload dX11_ahead_69 rfl ?_
        refine r_iadd dX11_ahead_71 ?_
        refine r_ialv dX11_ahead_72 sh_388 (io8 (vp_in_nI (by omega) (by omega))) ((rO11 _ _ (vp_in_nI (by omega) (by omega))).trans (congrArg (V 11) (cl8 (by omega) hm))) ?_
        refine r_iconst (v := 2) dX11_ahead_73 (by decide) ?_
        refine r_ic_ne 80 dX11_ahead_74 (by decide) (fun c74 => ?_) (fun c74 => ?_)
        · refine r_iinc4 (v := 1) dX11_ahead_80 (by decide) rfl ?_
          refine r_goto 43 dX11_ahead_83 (by decide) ?_
          rw [nI_1]; have z : rAf (rT I) V y (c + 1) q = rAf (rT I) V y c (q + 1) := if_neg (fun z => c74 z.2)
          rw [z] at K1 K2; exact ih (q + 1) (by omega) K1 K2
        · refine r_iload dX11_ahead_77 rfl ?_
          exact r_iretq dX11_ahead_79 rfl rfl (by have z : rAf (rT I) V y (c + 1) q = nI q := if_pos ⟨c60, c74⟩; have w := K2 (by rw [z]; exact nI_nm1 (by omega)); rw [z] at w; exact w)
set_option maxHeartbeats 2000000 in
theorem l_rahead {E : xCl} {ex : Bool} {I : Nat → Nat → Int32} {J : Nat → Nat → Int64} {P : Nat → Nat → Nat} (hP : Pok P) {n : Nat} {V : Nat → Nat → Int32} (hv : Vok V n) (hk : Tok V n) {L : Nat → (Nat → Int64) → Int64} (hL : LwR I L) (h7 : L7 L) {m : Nat} (hm : m ≤ 8) (hc : I 347 14 = nI m) (hg : ∀ k, vp_in (I 363 k) 6) {k : Nat} (hk99 : k ≤ 99) (d : Nat) : ∀ c j e1 J1 y3 y4, j + c = k → JokR J J1 → xR (xEx E ex (d + 8)) ex none yX11_ahead cX11_ahead (some .int) 23 [some (.ref 347), some (.int (nI k)), some (.int (nI j)), y3, y4] [] (SH, wR (wE (rPl I) e1) 1 (sYr V L n (rT I) m j), J1, P) (QT (rPl I) V J P (some (.int (rAh (rT I) (sYr V L n (rT I) m) m c j)))) := by
  intro c
  induction c with
  | zero =>
    intro j e1 J1 y3 y4 hj hJ
    refine r_iload_n dX11_ahead_23 rfl ?_
    refine r_iload_n dX11_ahead_24 rfl ?_
    refine r_ic_ge 92 dX11_ahead_25 (by decide) (fun c25 => ?_) (fun c25 => ?_)
    · refine r_bipush (v := (-2)) dX11_ahead_92 (by decide) ?_
      exact r_iretq dX11_ahead_94 rfl rfl (by rw [rAh]; exact QT.mk hJ ((FX.rf V).yr L n (rT I) m j))
    · exact absurd (nI_le (by omega) (by omega)) c25
  | succ c ih =>
    intro j e1 J1 y3 y4 hj hJ
    refine r_iload_n dX11_ahead_23 rfl ?_
    refine r_iload_n dX11_ahead_24 rfl ?_
    refine r_ic_ge 92 dX11_ahead_25 (by decide) (fun c25 => ?_) (fun c25 => ?_)
    · exact absurd c25 (nI_ge (by omega) (by omega))
    · refine r_aload_n dX11_ahead_28 rfl ?_
      refine r_getR dX11_ahead_29 flX11_139 sh_347 (by decide) rfl (pf_347_66 hP) ?_
      refine r_iconst (v := 1) dX11_ahead_32 (by decide) ?_
      refine r_ialv dX11_ahead_33 sh_389 ix2_1 (rS15_1 _ _) ?_
      refine r_istore_n3 dX11_ahead_34 rfl ?_
      refine r_aload_n dX11_ahead_35 rfl ?_
      refine r_iconst (v := 1) dX11_ahead_36 (by decide) ?_
      obtain ⟨e37, J37, hx37, hj37⟩ := k_goOn (E := E) (ex := ex) (I := rPl I) (V := (sYr V L n (rT I) m j)) (e := e1) (J := J1) hP (b := 1) (by decide) (hv.yr L (rT I) m j) (hk.yr L (rT I) m j) hL.pl h7 hm ((rPl_k (by decide) (by decide) (by decide)).trans hc) (fun k => by rw [rPl_o (by decide)]; exact hg k) (lo := -1) ⟨fun _ => by decide, fun _ => rPl_69 I⟩ ⟨fun _ => by decide, fun _ => rPl_71 I⟩ ⟨fun _ => by decide, fun _ => rPl_70 I⟩ d
      rw [rPl_T] at hx37
      have hj37 := hJ.tr hj37
      refine r_cV1v dX11_ahead_37 vlX11_479 sh_347 (Nat.le_of_ble_eq_true rfl) hx37 ?_
      refine r_iconst (v := 0) dX11_ahead_40 (by decide) ?_
      refine r_istore4 dX11_ahead_41 rfl ?_
      refine t_rahead (V := (sYr V L n (rT I) m (j + 1))) hP hm hc (d + 8) m 0 (Nat.zero_add _) (fun hz k4 => ?_) (fun hz => ?_)
      · refine r_iinc2 (v := 1) dX11_ahead_86 (by decide) rfl ?_
        refine r_goto 23 dX11_ahead_89 (by decide) ?_
        rw [nI_1, rAh, if_pos hz]; exact ih (j + 1) _ _ _ _ (by omega) hj37
      · rw [rAh, if_neg hz]; exact QT.mk hj37 ((FX.rf V).yr L n (rT I) m (j + 1))
set_option maxHeartbeats 1000000 in
theorem k_rahead_n {E : xCl} {ex : Bool} {I I0 : Nat → Nat → Int32} {e : Int32} {J : Nat → Nat → Int64} {P : Nat → Nat → Nat} (hP : Pok P) (hI : xu I 347 2 0 = I0) {x : Int32} (h : ¬ (¬ x < 0 ∧ ¬ 99 < x)) (d : Nat) : xEx E ex (d + 2) yX11_ahead [.ref 347, .int x] (SH, wE I e, J, P) (some (.int (-1))) (SH, wE I0 e, J, P) := by
  refine x_enter cqX11_ahead [some (.ref 347), some (.int x), none, none, none] rfl (by simp [lg_sl, Value.category]) ?_
  refine r_aload_n dX11_ahead_0 rfl ?_
  refine r_iconst (v := 0) dX11_ahead_1 (by decide) ?_
  refine r_putIv dX11_ahead_2 flX11_193 ⟨_, _, _, rfl, Or.inl rfl⟩ sh_347 (by decide) rfl rfl rfl ((wE_c _ _ _ (by decide)).trans (congrArg (fun z => wE z _) hI)) ?_
  refine r_iload_n dX11_ahead_5 rfl ?_
  refine r_iconst (v := 0) dX11_ahead_6 (by decide) ?_
  refine r_bipush (v := 99) dX11_ahead_7 (by decide) ?_
  refine r_cS3i dX11_ahead_9 slX11_238 (Nat.le_of_ble_eq_true rfl) (k_isIn_f h d) ?_
  refine r_if_ne 17 dX11_ahead_12 (by decide) (fun c12 => ?_) (fun c12 => ?_)
  · exact absurd c12 (by decide)
  · refine r_iconst (v := (-1)) dX11_ahead_15 (by decide) ?_
    exact r_iret dX11_ahead_16 rfl rfl rfl rfl
set_option maxHeartbeats 2000000 in
theorem k_rahead {E : xCl} {ex : Bool} {I I0 : Nat → Nat → Int32} {e : Int32} {J : Nat → Nat → Int64} {P : Nat → Nat → Nat} (hP : Pok P) (hI : xu I 347 2 0 = I0)  (hp : Pt I0) {n : Nat} (hv : Vok (vR I0 0) n) (hk : Tok (vR I0 0) n) {L : Nat → (Nat → Int64) → Int64} (hL : LwR I0 L) (h7 : L7 L) {m : Nat} (hm : m ≤ 8) (hc : I0 347 14 = nI m) (hg : ∀ k, vp_in (I0 363 k) 6) {k : Nat} (hk99 : k ≤ 99) (d : Nat) : ∃ e' J' W', xEx E ex (d + 9) yX11_ahead [.ref 347, .int (nI k)] (SH, wE I e, J, P) (some (.int (rAh (rT I0) (sYr (vR I0 0) L n (rT I0) m) m k 0))) (SH, wR (wE (rPl I0) e') 1 W', J', P) ∧ JokR J J' ∧ FX (vR I0 0) W' := by
  refine QT.use (x_enterq (d := d + 8) cqX11_ahead [some (.ref 347), some (.int (nI k)), none, none, none] rfl (by simp [lg_sl, Value.category]) ?_)
  refine r_aload_n dX11_ahead_0 rfl ?_
  refine r_iconst (v := 0) dX11_ahead_1 (by decide) ?_
  refine r_putIv dX11_ahead_2 flX11_193 ⟨_, _, _, rfl, Or.inl rfl⟩ sh_347 (by decide) rfl rfl rfl ((wE_c _ _ _ (by decide)).trans (congrArg (fun z => wE z _) hI)) ?_
  refine r_iload_n dX11_ahead_5 rfl ?_
  refine r_iconst (v := 0) dX11_ahead_6 (by decide) ?_
  refine r_bipush (v := 99) dX11_ahead_7 (by decide) ?_
  refine r_cS3i dX11_ahead_9 slX11_238 (Nat.le_of_ble_eq_true rfl) (k_isIn_t ⟨nI_pos (by omega), nI_nlt (a := 99) (b := k) (by omega) (by omega)⟩ (d + 7)) ?_
  refine r_if_ne 17 dX11_ahead_12 (by decide) (fun c12 => ?_) (fun c12 => ?_)
  · refine r_aload_n dX11_ahead_17 rfl ?_
    refine r_cV0v dX11_ahead_18 vlX11_482 sh_347 (Nat.le_of_ble_eq_true rfl) (k_layTried hP hp (d + 6)) ?_
    refine r_iconst (v := 0) dX11_ahead_21 (by decide) ?_
    refine r_istore_n2 dX11_ahead_22 rfl ?_
    exact l_rahead hP hv hk hL h7 hm hc hg hk99 d k 0 e J none none (Nat.zero_add _) (JokR.rf J)
  · exact absurd c12 (by decide)
