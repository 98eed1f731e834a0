/-! the reference: a law worked out, and within bounds -/
def upL (g : Nat → Int64) (k : Nat) (v : Int64) : Nat → Int64 := fun q => if q = k then v else g q
def wV (J : Nat → Nat → Int64) (g : Nat → Int64) : Nat → Nat → Int64 := fun a k => if a = 375 then g k else J a k
theorem wV_x (J : Nat → Nat → Int64) (g : Nat → Int64) (k : Nat) (v : Int64) : xu (wV J g) 375 k v = wV J (upL g k v) := by
  funext a q
  simp only [xu, wV, upL]
  by_cases h : a = 375
  · subst h; simp
  · simp [h]
theorem wV_v (J : Nat → Nat → Int64) (g : Nat → Int64) : wV J g 375 = g := by funext k; simp [wV]
theorem wV_n (J : Nat → Nat → Int64) (g : Nat → Int64) : wV J g 374 = J 374 := by funext k; simp [wV]
theorem wV_0 (J : Nat → Nat → Int64) : wV J (J 375) = J := by
  funext a k
  simp only [wV]
  split
  · rename_i h; rw [h]
  · rfl
def rRn (kn pt ot : Nat → Int32) (N : Nat → Int64) : Nat → Nat → Int32 → (Nat → Int64) → Int32 × (Nat → Int64)
  | 0, _, e, g => (e, g)
  | c + 1, p, e, g => rRn kn pt ot N c (p + 1) (rVl kn pt ot N g e p).1 (upL g p (rVl kn pt ot N g e p).2)
def JokR (J J' : Nat → Nat → Int64) : Prop := ∀ a k, a ≠ 374 → a ≠ 375 → J' a k = J a k
theorem JokR.rf (J : Nat → Nat → Int64) : JokR J J := fun _ _ _ _ => rfl
theorem JokR.tr {J J1 J2 : Nat → Nat → Int64} (h1 : JokR J J1) (h2 : JokR J1 J2) : JokR J J2 := fun a k h h' => (h2 a k h h').trans (h1 a k h h')
theorem JokR.v (J : Nat → Nat → Int64) (g : Nat → Int64) : JokR J (wV J g) := fun a k _ h => by simp [wV, h]
theorem nI_pr {n : Nat} (h : 0 < n) : nI n - 1 = nI (n - 1) := by have := nI_pred (n - 1); rwa [show n - 1 + 1 = n by omega] at this
set_option maxHeartbeats 2000000 in
theorem l_lawOf {E : xCl} {ex : Bool} {I : Nat → Nat → Int32} {J : Nat → Nat → Int64} {P : Nat → Nat → Nat} (hP : Pok P) {w : Nat} (hw : w < 3) {s e2 : Nat} (hs : I 367 w = nI s) (he : I 368 w = nI e2) (hse : s < e2) (he2 : e2 ≤ 64) (hk : ∀ i, s ≤ i → i < e2 → kOk (I 369) (I 370) (I 371) i) (d : Nat) : ∀ c j e g, j + c = e2 → s ≤ j → xR (xEx E ex (d + 2)) ex none yX11_lawOf cX11_lawOf (some .long) 12 [some (.ref 347), some (.int (nI w)), some (.int (nI j))] [] (SH, wE I e, wV J g, P) (xEq (some (.long (if (rRn (I 369) (I 370) (I 371) (J 374) c j e g).1 = 0 then (rRn (I 369) (I 370) (I 371) (J 374) c j e g).2 (e2 - 1) else 0))) (SH, wE I (rRn (I 369) (I 370) (I 371) (J 374) c j e g).1, wV J (rRn (I 369) (I 370) (I 371) (J 374) c j e g).2, P)) := by
  intro c
  induction c with
  | zero =>
    intro j e g hj hsj
    refine r_iload_n dX11_lawOf_12 rfl ?_
    refine r_aload_n dX11_lawOf_13 rfl ?_
    refine r_getR dX11_lawOf_14 flX11_75 sh_347 (by decide) rfl (pf_347_38 hP) ?_
    refine r_iload_n dX11_lawOf_17 rfl ?_
    refine r_ialv dX11_lawOf_18 sh_368 (vp_in_nI (by omega) (by omega)) ((wE_o _ _ (by decide) _).trans ((congrArg (I 368) (nI_clamp (by omega))).trans he)) ?_
    refine r_ic_ge 39 dX11_lawOf_19 (by decide) (fun c19 => ?_) (fun c19 => ?_)
    · refine r_aload_n dX11_lawOf_39 rfl ?_
      refine r_getIv dX11_lawOf_40 flX11_371 sh_347 (by decide) rfl (wE_e _ _) ?_
      refine r_if_eq 50 dX11_lawOf_43 (by decide) (fun c43 => ?_) (fun c43 => ?_)
      · refine r_aload_n dX11_lawOf_50 rfl ?_
        refine r_getR dX11_lawOf_51 flX11_97 sh_347 (by decide) rfl (pf_347_51 hP) ?_
        refine r_aload_n dX11_lawOf_54 rfl ?_
        refine r_getR dX11_lawOf_55 flX11_75 sh_347 (by decide) rfl (pf_347_38 hP) ?_
        refine r_iload_n dX11_lawOf_58 rfl ?_
        refine r_ialv dX11_lawOf_59 sh_368 (vp_in_nI (by omega) (by omega)) ((wE_o _ _ (by decide) _).trans ((congrArg (I 368) (nI_clamp (by omega))).trans he)) ?_
        refine r_iconst (v := 1) dX11_lawOf_60 (by decide) ?_
        refine r_isub dX11_lawOf_61 ?_
        refine r_lalv dX11_lawOf_62 sh_375 (by rw [nI_pr (by omega)]; exact vp_in_nI (by omega) (by omega)) (v := g (e2 - 1)) (by rw [wV_v, nI_pr (by omega), nI_clamp (by omega)]) ?_
        (exact r_lret dX11_lawOf_63 rfl (by rw [rRn, if_pos c43]) rfl)
      · refine r_lconst (v := 0) dX11_lawOf_46 (by decide) ?_
        refine r_goto 63 dX11_lawOf_47 (by decide) ?_
        (exact r_lret dX11_lawOf_63 rfl (by rw [rRn, if_neg c43]) rfl)
    · exact absurd (nI_le (by omega) (by omega)) c19
  | succ c ih =>
    intro j e g hj hsj
    refine r_iload_n dX11_lawOf_12 rfl ?_
    refine r_aload_n dX11_lawOf_13 rfl ?_
    refine r_getR dX11_lawOf_14 flX11_75 sh_347 (by decide) rfl (pf_347_38 hP) ?_
    refine r_iload_n dX11_lawOf_17 rfl ?_
    refine r_ialv dX11_lawOf_18 sh_368 (vp_in_nI (by omega) (by omega)) ((wE_o _ _ (by decide) _).trans ((congrArg (I 368) (nI_clamp (by omega))).trans he)) ?_
    refine r_ic_ge 39 dX11_lawOf_19 (by decide) (fun c19 => ?_) (fun c19 => ?_)
    · exact absurd c19 (nI_ge (by omega) (by omega))
    · refine r_aload_n dX11_lawOf_22 rfl ?_
      refine r_getR dX11_lawOf_23 flX11_97 sh_347 (by decide) rfl (pf_347_51 hP) ?_
      refine r_iload_n dX11_lawOf_26 rfl ?_
      refine r_aload_n dX11_lawOf_27 rfl ?_
      refine r_iload_n dX11_lawOf_28 rfl ?_
      refine r_cV1l dX11_lawOf_29 vlX11_424 sh_347 (Nat.le_of_ble_eq_true rfl) (by have z := k_valueOf (E := E) (ex := ex) (e := e) (J := wV J g) hP (i := j) (by omega) (hk j (by omega) (by omega)) d; rw [wV_v, wV_n] at z; exact z) ?_
      refine r_lasv dX11_lawOf_32 sh_375 (vp_in_nI (by omega) (by omega)) ((congrArg (fun z => xu _ _ z _) (nI_clamp (n := j) (by omega))).trans (wV_x _ _ _ _)) ?_
      refine r_iinc2 (v := 1) dX11_lawOf_33 (by decide) rfl ?_
      refine r_goto 12 dX11_lawOf_36 (by decide) ?_
      rw [nI_1]; rw [rRn]; exact ih (j + 1) _ _ (by omega) (by omega)
set_option maxHeartbeats 1000000 in
theorem k_lawOf {E : xCl} {ex : Bool} {I : Nat → Nat → Int32} {e : Int32} {J : Nat → Nat → Int64} {P : Nat → Nat → Nat} (hP : Pok P) {w : Nat} (hw : w < 3) {s e2 : Nat} (hs : I 367 w = nI s) (he : I 368 w = nI e2) (hse : s < e2) (he2 : e2 ≤ 64) (hk : ∀ i, s ≤ i → i < e2 → kOk (I 369) (I 370) (I 371) i) (d : Nat) : xEx E ex (d + 3) yX11_lawOf [.ref 347, .int (nI w)] (SH, wE I e, J, P) (some (.long (if (rRn (I 369) (I 370) (I 371) (J 374) (e2 - s) s 0 (J 375)).1 = 0 then (rRn (I 369) (I 370) (I 371) (J 374) (e2 - s) s 0 (J 375)).2 (e2 - 1) else 0))) (SH, wE I (rRn (I 369) (I 370) (I 371) (J 374) (e2 - s) s 0 (J 375)).1, wV J (rRn (I 369) (I 370) (I 371) (J 374) (e2 - s) s 0 (J 375)).2, P) := by
  refine x_enter cqX11_lawOf [some (.ref 347), some (.int (nI w)), none] rfl (by simp [lg_sl, Value.category]) ?_
  refine r_aload_n dX11_lawOf_0 rfl ?_
  refine r_iconst (v := 0) dX11_lawOf_1 (by decide) ?_
  refine r_putIv dX11_lawOf_2 flX11_371 ⟨_, _, _, rfl, Or.inl rfl⟩ sh_347 (by decide) rfl rfl rfl (wE_x _ _ _) ?_
  refine r_aload_n dX11_lawOf_5 rfl ?_
  refine r_getR dX11_lawOf_6 flX11_72 sh_347 (by decide) rfl (pf_347_37 hP) ?_
  refine r_iload_n dX11_lawOf_9 rfl ?_
  refine r_ialv dX11_lawOf_10 sh_367 (vp_in_nI (by omega) (by omega)) ((wE_o _ _ (by decide) _).trans ((congrArg (I 367) (nI_clamp (by omega))).trans hs)) ?_
  refine r_istore_n2 dX11_lawOf_11 rfl ?_
  have z := l_lawOf (E := E) (ex := ex) (I := I) (J := J) hP hw hs he hse he2 hk d (e2 - s) s 0 (J 375) (by omega) (Nat.le_refl _)
  rw [wV_0] at z; exact z
/-- names are numbers of 32 bits -/
def Nok (N : Nat → Int64) : Prop := ∀ q, q < 7 → ∃ x : Int32, N q = x.toInt64
/-- one law of the reference: not told, or told and worth L -/
def LwR1 (I : Nat → Nat → Int32) (w : Nat) (L : (Nat → Int64) → Int64) : Prop := (I 366 w = 0 ∧ ∀ N, Nok N → L N = -9223372036854775808) ∨ (I 366 w = 1 ∧ ∃ s e2 : Nat, I 367 w = nI s ∧ I 368 w = nI e2 ∧ s < e2 ∧ e2 ≤ 64 ∧ (∀ i, s ≤ i → i < e2 → kOk (I 369) (I 370) (I 371) i) ∧
  ∀ N g, Nok N → ((rRn (I 369) (I 370) (I 371) N (e2 - s) s 0 g).1 = 0 → (rRn (I 369) (I 370) (I 371) N (e2 - s) s 0 g).2 (e2 - 1) = L N ∧ ¬ L N = -9223372036854775808) ∧ (¬ (rRn (I 369) (I 370) (I 371) N (e2 - s) s 0 g).1 = 0 → L N = -9223372036854775808))
def LwR (I : Nat → Nat → Int32) (L : Nat → (Nat → Int64) → Int64) : Prop := LwR1 I 0 (L 0) ∧ LwR1 I 1 (L 1) ∧ LwR1 I 2 (L 2)
theorem LwR1.of {I I' : Nat → Nat → Int32} {w : Nat} {L : (Nat → Int64) → Int64} (h : ∀ a, 366 ≤ a → a ≤ 371 → I' a = I a) (hl : LwR1 I w L) : LwR1 I' w L := by
  unfold LwR1
  rw [h 366 (by omega) (by omega), h 367 (by omega) (by omega), h 368 (by omega) (by omega), h 369 (by omega) (by omega), h 370 (by omega) (by omega), h 371 (by omega) (by omega)]
  exact hl
theorem LwR.of {I I' : Nat → Nat → Int32} {L : Nat → (Nat → Int64) → Int64} (h : ∀ a, 366 ≤ a → a ≤ 371 → I' a = I a) (hl : LwR I L) : LwR I' L := ⟨hl.1.of h, hl.2.1.of h, hl.2.2.of h⟩
/-- the end of a method of the reference that changes, beside I', only the flag of an error, and names and values of laws -/
def QR (F : (Nat → Nat → Int32) → Nat → Nat → Int32) (I : Nat → Nat → Int32) (J : Nat → Nat → Int64) (P : Nat → Nat → Nat) (r : Option Value) : Option Value → xS → Prop := fun r1 S1 => r1 = r ∧ ∃ e' J', S1 = (SH, F (wE I e'), J', P) ∧ JokR J J'
theorem QR.mk {F : (Nat → Nat → Int32) → Nat → Nat → Int32} {I : Nat → Nat → Int32} {J : Nat → Nat → Int64} {P : Nat → Nat → Nat} {r : Option Value} {e' : Int32} {J' : Nat → Nat → Int64} (h : JokR J J') : QR F I J P r r (SH, F (wE I e'), J', P) := ⟨rfl, e', J', rfl, h⟩
theorem QR.use {E : xCl} {ex : Bool} {d : Nat} {y : MethodName} {vs : List Value} {S : xS} {F : (Nat → Nat → Int32) → Nat → Nat → Int32} {I : Nat → Nat → Int32} {J : Nat → Nat → Int64} {P : Nat → Nat → Nat} {r : Option Value} (h : ∃ r1 S1, xEx E ex d y vs S r1 S1 ∧ QR F I J P r r1 S1) : ∃ e' J', xEx E ex d y vs S r (SH, F (wE I e'), J', P) ∧ JokR J J' := by
  obtain ⟨r1, S1, h1, h2, e', J', h3, h4⟩ := h
  subst h2; subst h3
  exact ⟨e', J', h1, h4⟩
theorem sWl_m (a b : Int32) : sWl (-9223372036854775808) a b = b := if_pos rfl
theorem sWl_n {v : Int64} {a b : Int32} (h : ¬ v = -9223372036854775808) (h1 : v < 0) : sWl v a b = 0 := by rw [sWl, if_neg h, if_pos h1]
theorem sWl_a {v : Int64} {a b : Int32} (h : ¬ v = -9223372036854775808) (h1 : ¬ v < 0) (h2 : a.toInt64 < v) : sWl v a b = a := by rw [sWl, if_neg h, if_neg h1, if_pos h2]
theorem sWl_v {v : Int64} {a b : Int32} (h : ¬ v = -9223372036854775808) (h1 : ¬ v < 0) (h2 : ¬ a.toInt64 < v) : sWl v a b = v.toInt32 := by rw [sWl, if_neg h, if_neg h1, if_neg h2]
set_option maxHeartbeats 2000000 in
theorem k_boundLaw {E : xCl} {ex : Bool} {I : Nat → Nat → Int32} {e : Int32} {J : Nat → Nat → Int64} {P : Nat → Nat → Nat} (hP : Pok P) {w : Nat} (hw : w < 3) {L : (Nat → Int64) → Int64} (hl : LwR1 I w L) (hN : Nok (J 374)) (wo most : Int32) (d : Nat) : ∃ e' J', xEx E ex (d + 4) yX11_boundLaw [.ref 347, .int (nI w), .int wo, .int most] (SH, wE I e, J, P) (some (.int (sWl (L (J 374)) most wo))) (SH, wE I e', J', P) ∧ JokR J J' := by
  refine QR.use (F := fun z => z) (x_enterq (d := d + 3) cqX11_boundLaw [some (.ref 347), some (.int (nI w)), some (.int wo), some (.int most), none, none] rfl (by simp [lg_sl, Value.category]) ?_)
  rcases hl with ⟨h366, hL0⟩ | ⟨h366, s, e2, hs, he, hse, he2, hk, hall⟩
  · refine r_aload_n dX11_boundLaw_0 rfl ?_
    refine r_getR dX11_boundLaw_1 flX11_69 sh_347 (by decide) rfl (pf_347_36 hP) ?_
    refine r_iload_n dX11_boundLaw_4 rfl ?_
    refine r_zalv dX11_boundLaw_5 sh_366 (vp_in_nI (by omega) (by omega)) ((wE_o _ _ (by decide) _).trans ((congrArg (I 366) (nI_clamp (by omega))).trans h366)) ?_
    refine r_if_ne 11 dX11_boundLaw_6 (by decide) (fun c6 => ?_) (fun c6 => ?_)
    · exact absurd rfl c6
    · refine r_iload_n dX11_boundLaw_9 rfl ?_
      exact r_iretq dX11_boundLaw_10 rfl rfl (by rw [hL0 _ hN, sWl_m]; exact QR.mk (F := fun z => z) (JokR.rf J))
  · obtain ⟨hLa, hLb⟩ := hall (J 374) (J 375) hN
    have hLa' : ∀ {v : Int64}, (if (rRn (I 369) (I 370) (I 371) (J 374) (e2 - s) s 0 (J 375)).1 = 0 then (rRn (I 369) (I 370) (I 371) (J 374) (e2 - s) s 0 (J 375)).2 (e2 - 1) else 0) = v → (rRn (I 369) (I 370) (I 371) (J 374) (e2 - s) s 0 (J 375)).1 = 0 → v = L (J 374) ∧ ¬ L (J 374) = -9223372036854775808 := fun h h0 => by
      rw [if_pos h0] at h
      exact ⟨h.symm.trans (hLa h0).1, (hLa h0).2⟩
    refine r_aload_n dX11_boundLaw_0 rfl ?_
    refine r_getR dX11_boundLaw_1 flX11_69 sh_347 (by decide) rfl (pf_347_36 hP) ?_
    refine r_iload_n dX11_boundLaw_4 rfl ?_
    refine r_zalv dX11_boundLaw_5 sh_366 (vp_in_nI (by omega) (by omega)) ((wE_o _ _ (by decide) _).trans ((congrArg (I 366) (nI_clamp (by omega))).trans h366)) ?_
    refine r_if_ne 11 dX11_boundLaw_6 (by decide) (fun c6 => ?_) (fun c6 => ?_)
    · refine r_aload_n dX11_boundLaw_11 rfl ?_
      refine r_iload_n dX11_boundLaw_12 rfl ?_
      refine r_cV1l dX11_boundLaw_13 vlX11_428 sh_347 (Nat.le_of_ble_eq_true rfl) (k_lawOf hP hw hs he hse he2 hk d) ?_
      generalize hv : (if (rRn (I 369) (I 370) (I 371) (J 374) (e2 - s) s 0 (J 375)).1 = 0 then (rRn (I 369) (I 370) (I 371) (J 374) (e2 - s) s 0 (J 375)).2 (e2 - 1) else 0) = v
      refine r_lstore4 dX11_boundLaw_16 rfl ?_
      refine r_aload_n dX11_boundLaw_18 rfl ?_
      refine r_getIv dX11_boundLaw_19 flX11_371 sh_347 (by decide) rfl (wE_e _ _) ?_
      refine r_if_eq 27 dX11_boundLaw_22 (by decide) (fun c22 => ?_) (fun c22 => ?_)
      · refine r_lload dX11_boundLaw_27 rfl ?_
        refine r_lconst (v := 0) dX11_boundLaw_29 (by decide) ?_
        refine r_lcmp dX11_boundLaw_30 ?_
        refine r_if_ge 38 dX11_boundLaw_31 (by decide) (fun c31 => ?_) (fun c31 => ?_)
        · refine r_lload dX11_boundLaw_38 rfl ?_
          refine r_iload_n dX11_boundLaw_40 rfl ?_
          refine r_i2l dX11_boundLaw_41 ?_
          refine r_lcmp dX11_boundLaw_42 ?_
          refine r_if_le 50 dX11_boundLaw_43 (by decide) (fun c43 => ?_) (fun c43 => ?_)
          · refine r_lload dX11_boundLaw_50 rfl ?_
            refine r_l2i dX11_boundLaw_52 ?_
            exact r_iretq dX11_boundLaw_53 rfl rfl (by rw [sWl_v (hLa' hv c22).2 (by rw [← (hLa' hv c22).1]; exact Int64.not_lt.mpr ((lg_cmp_ge _ _).mp c31)) (by rw [← (hLa' hv c22).1]; exact Int64.not_lt.mpr ((lg_cmp_le _ _).mp c43)), ← (hLa' hv c22).1]; exact QR.mk (F := fun z => z) (JokR.v J _))
          · refine r_iload_n dX11_boundLaw_46 rfl ?_
            refine r_goto 53 dX11_boundLaw_47 (by decide) ?_
            exact r_iretq dX11_boundLaw_53 rfl rfl (by rw [sWl_a (hLa' hv c22).2 (by rw [← (hLa' hv c22).1]; exact Int64.not_lt.mpr ((lg_cmp_ge _ _).mp c31)) (by rw [← (hLa' hv c22).1]; exact Int64.not_le.mp (fun q => c43 ((lg_cmp_le _ _).mpr q)))]; exact QR.mk (F := fun z => z) (JokR.v J _))
        · refine r_iconst (v := 0) dX11_boundLaw_34 (by decide) ?_
          refine r_goto 53 dX11_boundLaw_35 (by decide) ?_
          exact r_iretq dX11_boundLaw_53 rfl rfl (by rw [sWl_n (hLa' hv c22).2 (by rw [← (hLa' hv c22).1]; exact Int64.not_le.mp (fun q => c31 ((lg_cmp_ge _ _).mpr q)))]; exact QR.mk (F := fun z => z) (JokR.v J _))
      · refine r_iload_n dX11_boundLaw_25 rfl ?_
        exact r_iretq dX11_boundLaw_26 rfl rfl (by rw [hLb c22, sWl_m]; exact QR.mk (F := fun z => z) (JokR.v J _))
    · exact absurd c6 (by decide)
