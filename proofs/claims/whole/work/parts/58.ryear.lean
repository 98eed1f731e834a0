/-! the reference: a year -/
/-- what the reference's text tells: 3 weight, 4 who goes, 5 load, 6 when -/
def rT (I : Nat → Nat → Int32) : Nat → Nat → Int32 := fun q k => if q = 3 then I 355 k else if q = 4 then I 363 k else if q = 5 then I 364 k else I 365 k
theorem stC_r (V : Nat → Nat → Int32) (L : Nat → (Nat → Int64) → Int64) (n : Nat) (I : Nat → Nat → Int32) (j : Nat) : stC V L n (rT I) j = if I 365 j = V 15 0 then (if sBr V L n < I 355 (I 363 j).toNatClampNeg + I 364 j then xu V 11 j 2 else xu (xu V 11 j 1) 2 (I 363 j).toNatClampNeg (1 - V 2 (I 363 j).toNatClampNeg)) else V := rfl
theorem stP_x {V : Nat → Nat → Int32} {j : Nat} (h : V 15 0 < V 7 j) : stP V j = V := by
  unfold stP
  rw [if_pos h]
  split <;> rfl
theorem Tok.xu {V : Nat → Nat → Int32} {n : Nat} (h : Tok V n) {f k : Nat} {v : Int32} (hf : f ≠ 10) : Tok (xu V f k v) n := by
  intro j hj
  rw [xu_f _ _ (Ne.symm hf)]
  rcases h j hj with q | ⟨q, h1, h2, h3, h4⟩
  · exact Or.inl q
  · exact Or.inr ⟨q, h1, h2, h3, by rw [xu_f _ _ (Ne.symm hf)]; exact h4⟩
theorem Tok.C {V : Nat → Nat → Int32} {n : Nat} (h : Tok V n) (L : Nat → (Nat → Int64) → Int64) (T : Nat → Nat → Int32) (j : Nat) : Tok (stC V L n T j) n := by
  unfold stC; split
  · split
    · exact h.xu (by decide)
    · exact (h.xu (by decide)).xu (by decide)
  · exact h
theorem Tok.CA {V : Nat → Nat → Int32} {n : Nat} (h : Tok V n) (L : Nat → (Nat → Int64) → Int64) (T : Nat → Nat → Int32) : ∀ j, Tok (sCA V L n T j) n
  | 0 => h
  | j + 1 => (Tok.CA h L T j).C L T j
theorem Tok.fr {V : Nat → Nat → Int32} {n : Nat} (h : Tok V n) (i w : Int32) : Tok (sFr V i w) n := by
  unfold sFr; split
  · split
    · exact h.xu (by decide)
    · exact (h.xu (by decide)).xu (by decide)
  · exact h
theorem Tok.FA {V : Nat → Nat → Int32} {n : Nat} (h : Tok V n) (L : Nat → (Nat → Int64) → Int64) : ∀ j, Tok (sFA V L j) n
  | 0 => h
  | j + 1 => by
    rw [sFA, stF]; split
    · exact (Tok.FA h L j).fr _ _
    · exact Tok.FA h L j
theorem Tok.GA {V : Nat → Nat → Int32} {n : Nat} (h : Tok V n) (L : Nat → (Nat → Int64) → Int64) : ∀ j, Tok (sGA V L j) n
  | 0 => h
  | j + 1 => by
    rw [sGA, stG]; split
    · exact (Tok.GA h L j).xu (by decide)
    · exact Tok.GA h L j
theorem Tok.pay {V : Nat → Nat → Int32} {n : Nat} (h : Tok V n) (k : Nat) : Tok (sPay V k) n := by
  unfold sPay sMv
  exact ((h.xu (by decide)).xu (by decide)).xu (by decide)
theorem Tok.PA {V : Nat → Nat → Int32} {n : Nat} (h : Tok V n) : ∀ j, Tok (sPA V j) n
  | 0 => h
  | j + 1 => by
    rw [sPA, stP]; split
    · split
      · exact Tok.PA h j
      · exact (Tok.PA h j).pay j
    · exact Tok.PA h j
theorem Tok.go {V : Nat → Nat → Int32} {n : Nat} (h : Tok V n) (L : Nat → (Nat → Int64) → Int64) (T : Nat → Nat → Int32) (m : Nat) (lo : Int32) : Tok (sGo V L n T m lo) n := by
  unfold sGo
  have h1 := h.CA L T m
  dsimp only
  refine Tok.xu ?_ (by decide)
  have h2 : Tok (if lo = 0 then sCA V L n T m else sFA (sCA V L n T m) L n) n := by split; exact h1; exact h1.FA L n
  have h3 : Tok (if lo = 4 then (if lo = 0 then sCA V L n T m else sFA (sCA V L n T m) L n) else sGA (if lo = 0 then sCA V L n T m else sFA (sCA V L n T m) L n) L n) n := by split; exact h2; exact h2.GA L n
  split
  · exact h3
  · exact h3.PA n
theorem in6_12 {x : Int32} (h : vp_in x 6) : vp_in x 12 := by rw [vp_in_iff] at h ⊢; omega
set_option maxHeartbeats 2000000 in
theorem t_rcross {E : xCl} {ex : Bool} {I V : Nat → Nat → Int32} {e1 : Int32} {J1 : Nat → Nat → Int64} {P : Nat → Nat → Nat} (hP : Pok P) {b : Nat} (hb : b < 2) {n : Nat} (hv : Vok V n) (hk : Tok V n) {L : Nat → (Nat → Int64) → Int64} (hL : LwR I L) (h7 : L7 L) {m : Nat} (hm : m ≤ 8) (hc : I 347 14 = nI m) (hg : ∀ k, vp_in (I 363 k) 6) {j : Nat} (hj : j < m) {x3 x4 : Option Value} (d : Nat) {Q : Option Value → xS → Prop} (k : ∀ e2 J2 x3 x4, JokR J1 J2 → xR (xEx E ex (d + 6)) ex none yX11_crosses cX11_crosses none 2 [some (.ref 347), some (.int (nI b)), some (.int (nI (j + 1))), x3, x4] [] (SH, wR (wE I e2) b (stC V L n (rT I) j), J2, P) Q) : xR (xEx E ex (d + 6)) ex none yX11_crosses cX11_crosses none 2 [some (.ref 347), some (.int (nI b)), some (.int (nI j)), x3, x4] [] (SH, wR (wE I e1) b V, J1, P) Q := by
  refine r_iload_n dX11_crosses_2 rfl ?_
  refine r_aload_n dX11_crosses_3 rfl ?_
  refine r_getIv dX11_crosses_4 flX11_276 sh_347 (by decide) rfl ((wR_o _ _ _ (by decide) _).trans ((wE_f _ _ (by decide)).trans hc)) ?_
  refine r_ic_ge 119 dX11_crosses_7 (by decide) (fun c7 => ?_) (fun c7 => ?_)
  · exact absurd c7 (nI_ge hj (by omega))
  · refine r_aload_n dX11_crosses_10 rfl ?_
    refine r_getR dX11_crosses_11 flX11_66 sh_347 (by decide) rfl (pf_347_35 hP) ?_
    refine r_iload_n dX11_crosses_14 rfl ?_
    refine r_ialv dX11_crosses_15 sh_365 (vp_in_nI (by omega) (by omega)) ((wR_o _ _ _ (by decide) _).trans ((wE_o _ _ (by decide) _).trans (congrArg (I 365) (cl8 hj hm)))) ?_
    refine r_aload_n dX11_crosses_16 rfl ?_
    refine r_getR dX11_crosses_17 flX11_139 sh_347 (by decide) rfl (pf_347_66 hP) ?_
    refine r_iload_n dX11_crosses_20 rfl ?_
    refine r_ialv dX11_crosses_21 sh_389 (ix2 hb) (rR15 _ _ hb) ?_
    refine r_ic_eq 28 dX11_crosses_22 (by decide) (fun c22 => ?_) (fun c22 => ?_)
    · refine r_aload_n dX11_crosses_28 rfl ?_
      refine r_getR dX11_crosses_29 flX11_60 sh_347 (by decide) rfl (pf_347_33 hP) ?_
      refine r_iload_n dX11_crosses_32 rfl ?_
      refine r_ialv dX11_crosses_33 sh_363 (vp_in_nI (by omega) (by omega)) ((wR_o _ _ _ (by decide) _).trans ((wE_o _ _ (by decide) _).trans (congrArg (I 363) (cl8 hj hm)))) ?_
      refine r_istore_n3 dX11_crosses_34 rfl ?_
      refine r_aload_n dX11_crosses_35 rfl ?_
      refine r_getR dX11_crosses_36 flX11_36 sh_347 (by decide) rfl (pf_347_25 hP) ?_
      refine r_iload_n dX11_crosses_39 rfl ?_
      refine r_ialv dX11_crosses_40 sh_355 (in6_12 (hg j)) ((wR_o _ _ _ (by decide) _).trans (wE_o _ _ (by decide) _)) ?_
      refine r_aload_n dX11_crosses_41 rfl ?_
      refine r_getR dX11_crosses_42 flX11_63 sh_347 (by decide) rfl (pf_347_34 hP) ?_
      refine r_iload_n dX11_crosses_45 rfl ?_
      refine r_ialv dX11_crosses_46 sh_364 (vp_in_nI (by omega) (by omega)) ((wR_o _ _ _ (by decide) _).trans ((wE_o _ _ (by decide) _).trans (congrArg (I 364) (cl8 hj hm)))) ?_
      refine r_iadd dX11_crosses_47 ?_
      refine r_aload_n dX11_crosses_48 rfl ?_
      refine r_iload_n dX11_crosses_49 rfl ?_
      obtain ⟨e50, J50, hx50, hj50⟩ := k_rbridge (E := E) (ex := ex) (I := I) (V := V) (e := e1) (J := J1) hP hb hv hk hL h7 d
      refine r_cV1i dX11_crosses_50 vlX11_443 sh_347 (Nat.le_of_ble_eq_true rfl) hx50 ?_
      refine r_ic_gt 60 dX11_crosses_53 (by decide) (fun c53 => ?_) (fun c53 => ?_)
      · refine r_iconst (v := 0) dX11_crosses_60 (by decide) ?_
        refine r_istore4 dX11_crosses_61 rfl ?_
        refine r_aload_n dX11_crosses_63 rfl ?_
        refine r_getR dX11_crosses_64 flX11_136 sh_347 (by decide) rfl (pf_347_65 hP) ?_
        refine r_bipush (v := 8) dX11_crosses_67 (by decide) ?_
        refine r_iload_n dX11_crosses_69 rfl ?_
        refine r_imul dX11_crosses_70 ?_
        refine r_iload_n dX11_crosses_71 rfl ?_
        refine r_iadd dX11_crosses_72 ?_
        refine r_iload dX11_crosses_73 rfl ?_
        refine r_if_eq 82 dX11_crosses_75 (by decide) (fun c75 => ?_) (fun c75 => ?_)
        · refine r_iconst (v := 2) dX11_crosses_82 (by decide) ?_
          refine r_iasv dX11_crosses_83 sh_388 (ix8 hb (im8 hj hm)) (rW11 _ _ hb (im8 hj hm) _) ?_
          refine r_iload dX11_crosses_84 rfl ?_
          refine r_if_eq 113 dX11_crosses_86 (by decide) (fun c86 => ?_) (fun c86 => ?_)
          · refine r_iinc2 (v := 1) dX11_crosses_113 (by decide) rfl ?_
            refine r_goto 2 dX11_crosses_116 (by decide) ?_
            rw [nI_1, cl8 hj hm]; rw [stC_r, if_pos c22, if_pos c53] at k; exact k _ _ _ _ hj50
          · exact absurd c86 (by decide)
        · exact absurd c75 (by decide)
      · refine r_iconst (v := 1) dX11_crosses_56 (by decide) ?_
        refine r_goto 61 dX11_crosses_57 (by decide) ?_
        refine r_istore4 dX11_crosses_61 rfl ?_
        refine r_aload_n dX11_crosses_63 rfl ?_
        refine r_getR dX11_crosses_64 flX11_136 sh_347 (by decide) rfl (pf_347_65 hP) ?_
        refine r_bipush (v := 8) dX11_crosses_67 (by decide) ?_
        refine r_iload_n dX11_crosses_69 rfl ?_
        refine r_imul dX11_crosses_70 ?_
        refine r_iload_n dX11_crosses_71 rfl ?_
        refine r_iadd dX11_crosses_72 ?_
        refine r_iload dX11_crosses_73 rfl ?_
        refine r_if_eq 82 dX11_crosses_75 (by decide) (fun c75 => ?_) (fun c75 => ?_)
        · exact absurd c75 (by decide)
        · refine r_iconst (v := 1) dX11_crosses_78 (by decide) ?_
          refine r_goto 83 dX11_crosses_79 (by decide) ?_
          refine r_iasv dX11_crosses_83 sh_388 (ix8 hb (im8 hj hm)) (rW11 _ _ hb (im8 hj hm) _) ?_
          refine r_iload dX11_crosses_84 rfl ?_
          refine r_if_eq 113 dX11_crosses_86 (by decide) (fun c86 => ?_) (fun c86 => ?_)
          · exact absurd c86 (by decide)
          · refine r_aload_n dX11_crosses_89 rfl ?_
            refine r_getR dX11_crosses_90 flX11_103 sh_347 (by decide) rfl (pf_347_54 hP) ?_
            refine r_bipush (v := 6) dX11_crosses_93 (by decide) ?_
            refine r_iload_n dX11_crosses_95 rfl ?_
            refine r_imul dX11_crosses_96 ?_
            refine r_iload_n dX11_crosses_97 rfl ?_
            refine r_iadd dX11_crosses_98 ?_
            refine r_iconst (v := 1) dX11_crosses_99 (by decide) ?_
            refine r_aload_n dX11_crosses_100 rfl ?_
            refine r_getR dX11_crosses_101 flX11_103 sh_347 (by decide) rfl (pf_347_54 hP) ?_
            refine r_bipush (v := 6) dX11_crosses_104 (by decide) ?_
            refine r_iload_n dX11_crosses_106 rfl ?_
            refine r_imul dX11_crosses_107 ?_
            refine r_iload_n dX11_crosses_108 rfl ?_
            refine r_iadd dX11_crosses_109 ?_
            refine r_ialv dX11_crosses_110 sh_377 (ix6 hb (hg j)) ((rR2 _ _ hb (hg j)).trans (xu_f _ _ (by decide))) ?_
            refine r_isub dX11_crosses_111 ?_
            refine r_iasv dX11_crosses_112 sh_377 (ix6 hb (hg j)) (rW2 _ _ hb (hg j) _) ?_
            refine r_iinc2 (v := 1) dX11_crosses_113 (by decide) rfl ?_
            refine r_goto 2 dX11_crosses_116 (by decide) ?_
            rw [nI_1, cl8 hj hm]; rw [stC_r, if_pos c22, if_neg c53] at k; exact k _ _ _ _ hj50
    · refine r_goto 113 dX11_crosses_25 (by decide) ?_
      refine r_iinc2 (v := 1) dX11_crosses_113 (by decide) rfl ?_
      refine r_goto 2 dX11_crosses_116 (by decide) ?_
      rw [nI_1]; rw [stC_r, if_neg c22] at k; exact k _ _ _ _ (JokR.rf _)
theorem l_rcross {E : xCl} {ex : Bool} {I V : Nat → Nat → Int32} {J : Nat → Nat → Int64} {P : Nat → Nat → Nat} (hP : Pok P) {b : Nat} (hb : b < 2) {n : Nat} (hv : Vok V n) (hk : Tok V n) {L : Nat → (Nat → Int64) → Int64} (hL : LwR I L) (h7 : L7 L) {m : Nat} (hm : m ≤ 8) (hc : I 347 14 = nI m) (hg : ∀ k, vp_in (I 363 k) 6) (d : Nat) : ∀ j, j ≤ m → ∀ (e1 : Int32) (J1 : Nat → Nat → Int64) (x3 x4 : Option Value), JokR J J1 → xR (xEx E ex (d + 6)) ex none yX11_crosses cX11_crosses none 2 [some (.ref 347), some (.int (nI b)), some (.int (nI j)), x3, x4] [] (SH, wR (wE I e1) b (sCA V L n (rT I) j), J1, P) (QR (fun z => wR z b (sCA V L n (rT I) m)) I J P none) := by
  refine r_for (fun j => ∀ (e1 : Int32) (J1 : Nat → Nat → Int64) (x3 x4 : Option Value), JokR J J1 → xR (xEx E ex (d + 6)) ex none yX11_crosses cX11_crosses none 2 [some (.ref 347), some (.int (nI b)), some (.int (nI j)), x3, x4] [] (SH, wR (wE I e1) b (sCA V L n (rT I) j), J1, P) (QR (fun z => wR z b (sCA V L n (rT I) m)) I J P none)) _ ?_ ?_
  · intro j hj ih e1 J1 x3 x4 hJ
    exact t_rcross hP hb (hv.okCA L (rT I) j) (hk.CA L (rT I) j) hL h7 hm hc hg hj d (fun e2 J2 y3 y4 h2 => ih e2 J2 y3 y4 (hJ.tr h2))
  · intro e1 J1 x3 x4 hJ
    refine r_iload_n dX11_crosses_2 rfl ?_
    refine r_aload_n dX11_crosses_3 rfl ?_
    refine r_getIv dX11_crosses_4 flX11_276 sh_347 (by decide) rfl ((wR_o _ _ _ (by decide) _).trans ((wE_f _ _ (by decide)).trans hc)) ?_
    refine r_ic_ge 119 dX11_crosses_7 (by decide) (fun c7 => ?_) (fun c7 => ?_)
    · exact r_vretq dX11_crosses_119 rfl (QR.mk (F := fun z => wR z b (sCA V L n (rT I) m)) hJ)
    · exact absurd (nI_le (Nat.le_refl _) (by omega)) c7
set_option maxHeartbeats 2000000 in
theorem k_crosses {E : xCl} {ex : Bool} {I V : Nat → Nat → Int32} {e : Int32} {J : Nat → Nat → Int64} {P : Nat → Nat → Nat} (hP : Pok P) {b : Nat} (hb : b < 2) {n : Nat} (hv : Vok V n) (hk : Tok V n) {L : Nat → (Nat → Int64) → Int64} (hL : LwR I L) (h7 : L7 L) {m : Nat} (hm : m ≤ 8) (hc : I 347 14 = nI m) (hg : ∀ k, vp_in (I 363 k) 6) (d : Nat) : ∃ e' J', xEx E ex (d + 7) yX11_crosses [.ref 347, .int (nI b)] (SH, wR (wE I e) b V, J, P) none (SH, wR (wE I e') b (sCA V L n (rT I) m), J', P) ∧ JokR J J' := by
  refine QR.use (F := fun z => wR z b (sCA V L n (rT I) m)) (x_enterq (d := d + 6) cqX11_crosses [some (.ref 347), some (.int (nI b)), none, none, none] rfl (by simp [lg_sl, Value.category]) ?_)
  refine r_iconst (v := 0) dX11_crosses_0 (by decide) ?_
  refine r_istore_n2 dX11_crosses_1 rfl ?_
  exact l_rcross hP hb hv hk hL h7 hm hc hg d 0 (Nat.zero_le m) e J none none (JokR.rf J)
set_option maxHeartbeats 1000000 in
theorem k_paid {E : xCl} {ex : Bool} {I V : Nat → Nat → Int32} {e : Int32} {J : Nat → Nat → Int64} {P : Nat → Nat → Nat} (hP : Pok P) {b : Nat} (hb : b < 2) {n : Nat} (hv : Vok V n) {x : Int32} (hx : vp_in x 12) (d : Nat) : xEx E ex (d + 1) yX11_paid [.ref 347, .int (nI b), .int x] (SH, wR (wE I e) b V, J, P) none (SH, wR (wE I e) b (sPay V x.toNatClampNeg), J, P) := by
  refine x_enter cqX11_paid [some (.ref 347), some (.int (nI b)), some (.int x)] rfl (by simp [lg_sl, Value.category]) ?_
  refine r_aload_n dX11_paid_0 rfl ?_
  refine r_getR dX11_paid_1 flX11_100 sh_347 (by decide) rfl (pf_347_53 hP) ?_
  refine r_bipush (v := 6) dX11_paid_4 (by decide) ?_
  refine r_iload_n dX11_paid_6 rfl ?_
  refine r_imul dX11_paid_7 ?_
  refine r_aload_n dX11_paid_8 rfl ?_
  refine r_getR dX11_paid_9 flX11_109 sh_347 (by decide) rfl (pf_347_56 hP) ?_
  refine r_iload_n dX11_paid_12 rfl ?_
  refine r_ialv dX11_paid_13 sh_379 hx (rR3 _ _ hx) ?_
  refine r_iadd dX11_paid_14 ?_
  refine r_dup2 dX11_paid_15 rfl rfl ?_
  refine r_ialv dX11_paid_16 sh_376 (ix6 hb (hv.2.2.1 _)) (rR1 _ _ hb (hv.2.2.1 _)) ?_
  refine r_aload_n dX11_paid_17 rfl ?_
  refine r_getR dX11_paid_18 flX11_121 sh_347 (by decide) rfl (pf_347_60 hP) ?_
  refine r_bipush (v := 12) dX11_paid_21 (by decide) ?_
  refine r_iload_n dX11_paid_23 rfl ?_
  refine r_imul dX11_paid_24 ?_
  refine r_iload_n dX11_paid_25 rfl ?_
  refine r_iadd dX11_paid_26 ?_
  refine r_ialv dX11_paid_27 sh_383 (ix12 hb hx) (rR5 _ _ hb hx) ?_
  refine r_isub dX11_paid_28 ?_
  refine r_iasv dX11_paid_29 sh_376 (ix6 hb (hv.2.2.1 _)) (rW1 _ _ hb (hv.2.2.1 _) _) ?_
  refine r_aload_n dX11_paid_30 rfl ?_
  refine r_getR dX11_paid_31 flX11_100 sh_347 (by decide) rfl (pf_347_53 hP) ?_
  refine r_bipush (v := 6) dX11_paid_34 (by decide) ?_
  refine r_iload_n dX11_paid_36 rfl ?_
  refine r_imul dX11_paid_37 ?_
  refine r_aload_n dX11_paid_38 rfl ?_
  refine r_getR dX11_paid_39 flX11_112 sh_347 (by decide) rfl (pf_347_57 hP) ?_
  refine r_iload_n dX11_paid_42 rfl ?_
  refine r_ialv dX11_paid_43 sh_380 hx ((rR4 _ _ hx).trans (xu_f _ _ (by decide))) ?_
  refine r_iadd dX11_paid_44 ?_
  refine r_dup2 dX11_paid_45 rfl rfl ?_
  refine r_ialv dX11_paid_46 sh_376 (ix6 hb (hv.2.2.2 _)) (rR1 _ _ hb (hv.2.2.2 _)) ?_
  refine r_aload_n dX11_paid_47 rfl ?_
  refine r_getR dX11_paid_48 flX11_121 sh_347 (by decide) rfl (pf_347_60 hP) ?_
  refine r_bipush (v := 12) dX11_paid_51 (by decide) ?_
  refine r_iload_n dX11_paid_53 rfl ?_
  refine r_imul dX11_paid_54 ?_
  refine r_iload_n dX11_paid_55 rfl ?_
  refine r_iadd dX11_paid_56 ?_
  refine r_ialv dX11_paid_57 sh_383 (ix12 hb hx) ((rR5 _ _ hb hx).trans (xu_f _ _ (by decide))) ?_
  refine r_iadd dX11_paid_58 ?_
  refine r_iasv dX11_paid_59 sh_376 (ix6 hb (hv.2.2.2 _)) (rW1 _ _ hb (hv.2.2.2 _) _) ?_
  refine r_aload_n dX11_paid_60 rfl ?_
  refine r_getR dX11_paid_61 flX11_127 sh_347 (by decide) rfl (pf_347_62 hP) ?_
  refine r_bipush (v := 12) dX11_paid_64 (by decide) ?_
  refine r_iload_n dX11_paid_66 rfl ?_
  refine r_imul dX11_paid_67 ?_
  refine r_iload_n dX11_paid_68 rfl ?_
  refine r_iadd dX11_paid_69 ?_
  refine r_iconst (v := 1) dX11_paid_70 (by decide) ?_
  refine r_iasv dX11_paid_71 sh_385 (ix12 hb hx) (rW9 _ _ hb hx _) ?_
  exact r_vret dX11_paid_72 rfl rfl rfl
set_option maxHeartbeats 1000000 in
theorem k_fraysBy {E : xCl} {ex : Bool} {I V : Nat → Nat → Int32} {e : Int32} {J : Nat → Nat → Int64} {P : Nat → Nat → Nat} (hP : Pok P) {b : Nat} (hb : b < 2) {x : Int32} (hx : vp_in x 12) (more : Int32) (h : sTh V x) (d : Nat) : xEx E ex (d + 1) yX11_fraysBy [.ref 347, .int (nI b), .int x, .int more] (SH, wR (wE I e) b V, J, P) none (SH, wR (wE I e) b (sFr V x more), J, P) := by
  refine x_enter cqX11_fraysBy [some (.ref 347), some (.int (nI b)), some (.int x), some (.int more)] rfl (by simp [lg_sl, Value.category]) ?_
  refine r_aload_n dX11_fraysBy_0 rfl ?_
  refine r_getR dX11_fraysBy_1 flX11_124 sh_347 (by decide) rfl (pf_347_61 hP) ?_
  refine r_bipush (v := 12) dX11_fraysBy_4 (by decide) ?_
  refine r_iload_n dX11_fraysBy_6 rfl ?_
  refine r_imul dX11_fraysBy_7 ?_
  refine r_iload_n dX11_fraysBy_8 rfl ?_
  refine r_iadd dX11_fraysBy_9 ?_
  refine r_dup2 dX11_fraysBy_10 rfl rfl ?_
  refine r_ialv dX11_fraysBy_11 sh_384 (ix12 hb hx) (rR6 _ _ hb hx) ?_
  refine r_iload_n dX11_fraysBy_12 rfl ?_
  refine r_iadd dX11_fraysBy_13 ?_
  refine r_iasv dX11_fraysBy_14 sh_384 (ix12 hb hx) (rW6 _ _ hb hx _) ?_
  refine r_aload_n dX11_fraysBy_15 rfl ?_
  refine r_getR dX11_fraysBy_16 flX11_124 sh_347 (by decide) rfl (pf_347_61 hP) ?_
  refine r_bipush (v := 12) dX11_fraysBy_19 (by decide) ?_
  refine r_iload_n dX11_fraysBy_21 rfl ?_
  refine r_imul dX11_fraysBy_22 ?_
  refine r_iload_n dX11_fraysBy_23 rfl ?_
  refine r_iadd dX11_fraysBy_24 ?_
  refine r_ialv dX11_fraysBy_25 sh_384 (ix12 hb hx) ((rR6 _ _ hb hx).trans (xu_s _ _ _ _)) ?_
  refine r_bipush (v := 100) dX11_fraysBy_26 (by decide) ?_
  refine r_ic_lt 43 dX11_fraysBy_28 (by decide) (fun c28 => ?_) (fun c28 => ?_)
  · exact r_vret dX11_fraysBy_43 rfl rfl (by rw [sFr, if_pos h, if_pos c28])
  · refine r_aload_n dX11_fraysBy_31 rfl ?_
    refine r_getR dX11_fraysBy_32 flX11_127 sh_347 (by decide) rfl (pf_347_62 hP) ?_
    refine r_bipush (v := 12) dX11_fraysBy_35 (by decide) ?_
    refine r_iload_n dX11_fraysBy_37 rfl ?_
    refine r_imul dX11_fraysBy_38 ?_
    refine r_iload_n dX11_fraysBy_39 rfl ?_
    refine r_iadd dX11_fraysBy_40 ?_
    refine r_iconst (v := 3) dX11_fraysBy_41 (by decide) ?_
    refine r_iasv dX11_fraysBy_42 sh_385 (ix12 hb hx) (rW9 _ _ hb hx _) ?_
    exact r_vret dX11_fraysBy_43 rfl rfl (by rw [sFr, if_pos h, if_neg c28])
set_option maxHeartbeats 2000000 in
theorem t_goF {E : xCl} {ex : Bool} {I V : Nat → Nat → Int32} {e1 : Int32} {J1 : Nat → Nat → Int64} {P : Nat → Nat → Nat} (hP : Pok P) {b : Nat} (hb : b < 2) {n : Nat} (hv : Vok V n) {L : Nat → (Nat → Int64) → Int64} (hL : LwR I L) (h7 : L7 L) (h69 : I 347 69 = 0) {j : Nat} (hj : j < n) {x3 : Option Value} (d : Nat) {Q : Option Value → xS → Prop} (k : ∀ e2 J2, JokR J1 J2 → xR (xEx E ex (d + 7)) ex none yX11_goOn cX11_goOn none 7 [some (.ref 347), some (.int (nI b)), some (.int (nI (j + 1))), x3] [] (SH, wR (wE I e2) b (stF V L j), J2, P) Q) : xR (xEx E ex (d + 7)) ex none yX11_goOn cX11_goOn none 7 [some (.ref 347), some (.int (nI b)), some (.int (nI j)), x3] [] (SH, wR (wE I e1) b V, J1, P) Q := by
  refine r_iload_n dX11_goOn_7 rfl ?_
  refine r_aload_n dX11_goOn_8 rfl ?_
  refine r_getR dX11_goOn_9 flX11_106 sh_347 (by decide) rfl (pf_347_55 hP) ?_
  refine r_iload_n dX11_goOn_12 rfl ?_
  refine r_ialv dX11_goOn_13 sh_378 (ix2 hb) (rR13 _ _ hb) ?_
  refine r_ic_ge 63 dX11_goOn_14 (by decide) (fun c14 => ?_) (fun c14 => ?_)
  · exact absurd c14 (hv.g hj)
  · refine r_aload_n dX11_goOn_17 rfl ?_
    refine r_getIv dX11_goOn_18 flX11_409 sh_347 (by decide) rfl ((wR_o _ _ _ (by decide) _).trans ((wE_f _ _ (by decide)).trans h69)) ?_
    refine r_if_ne 63 dX11_goOn_21 (by decide) (fun c21 => ?_) (fun c21 => ?_)
    · exact absurd rfl c21
    · refine r_aload_n dX11_goOn_24 rfl ?_
      refine r_iload_n dX11_goOn_25 rfl ?_
      refine r_iload_n dX11_goOn_26 rfl ?_
      by_cases h27 : V 9 (nI j).toNatClampNeg = 0
      · refine r_cV2i dX11_goOn_27 vlX11_418 sh_347 (Nat.le_of_ble_eq_true rfl) (k_rTh_t hP hb (hv.i hj) h27 (d + 6)) ?_
        have q27 : V 9 j = 0 := by rw [hv.c hj] at h27; exact h27
        have s27 := (hv.t hj).mpr q27
        refine r_if_ne 36 dX11_goOn_30 (by decide) (fun c30 => ?_) (fun c30 => ?_)
        · refine r_aload_n dX11_goOn_36 rfl ?_
          refine r_iload_n dX11_goOn_37 rfl ?_
          refine r_iload_n dX11_goOn_38 rfl ?_
          refine r_iconst (v := 0) dX11_goOn_39 (by decide) ?_
          refine r_cV3v dX11_goOn_40 vlX11_431 sh_347 (Nat.le_of_ble_eq_true rfl) (k_layN0 hP hb hv (hv.i hj) (d + 4)) ?_
          refine r_aload_n dX11_goOn_43 rfl ?_
          refine r_iload_n dX11_goOn_44 rfl ?_
          refine r_iload_n dX11_goOn_45 rfl ?_
          refine r_aload_n dX11_goOn_46 rfl ?_
          refine r_iconst (v := 1) dX11_goOn_47 (by decide) ?_
          refine r_iconst (v := 2) dX11_goOn_48 (by decide) ?_
          refine r_bipush (v := 99) dX11_goOn_49 (by decide) ?_
          obtain ⟨e51, J51, hx51, hj51⟩ := k_rbl (E := E) (ex := ex) (I := I) (V := V) (e := e1) (J := J1) hP (b := b) hL h7 (Nok_m V (nI j) (sTwo V (nI j))) (lw := 1) (w := 1) (by decide) (by decide) 2 99 (d + 3)
          refine r_cV3i dX11_goOn_51 vlX11_435 sh_347 (Nat.le_of_ble_eq_true rfl) hx51 ?_
          refine r_cV3v dX11_goOn_54 vlX11_449 sh_347 (Nat.le_of_ble_eq_true rfl) (k_fraysBy hP hb (hv.i hj) _ s27 (d + 6)) ?_
          refine r_iinc2 (v := 1) dX11_goOn_57 (by decide) rfl ?_
          refine r_goto 7 dX11_goOn_60 (by decide) ?_
          rw [nI_1]; rw [stF, if_pos q27] at k; exact k _ _ hj51
        · exact absurd c30 (by decide)
      · refine r_cV2i dX11_goOn_27 vlX11_418 sh_347 (Nat.le_of_ble_eq_true rfl) (k_rTh_f hP hb (hv.i hj) h27 (d + 6)) ?_
        have q27 : ¬ V 9 j = 0 := by rw [hv.c hj] at h27; exact h27
        refine r_if_ne 36 dX11_goOn_30 (by decide) (fun c30 => ?_) (fun c30 => ?_)
        · exact absurd c30 (by decide)
        · refine r_goto 57 dX11_goOn_33 (by decide) ?_
          refine r_iinc2 (v := 1) dX11_goOn_57 (by decide) rfl ?_
          refine r_goto 7 dX11_goOn_60 (by decide) ?_
          rw [nI_1]; rw [stF, if_neg q27] at k; exact k _ _ (JokR.rf _)
theorem min_a {x m : Int32} (h : x ≤ m) : (if x < m then x else m) = x := by
  by_cases q : x < m
  · exact if_pos q
  · rw [if_neg q]; exact Int32.le_antisymm (Int32.not_lt.mp q) h
theorem min_b {x m : Int32} (h : ¬ x ≤ m) : (if x < m then x else m) = m := if_neg (fun q => h (Int32.le_of_lt q))
set_option maxHeartbeats 2000000 in
theorem t_goG {E : xCl} {ex : Bool} {I V : Nat → Nat → Int32} {e1 : Int32} {J1 : Nat → Nat → Int64} {P : Nat → Nat → Nat} (hP : Pok P) {b : Nat} (hb : b < 2) {n : Nat} (hv : Vok V n) {L : Nat → (Nat → Int64) → Int64} (hL : LwR I L) (h7 : L7 L) (h71 : I 347 71 = 0) {j : Nat} (hj : j < n) {x3 : Option Value} (d : Nat) {Q : Option Value → xS → Prop} (k : ∀ e2 J2 x3, JokR J1 J2 → xR (xEx E ex (d + 7)) ex none yX11_goOn cX11_goOn none 65 [some (.ref 347), some (.int (nI b)), some (.int (nI (j + 1))), x3] [] (SH, wR (wE I e2) b (stG V L j), J2, P) Q) : xR (xEx E ex (d + 7)) ex none yX11_goOn cX11_goOn none 65 [some (.ref 347), some (.int (nI b)), some (.int (nI j)), x3] [] (SH, wR (wE I e1) b V, J1, P) Q := by
  refine r_iload_n dX11_goOn_65 rfl ?_
  refine r_aload_n dX11_goOn_66 rfl ?_
  refine r_getR dX11_goOn_67 flX11_106 sh_347 (by decide) rfl (pf_347_55 hP) ?_
  refine r_iload_n dX11_goOn_70 rfl ?_
  refine r_ialv dX11_goOn_71 sh_378 (ix2 hb) (rR13 _ _ hb) ?_
  refine r_ic_ge 153 dX11_goOn_72 (by decide) (fun c72 => ?_) (fun c72 => ?_)
  · exact absurd c72 (hv.g hj)
  · refine r_aload_n dX11_goOn_75 rfl ?_
    refine r_getIv dX11_goOn_76 flX11_415 sh_347 (by decide) rfl ((wR_o _ _ _ (by decide) _).trans ((wE_f _ _ (by decide)).trans h71)) ?_
    refine r_if_ne 153 dX11_goOn_79 (by decide) (fun c79 => ?_) (fun c79 => ?_)
    · exact absurd rfl c79
    · refine r_aload_n dX11_goOn_82 rfl ?_
      refine r_iload_n dX11_goOn_83 rfl ?_
      refine r_iload_n dX11_goOn_84 rfl ?_
      by_cases h85 : V 9 (nI j).toNatClampNeg = 0
      · refine r_cV2i dX11_goOn_85 vlX11_418 sh_347 (Nat.le_of_ble_eq_true rfl) (k_rTh_t hP hb (hv.i hj) h85 (d + 6)) ?_
        have q85 : V 9 j = 0 := by rw [hv.c hj] at h85; exact h85
        have s85 := (hv.t hj).mpr q85
        refine r_if_ne 94 dX11_goOn_88 (by decide) (fun c88 => ?_) (fun c88 => ?_)
        · refine r_aload_n dX11_goOn_94 rfl ?_
          refine r_iload_n dX11_goOn_95 rfl ?_
          refine r_iload_n dX11_goOn_96 rfl ?_
          refine r_iconst (v := 0) dX11_goOn_97 (by decide) ?_
          refine r_cV3v dX11_goOn_98 vlX11_431 sh_347 (Nat.le_of_ble_eq_true rfl) (k_layN0 hP hb hv (hv.i hj) (d + 4)) ?_
          refine r_aload_n dX11_goOn_101 rfl ?_
          refine r_getR dX11_goOn_102 flX11_121 sh_347 (by decide) rfl (pf_347_60 hP) ?_
          refine r_bipush (v := 12) dX11_goOn_105 (by decide) ?_
          refine r_iload_n dX11_goOn_107 rfl ?_
          refine r_imul dX11_goOn_108 ?_
          refine r_iload_n dX11_goOn_109 rfl ?_
          refine r_iadd dX11_goOn_110 ?_
          refine r_ialv dX11_goOn_111 sh_383 (ix12 hb (hv.i hj)) ((rR5 _ _ hb (hv.i hj)).trans (congrArg (V 5) (hv.c hj))) ?_
          refine r_aload_n dX11_goOn_112 rfl ?_
          refine r_iconst (v := 2) dX11_goOn_113 (by decide) ?_
          refine r_iconst (v := 0) dX11_goOn_114 (by decide) ?_
          refine r_bipush (v := 99) dX11_goOn_115 (by decide) ?_
          obtain ⟨e117, J117, hx117, hj117⟩ := k_rbl (E := E) (ex := ex) (I := I) (V := V) (e := e1) (J := J1) hP (b := b) hL h7 (Nok_m V (nI j) (sTwo V (nI j))) (lw := 2) (w := 2) (by decide) (by decide) 0 99 (d + 3)
          refine r_cV3i dX11_goOn_117 vlX11_435 sh_347 (Nat.le_of_ble_eq_true rfl) hx117 ?_
          refine r_iadd dX11_goOn_120 ?_
          refine r_istore_n3 dX11_goOn_121 rfl ?_
          refine r_aload_n dX11_goOn_122 rfl ?_
          refine r_getR dX11_goOn_123 flX11_121 sh_347 (by decide) rfl (pf_347_60 hP) ?_
          refine r_bipush (v := 12) dX11_goOn_126 (by decide) ?_
          refine r_iload_n dX11_goOn_128 rfl ?_
          refine r_imul dX11_goOn_129 ?_
          refine r_iload_n dX11_goOn_130 rfl ?_
          refine r_iadd dX11_goOn_131 ?_
          refine r_iload_n dX11_goOn_132 rfl ?_
          refine r_sipush (v := 9999) dX11_goOn_133 (by decide) ?_
          refine r_ic_le 145 dX11_goOn_136 (by decide) (fun c136 => ?_) (fun c136 => ?_)
          · refine r_iload_n dX11_goOn_145 rfl ?_
            refine r_iasv dX11_goOn_146 sh_383 (ix12 hb (hv.i hj)) (rW5 _ _ hb (hv.i hj) _) ?_
            refine r_iinc2 (v := 1) dX11_goOn_147 (by decide) rfl ?_
            refine r_goto 65 dX11_goOn_150 (by decide) ?_
            rw [nI_1, hv.c hj]; rw [stG, if_pos q85, min_a c136] at k; exact k _ _ _ hj117
          · refine r_sipush (v := 9999) dX11_goOn_139 (by decide) ?_
            refine r_goto 146 dX11_goOn_142 (by decide) ?_
            refine r_iasv dX11_goOn_146 sh_383 (ix12 hb (hv.i hj)) (rW5 _ _ hb (hv.i hj) _) ?_
            refine r_iinc2 (v := 1) dX11_goOn_147 (by decide) rfl ?_
            refine r_goto 65 dX11_goOn_150 (by decide) ?_
            rw [nI_1, hv.c hj]; rw [stG, if_pos q85, min_b c136] at k; exact k _ _ _ hj117
        · exact absurd c88 (by decide)
      · refine r_cV2i dX11_goOn_85 vlX11_418 sh_347 (Nat.le_of_ble_eq_true rfl) (k_rTh_f hP hb (hv.i hj) h85 (d + 6)) ?_
        have q85 : ¬ V 9 j = 0 := by rw [hv.c hj] at h85; exact h85
        refine r_if_ne 94 dX11_goOn_88 (by decide) (fun c88 => ?_) (fun c88 => ?_)
        · exact absurd c88 (by decide)
        · refine r_goto 147 dX11_goOn_91 (by decide) ?_
          refine r_iinc2 (v := 1) dX11_goOn_147 (by decide) rfl ?_
          refine r_goto 65 dX11_goOn_150 (by decide) ?_
          rw [nI_1]; rw [stG, if_neg q85] at k; exact k _ _ _ (JokR.rf _)
set_option maxHeartbeats 2000000 in
theorem t_goP {E : xCl} {ex : Bool} {I V : Nat → Nat → Int32} {e1 : Int32} {J1 : Nat → Nat → Int64} {P : Nat → Nat → Nat} (hP : Pok P) {b : Nat} (hb : b < 2) {n : Nat} (hv : Vok V n) (h70 : I 347 70 = 0) {j : Nat} (hj : j < n) {x3 : Option Value} (d : Nat) {Q : Option Value → xS → Prop} (k : ∀ e2 J2, JokR J1 J2 → xR (xEx E ex (d + 7)) ex none yX11_goOn cX11_goOn none 155 [some (.ref 347), some (.int (nI b)), some (.int (nI (j + 1))), x3] [] (SH, wR (wE I e2) b (stP V j), J2, P) Q) : xR (xEx E ex (d + 7)) ex none yX11_goOn cX11_goOn none 155 [some (.ref 347), some (.int (nI b)), some (.int (nI j)), x3] [] (SH, wR (wE I e1) b V, J1, P) Q := by
  refine r_iload_n dX11_goOn_155 rfl ?_
  refine r_aload_n dX11_goOn_156 rfl ?_
  refine r_getR dX11_goOn_157 flX11_106 sh_347 (by decide) rfl (pf_347_55 hP) ?_
  refine r_iload_n dX11_goOn_160 rfl ?_
  refine r_ialv dX11_goOn_161 sh_378 (ix2 hb) (rR13 _ _ hb) ?_
  refine r_ic_ge 238 dX11_goOn_162 (by decide) (fun c162 => ?_) (fun c162 => ?_)
  · exact absurd c162 (hv.g hj)
  · refine r_aload_n dX11_goOn_165 rfl ?_
    refine r_getIv dX11_goOn_166 flX11_412 sh_347 (by decide) rfl ((wR_o _ _ _ (by decide) _).trans ((wE_f _ _ (by decide)).trans h70)) ?_
    refine r_if_ne 238 dX11_goOn_169 (by decide) (fun c169 => ?_) (fun c169 => ?_)
    · exact absurd rfl c169
    · refine r_aload_n dX11_goOn_172 rfl ?_
      refine r_iload_n dX11_goOn_173 rfl ?_
      refine r_iload_n dX11_goOn_174 rfl ?_
      by_cases h175 : V 9 (nI j).toNatClampNeg = 0
      · refine r_cV2i dX11_goOn_175 vlX11_418 sh_347 (Nat.le_of_ble_eq_true rfl) (k_rTh_t hP hb (hv.i hj) h175 (d + 6)) ?_
        have q175 : V 9 j = 0 := by rw [hv.c hj] at h175; exact h175
        have s175 := (hv.t hj).mpr q175
        refine r_if_eq 232 dX11_goOn_178 (by decide) (fun c178 => ?_) (fun c178 => ?_)
        · exact absurd c178 (by decide)
        · refine r_aload_n dX11_goOn_181 rfl ?_
          refine r_getR dX11_goOn_182 flX11_118 sh_347 (by decide) rfl (pf_347_59 hP) ?_
          refine r_iload_n dX11_goOn_185 rfl ?_
          refine r_ialv dX11_goOn_186 sh_382 (hv.i hj) ((rR7 _ _ (hv.i hj)).trans (congrArg (V 7) (hv.c hj))) ?_
          refine r_aload_n dX11_goOn_187 rfl ?_
          refine r_getR dX11_goOn_188 flX11_139 sh_347 (by decide) rfl (pf_347_66 hP) ?_
          refine r_iload_n dX11_goOn_191 rfl ?_
          refine r_ialv dX11_goOn_192 sh_389 (ix2 hb) (rR15 _ _ hb) ?_
          refine r_ic_gt 232 dX11_goOn_193 (by decide) (fun c193 => ?_) (fun c193 => ?_)
          · refine r_iinc2 (v := 1) dX11_goOn_232 (by decide) rfl ?_
            refine r_goto 155 dX11_goOn_235 (by decide) ?_
            rw [nI_1]; rw [stP_x c193] at k; exact k _ _ (JokR.rf _)
          · refine r_aload_n dX11_goOn_196 rfl ?_
            refine r_getR dX11_goOn_197 flX11_100 sh_347 (by decide) rfl (pf_347_53 hP) ?_
            refine r_bipush (v := 6) dX11_goOn_200 (by decide) ?_
            refine r_iload_n dX11_goOn_202 rfl ?_
            refine r_imul dX11_goOn_203 ?_
            refine r_aload_n dX11_goOn_204 rfl ?_
            refine r_getR dX11_goOn_205 flX11_109 sh_347 (by decide) rfl (pf_347_56 hP) ?_
            refine r_iload_n dX11_goOn_208 rfl ?_
            refine r_ialv dX11_goOn_209 sh_379 (hv.i hj) ((rR3 _ _ (hv.i hj)).trans (congrArg (V 3) (hv.c hj))) ?_
            refine r_iadd dX11_goOn_210 ?_
            refine r_ialv dX11_goOn_211 sh_376 (ix6 hb (hv.2.2.1 _)) (rR1 _ _ hb (hv.2.2.1 _)) ?_
            refine r_aload_n dX11_goOn_212 rfl ?_
            refine r_getR dX11_goOn_213 flX11_121 sh_347 (by decide) rfl (pf_347_60 hP) ?_
            refine r_bipush (v := 12) dX11_goOn_216 (by decide) ?_
            refine r_iload_n dX11_goOn_218 rfl ?_
            refine r_imul dX11_goOn_219 ?_
            refine r_iload_n dX11_goOn_220 rfl ?_
            refine r_iadd dX11_goOn_221 ?_
            refine r_ialv dX11_goOn_222 sh_383 (ix12 hb (hv.i hj)) ((rR5 _ _ hb (hv.i hj)).trans (congrArg (V 5) (hv.c hj))) ?_
            refine r_ic_lt 232 dX11_goOn_223 (by decide) (fun c223 => ?_) (fun c223 => ?_)
            · refine r_iinc2 (v := 1) dX11_goOn_232 (by decide) rfl ?_
              refine r_goto 155 dX11_goOn_235 (by decide) ?_
              rw [nI_1]; rw [stP, if_neg (fun z => z.2 (by rw [hv.c hj]; exact c223))] at k; exact k _ _ (JokR.rf _)
            · refine r_aload_n dX11_goOn_226 rfl ?_
              refine r_iload_n dX11_goOn_227 rfl ?_
              refine r_iload_n dX11_goOn_228 rfl ?_
              refine r_cV2v dX11_goOn_229 vlX11_452 sh_347 (Nat.le_of_ble_eq_true rfl) (k_paid hP hb hv (hv.i hj) (d + 6)) ?_
              refine r_iinc2 (v := 1) dX11_goOn_232 (by decide) rfl ?_
              refine r_goto 155 dX11_goOn_235 (by decide) ?_
              rw [nI_1, hv.c hj]; rw [stP, if_pos ⟨s175, by rw [hv.c hj]; exact c223⟩, if_neg c193] at k; exact k _ _ (JokR.rf _)
      · refine r_cV2i dX11_goOn_175 vlX11_418 sh_347 (Nat.le_of_ble_eq_true rfl) (k_rTh_f hP hb (hv.i hj) h175 (d + 6)) ?_
        have q175 : ¬ V 9 j = 0 := by rw [hv.c hj] at h175; exact h175
        refine r_if_eq 232 dX11_goOn_178 (by decide) (fun c178 => ?_) (fun c178 => ?_)
        · refine r_iinc2 (v := 1) dX11_goOn_232 (by decide) rfl ?_
          refine r_goto 155 dX11_goOn_235 (by decide) ?_
          rw [nI_1]; rw [stP, if_neg (fun z => q175 ((hv.t hj).mp z.1))] at k; exact k _ _ (JokR.rf _)
        · exact absurd c178 (by decide)
theorem l_goF {E : xCl} {ex : Bool} {I V : Nat → Nat → Int32} {J : Nat → Nat → Int64} {P : Nat → Nat → Nat} (hP : Pok P) {b : Nat} (hb : b < 2) {n : Nat} (hv : Vok V n) {L : Nat → (Nat → Int64) → Int64} (hL : LwR I L) (h7 : L7 L) (h69 : I 347 69 = 0) (d : Nat) {Q : Option Value → xS → Prop} (K : ∀ e2 J2 y x3, JokR J J2 → xR (xEx E ex (d + 7)) ex none yX11_goOn cX11_goOn none 63 [some (.ref 347), some (.int (nI b)), some (.int y), x3] [] (SH, wR (wE I e2) b (sFA V L n), J2, P) Q) : ∀ j, j ≤ n → ∀ (e1 : Int32) (J1 : Nat → Nat → Int64) (x3 : Option Value), JokR J J1 → xR (xEx E ex (d + 7)) ex none yX11_goOn cX11_goOn none 7 [some (.ref 347), some (.int (nI b)), some (.int (nI j)), x3] [] (SH, wR (wE I e1) b (sFA V L j), J1, P) Q := by
  refine r_for (fun j => ∀ (e1 : Int32) (J1 : Nat → Nat → Int64) (x3 : Option Value), JokR J J1 → xR (xEx E ex (d + 7)) ex none yX11_goOn cX11_goOn none 7 [some (.ref 347), some (.int (nI b)), some (.int (nI j)), x3] [] (SH, wR (wE I e1) b (sFA V L j), J1, P) Q) _ ?_ ?_
  · intro j hj ih e1 J1 x3 hJ
    exact t_goF hP hb (hv.okFA L j) hL h7 h69 hj d (fun e2 J2 h2 => ih e2 J2 _ (hJ.tr h2))
  · intro e1 J1 x3 hJ
    refine r_iload_n dX11_goOn_7 rfl ?_
    refine r_aload_n dX11_goOn_8 rfl ?_
    refine r_getR dX11_goOn_9 flX11_106 sh_347 (by decide) rfl (pf_347_55 hP) ?_
    refine r_iload_n dX11_goOn_12 rfl ?_
    refine r_ialv dX11_goOn_13 sh_378 (ix2 hb) (rR13 _ _ hb) ?_
    refine r_ic_ge 63 dX11_goOn_14 (by decide) (fun c14 => ?_) (fun c14 => ?_)
    · exact K _ _ _ _ hJ
    · exact absurd (hv.okFA L n).l c14
theorem l_goG {E : xCl} {ex : Bool} {I V : Nat → Nat → Int32} {J : Nat → Nat → Int64} {P : Nat → Nat → Nat} (hP : Pok P) {b : Nat} (hb : b < 2) {n : Nat} (hv : Vok V n) {L : Nat → (Nat → Int64) → Int64} (hL : LwR I L) (h7 : L7 L) (h71 : I 347 71 = 0) (d : Nat) {Q : Option Value → xS → Prop} (K : ∀ e2 J2 y x3, JokR J J2 → xR (xEx E ex (d + 7)) ex none yX11_goOn cX11_goOn none 153 [some (.ref 347), some (.int (nI b)), some (.int y), x3] [] (SH, wR (wE I e2) b (sGA V L n), J2, P) Q) : ∀ j, j ≤ n → ∀ (e1 : Int32) (J1 : Nat → Nat → Int64) (x3 : Option Value), JokR J J1 → xR (xEx E ex (d + 7)) ex none yX11_goOn cX11_goOn none 65 [some (.ref 347), some (.int (nI b)), some (.int (nI j)), x3] [] (SH, wR (wE I e1) b (sGA V L j), J1, P) Q := by
  refine r_for (fun j => ∀ (e1 : Int32) (J1 : Nat → Nat → Int64) (x3 : Option Value), JokR J J1 → xR (xEx E ex (d + 7)) ex none yX11_goOn cX11_goOn none 65 [some (.ref 347), some (.int (nI b)), some (.int (nI j)), x3] [] (SH, wR (wE I e1) b (sGA V L j), J1, P) Q) _ ?_ ?_
  · intro j hj ih e1 J1 x3 hJ
    exact t_goG hP hb (hv.okGA L j) hL h7 h71 hj d (fun e2 J2 y h2 => ih e2 J2 _ (hJ.tr h2))
  · intro e1 J1 x3 hJ
    refine r_iload_n dX11_goOn_65 rfl ?_
    refine r_aload_n dX11_goOn_66 rfl ?_
    refine r_getR dX11_goOn_67 flX11_106 sh_347 (by decide) rfl (pf_347_55 hP) ?_
    refine r_iload_n dX11_goOn_70 rfl ?_
    refine r_ialv dX11_goOn_71 sh_378 (ix2 hb) (rR13 _ _ hb) ?_
    refine r_ic_ge 153 dX11_goOn_72 (by decide) (fun c72 => ?_) (fun c72 => ?_)
    · exact K _ _ _ _ hJ
    · exact absurd (hv.okGA L n).l c72
theorem l_goP {E : xCl} {ex : Bool} {I V : Nat → Nat → Int32} {J : Nat → Nat → Int64} {P : Nat → Nat → Nat} (hP : Pok P) {b : Nat} (hb : b < 2) {n : Nat} (hv : Vok V n) (h70 : I 347 70 = 0) (d : Nat) {Q : Option Value → xS → Prop} (K : ∀ e2 J2 y x3, JokR J J2 → xR (xEx E ex (d + 7)) ex none yX11_goOn cX11_goOn none 238 [some (.ref 347), some (.int (nI b)), some (.int y), x3] [] (SH, wR (wE I e2) b (sPA V n), J2, P) Q) : ∀ j, j ≤ n → ∀ (e1 : Int32) (J1 : Nat → Nat → Int64) (x3 : Option Value), JokR J J1 → xR (xEx E ex (d + 7)) ex none yX11_goOn cX11_goOn none 155 [some (.ref 347), some (.int (nI b)), some (.int (nI j)), x3] [] (SH, wR (wE I e1) b (sPA V j), J1, P) Q := by
  refine r_for (fun j => ∀ (e1 : Int32) (J1 : Nat → Nat → Int64) (x3 : Option Value), JokR J J1 → xR (xEx E ex (d + 7)) ex none yX11_goOn cX11_goOn none 155 [some (.ref 347), some (.int (nI b)), some (.int (nI j)), x3] [] (SH, wR (wE I e1) b (sPA V j), J1, P) Q) _ ?_ ?_
  · intro j hj ih e1 J1 x3 hJ
    exact t_goP hP hb (hv.okPA j) h70 hj d (fun e2 J2 h2 => ih e2 J2 _ (hJ.tr h2))
  · intro e1 J1 x3 hJ
    refine r_iload_n dX11_goOn_155 rfl ?_
    refine r_aload_n dX11_goOn_156 rfl ?_
    refine r_getR dX11_goOn_157 flX11_106 sh_347 (by decide) rfl (pf_347_55 hP) ?_
    refine r_iload_n dX11_goOn_160 rfl ?_
    refine r_ialv dX11_goOn_161 sh_378 (ix2 hb) (rR13 _ _ hb) ?_
    refine r_ic_ge 238 dX11_goOn_162 (by decide) (fun c162 => ?_) (fun c162 => ?_)
    · exact K _ _ _ _ hJ
    · exact absurd (hv.okPA n).l c162
theorem s_goF {E : xCl} {ex : Bool} {I V : Nat → Nat → Int32} {e1 : Int32} {J1 : Nat → Nat → Int64} {P : Nat → Nat → Nat} (hP : Pok P) {b : Nat} (hb : b < 2) {n : Nat} (hv : Vok V n) (h69 : ¬ I 347 69 = 0) {x3 : Option Value} (d : Nat) {Q : Option Value → xS → Prop} (K : ∀ y x3, xR (xEx E ex (d + 7)) ex none yX11_goOn cX11_goOn none 63 [some (.ref 347), some (.int (nI b)), some (.int y), x3] [] (SH, wR (wE I e1) b V, J1, P) Q) : xR (xEx E ex (d + 7)) ex none yX11_goOn cX11_goOn none 7 [some (.ref 347), some (.int (nI b)), some (.int 0), x3] [] (SH, wR (wE I e1) b V, J1, P) Q := by
  refine r_iload_n dX11_goOn_7 rfl ?_
  refine r_aload_n dX11_goOn_8 rfl ?_
  refine r_getR dX11_goOn_9 flX11_106 sh_347 (by decide) rfl (pf_347_55 hP) ?_
  refine r_iload_n dX11_goOn_12 rfl ?_
  refine r_ialv dX11_goOn_13 sh_378 (ix2 hb) (rR13 _ _ hb) ?_
  refine r_ic_ge 63 dX11_goOn_14 (by decide) (fun c14 => ?_) (fun c14 => ?_)
  · exact K _ _
  · refine r_aload_n dX11_goOn_17 rfl ?_
    refine r_getIv dX11_goOn_18 flX11_409 sh_347 (by decide) rfl ((wR_o _ _ _ (by decide) _).trans ((wE_f _ _ (by decide)).trans rfl)) ?_
    refine r_if_ne 63 dX11_goOn_21 (by decide) (fun c21 => ?_) (fun c21 => ?_)
    · exact K _ _
    · exact absurd c21 h69
theorem s_goG {E : xCl} {ex : Bool} {I V : Nat → Nat → Int32} {e1 : Int32} {J1 : Nat → Nat → Int64} {P : Nat → Nat → Nat} (hP : Pok P) {b : Nat} (hb : b < 2) {n : Nat} (hv : Vok V n) (h71 : ¬ I 347 71 = 0) {x3 : Option Value} (d : Nat) {Q : Option Value → xS → Prop} (K : ∀ y x3, xR (xEx E ex (d + 7)) ex none yX11_goOn cX11_goOn none 153 [some (.ref 347), some (.int (nI b)), some (.int y), x3] [] (SH, wR (wE I e1) b V, J1, P) Q) : xR (xEx E ex (d + 7)) ex none yX11_goOn cX11_goOn none 65 [some (.ref 347), some (.int (nI b)), some (.int 0), x3] [] (SH, wR (wE I e1) b V, J1, P) Q := by
  refine r_iload_n dX11_goOn_65 rfl ?_
  refine r_aload_n dX11_goOn_66 rfl ?_
  refine r_getR dX11_goOn_67 flX11_106 sh_347 (by decide) rfl (pf_347_55 hP) ?_
  refine r_iload_n dX11_goOn_70 rfl ?_
  refine r_ialv dX11_goOn_71 sh_378 (ix2 hb) (rR13 _ _ hb) ?_
  refine r_ic_ge 153 dX11_goOn_72 (by decide) (fun c72 => ?_) (fun c72 => ?_)
  · exact K _ _
  · refine r_aload_n dX11_goOn_75 rfl ?_
    refine r_getIv dX11_goOn_76 flX11_415 sh_347 (by decide) rfl ((wR_o _ _ _ (by decide) _).trans ((wE_f _ _ (by decide)).trans rfl)) ?_
    refine r_if_ne 153 dX11_goOn_79 (by decide) (fun c79 => ?_) (fun c79 => ?_)
    · exact K _ _
    · exact absurd c79 h71
theorem s_goP {E : xCl} {ex : Bool} {I V : Nat → Nat → Int32} {e1 : Int32} {J1 : Nat → Nat → Int64} {P : Nat → Nat → Nat} (hP : Pok P) {b : Nat} (hb : b < 2) {n : Nat} (hv : Vok V n) (h70 : ¬ I 347 70 = 0) {x3 : Option Value} (d : Nat) {Q : Option Value → xS → Prop} (K : ∀ y x3, xR (xEx E ex (d + 7)) ex none yX11_goOn cX11_goOn none 238 [some (.ref 347), some (.int (nI b)), some (.int y), x3] [] (SH, wR (wE I e1) b V, J1, P) Q) : xR (xEx E ex (d + 7)) ex none yX11_goOn cX11_goOn none 155 [some (.ref 347), some (.int (nI b)), some (.int 0), x3] [] (SH, wR (wE I e1) b V, J1, P) Q := by
  refine r_iload_n dX11_goOn_155 rfl ?_
  refine r_aload_n dX11_goOn_156 rfl ?_
  refine r_getR dX11_goOn_157 flX11_106 sh_347 (by decide) rfl (pf_347_55 hP) ?_
  refine r_iload_n dX11_goOn_160 rfl ?_
  refine r_ialv dX11_goOn_161 sh_378 (ix2 hb) (rR13 _ _ hb) ?_
  refine r_ic_ge 238 dX11_goOn_162 (by decide) (fun c162 => ?_) (fun c162 => ?_)
  · exact K _ _
  · refine r_aload_n dX11_goOn_165 rfl ?_
    refine r_getIv dX11_goOn_166 flX11_412 sh_347 (by decide) rfl ((wR_o _ _ _ (by decide) _).trans ((wE_f _ _ (by decide)).trans rfl)) ?_
    refine r_if_ne 238 dX11_goOn_169 (by decide) (fun c169 => ?_) (fun c169 => ?_)
    · exact K _ _
    · exact absurd c169 h70
theorem j_goF {E : xCl} {ex : Bool} {I V : Nat → Nat → Int32} {e1 : Int32} {J1 : Nat → Nat → Int64} {P : Nat → Nat → Nat} (hP : Pok P) {b : Nat} (hb : b < 2) {n : Nat} (hv : Vok V n) {L : Nat → (Nat → Int64) → Int64} (hL : LwR I L) (h7 : L7 L) {lo : Int32} (h69 : I 347 69 = 0 ↔ ¬ lo = 0) (d : Nat) {Q : Option Value → xS → Prop} {x3 : Option Value} (K : ∀ e2 J2 y x3, JokR J1 J2 → xR (xEx E ex (d + 7)) ex none yX11_goOn cX11_goOn none 63 [some (.ref 347), some (.int (nI b)), some (.int y), x3] [] (SH, wR (wE I e2) b (if lo = 0 then V else sFA V L n), J2, P) Q) : xR (xEx E ex (d + 7)) ex none yX11_goOn cX11_goOn none 7 [some (.ref 347), some (.int (nI b)), some (.int 0), x3] [] (SH, wR (wE I e1) b V, J1, P) Q := by
  by_cases h : lo = 0
  · simp only [if_pos h] at K
    exact s_goF hP hb hv (fun z => h69.mp z h) d (fun y x3 => K _ _ y x3 (JokR.rf _))
  · simp only [if_neg h] at K
    exact l_goF hP hb hv hL h7 (h69.mpr h) d K 0 (Nat.zero_le n) _ _ _ (JokR.rf _)
theorem j_goG {E : xCl} {ex : Bool} {I V : Nat → Nat → Int32} {e1 : Int32} {J1 : Nat → Nat → Int64} {P : Nat → Nat → Nat} (hP : Pok P) {b : Nat} (hb : b < 2) {n : Nat} (hv : Vok V n) {L : Nat → (Nat → Int64) → Int64} (hL : LwR I L) (h7 : L7 L) {lo : Int32} (h71 : I 347 71 = 0 ↔ ¬ lo = 4) (d : Nat) {Q : Option Value → xS → Prop} {x3 : Option Value} (K : ∀ e2 J2 y x3, JokR J1 J2 → xR (xEx E ex (d + 7)) ex none yX11_goOn cX11_goOn none 153 [some (.ref 347), some (.int (nI b)), some (.int y), x3] [] (SH, wR (wE I e2) b (if lo = 4 then V else sGA V L n), J2, P) Q) : xR (xEx E ex (d + 7)) ex none yX11_goOn cX11_goOn none 65 [some (.ref 347), some (.int (nI b)), some (.int 0), x3] [] (SH, wR (wE I e1) b V, J1, P) Q := by
  by_cases h : lo = 4
  · simp only [if_pos h] at K
    exact s_goG hP hb hv (fun z => h71.mp z h) d (fun y x3 => K _ _ y x3 (JokR.rf _))
  · simp only [if_neg h] at K
    exact l_goG hP hb hv hL h7 (h71.mpr h) d K 0 (Nat.zero_le n) _ _ _ (JokR.rf _)
theorem j_goP {E : xCl} {ex : Bool} {I V : Nat → Nat → Int32} {e1 : Int32} {J1 : Nat → Nat → Int64} {P : Nat → Nat → Nat} (hP : Pok P) {b : Nat} (hb : b < 2) {n : Nat} (hv : Vok V n) {lo : Int32} (h70 : I 347 70 = 0 ↔ ¬ lo = 1) (d : Nat) {Q : Option Value → xS → Prop} {x3 : Option Value} (K : ∀ e2 J2 y x3, JokR J1 J2 → xR (xEx E ex (d + 7)) ex none yX11_goOn cX11_goOn none 238 [some (.ref 347), some (.int (nI b)), some (.int y), x3] [] (SH, wR (wE I e2) b (if lo = 1 then V else sPA V n), J2, P) Q) : xR (xEx E ex (d + 7)) ex none yX11_goOn cX11_goOn none 155 [some (.ref 347), some (.int (nI b)), some (.int 0), x3] [] (SH, wR (wE I e1) b V, J1, P) Q := by
  by_cases h : lo = 1
  · simp only [if_pos h] at K
    exact s_goP hP hb hv (fun z => h70.mp z h) d (fun y x3 => K _ _ y x3 (JokR.rf _))
  · simp only [if_neg h] at K
    exact l_goP hP hb hv (h70.mpr h) d K 0 (Nat.zero_le n) _ _ _ (JokR.rf _)
theorem Vok.ite {V W : Nat → Nat → Int32} {n : Nat} {c : Prop} [Decidable c] (h1 : Vok V n) (h2 : Vok W n) : Vok (if c then V else W) n := by split; exact h1; exact h2
set_option maxHeartbeats 2000000 in
theorem k_goOn {E : xCl} {ex : Bool} {I V : Nat → Nat → Int32} {e : Int32} {J : Nat → Nat → Int64} {P : Nat → Nat → Nat} (hP : Pok P) {b : Nat} (hb : b < 2) {n : Nat} (hv : Vok V n) (hk : Tok V n) {L : Nat → (Nat → Int64) → Int64} (hL : LwR I L) (h7 : L7 L) {m : Nat} (hm : m ≤ 8) (hc : I 347 14 = nI m) (hg : ∀ k, vp_in (I 363 k) 6) {lo : Int32} (h69 : I 347 69 = 0 ↔ ¬ lo = 0) (h71 : I 347 71 = 0 ↔ ¬ lo = 4) (h70 : I 347 70 = 0 ↔ ¬ lo = 1) (d : Nat) : ∃ e' J', xEx E ex (d + 8) yX11_goOn [.ref 347, .int (nI b)] (SH, wR (wE I e) b V, J, P) none (SH, wR (wE I e') b (sGo V L n (rT I) m lo), J', P) ∧ JokR J J' := by
  refine QR.use (F := fun z => wR z b (sGo V L n (rT I) m lo)) (x_enterq (d := d + 7) cqX11_goOn [some (.ref 347), some (.int (nI b)), none, none] rfl (by simp [lg_sl, Value.category]) ?_)
  refine r_aload_n dX11_goOn_0 rfl ?_
  refine r_iload_n dX11_goOn_1 rfl ?_
  obtain ⟨e2, J2, hx2, hj2⟩ := k_crosses (E := E) (ex := ex) (I := I) (V := V) (e := e) (J := J) hP hb hv hk hL h7 hm hc hg d
  have v1 := hv.okCA L (rT I) m
  have v2 : Vok (if lo = 0 then (sCA V L n (rT I) m) else sFA (sCA V L n (rT I) m) L n) n := Vok.ite v1 (v1.okFA L n)
  have v3 : Vok (if lo = 4 then (if lo = 0 then (sCA V L n (rT I) m) else sFA (sCA V L n (rT I) m) L n) else sGA (if lo = 0 then (sCA V L n (rT I) m) else sFA (sCA V L n (rT I) m) L n) L n) n := Vok.ite v2 (v2.okGA L n)
  refine r_cV1v dX11_goOn_2 vlX11_446 sh_347 (Nat.le_of_ble_eq_true rfl) hx2 ?_
  refine r_iconst (v := 0) dX11_goOn_5 (by decide) ?_
  refine r_istore_n2 dX11_goOn_6 rfl ?_
  refine j_goF hP hb v1 hL h7 h69 d (fun e3 J3 y3 x3 h3 => ?_)
  refine r_iconst (v := 0) dX11_goOn_63 (by decide) ?_
  refine r_istore_n2 dX11_goOn_64 rfl ?_
  refine j_goG hP hb v2 hL h7 h71 d (fun e4 J4 y4 x4 h4 => ?_)
  refine r_iconst (v := 0) dX11_goOn_153 (by decide) ?_
  refine r_istore_n2 dX11_goOn_154 rfl ?_
  refine j_goP hP hb v3 h70 d (fun e5 J5 y5 x5 h5 => ?_)
  refine r_aload_n dX11_goOn_238 rfl ?_
  refine r_getR dX11_goOn_239 flX11_139 sh_347 (by decide) rfl (pf_347_66 hP) ?_
  refine r_iload_n dX11_goOn_242 rfl ?_
  refine r_dup2 dX11_goOn_243 rfl rfl ?_
  refine r_ialv dX11_goOn_244 sh_389 (ix2 hb) (rR15 _ _ hb) ?_
  refine r_iconst (v := 1) dX11_goOn_245 (by decide) ?_
  refine r_iadd dX11_goOn_246 ?_
  refine r_iasv dX11_goOn_247 sh_389 (ix2 hb) (rW15 _ _ hb _) ?_
  exact r_vretq dX11_goOn_248 rfl (QR.mk (F := fun z => wR z b (sGo V L n (rT I) m lo)) (((hj2.tr h3).tr h4).tr h5))
