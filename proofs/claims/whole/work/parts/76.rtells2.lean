/-! the reference: tells whole -/
/-- the end of tells: the row of what would be borne, too -/
def QL (I V : Nat → Nat → Int32) (J : Nat → Nat → Int64) (P : Nat → Nat → Nat) (r : Option Value) : Option Value → xS → Prop := fun r1 S1 => r1 = r ∧ ∃ l e' J' W', S1 = (SH, wR (wE (rPl (wT I l)) e') 1 W', J', P) ∧ JokR J J' ∧ FX V W'
theorem rSag_row {g h : Nat → Int32} {q : Nat} (e : ∀ k, k < q → g k = h k) (x : Int32) {i : Nat} (hi : i < q) : ∀ j, j ≤ i → rFq g x i j = rFq h x i j
  | 0, _ => rfl
  | j + 1, hj => by rw [rFq, rFq, e i hi, e j (by omega), rSag_row e x hi j (by omega)]
theorem rWy_eq {g h : Nat → Int32} {q : Nat} (e : ∀ k, k < q → g k = h k) (x : Int32) : ∀ i, i ≤ q → rWy g x i = rWy h x i
  | 0, _ => rfl
  | i + 1, hi => by rw [rWy, rWy, rSag_row e x (by omega) i (Nat.le_refl _), rWy_eq e x i (by omega)]
theorem rMt_eq {g h : Nat → Int32} {q : Nat} (e : ∀ k, k < q → g k = h k) : ∀ x, rMt g q x = rMt h q x
  | 0 => rfl
  | x + 1 => by rw [rMt, rMt, rWy_eq e _ q (Nat.le_refl _), rMt_eq e x]
set_option maxHeartbeats 4000000 in
theorem l_rtells {E : xCl} {ex : Bool} {I : Nat → Nat → Int32} {J : Nat → Nat → Int64} {P : Nat → Nat → Nat} (hP : Pok P) (hp : Pt I) {q : Nat} (hq10 : q ≤ 10) (hq : I 347 13 = nI q) {n : Nat} (hv : Vok (vR I 0) n) (hk : Tok (vR I 0) n) {L : Nat → (Nat → Int64) → Int64} (hL : LwR I L) (h7 : L7 L) (M : Nat → Prop) (u : Int32) (d : Nat) : ∀ c s e1 J1 W, s + c = q + 1 → FX (vR I 0) W → JokR J J1 → xR (xEx E ex (d + 7)) ex none yX11_tells cX11_tells (some .int) 26 [some (.ref 347), some (.int u), some (.int (sPd M (q + 1))), some (.int (nI (sTl M (fun c => sBr (sPa (vR I 0) (nI c) (nI q)) L n) s).length)), some (.int (nI s)), none, none, none, none, none, none] [] (SH, wR (wE (rPl (wT I (sTl M (fun c => sBr (sPa (vR I 0) (nI c) (nI q)) L n) s))) e1) 1 W, J1, P) (QL I (vR I 0) J P (some (.int (if (sTl M (fun c => sBr (sPa (vR I 0) (nI c) (nI q)) L n) (q + 1)) = [] then -2 else if u = 0 then (rMt (fun k => (sTl M (fun c => sBr (sPa (vR I 0) (nI c) (nI q)) L n) (q + 1)).getD k 0) (sTl M (fun c => sBr (sPa (vR I 0) (nI c) (nI q)) L n) (q + 1)).length 200).1 else (rMt (fun k => (sTl M (fun c => sBr (sPa (vR I 0) (nI c) (nI q)) L n) (q + 1)).getD k 0) (sTl M (fun c => sBr (sPa (vR I 0) (nI c) (nI q)) L n) (q + 1)).length 200).2)))) := by
  intro c
  induction c with
  | zero =>
    intro s e1 J1 W hs hfx hJ
    have hs : s = q + 1 := by omega
    subst hs
    have hlen := sTl_len M (fun c => sBr (sPa (vR I 0) (nI c) (nI q)) L n) (q + 1)
    refine r_iload dX11_tells_26 rfl ?_
    refine r_aload_n dX11_tells_28 rfl ?_
    refine r_getIv dX11_tells_29 flX11_273 sh_347 (by decide) rfl ((wR_o _ _ _ (by decide) _).trans ((wE_f _ _ (by decide)).trans ((rPl_k (by decide) (by decide) (by decide)).trans ((wT_o _ _ (by decide) _).trans hq)))) ?_
    refine r_ic_gt 90 dX11_tells_32 (by decide) (fun c32 => ?_) (fun c32 => ?_)
    · refine r_iload_n dX11_tells_90 rfl ?_
      refine r_if_ne 97 dX11_tells_91 (by decide) (fun c91 => ?_) (fun c91 => ?_)
      · refine r_iconst (v := 1) dX11_tells_97 (by decide) ?_
        refine r_istore4 dX11_tells_98 rfl ?_
        refine r_iconst (v := 0) dX11_tells_100 (by decide) ?_
        refine r_istore5 dX11_tells_101 rfl ?_
        refine r_iconst (v := 1) dX11_tells_103 (by decide) ?_
        refine r_istore6 dX11_tells_104 rfl ?_
        refine l_rtl2 (q := (sTl M (fun c => sBr (sPa (vR I 0) (nI c) (nI q)) L n) (q + 1)).length) hP (by omega) (d + 6) ?_ 0 (Nat.zero_le _) _ _ _ _
        have hg : ∀ k, k < (sTl M (fun c => sBr (sPa (vR I 0) (nI c) (nI q)) L n) (q + 1)).length → wR (wE (rPl (wT I (sTl M (fun c => sBr (sPa (vR I 0) (nI c) (nI q)) L n) (q + 1)))) e1) 1 W 397 k = (sTl M (fun c => sBr (sPa (vR I 0) (nI c) (nI q)) L n) (q + 1)).getD k 0 := fun k hk => by
          rw [wR_o _ _ _ (by decide), wE_o _ _ (by decide), rPl_o (by decide)]
          exact if_pos ⟨rfl, hk⟩
        rw [rMt_eq hg 200, if_neg (fun z => c91 (by rw [z]; rfl))]
        exact ⟨rfl, _, e1, J1, W, rfl, hJ, hfx⟩
      · refine r_bipush (v := (-2)) dX11_tells_94 (by decide) ?_
        exact r_iretq dX11_tells_96 rfl rfl (by rw [if_pos (List.eq_nil_of_length_eq_zero (by have := congrArg Int32.toNatClampNeg c91; rw [nI_clamp (by omega)] at this; exact this))]; exact ⟨rfl, _, e1, J1, W, rfl, hJ, hfx⟩)
    · exact absurd (nI_lt (a := q) (b := q + 1) (by omega) (by omega)) c32
  | succ c ih =>
    intro s e1 J1 W hs hfx hJ
    have hbit : ((sPd M (q + 1) >>> (nI s &&& 31)) &&& 1 = 1) ↔ M s := ⟨fun z => ((sPd_b (q + 1) (by omega) s (by omega)).mp z).2, fun z => (sPd_b (q + 1) (by omega) s (by omega)).mpr ⟨by omega, z⟩⟩
    refine r_iload dX11_tells_26 rfl ?_
    refine r_aload_n dX11_tells_28 rfl ?_
    refine r_getIv dX11_tells_29 flX11_273 sh_347 (by decide) rfl ((wR_o _ _ _ (by decide) _).trans ((wE_f _ _ (by decide)).trans ((rPl_k (by decide) (by decide) (by decide)).trans ((wT_o _ _ (by decide) _).trans hq)))) ?_
    refine r_ic_gt 90 dX11_tells_32 (by decide) (fun c32 => ?_) (fun c32 => ?_)
    · exact absurd c32 (nI_nlt (a := q) (b := s) (by omega) (by omega))
    · refine r_iload_n dX11_tells_35 rfl ?_
      refine r_iload dX11_tells_36 rfl ?_
      by_cases h38 : (sPd M (q + 1) >>> (nI s &&& 31)) &&& 1 = 1
      · refine r_cS2i dX11_tells_38 slX11_485 (Nat.le_of_ble_eq_true rfl) (k_isOf_t h38 (d + 6)) ?_
        refine r_if_ne 47 dX11_tells_41 (by decide) (fun c41 => ?_) (fun c41 => ?_)
        · refine r_aload_n dX11_tells_47 rfl ?_
          have z48 := k_lay3 (E := E) (ex := ex) (I := wT I (sTl M (fun c => sBr (sPa (vR I 0) (nI c) (nI q)) L n) s)) (I1 := rPl (wT I (sTl M (fun c => sBr (sPa (vR I 0) (nI c) (nI q)) L n) s))) (W := W) (e := e1) (J := J1) hP (fun j hj => by rw [wT_o _ _ (by decide)]; exact hp j hj) (Or.inr rfl) (by rw [vR_of (fun a k h1 h2 => wT_o _ _ (by omega) k)]; exact hfx) (d + 5)
          rw [vR_of (fun a k h1 h2 => wT_o _ _ (by omega) k) 0] at z48
          refine r_cV0v dX11_tells_48 vlX11_482 sh_347 (Nat.le_of_ble_eq_true rfl) z48 ?_
          refine r_aload_n dX11_tells_51 rfl ?_
          refine r_iload dX11_tells_52 rfl ?_
          refine r_aload_n dX11_tells_54 rfl ?_
          refine r_getIv dX11_tells_55 flX11_273 sh_347 (by decide) rfl ((wR_o _ _ _ (by decide) _).trans ((wE_f _ _ (by decide)).trans ((rPl_k (by decide) (by decide) (by decide)).trans ((wT_o _ _ (by decide) _).trans hq)))) ?_
          refine r_ic_ne 65 dX11_tells_58 (by decide) (fun c58 => ?_) (fun c58 => ?_)
          · refine r_iload dX11_tells_65 rfl ?_
            refine r_cV1v dX11_tells_67 vlX11_522 sh_347 (Nat.le_of_ble_eq_true rfl) (show xEx E ex (d + 7) _ _ _ none (SH, wR (wE (rPl (wT I (sTl M (fun c => sBr (sPa (vR I 0) (nI c) (nI q)) L n) s))) e1) 1 (sPa (vR I 0) (nI s) (nI q)), J1, P) from k_paintsOne hP _ _ (pa_bits hq10 (by omega) (Or.inr ⟨Nat.lt_of_le_of_ne (by omega) (fun z => c58 (by rw [z])), rfl⟩)) (d + 6)) ?_
            refine r_aload_n dX11_tells_70 rfl ?_
            refine r_getR dX11_tells_71 flX11_166 sh_347 (by decide) rfl (pf_347_80 hP) ?_
            refine r_iload_n dX11_tells_74 rfl ?_
            refine r_aload_n dX11_tells_75 rfl ?_
            refine r_iconst (v := 1) dX11_tells_76 (by decide) ?_
            obtain ⟨e9, J9, hx9, hj9⟩ := k_rbridge (E := E) (ex := ex) (I := rPl (wT I (sTl M (fun c => sBr (sPa (vR I 0) (nI c) (nI q)) L n) s))) (V := sPa (vR I 0) (nI s) (nI q)) (e := e1) (J := J1) hP (b := 1) (by decide) (show Vok (xu _ _ _ _) n from hv.xu (by decide) (by decide) (by decide)) (show Tok (xu _ _ _ _) n from hk.xu (by decide)) (hL.of (fun a h1 h2 => funext (fun k => (rPl_o (by omega) k).trans (wT_o _ _ (by omega) k)))) h7 (d + 1)
            have hj9 := hJ.tr hj9
            have hlen := sTl_len M (fun c => sBr (sPa (vR I 0) (nI c) (nI q)) L n) s
            refine r_cV1i dX11_tells_77 vlX11_443 sh_347 (Nat.le_of_ble_eq_true rfl) hx9 ?_
            refine r_iasv dX11_tells_80 sh_397 (in11 (by omega)) (show _ = wR (wE (rPl (wT I (sTl M (fun c => sBr (sPa (vR I 0) (nI c) (nI q)) L n) (s + 1)))) e9) 1 (sPa (vR I 0) (nI s) (nI q)) from (wR_xo _ _ _ (by decide) _ _).trans (congrArg (fun z => wR z _ _) ((wE_c _ _ _ (fun z => absurd z.1 (by decide))).trans (congrArg (fun z => wE z _) (by rw [rPl_x _ (by decide), nI_clamp (by omega), wT_s, sTl_t (hbit.mp h38)]))))) ?_
            refine r_iinc3 (v := 1) dX11_tells_81 (by decide) rfl ?_
            refine r_iinc4 (v := 1) dX11_tells_84 (by decide) rfl ?_
            refine r_goto 26 dX11_tells_87 (by decide) ?_
            rw [nI_1, nI_1]; have z := ih (s + 1) e9 J9 (sPa (vR I 0) (nI s) (nI q)) (by omega) (FX.xu (f := 12) (FX.rf _) (by decide)) hj9; rw [sTl_t (hbit.mp h38), List.length_append] at z; rw [sTl_t (hbit.mp h38)]; exact z
          · refine r_iconst (v := (-1)) dX11_tells_61 (by decide) ?_
            refine r_goto 67 dX11_tells_62 (by decide) ?_
            refine r_cV1v dX11_tells_67 vlX11_522 sh_347 (Nat.le_of_ble_eq_true rfl) (show xEx E ex (d + 7) _ _ _ none (SH, wR (wE (rPl (wT I (sTl M (fun c => sBr (sPa (vR I 0) (nI c) (nI q)) L n) s))) e1) 1 (sPa (vR I 0) (nI s) (nI q)), J1, P) from k_paintsOne hP _ _ (pa_bits hq10 (by omega) (Or.inl ⟨(nI_eq (a := s) (b := q) (by omega) (by omega)).mp c58, rfl⟩)) (d + 6)) ?_
            refine r_aload_n dX11_tells_70 rfl ?_
            refine r_getR dX11_tells_71 flX11_166 sh_347 (by decide) rfl (pf_347_80 hP) ?_
            refine r_iload_n dX11_tells_74 rfl ?_
            refine r_aload_n dX11_tells_75 rfl ?_
            refine r_iconst (v := 1) dX11_tells_76 (by decide) ?_
            obtain ⟨e9, J9, hx9, hj9⟩ := k_rbridge (E := E) (ex := ex) (I := rPl (wT I (sTl M (fun c => sBr (sPa (vR I 0) (nI c) (nI q)) L n) s))) (V := sPa (vR I 0) (nI s) (nI q)) (e := e1) (J := J1) hP (b := 1) (by decide) (show Vok (xu _ _ _ _) n from hv.xu (by decide) (by decide) (by decide)) (show Tok (xu _ _ _ _) n from hk.xu (by decide)) (hL.of (fun a h1 h2 => funext (fun k => (rPl_o (by omega) k).trans (wT_o _ _ (by omega) k)))) h7 (d + 1)
            have hj9 := hJ.tr hj9
            have hlen := sTl_len M (fun c => sBr (sPa (vR I 0) (nI c) (nI q)) L n) s
            refine r_cV1i dX11_tells_77 vlX11_443 sh_347 (Nat.le_of_ble_eq_true rfl) hx9 ?_
            refine r_iasv dX11_tells_80 sh_397 (in11 (by omega)) (show _ = wR (wE (rPl (wT I (sTl M (fun c => sBr (sPa (vR I 0) (nI c) (nI q)) L n) (s + 1)))) e9) 1 (sPa (vR I 0) (nI s) (nI q)) from (wR_xo _ _ _ (by decide) _ _).trans (congrArg (fun z => wR z _ _) ((wE_c _ _ _ (fun z => absurd z.1 (by decide))).trans (congrArg (fun z => wE z _) (by rw [rPl_x _ (by decide), nI_clamp (by omega), wT_s, sTl_t (hbit.mp h38)]))))) ?_
            refine r_iinc3 (v := 1) dX11_tells_81 (by decide) rfl ?_
            refine r_iinc4 (v := 1) dX11_tells_84 (by decide) rfl ?_
            refine r_goto 26 dX11_tells_87 (by decide) ?_
            rw [nI_1, nI_1]; have z := ih (s + 1) e9 J9 (sPa (vR I 0) (nI s) (nI q)) (by omega) (FX.xu (f := 12) (FX.rf _) (by decide)) hj9; rw [sTl_t (hbit.mp h38), List.length_append] at z; rw [sTl_t (hbit.mp h38)]; exact z
        · exact absurd c41 (by decide)
      · refine r_cS2i dX11_tells_38 slX11_485 (Nat.le_of_ble_eq_true rfl) (k_isOf_f h38 (d + 6)) ?_
        refine r_if_ne 47 dX11_tells_41 (by decide) (fun c41 => ?_) (fun c41 => ?_)
        · exact absurd c41 (by decide)
        · refine r_goto 84 dX11_tells_44 (by decide) ?_
          refine r_iinc4 (v := 1) dX11_tells_84 (by decide) rfl ?_
          refine r_goto 26 dX11_tells_87 (by decide) ?_
          rw [nI_1]; have z := ih (s + 1) e1 J1 W (by omega) hfx hJ; rw [sTl_f (fun z => h38 (hbit.mpr z))] at z; exact z
set_option maxHeartbeats 1000000 in
theorem k_rtells_n {E : xCl} {ex : Bool} {I I0 : Nat → Nat → Int32} {J : Nat → Nat → Int64} {P : Nat → Nat → Nat} (hP : Pok P) (hI : xu I 347 2 0 = I0) {u : Int32} (h : ¬ (¬ u < 0 ∧ ¬ 1 < u)) (d : Nat) : xEx E ex (d + 2) yX11_tells [.ref 347, .int u] (SH, I, J, P) (some (.int (-1))) (SH, I0, J, P) := by
  refine x_enter cqX11_tells [some (.ref 347), some (.int u), none, none, none, none, none, none, none, none, none] rfl (by simp [lg_sl, Value.category]) ?_
  refine r_aload_n dX11_tells_0 rfl ?_
  refine r_iconst (v := 0) dX11_tells_1 (by decide) ?_
  refine r_putIv dX11_tells_2 flX11_193 ⟨_, _, _, rfl, Or.inl rfl⟩ sh_347 (by decide) rfl rfl rfl hI ?_
  refine r_iload_n dX11_tells_5 rfl ?_
  refine r_iconst (v := 0) dX11_tells_6 (by decide) ?_
  refine r_iconst (v := 1) dX11_tells_7 (by decide) ?_
  refine r_cS3i dX11_tells_8 slX11_238 (Nat.le_of_ble_eq_true rfl) (k_isIn_f h d) ?_
  refine r_if_ne 16 dX11_tells_11 (by decide) (fun c11 => ?_) (fun c11 => ?_)
  · exact absurd c11 (by decide)
  · refine r_iconst (v := (-1)) dX11_tells_14 (by decide) ?_
    exact r_iret dX11_tells_15 rfl rfl rfl rfl
set_option maxHeartbeats 2000000 in
theorem k_rtells {E : xCl} {ex : Bool} {I I0 : Nat → Nat → Int32} {J : Nat → Nat → Int64} {P : Nat → Nat → Nat} (hP : Pok P) (hI : xu I 347 2 0 = I0) {q : Nat} (hq10 : q ≤ 10) (hq : I0 347 13 = nI q) (hp1 : ∀ j, j < 10 → I0 361 j = 0 ∨ I0 361 j = 1) (ht : ∀ j, j < q → I0 362 j = -1 ∨ ∃ z, z < q ∧ z ≠ j ∧ I0 362 j = nI z ∧ I0 362 z = nI j) (h3 : ∀ k, vp_in (I0 379 k) 6) (h4 : ∀ k, vp_in (I0 380 k) 6) {L : Nat → (Nat → Int64) → Int64} (hL : LwR I0 L) (h7 : L7 L) {m : Nat} (hm : m ≤ 8) (hc : I0 347 14 = nI m) (hg : ∀ k, vp_in (I0 363 k) 6) {kb : Nat} (hkb24 : kb ≤ 24) (hkb : rKb I0 = nI kb) (hp : Pt I0) (hst : ∀ k, k < kb → I0 395 (4 * k) < 0 → vp_in (I0 395 (4 * k + 1)) 24) (h51 : ∀ j, j < kb → ¬ nI 51 ≤ I0 395 (4 * j)) {n : Nat} (hv : Vok (vR I0 0) n) (hk : Tok (vR I0 0) n) {u : Int32} (h : ¬ u < 0 ∧ ¬ 1 < u) (d : Nat) : ∃ l e' J' W', xEx E ex (d + 13) yX11_tells [.ref 347, .int u] (SH, I, J, P) (some (.int (if (sTl (cM (cC I0 kb) L q m kb) (fun c => sBr (sPa (vR (cC I0 kb) 0) (nI c) (nI q)) L n) (q + 1)) = [] then -2 else if u = 0 then (rMt (fun k => (sTl (cM (cC I0 kb) L q m kb) (fun c => sBr (sPa (vR (cC I0 kb) 0) (nI c) (nI q)) L n) (q + 1)).getD k 0) (sTl (cM (cC I0 kb) L q m kb) (fun c => sBr (sPa (vR (cC I0 kb) 0) (nI c) (nI q)) L n) (q + 1)).length 200).1 else (rMt (fun k => (sTl (cM (cC I0 kb) L q m kb) (fun c => sBr (sPa (vR (cC I0 kb) 0) (nI c) (nI q)) L n) (q + 1)).getD k 0) (sTl (cM (cC I0 kb) L q m kb) (fun c => sBr (sPa (vR (cC I0 kb) 0) (nI c) (nI q)) L n) (q + 1)).length 200).2))) (SH, wR (wE (rPl (wT (cC I0 kb) l)) e') 1 W', J', P) ∧ JokR J J' ∧ FX (vR I0 0) W' := by
  have key : ∃ r1 S1, xEx E ex (d + 12 + 1) yX11_tells [.ref 347, .int u] (SH, I, J, P) r1 S1 ∧ QL (cC I0 kb) (vR (cC I0 kb) 0) J P (some (.int (if (sTl (cM (cC I0 kb) L q m kb) (fun c => sBr (sPa (vR (cC I0 kb) 0) (nI c) (nI q)) L n) (q + 1)) = [] then -2 else if u = 0 then (rMt (fun k => (sTl (cM (cC I0 kb) L q m kb) (fun c => sBr (sPa (vR (cC I0 kb) 0) (nI c) (nI q)) L n) (q + 1)).getD k 0) (sTl (cM (cC I0 kb) L q m kb) (fun c => sBr (sPa (vR (cC I0 kb) 0) (nI c) (nI q)) L n) (q + 1)).length 200).1 else (rMt (fun k => (sTl (cM (cC I0 kb) L q m kb) (fun c => sBr (sPa (vR (cC I0 kb) 0) (nI c) (nI q)) L n) (q + 1)).getD k 0) (sTl (cM (cC I0 kb) L q m kb) (fun c => sBr (sPa (vR (cC I0 kb) 0) (nI c) (nI q)) L n) (q + 1)).length 200).2))) r1 S1 := by
    refine x_enterq (d := d + 12) cqX11_tells [some (.ref 347), some (.int u), none, none, none, none, none, none, none, none, none] rfl (by simp [lg_sl, Value.category]) ?_
    refine r_aload_n dX11_tells_0 rfl ?_
    refine r_iconst (v := 0) dX11_tells_1 (by decide) ?_
    refine r_putIv dX11_tells_2 flX11_193 ⟨_, _, _, rfl, Or.inl rfl⟩ sh_347 (by decide) rfl rfl rfl hI ?_
    refine r_iload_n dX11_tells_5 rfl ?_
    refine r_iconst (v := 0) dX11_tells_6 (by decide) ?_
    refine r_iconst (v := 1) dX11_tells_7 (by decide) ?_
    refine r_cS3i dX11_tells_8 slX11_238 (Nat.le_of_ble_eq_true rfl) (k_isIn_t h (d + 11)) ?_
    refine r_if_ne 16 dX11_tells_11 (by decide) (fun c11 => ?_) (fun c11 => ?_)
    · refine r_aload_n dX11_tells_16 rfl ?_
      obtain ⟨e6, J6, W6, hx6, hj6, hf6⟩ := k_paintedBits (E := E) (ex := ex) (I := I0) (J := J) hP hq10 hq hp1 ht h3 h4 hL h7 hm hc hg hkb24 hkb hp hst h51 d
      refine r_cV0i dX11_tells_17 vlX11_528 sh_347 (Nat.le_of_ble_eq_true rfl) hx6 ?_
      refine r_istore_n2 dX11_tells_20 rfl ?_
      refine r_iconst (v := 0) dX11_tells_21 (by decide) ?_
      refine r_istore_n3 dX11_tells_22 rfl ?_
      refine r_iconst (v := 0) dX11_tells_23 (by decide) ?_
      refine r_istore4 dX11_tells_24 rfl ?_
      have z := l_rtells (E := E) (ex := ex) (I := cC I0 kb) (J := J) hP (fun j hj => by rw [cC_o I0 kb (by decide)]; exact hp j hj) hq10 (by rw [cC_o I0 kb (by decide)]; exact hq) (by rw [vR_C]; exact hv) (by rw [vR_C]; exact hk) (hL.C kb) h7 (cM (cC I0 kb) L q m kb) u (d + 5) (q + 1) 0 e6 J6 W6 (by omega) (by rw [vR_C]; exact hf6) hj6
      rw [show sTl (cM (cC I0 kb) L q m kb) _ 0 = [] from rfl, wT_0] at z
      exact z
    · exact absurd c11 (by decide)
  obtain ⟨r1, S1, h1, h2, l, e9, J9, W9, h9, h10, h11⟩ := key
  subst h2; subst h9
  rw [vR_C] at h11
  exact ⟨l, e9, J9, W9, h1, h10, h11⟩
/-- the least loan: bears f n for a loan of n -/
def rLn (B : Int32) (f : Int32 → Int32) (w : Int32) : Nat → Nat → Int32
  | 0, _ => -2
  | c + 1, j => if B + f (nI j) < w then rLn B f w c (j + 1) else nI j
