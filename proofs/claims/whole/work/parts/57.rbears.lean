/-! the reference: what a strand, what the bridge bears -/
theorem wRE (I : Nat → Nat → Int32) (e : Int32) (b : Nat) (V : Nat → Nat → Int32) : wE (wR I b V) e = wR (wE I e) b V := wR_xo I b V (by decide) 52 e
theorem wR_law (I : Nat → Nat → Int32) (b : Nat) (V : Nat → Nat → Int32) : ∀ a, 366 ≤ a → a ≤ 371 → wR I b V a = I a := fun a h1 h2 => funext (fun k => wR_o I b V (by omega) k)
def L7 (L : Nat → (Nat → Int64) → Int64) : Prop := ∀ w N N', (∀ q, q < 7 → N q = N' q) → L w N = L w N'
theorem LwR.w {I : Nat → Nat → Int32} {L : Nat → (Nat → Int64) → Int64} (h : LwR I L) {w : Nat} (hw : w < 3) : LwR1 I w (L w) := by
  match w, hw with
  | 0, _ => exact h.1
  | 1, _ => exact h.2.1
  | 2, _ => exact h.2.2
theorem Nok_7 (x0 x1 x2 x3 x4 x5 x6 : Int32) : Nok (sN7 x0 x1 x2 x3 x4 x5 x6) := by
  intro q hq
  match q, hq with
  | 0, _ => exact ⟨x0, rfl⟩
  | 1, _ => exact ⟨x1, rfl⟩
  | 2, _ => exact ⟨x2, rfl⟩
  | 3, _ => exact ⟨x3, rfl⟩
  | 4, _ => exact ⟨x4, rfl⟩
  | 5, _ => exact ⟨x5, rfl⟩
  | 6, _ => exact ⟨x6, rfl⟩
theorem Nok_w (J : Nat → Nat → Int64) {N : Nat → Int64} (h : Nok N) : Nok (wN J 363 N 374) := fun q hq => by
  rw [show wN J 363 N 374 q = N q from wN_at J 363 N q hq]; exact h q hq
theorem JokR.n (J : Nat → Nat → Int64) (N : Nat → Int64) : JokR J (wN J 363 N) := fun a k h _ => by simp [wN, h]
theorem k_rbl {E : xCl} {ex : Bool} {I V : Nat → Nat → Int32} {e : Int32} {J : Nat → Nat → Int64} {P : Nat → Nat → Nat} (hP : Pok P) {b : Nat} {L : Nat → (Nat → Int64) → Int64} (hL : LwR I L) (h7 : L7 L) {N : Nat → Int64} (hN : Nok N) {lw : Int32} {w : Nat} (hw : w < 3) (hlw : lw = nI w) (wo most : Int32) (d : Nat) : ∃ e' J', xEx E ex (d + 4) yX11_boundLaw [.ref 347, .int lw, .int wo, .int most] (SH, wR (wE I e) b V, wN J 363 N, P) (some (.int (sWl (L w N) most wo))) (SH, wR (wE I e') b V, J', P) ∧ JokR J J' := by
  subst hlw
  obtain ⟨e', J', h1, h2⟩ := k_boundLaw (E := E) (ex := ex) (I := wR I b V) (e := e) (J := wN J 363 N) hP hw ((hL.w hw).of (wR_law I b V)) (Nok_w J hN) wo most d
  rw [wRE, wRE, h7 w _ N (fun q hq => wN_at J 363 N q hq)] at h1
  exact ⟨e', J', h1, (JokR.n J N).tr h2⟩
set_option maxHeartbeats 1000000 in
theorem k_rTh_t {E : xCl} {ex : Bool} {I V : Nat → Nat → Int32} {e : Int32} {J : Nat → Nat → Int64} {P : Nat → Nat → Nat} (hP : Pok P) {b : Nat} (hb : b < 2) {x : Int32} (hx : vp_in x 12) (h : V 9 x.toNatClampNeg = 0) (d : Nat) : xEx E ex (d + 1) yX11_isThere [.ref 347, .int (nI b), .int x] (SH, wR (wE I e) b V, J, P) (some (.int 1)) (SH, wR (wE I e) b V, J, P) := by
  refine x_enter cqX11_isThere [some (.ref 347), some (.int (nI b)), some (.int x)] rfl (by simp [lg_sl, Value.category]) ?_
  refine r_aload_n dX11_isThere_0 rfl ?_
  refine r_getR dX11_isThere_1 flX11_127 sh_347 (by decide) rfl (pf_347_62 hP) ?_
  refine r_bipush (v := 12) dX11_isThere_4 (by decide) ?_
  refine r_iload_n dX11_isThere_6 rfl ?_
  refine r_imul dX11_isThere_7 ?_
  refine r_iload_n dX11_isThere_8 rfl ?_
  refine r_iadd dX11_isThere_9 ?_
  refine r_ialv dX11_isThere_10 sh_385 (ix12 hb hx) (rR9 _ _ hb hx) ?_
  refine r_if_ne 18 dX11_isThere_11 (by decide) (fun c11 => ?_) (fun c11 => ?_)
  · exact absurd h c11
  · refine r_iconst (v := 1) dX11_isThere_14 (by decide) ?_
    refine r_goto 19 dX11_isThere_15 (by decide) ?_
    exact r_iret dX11_isThere_19 rfl rfl rfl rfl
set_option maxHeartbeats 1000000 in
theorem k_rTh_f {E : xCl} {ex : Bool} {I V : Nat → Nat → Int32} {e : Int32} {J : Nat → Nat → Int64} {P : Nat → Nat → Nat} (hP : Pok P) {b : Nat} (hb : b < 2) {x : Int32} (hx : vp_in x 12) (h : ¬ V 9 x.toNatClampNeg = 0) (d : Nat) : xEx E ex (d + 1) yX11_isThere [.ref 347, .int (nI b), .int x] (SH, wR (wE I e) b V, J, P) (some (.int 0)) (SH, wR (wE I e) b V, J, P) := by
  refine x_enter cqX11_isThere [some (.ref 347), some (.int (nI b)), some (.int x)] rfl (by simp [lg_sl, Value.category]) ?_
  refine r_aload_n dX11_isThere_0 rfl ?_
  refine r_getR dX11_isThere_1 flX11_127 sh_347 (by decide) rfl (pf_347_62 hP) ?_
  refine r_bipush (v := 12) dX11_isThere_4 (by decide) ?_
  refine r_iload_n dX11_isThere_6 rfl ?_
  refine r_imul dX11_isThere_7 ?_
  refine r_iload_n dX11_isThere_8 rfl ?_
  refine r_iadd dX11_isThere_9 ?_
  refine r_ialv dX11_isThere_10 sh_385 (ix12 hb hx) (rR9 _ _ hb hx) ?_
  refine r_if_ne 18 dX11_isThere_11 (by decide) (fun c11 => ?_) (fun c11 => ?_)
  · refine r_iconst (v := 0) dX11_isThere_18 (by decide) ?_
    exact r_iret dX11_isThere_19 rfl rfl rfl rfl
  · exact absurd c11 h
def rTn (V : Nat → Nat → Int32) (x : Int32) : Int32 := if sTh V (V 10 x.toNatClampNeg) then V 10 x.toNatClampNeg else -1
theorem rTn_t {V : Nat → Nat → Int32} {x : Int32} (h : sTh V (V 10 x.toNatClampNeg)) : rTn V x = V 10 x.toNatClampNeg := if_pos h
theorem rTn_f {V : Nat → Nat → Int32} {x : Int32} (h : ¬ sTh V (V 10 x.toNatClampNeg)) : rTn V x = -1 := if_neg h
theorem rTn_n {V : Nat → Nat → Int32} {x : Int32} (h : rTn V x < 0) : sTwo V x = 0 := by
  by_cases hs : sTh V (V 10 x.toNatClampNeg)
  · rw [rTn_t hs] at h; exact absurd h hs.1.1
  · exact if_neg hs
theorem rTn_p {V : Nat → Nat → Int32} {x : Int32} (h : ¬ rTn V x < 0) : sTwo V x = 1 := by
  by_cases hs : sTh V (V 10 x.toNatClampNeg)
  · exact if_pos hs
  · rw [rTn_f hs] at h; exact absurd (by decide) h
theorem Vok.le12 {V : Nat → Nat → Int32} {n : Nat} (h : Vok V n) {x : Int32} (hx : ¬ V 13 0 ≤ x) : ¬ 12 ≤ x := fun q => hx (by
  rw [h.2.1]
  exact Int32.le_trans (nI_le (a := n) (b := 12) h.1 (by decide)) q)
theorem Vok.th {V : Nat → Nat → Int32} {n : Nat} (h : Vok V n) {x : Int32} (h0 : ¬ x < 0) (h1 : ¬ V 13 0 ≤ x) : sTh V x ↔ V 9 x.toNatClampNeg = 0 := ⟨fun q => q.2, fun q => ⟨⟨h0, h1, h.le12 h1⟩, q⟩⟩
set_option maxHeartbeats 1000000 in
theorem k_rTwin {E : xCl} {ex : Bool} {I V : Nat → Nat → Int32} {e : Int32} {J : Nat → Nat → Int64} {P : Nat → Nat → Nat} (hP : Pok P) {b : Nat} (hb : b < 2) {n : Nat} (hv : Vok V n) {x : Int32} (hx : vp_in x 12) (d : Nat) : xEx E ex (d + 2) yX11_twinOf [.ref 347, .int (nI b), .int x] (SH, wR (wE I e) b V, J, P) (some (.int (rTn V x))) (SH, wR (wE I e) b V, J, P) := by
  refine x_enter cqX11_twinOf [some (.ref 347), some (.int (nI b)), some (.int x), none] rfl (by simp [lg_sl, Value.category]) ?_
  refine r_aload_n dX11_twinOf_0 rfl ?_
  refine r_getR dX11_twinOf_1 flX11_130 sh_347 (by decide) rfl (pf_347_63 hP) ?_
  refine r_bipush (v := 12) dX11_twinOf_4 (by decide) ?_
  refine r_iload_n dX11_twinOf_6 rfl ?_
  refine r_imul dX11_twinOf_7 ?_
  refine r_iload_n dX11_twinOf_8 rfl ?_
  refine r_iadd dX11_twinOf_9 ?_
  refine r_ialv dX11_twinOf_10 sh_386 (ix12 hb hx) (rR10 _ _ hb hx) ?_
  refine r_istore_n3 dX11_twinOf_11 rfl ?_
  refine r_iload_n dX11_twinOf_12 rfl ?_
  refine r_if_lt 39 dX11_twinOf_13 (by decide) (fun c13 => ?_) (fun c13 => ?_)
  · refine r_iconst (v := (-1)) dX11_twinOf_39 (by decide) ?_
    exact r_iret dX11_twinOf_40 rfl rfl (by rw [rTn_f (fun z => z.1.1 c13)]) rfl
  · refine r_iload_n dX11_twinOf_16 rfl ?_
    refine r_aload_n dX11_twinOf_17 rfl ?_
    refine r_getR dX11_twinOf_18 flX11_106 sh_347 (by decide) rfl (pf_347_55 hP) ?_
    refine r_iload_n dX11_twinOf_21 rfl ?_
    refine r_ialv dX11_twinOf_22 sh_378 (ix2 hb) (rR13 _ _ hb) ?_
    refine r_ic_ge 39 dX11_twinOf_23 (by decide) (fun c23 => ?_) (fun c23 => ?_)
    · refine r_iconst (v := (-1)) dX11_twinOf_39 (by decide) ?_
      exact r_iret dX11_twinOf_40 rfl rfl (by rw [rTn_f (fun z => z.1.2.1 c23)]) rfl
    · refine r_aload_n dX11_twinOf_26 rfl ?_
      refine r_iload_n dX11_twinOf_27 rfl ?_
      refine r_iload_n dX11_twinOf_28 rfl ?_
      by_cases h29 : V 9 (V 10 x.toNatClampNeg).toNatClampNeg = 0
      · refine r_cV2i dX11_twinOf_29 vlX11_418 sh_347 (Nat.le_of_ble_eq_true rfl) (k_rTh_t hP hb (vin12 c13 (hv.le12 c23)) h29 d) ?_
        refine r_if_eq 39 dX11_twinOf_32 (by decide) (fun c32 => ?_) (fun c32 => ?_)
        · exact absurd c32 (by decide)
        · refine r_iload_n dX11_twinOf_35 rfl ?_
          refine r_goto 40 dX11_twinOf_36 (by decide) ?_
          exact r_iret dX11_twinOf_40 rfl rfl (by rw [rTn_t ((hv.th c13 c23).mpr h29)]) rfl
      · refine r_cV2i dX11_twinOf_29 vlX11_418 sh_347 (Nat.le_of_ble_eq_true rfl) (k_rTh_f hP hb (vin12 c13 (hv.le12 c23)) h29 d) ?_
        refine r_if_eq 39 dX11_twinOf_32 (by decide) (fun c32 => ?_) (fun c32 => ?_)
        · refine r_iconst (v := (-1)) dX11_twinOf_39 (by decide) ?_
          exact r_iret dX11_twinOf_40 rfl rfl (by rw [rTn_f (fun z => h29 z.2)]) rfl
        · exact absurd c32 (by decide)
theorem t64_1 : (1 : Int64) = (1 : Int32).toInt64 := by decide
theorem t64_0 : (0 : Int64) = (0 : Int32).toInt64 := by decide
set_option maxHeartbeats 2000000 in
theorem k_layN0 {E : xCl} {ex : Bool} {I V : Nat → Nat → Int32} {e : Int32} {J : Nat → Nat → Int64} {P : Nat → Nat → Nat} (hP : Pok P) {b : Nat} (hb : b < 2) {n : Nat} (hv : Vok V n) {x : Int32} (hx : vp_in x 12) (d : Nat) : xEx E ex (d + 3) yX11_layNames [.ref 347, .int (nI b), .int x, .int 0] (SH, wR (wE I e) b V, J, P) none (SH, wR (wE I e) b V, wN J 363 (sNm V x (sTwo V x)), P) := by
  refine x_enter cqX11_layNames [some (.ref 347), some (.int (nI b)), some (.int x), some (.int 0)] rfl (by simp [lg_sl, Value.category]) ?_
  refine r_aload_n dX11_layNames_0 rfl ?_
  refine r_getR dX11_layNames_1 flX11_93 sh_347 (by decide) rfl (pf_347_50 hP) ?_
  refine r_iconst (v := 0) dX11_layNames_4 (by decide) ?_
  refine r_aload_n dX11_layNames_5 rfl ?_
  refine r_getR dX11_layNames_6 flX11_121 sh_347 (by decide) rfl (pf_347_60 hP) ?_
  refine r_bipush (v := 12) dX11_layNames_9 (by decide) ?_
  refine r_iload_n dX11_layNames_11 rfl ?_
  refine r_imul dX11_layNames_12 ?_
  refine r_iload_n dX11_layNames_13 rfl ?_
  refine r_iadd dX11_layNames_14 ?_
  refine r_ialv dX11_layNames_15 sh_383 (ix12 hb hx) (rR5 _ _ hb hx) ?_
  refine r_i2l dX11_layNames_16 ?_
  refine r_las dX11_layNames_17 sh_374 (vp_in_iff.mpr (by decide)) ?_
  refine r_aload_n dX11_layNames_18 rfl ?_
  refine r_getR dX11_layNames_19 flX11_93 sh_347 (by decide) rfl (pf_347_50 hP) ?_
  refine r_iconst (v := 1) dX11_layNames_22 (by decide) ?_
  refine r_aload_n dX11_layNames_23 rfl ?_
  refine r_getR dX11_layNames_24 flX11_124 sh_347 (by decide) rfl (pf_347_61 hP) ?_
  refine r_bipush (v := 12) dX11_layNames_27 (by decide) ?_
  refine r_iload_n dX11_layNames_29 rfl ?_
  refine r_imul dX11_layNames_30 ?_
  refine r_iload_n dX11_layNames_31 rfl ?_
  refine r_iadd dX11_layNames_32 ?_
  refine r_ialv dX11_layNames_33 sh_384 (ix12 hb hx) (rR6 _ _ hb hx) ?_
  refine r_i2l dX11_layNames_34 ?_
  refine r_las dX11_layNames_35 sh_374 (vp_in_iff.mpr (by decide)) ?_
  refine r_aload_n dX11_layNames_36 rfl ?_
  refine r_getR dX11_layNames_37 flX11_93 sh_347 (by decide) rfl (pf_347_50 hP) ?_
  refine r_iconst (v := 2) dX11_layNames_40 (by decide) ?_
  refine r_aload_n dX11_layNames_41 rfl ?_
  refine r_getR dX11_layNames_42 flX11_139 sh_347 (by decide) rfl (pf_347_66 hP) ?_
  refine r_iload_n dX11_layNames_45 rfl ?_
  refine r_ialv dX11_layNames_46 sh_389 (ix2 hb) (rR15 _ _ hb) ?_
  refine r_aload_n dX11_layNames_47 rfl ?_
  refine r_getR dX11_layNames_48 flX11_115 sh_347 (by decide) rfl (pf_347_58 hP) ?_
  refine r_iload_n dX11_layNames_51 rfl ?_
  refine r_ialv dX11_layNames_52 sh_381 hx (rR8 _ _ hx) ?_
  refine r_isub dX11_layNames_53 ?_
  refine r_i2l dX11_layNames_54 ?_
  refine r_las dX11_layNames_55 sh_374 (vp_in_iff.mpr (by decide)) ?_
  refine r_aload_n dX11_layNames_56 rfl ?_
  refine r_getR dX11_layNames_57 flX11_93 sh_347 (by decide) rfl (pf_347_50 hP) ?_
  refine r_iconst (v := 3) dX11_layNames_60 (by decide) ?_
  refine r_aload_n dX11_layNames_61 rfl ?_
  refine r_getR dX11_layNames_62 flX11_118 sh_347 (by decide) rfl (pf_347_59 hP) ?_
  refine r_iload_n dX11_layNames_65 rfl ?_
  refine r_ialv dX11_layNames_66 sh_382 hx (rR7 _ _ hx) ?_
  refine r_i2l dX11_layNames_67 ?_
  refine r_las dX11_layNames_68 sh_374 (vp_in_iff.mpr (by decide)) ?_
  refine r_aload_n dX11_layNames_69 rfl ?_
  refine r_getR dX11_layNames_70 flX11_93 sh_347 (by decide) rfl (pf_347_50 hP) ?_
  refine r_iconst (v := 4) dX11_layNames_73 (by decide) ?_
  refine r_aload_n dX11_layNames_74 rfl ?_
  refine r_getR dX11_layNames_75 flX11_139 sh_347 (by decide) rfl (pf_347_66 hP) ?_
  refine r_iload_n dX11_layNames_78 rfl ?_
  refine r_ialv dX11_layNames_79 sh_389 (ix2 hb) (rR15 _ _ hb) ?_
  refine r_i2l dX11_layNames_80 ?_
  refine r_las dX11_layNames_81 sh_374 (vp_in_iff.mpr (by decide)) ?_
  refine r_aload_n dX11_layNames_82 rfl ?_
  refine r_getR dX11_layNames_83 flX11_93 sh_347 (by decide) rfl (pf_347_50 hP) ?_
  refine r_iconst (v := 5) dX11_layNames_86 (by decide) ?_
  refine r_aload_n dX11_layNames_87 rfl ?_
  refine r_getR dX11_layNames_88 flX11_100 sh_347 (by decide) rfl (pf_347_53 hP) ?_
  refine r_bipush (v := 6) dX11_layNames_91 (by decide) ?_
  refine r_iload_n dX11_layNames_93 rfl ?_
  refine r_imul dX11_layNames_94 ?_
  refine r_aload_n dX11_layNames_95 rfl ?_
  refine r_getR dX11_layNames_96 flX11_109 sh_347 (by decide) rfl (pf_347_56 hP) ?_
  refine r_iload_n dX11_layNames_99 rfl ?_
  refine r_ialv dX11_layNames_100 sh_379 hx (rR3 _ _ hx) ?_
  refine r_iadd dX11_layNames_101 ?_
  refine r_ialv dX11_layNames_102 sh_376 (ix6 hb (hv.2.2.1 _)) (rR1 _ _ hb (hv.2.2.1 _)) ?_
  refine r_i2l dX11_layNames_103 ?_
  refine r_las dX11_layNames_104 sh_374 (vp_in_iff.mpr (by decide)) ?_
  refine r_aload_n dX11_layNames_105 rfl ?_
  refine r_getR dX11_layNames_106 flX11_93 sh_347 (by decide) rfl (pf_347_50 hP) ?_
  refine r_bipush (v := 6) dX11_layNames_109 (by decide) ?_
  refine r_iload_n dX11_layNames_111 rfl ?_
  refine r_if_ne 128 dX11_layNames_112 (by decide) (fun c112 => ?_) (fun c112 => ?_)
  · exact absurd c112 (by decide)
  · refine r_aload_n dX11_layNames_115 rfl ?_
    refine r_iload_n dX11_layNames_116 rfl ?_
    refine r_iload_n dX11_layNames_117 rfl ?_
    refine r_cV2i dX11_layNames_118 vlX11_421 sh_347 (Nat.le_of_ble_eq_true rfl) (k_rTwin hP hb hv hx d) ?_
    refine r_if_lt 128 dX11_layNames_121 (by decide) (fun c121 => ?_) (fun c121 => ?_)
    · refine r_lconst (v := 0) dX11_layNames_128 (by decide) ?_
      refine r_las dX11_layNames_129 sh_374 (vp_in_iff.mpr (by decide)) ?_
      exact r_vret dX11_layNames_130 rfl rfl (by rw [sNm, rTn_n c121, ← wN_7, t64_0]; rfl)
    · refine r_lconst (v := 1) dX11_layNames_124 (by decide) ?_
      refine r_goto 129 dX11_layNames_125 (by decide) ?_
      refine r_las dX11_layNames_129 sh_374 (vp_in_iff.mpr (by decide)) ?_
      exact r_vret dX11_layNames_130 rfl rfl (by rw [sNm, rTn_p c121, ← wN_7, t64_1]; rfl)
set_option maxHeartbeats 2000000 in
theorem k_layN1 {E : xCl} {ex : Bool} {I V : Nat → Nat → Int32} {e : Int32} {J : Nat → Nat → Int64} {P : Nat → Nat → Nat} (hP : Pok P) {b : Nat} (hb : b < 2) {n : Nat} (hv : Vok V n) {x : Int32} (hx : vp_in x 12) (d : Nat) : xEx E ex (d + 3) yX11_layNames [.ref 347, .int (nI b), .int x, .int 1] (SH, wR (wE I e) b V, J, P) none (SH, wR (wE I e) b V, wN J 363 (sNm V x 0), P) := by
  refine x_enter cqX11_layNames [some (.ref 347), some (.int (nI b)), some (.int x), some (.int 1)] rfl (by simp [lg_sl, Value.category]) ?_
  refine r_aload_n dX11_layNames_0 rfl ?_
  refine r_getR dX11_layNames_1 flX11_93 sh_347 (by decide) rfl (pf_347_50 hP) ?_
  refine r_iconst (v := 0) dX11_layNames_4 (by decide) ?_
  refine r_aload_n dX11_layNames_5 rfl ?_
  refine r_getR dX11_layNames_6 flX11_121 sh_347 (by decide) rfl (pf_347_60 hP) ?_
  refine r_bipush (v := 12) dX11_layNames_9 (by decide) ?_
  refine r_iload_n dX11_layNames_11 rfl ?_
  refine r_imul dX11_layNames_12 ?_
  refine r_iload_n dX11_layNames_13 rfl ?_
  refine r_iadd dX11_layNames_14 ?_
  refine r_ialv dX11_layNames_15 sh_383 (ix12 hb hx) (rR5 _ _ hb hx) ?_
  refine r_i2l dX11_layNames_16 ?_
  refine r_las dX11_layNames_17 sh_374 (vp_in_iff.mpr (by decide)) ?_
  refine r_aload_n dX11_layNames_18 rfl ?_
  refine r_getR dX11_layNames_19 flX11_93 sh_347 (by decide) rfl (pf_347_50 hP) ?_
  refine r_iconst (v := 1) dX11_layNames_22 (by decide) ?_
  refine r_aload_n dX11_layNames_23 rfl ?_
  refine r_getR dX11_layNames_24 flX11_124 sh_347 (by decide) rfl (pf_347_61 hP) ?_
  refine r_bipush (v := 12) dX11_layNames_27 (by decide) ?_
  refine r_iload_n dX11_layNames_29 rfl ?_
  refine r_imul dX11_layNames_30 ?_
  refine r_iload_n dX11_layNames_31 rfl ?_
  refine r_iadd dX11_layNames_32 ?_
  refine r_ialv dX11_layNames_33 sh_384 (ix12 hb hx) (rR6 _ _ hb hx) ?_
  refine r_i2l dX11_layNames_34 ?_
  refine r_las dX11_layNames_35 sh_374 (vp_in_iff.mpr (by decide)) ?_
  refine r_aload_n dX11_layNames_36 rfl ?_
  refine r_getR dX11_layNames_37 flX11_93 sh_347 (by decide) rfl (pf_347_50 hP) ?_
  refine r_iconst (v := 2) dX11_layNames_40 (by decide) ?_
  refine r_aload_n dX11_layNames_41 rfl ?_
  refine r_getR dX11_layNames_42 flX11_139 sh_347 (by decide) rfl (pf_347_66 hP) ?_
  refine r_iload_n dX11_layNames_45 rfl ?_
  refine r_ialv dX11_layNames_46 sh_389 (ix2 hb) (rR15 _ _ hb) ?_
  refine r_aload_n dX11_layNames_47 rfl ?_
  refine r_getR dX11_layNames_48 flX11_115 sh_347 (by decide) rfl (pf_347_58 hP) ?_
  refine r_iload_n dX11_layNames_51 rfl ?_
  refine r_ialv dX11_layNames_52 sh_381 hx (rR8 _ _ hx) ?_
  refine r_isub dX11_layNames_53 ?_
  refine r_i2l dX11_layNames_54 ?_
  refine r_las dX11_layNames_55 sh_374 (vp_in_iff.mpr (by decide)) ?_
  refine r_aload_n dX11_layNames_56 rfl ?_
  refine r_getR dX11_layNames_57 flX11_93 sh_347 (by decide) rfl (pf_347_50 hP) ?_
  refine r_iconst (v := 3) dX11_layNames_60 (by decide) ?_
  refine r_aload_n dX11_layNames_61 rfl ?_
  refine r_getR dX11_layNames_62 flX11_118 sh_347 (by decide) rfl (pf_347_59 hP) ?_
  refine r_iload_n dX11_layNames_65 rfl ?_
  refine r_ialv dX11_layNames_66 sh_382 hx (rR7 _ _ hx) ?_
  refine r_i2l dX11_layNames_67 ?_
  refine r_las dX11_layNames_68 sh_374 (vp_in_iff.mpr (by decide)) ?_
  refine r_aload_n dX11_layNames_69 rfl ?_
  refine r_getR dX11_layNames_70 flX11_93 sh_347 (by decide) rfl (pf_347_50 hP) ?_
  refine r_iconst (v := 4) dX11_layNames_73 (by decide) ?_
  refine r_aload_n dX11_layNames_74 rfl ?_
  refine r_getR dX11_layNames_75 flX11_139 sh_347 (by decide) rfl (pf_347_66 hP) ?_
  refine r_iload_n dX11_layNames_78 rfl ?_
  refine r_ialv dX11_layNames_79 sh_389 (ix2 hb) (rR15 _ _ hb) ?_
  refine r_i2l dX11_layNames_80 ?_
  refine r_las dX11_layNames_81 sh_374 (vp_in_iff.mpr (by decide)) ?_
  refine r_aload_n dX11_layNames_82 rfl ?_
  refine r_getR dX11_layNames_83 flX11_93 sh_347 (by decide) rfl (pf_347_50 hP) ?_
  refine r_iconst (v := 5) dX11_layNames_86 (by decide) ?_
  refine r_aload_n dX11_layNames_87 rfl ?_
  refine r_getR dX11_layNames_88 flX11_100 sh_347 (by decide) rfl (pf_347_53 hP) ?_
  refine r_bipush (v := 6) dX11_layNames_91 (by decide) ?_
  refine r_iload_n dX11_layNames_93 rfl ?_
  refine r_imul dX11_layNames_94 ?_
  refine r_aload_n dX11_layNames_95 rfl ?_
  refine r_getR dX11_layNames_96 flX11_109 sh_347 (by decide) rfl (pf_347_56 hP) ?_
  refine r_iload_n dX11_layNames_99 rfl ?_
  refine r_ialv dX11_layNames_100 sh_379 hx (rR3 _ _ hx) ?_
  refine r_iadd dX11_layNames_101 ?_
  refine r_ialv dX11_layNames_102 sh_376 (ix6 hb (hv.2.2.1 _)) (rR1 _ _ hb (hv.2.2.1 _)) ?_
  refine r_i2l dX11_layNames_103 ?_
  refine r_las dX11_layNames_104 sh_374 (vp_in_iff.mpr (by decide)) ?_
  refine r_aload_n dX11_layNames_105 rfl ?_
  refine r_getR dX11_layNames_106 flX11_93 sh_347 (by decide) rfl (pf_347_50 hP) ?_
  refine r_bipush (v := 6) dX11_layNames_109 (by decide) ?_
  refine r_iload_n dX11_layNames_111 rfl ?_
  refine r_if_ne 128 dX11_layNames_112 (by decide) (fun c112 => ?_) (fun c112 => ?_)
  · refine r_lconst (v := 0) dX11_layNames_128 (by decide) ?_
    refine r_las dX11_layNames_129 sh_374 (vp_in_iff.mpr (by decide)) ?_
    exact r_vret dX11_layNames_130 rfl rfl (by rw [sNm, ← wN_7, t64_0]; rfl)
  · exact absurd c112 (by decide)
theorem Nok_m (V : Nat → Nat → Int32) (i two : Int32) : Nok (sNm V i two) := Nok_7 _ _ _ _ _ _ _
theorem bI_x (w : Int32) {x : Int32} (hx : vp_in x 12) : bI w x.toNatClampNeg = (w >>> (x &&& 31)) &&& 1 := by
  obtain ⟨q, hq, rfl⟩ := vin_of hx (by decide)
  rw [nI_clamp (by omega)]; rfl
theorem sAl_0 {V : Nat → Nat → Int32} {L : Nat → (Nat → Int64) → Int64} {i two : Int32} (h : ¬ sTh V i ∨ (V 12 0 >>> (i &&& 31)) &&& 1 = 1) : sAl V L i two = 0 := if_pos h
theorem sAl_1 {V : Nat → Nat → Int32} {L : Nat → (Nat → Int64) → Int64} {i two : Int32} (h : ¬ (¬ sTh V i ∨ (V 12 0 >>> (i &&& 31)) &&& 1 = 1)) : sAl V L i two = sWl (L 0 (sNm V i two)) 9999 (V 5 i.toNatClampNeg - V 5 i.toNatClampNeg * V 6 i.toNatClampNeg / 100) := if_neg h
set_option maxHeartbeats 2000000 in
theorem k_bearOf0 {E : xCl} {ex : Bool} {I V : Nat → Nat → Int32} {e : Int32} {J : Nat → Nat → Int64} {P : Nat → Nat → Nat} (hP : Pok P) {b : Nat} (hb : b < 2) {n : Nat} (hv : Vok V n) {L : Nat → (Nat → Int64) → Int64} (hL : LwR I L) (h7 : L7 L) {x : Int32} (hx : vp_in x 12) (hth : sTh V x ↔ V 9 x.toNatClampNeg = 0) (d : Nat) : ∃ e' J', xEx E ex (d + 5) yX11_bearOf [.ref 347, .int (nI b), .int x, .int 0] (SH, wR (wE I e) b V, J, P) (some (.int (sAl V L x (sTwo V x)))) (SH, wR (wE I e') b V, J', P) ∧ JokR J J' := by
  refine QR.use (F := fun z => wR z b V) (x_enterq (d := d + 4) cqX11_bearOf [some (.ref 347), some (.int (nI b)), some (.int x), some (.int 0), none] rfl (by simp [lg_sl, Value.category]) ?_)
  refine r_aload_n dX11_bearOf_0 rfl ?_
  refine r_iload_n dX11_bearOf_1 rfl ?_
  refine r_iload_n dX11_bearOf_2 rfl ?_
  by_cases h3 : V 9 x.toNatClampNeg = 0
  · refine r_cV2i dX11_bearOf_3 vlX11_418 sh_347 (Nat.le_of_ble_eq_true rfl) (k_rTh_t hP hb hx h3 (d + 3)) ?_
    refine r_if_eq 24 dX11_bearOf_6 (by decide) (fun c6 => ?_) (fun c6 => ?_)
    · exact absurd c6 (by decide)
    · refine r_aload_n dX11_bearOf_9 rfl ?_
      refine r_getR dX11_bearOf_10 flX11_133 sh_347 (by decide) rfl (pf_347_64 hP) ?_
      refine r_bipush (v := 12) dX11_bearOf_13 (by decide) ?_
      refine r_iload_n dX11_bearOf_15 rfl ?_
      refine r_imul dX11_bearOf_16 ?_
      refine r_iload_n dX11_bearOf_17 rfl ?_
      refine r_iadd dX11_bearOf_18 ?_
      refine r_ialv dX11_bearOf_19 sh_387 (ix12 hb hx) ((rR12 _ _ hb hx).trans (bI_x _ hx)) ?_
      refine r_iconst (v := 1) dX11_bearOf_20 (by decide) ?_
      refine r_ic_ne 26 dX11_bearOf_21 (by decide) (fun c21 => ?_) (fun c21 => ?_)
      · refine r_aload_n dX11_bearOf_26 rfl ?_
        refine r_getR dX11_bearOf_27 flX11_121 sh_347 (by decide) rfl (pf_347_60 hP) ?_
        refine r_bipush (v := 12) dX11_bearOf_30 (by decide) ?_
        refine r_iload_n dX11_bearOf_32 rfl ?_
        refine r_imul dX11_bearOf_33 ?_
        refine r_iload_n dX11_bearOf_34 rfl ?_
        refine r_iadd dX11_bearOf_35 ?_
        refine r_ialv dX11_bearOf_36 sh_383 (ix12 hb hx) (rR5 _ _ hb hx) ?_
        refine r_istore4 dX11_bearOf_37 rfl ?_
        refine r_aload_n dX11_bearOf_39 rfl ?_
        refine r_iload_n dX11_bearOf_40 rfl ?_
        refine r_iload_n dX11_bearOf_41 rfl ?_
        refine r_iload_n dX11_bearOf_42 rfl ?_
        refine r_cV3v dX11_bearOf_43 vlX11_431 sh_347 (Nat.le_of_ble_eq_true rfl) (k_layN0 hP hb hv hx (d + 1)) ?_
        refine r_aload_n dX11_bearOf_46 rfl ?_
        refine r_iconst (v := 0) dX11_bearOf_47 (by decide) ?_
        refine r_iload dX11_bearOf_48 rfl ?_
        refine r_iload dX11_bearOf_50 rfl ?_
        refine r_aload_n dX11_bearOf_52 rfl ?_
        refine r_getR dX11_bearOf_53 flX11_124 sh_347 (by decide) rfl (pf_347_61 hP) ?_
        refine r_bipush (v := 12) dX11_bearOf_56 (by decide) ?_
        refine r_iload_n dX11_bearOf_58 rfl ?_
        refine r_imul dX11_bearOf_59 ?_
        refine r_iload_n dX11_bearOf_60 rfl ?_
        refine r_iadd dX11_bearOf_61 ?_
        refine r_ialv dX11_bearOf_62 sh_384 (ix12 hb hx) (rR6 _ _ hb hx) ?_
        refine r_imul dX11_bearOf_63 ?_
        refine r_bipush (v := 100) dX11_bearOf_64 (by decide) ?_
        refine r_idiv dX11_bearOf_66 (by decide) ?_
        refine r_isub dX11_bearOf_67 ?_
        refine r_sipush (v := 9999) dX11_bearOf_68 (by decide) ?_
        obtain ⟨e71, J71, hx71, hj71⟩ := k_rbl (E := E) (ex := ex) (I := I) (V := V) (e := e) (J := J) hP (b := b) hL h7 (Nok_m V x (sTwo V x)) (lw := 0) (w := 0) (by decide) (by decide) (V 5 x.toNatClampNeg - V 5 x.toNatClampNeg * V 6 x.toNatClampNeg / 100) 9999 d
        refine r_cV3i dX11_bearOf_71 vlX11_435 sh_347 (Nat.le_of_ble_eq_true rfl) hx71 ?_
        exact r_iretq dX11_bearOf_74 rfl rfl (by rw [sAl_1 (fun z => z.elim (fun z => z (hth.mpr h3)) c21)]; exact QR.mk (F := fun z => wR z b V) hj71)
      · refine r_iconst (v := 0) dX11_bearOf_24 (by decide) ?_
        exact r_iretq dX11_bearOf_25 rfl rfl (by rw [sAl_0 (Or.inr c21)]; exact QR.mk (F := fun z => wR z b V) (JokR.rf J))
  · refine r_cV2i dX11_bearOf_3 vlX11_418 sh_347 (Nat.le_of_ble_eq_true rfl) (k_rTh_f hP hb hx h3 (d + 3)) ?_
    refine r_if_eq 24 dX11_bearOf_6 (by decide) (fun c6 => ?_) (fun c6 => ?_)
    · refine r_iconst (v := 0) dX11_bearOf_24 (by decide) ?_
      exact r_iretq dX11_bearOf_25 rfl rfl (by rw [sAl_0 (Or.inl (fun z => h3 (hth.mp z)))]; exact QR.mk (F := fun z => wR z b V) (JokR.rf J))
    · exact absurd c6 (by decide)
set_option maxHeartbeats 2000000 in
theorem k_bearOf1 {E : xCl} {ex : Bool} {I V : Nat → Nat → Int32} {e : Int32} {J : Nat → Nat → Int64} {P : Nat → Nat → Nat} (hP : Pok P) {b : Nat} (hb : b < 2) {n : Nat} (hv : Vok V n) {L : Nat → (Nat → Int64) → Int64} (hL : LwR I L) (h7 : L7 L) {x : Int32} (hx : vp_in x 12) (hth : sTh V x ↔ V 9 x.toNatClampNeg = 0) (d : Nat) : ∃ e' J', xEx E ex (d + 5) yX11_bearOf [.ref 347, .int (nI b), .int x, .int 1] (SH, wR (wE I e) b V, J, P) (some (.int (sAl V L x 0))) (SH, wR (wE I e') b V, J', P) ∧ JokR J J' := by
  refine QR.use (F := fun z => wR z b V) (x_enterq (d := d + 4) cqX11_bearOf [some (.ref 347), some (.int (nI b)), some (.int x), some (.int 1), none] rfl (by simp [lg_sl, Value.category]) ?_)
  refine r_aload_n dX11_bearOf_0 rfl ?_
  refine r_iload_n dX11_bearOf_1 rfl ?_
  refine r_iload_n dX11_bearOf_2 rfl ?_
  by_cases h3 : V 9 x.toNatClampNeg = 0
  · refine r_cV2i dX11_bearOf_3 vlX11_418 sh_347 (Nat.le_of_ble_eq_true rfl) (k_rTh_t hP hb hx h3 (d + 3)) ?_
    refine r_if_eq 24 dX11_bearOf_6 (by decide) (fun c6 => ?_) (fun c6 => ?_)
    · exact absurd c6 (by decide)
    · refine r_aload_n dX11_bearOf_9 rfl ?_
      refine r_getR dX11_bearOf_10 flX11_133 sh_347 (by decide) rfl (pf_347_64 hP) ?_
      refine r_bipush (v := 12) dX11_bearOf_13 (by decide) ?_
      refine r_iload_n dX11_bearOf_15 rfl ?_
      refine r_imul dX11_bearOf_16 ?_
      refine r_iload_n dX11_bearOf_17 rfl ?_
      refine r_iadd dX11_bearOf_18 ?_
      refine r_ialv dX11_bearOf_19 sh_387 (ix12 hb hx) ((rR12 _ _ hb hx).trans (bI_x _ hx)) ?_
      refine r_iconst (v := 1) dX11_bearOf_20 (by decide) ?_
      refine r_ic_ne 26 dX11_bearOf_21 (by decide) (fun c21 => ?_) (fun c21 => ?_)
      · refine r_aload_n dX11_bearOf_26 rfl ?_
        refine r_getR dX11_bearOf_27 flX11_121 sh_347 (by decide) rfl (pf_347_60 hP) ?_
        refine r_bipush (v := 12) dX11_bearOf_30 (by decide) ?_
        refine r_iload_n dX11_bearOf_32 rfl ?_
        refine r_imul dX11_bearOf_33 ?_
        refine r_iload_n dX11_bearOf_34 rfl ?_
        refine r_iadd dX11_bearOf_35 ?_
        refine r_ialv dX11_bearOf_36 sh_383 (ix12 hb hx) (rR5 _ _ hb hx) ?_
        refine r_istore4 dX11_bearOf_37 rfl ?_
        refine r_aload_n dX11_bearOf_39 rfl ?_
        refine r_iload_n dX11_bearOf_40 rfl ?_
        refine r_iload_n dX11_bearOf_41 rfl ?_
        refine r_iload_n dX11_bearOf_42 rfl ?_
        refine r_cV3v dX11_bearOf_43 vlX11_431 sh_347 (Nat.le_of_ble_eq_true rfl) (k_layN1 hP hb hv hx (d + 1)) ?_
        refine r_aload_n dX11_bearOf_46 rfl ?_
        refine r_iconst (v := 0) dX11_bearOf_47 (by decide) ?_
        refine r_iload dX11_bearOf_48 rfl ?_
        refine r_iload dX11_bearOf_50 rfl ?_
        refine r_aload_n dX11_bearOf_52 rfl ?_
        refine r_getR dX11_bearOf_53 flX11_124 sh_347 (by decide) rfl (pf_347_61 hP) ?_
        refine r_bipush (v := 12) dX11_bearOf_56 (by decide) ?_
        refine r_iload_n dX11_bearOf_58 rfl ?_
        refine r_imul dX11_bearOf_59 ?_
        refine r_iload_n dX11_bearOf_60 rfl ?_
        refine r_iadd dX11_bearOf_61 ?_
        refine r_ialv dX11_bearOf_62 sh_384 (ix12 hb hx) (rR6 _ _ hb hx) ?_
        refine r_imul dX11_bearOf_63 ?_
        refine r_bipush (v := 100) dX11_bearOf_64 (by decide) ?_
        refine r_idiv dX11_bearOf_66 (by decide) ?_
        refine r_isub dX11_bearOf_67 ?_
        refine r_sipush (v := 9999) dX11_bearOf_68 (by decide) ?_
        obtain ⟨e71, J71, hx71, hj71⟩ := k_rbl (E := E) (ex := ex) (I := I) (V := V) (e := e) (J := J) hP (b := b) hL h7 (Nok_m V x 0) (lw := 0) (w := 0) (by decide) (by decide) (V 5 x.toNatClampNeg - V 5 x.toNatClampNeg * V 6 x.toNatClampNeg / 100) 9999 d
        refine r_cV3i dX11_bearOf_71 vlX11_435 sh_347 (Nat.le_of_ble_eq_true rfl) hx71 ?_
        exact r_iretq dX11_bearOf_74 rfl rfl (by rw [sAl_1 (fun z => z.elim (fun z => z (hth.mpr h3)) c21)]; exact QR.mk (F := fun z => wR z b V) hj71)
      · refine r_iconst (v := 0) dX11_bearOf_24 (by decide) ?_
        exact r_iretq dX11_bearOf_25 rfl rfl (by rw [sAl_0 (Or.inr c21)]; exact QR.mk (F := fun z => wR z b V) (JokR.rf J))
  · refine r_cV2i dX11_bearOf_3 vlX11_418 sh_347 (Nat.le_of_ble_eq_true rfl) (k_rTh_f hP hb hx h3 (d + 3)) ?_
    refine r_if_eq 24 dX11_bearOf_6 (by decide) (fun c6 => ?_) (fun c6 => ?_)
    · refine r_iconst (v := 0) dX11_bearOf_24 (by decide) ?_
      exact r_iretq dX11_bearOf_25 rfl rfl (by rw [sAl_0 (Or.inl (fun z => h3 (hth.mp z)))]; exact QR.mk (F := fun z => wR z b V) (JokR.rf J))
    · exact absurd c6 (by decide)
/-- twins are twins of each other -/
def Tok (V : Nat → Nat → Int32) (n : Nat) : Prop := ∀ j, j < n → V 10 j = -1 ∨ ∃ q, q < n ∧ q ≠ j ∧ V 10 j = nI q ∧ V 10 q = nI j
theorem Tok.two {V : Nat → Nat → Int32} {n : Nat} (hv : Vok V n) (h : Tok V n) {j : Nat} (hj : j < n) (h0 : V 9 j = 0) (h2 : sTh V (V 10 j)) : sTwo V (V 10 j) = 1 := by
  rcases h j hj with q | ⟨q, hq, -, e1, e2⟩
  · rw [q] at h2; exact absurd (by decide) h2.1.1
  · rw [e1]
    refine if_pos ?_
    rw [hv.c hq, e2]
    exact (hv.t hj).mpr h0
theorem Tok.th {V : Nat → Nat → Int32} {n : Nat} (hv : Vok V n) {x : Int32} (h2 : sTh V x) : sTh V x ↔ V 9 x.toNatClampNeg = 0 := ⟨fun z => z.2, fun _ => h2⟩
theorem sTwo_t {V : Nat → Nat → Int32} {x : Int32} (h : sTh V (V 10 x.toNatClampNeg)) : sTwo V x = 1 := if_pos h
theorem sTwo_f {V : Nat → Nat → Int32} {x : Int32} (h : ¬ sTh V (V 10 x.toNatClampNeg)) : sTwo V x = 0 := if_neg h
set_option maxHeartbeats 2000000 in
theorem l_rbridge {E : xCl} {ex : Bool} {I V : Nat → Nat → Int32} {J : Nat → Nat → Int64} {P : Nat → Nat → Nat} (hP : Pok P) {b : Nat} (hb : b < 2) {n : Nat} (hv : Vok V n) (hk : Tok V n) {L : Nat → (Nat → Int64) → Int64} (hL : LwR I L) (h7 : L7 L) (d : Nat) : ∀ j, j ≤ n → ∀ (e1 : Int32) (J1 : Nat → Nat → Int64) (x4 x5 : Option Value), JokR J J1 → xR (xEx E ex (d + 5)) ex none yX11_bridge cX11_bridge (some .int) 9 [some (.ref 347), some (.int (nI b)), some (.int (sBr V L j)), some (.int (nI j)), x4, x5] [] (SH, wR (wE I e1) b V, J1, P) (QR (fun z => wR z b V) I J P (some (.int (sBr V L n)))) := by
  refine r_for (fun j => ∀ (e1 : Int32) (J1 : Nat → Nat → Int64) (x4 x5 : Option Value), JokR J J1 → xR (xEx E ex (d + 5)) ex none yX11_bridge cX11_bridge (some .int) 9 [some (.ref 347), some (.int (nI b)), some (.int (sBr V L j)), some (.int (nI j)), x4, x5] [] (SH, wR (wE I e1) b V, J1, P) (QR (fun z => wR z b V) I J P (some (.int (sBr V L n))))) _ ?_ ?_
  · intro j hj ih e1 J1 x4 x5 hJ
    refine r_iload_n dX11_bridge_9 rfl ?_
    refine r_aload_n dX11_bridge_10 rfl ?_
    refine r_getR dX11_bridge_11 flX11_106 sh_347 (by decide) rfl (pf_347_55 hP) ?_
    refine r_iload_n dX11_bridge_14 rfl ?_
    refine r_ialv dX11_bridge_15 sh_378 (ix2 hb) (rR13 _ _ hb) ?_
    refine r_ic_ge 96 dX11_bridge_16 (by decide) (fun c16 => ?_) (fun c16 => ?_)
    · exact absurd c16 (hv.g hj)
    · refine r_aload_n dX11_bridge_19 rfl ?_
      refine r_iload_n dX11_bridge_20 rfl ?_
      refine r_iload_n dX11_bridge_21 rfl ?_
      by_cases h22 : V 9 (nI j).toNatClampNeg = 0
      · refine r_cV2i dX11_bridge_22 vlX11_418 sh_347 (Nat.le_of_ble_eq_true rfl) (k_rTh_t hP hb (hv.i hj) h22 (d + 4)) ?_
        have q22 : V 9 j = 0 := by rw [hv.c hj] at h22; exact h22
        refine r_if_ne 31 dX11_bridge_25 (by decide) (fun c25 => ?_) (fun c25 => ?_)
        · refine r_aload_n dX11_bridge_31 rfl ?_
          refine r_iload_n dX11_bridge_32 rfl ?_
          refine r_iload_n dX11_bridge_33 rfl ?_
          refine r_cV2i dX11_bridge_34 vlX11_421 sh_347 (Nat.le_of_ble_eq_true rfl) (k_rTwin hP hb hv (hv.i hj) (d + 3)) ?_
          refine r_istore4 dX11_bridge_37 rfl ?_
          refine r_aload_n dX11_bridge_39 rfl ?_
          refine r_iload_n dX11_bridge_40 rfl ?_
          refine r_iload_n dX11_bridge_41 rfl ?_
          refine r_iconst (v := 0) dX11_bridge_42 (by decide) ?_
          obtain ⟨e43, J43, hx43, hj43⟩ := k_bearOf0 (E := E) (ex := ex) (I := I) (V := V) (e := e1) (J := J1) hP hb hv hL h7 (x := (nI j)) (hv.i hj) (by rw [hv.c hj]; exact hv.t hj) d
          have hj43 := hJ.tr hj43
          refine r_cV3i dX11_bridge_43 vlX11_439 sh_347 (Nat.le_of_ble_eq_true rfl) hx43 ?_
          refine r_istore5 dX11_bridge_46 rfl ?_
          refine r_iload dX11_bridge_48 rfl ?_
          refine r_if_ge 61 dX11_bridge_50 (by decide) (fun c50 => ?_) (fun c50 => ?_)
          · have z1 : sTh V (V 10 j) := Classical.byContradiction (fun z => absurd c50 (by rw [rTn_f (by rw [hv.c hj]; exact z)]; decide))
            have z3 : ¬ sTwo V (nI j) = 0 := by rw [sTwo_t (by rw [hv.c hj]; exact z1)]; decide
            have z6 : rTn V (nI j) = V 10 j := by rw [rTn_t (by rw [hv.c hj]; exact z1), hv.c hj]
            have z5 := sTwo_t (x := nI j) (by rw [hv.c hj]; exact z1)
            rw [z6]
            refine r_iload_n dX11_bridge_61 rfl ?_
            refine r_iload dX11_bridge_62 rfl ?_
            refine r_ic_ge 90 dX11_bridge_64 (by decide) (fun c64 => ?_) (fun c64 => ?_)
            · refine r_iinc3 (v := 1) dX11_bridge_90 (by decide) rfl ?_
              refine r_goto 9 dX11_bridge_93 (by decide) ?_
              rw [nI_1]; simp only [sBr, if_pos q22, if_neg z3, if_pos c64] at ih; exact ih _ _ _ _ hj43
            · refine r_iload dX11_bridge_67 rfl ?_
              refine r_aload_n dX11_bridge_69 rfl ?_
              refine r_iload_n dX11_bridge_70 rfl ?_
              refine r_iload dX11_bridge_71 rfl ?_
              refine r_iconst (v := 0) dX11_bridge_73 (by decide) ?_
              obtain ⟨e74, J74, hx74, hj74⟩ := k_bearOf0 (E := E) (ex := ex) (I := I) (V := V) (e := e43) (J := J43) hP hb hv hL h7 (x := (V 10 j)) z1.in (Tok.th hv z1) d
              have hj74 := hj43.tr hj74
              refine r_cV3i dX11_bridge_74 vlX11_439 sh_347 (Nat.le_of_ble_eq_true rfl) hx74 ?_
              refine r_iadd dX11_bridge_77 ?_
              refine r_istore5 dX11_bridge_78 rfl ?_
              refine r_iload_n dX11_bridge_80 rfl ?_
              refine r_iload dX11_bridge_81 rfl ?_
              refine r_iload dX11_bridge_83 rfl ?_
              refine r_iconst (v := 2) dX11_bridge_85 (by decide) ?_
              refine r_idiv dX11_bridge_86 (by decide) ?_
              refine r_iadd dX11_bridge_87 ?_
              refine r_iadd dX11_bridge_88 ?_
              refine r_istore_n2 dX11_bridge_89 rfl ?_
              refine r_iinc3 (v := 1) dX11_bridge_90 (by decide) rfl ?_
              refine r_goto 9 dX11_bridge_93 (by decide) ?_
              rw [nI_1]; simp only [sBr, if_pos q22, if_neg z3, if_neg c64] at ih; rw [z5, Tok.two hv hk hj q22 z1]; exact ih _ _ _ _ hj74
          · refine r_iload_n dX11_bridge_53 rfl ?_
            refine r_iload dX11_bridge_54 rfl ?_
            refine r_iadd dX11_bridge_56 ?_
            refine r_istore_n2 dX11_bridge_57 rfl ?_
            refine r_goto 90 dX11_bridge_58 (by decide) ?_
            refine r_iinc3 (v := 1) dX11_bridge_90 (by decide) rfl ?_
            refine r_goto 9 dX11_bridge_93 (by decide) ?_
            rw [nI_1]; have z2 := rTn_n (Int32.not_le.mp c50); simp only [sBr, if_pos q22, if_pos z2] at ih; rw [z2]; exact ih _ _ _ _ hj43
        · exact absurd c25 (by decide)
      · refine r_cV2i dX11_bridge_22 vlX11_418 sh_347 (Nat.le_of_ble_eq_true rfl) (k_rTh_f hP hb (hv.i hj) h22 (d + 4)) ?_
        have q22 : ¬ V 9 j = 0 := by rw [hv.c hj] at h22; exact h22
        refine r_if_ne 31 dX11_bridge_25 (by decide) (fun c25 => ?_) (fun c25 => ?_)
        · exact absurd c25 (by decide)
        · refine r_goto 90 dX11_bridge_28 (by decide) ?_
          refine r_iinc3 (v := 1) dX11_bridge_90 (by decide) rfl ?_
          refine r_goto 9 dX11_bridge_93 (by decide) ?_
          rw [nI_1]; simp only [sBr, if_neg q22] at ih; exact ih _ _ _ _ hJ
  · intro e1 J1 x4 x5 hJ
    refine r_iload_n dX11_bridge_9 rfl ?_
    refine r_aload_n dX11_bridge_10 rfl ?_
    refine r_getR dX11_bridge_11 flX11_106 sh_347 (by decide) rfl (pf_347_55 hP) ?_
    refine r_iload_n dX11_bridge_14 rfl ?_
    refine r_ialv dX11_bridge_15 sh_378 (ix2 hb) (rR13 _ _ hb) ?_
    refine r_ic_ge 96 dX11_bridge_16 (by decide) (fun c16 => ?_) (fun c16 => ?_)
    · refine r_iload_n dX11_bridge_96 rfl ?_
      exact r_iretq dX11_bridge_97 rfl rfl (QR.mk (F := fun z => wR z b V) hJ)
    · exact absurd hv.l c16
set_option maxHeartbeats 2000000 in
theorem k_rbridge {E : xCl} {ex : Bool} {I V : Nat → Nat → Int32} {e : Int32} {J : Nat → Nat → Int64} {P : Nat → Nat → Nat} (hP : Pok P) {b : Nat} (hb : b < 2) {n : Nat} (hv : Vok V n) (hk : Tok V n) {L : Nat → (Nat → Int64) → Int64} (hL : LwR I L) (h7 : L7 L) (d : Nat) : ∃ e' J', xEx E ex (d + 6) yX11_bridge [.ref 347, .int (nI b)] (SH, wR (wE I e) b V, J, P) (some (.int (sBr V L n))) (SH, wR (wE I e') b V, J', P) ∧ JokR J J' := by
  refine QR.use (F := fun z => wR z b V) (x_enterq (d := d + 5) cqX11_bridge [some (.ref 347), some (.int (nI b)), none, none, none, none] rfl (by simp [lg_sl, Value.category]) ?_)
  refine r_aload_n dX11_bridge_0 rfl ?_
  refine r_getR dX11_bridge_1 flX11_142 sh_347 (by decide) rfl (pf_347_67 hP) ?_
  refine r_iload_n dX11_bridge_4 rfl ?_
  refine r_ialv dX11_bridge_5 sh_390 (ix2 hb) (rR14 _ _ hb) ?_
  refine r_istore_n2 dX11_bridge_6 rfl ?_
  refine r_iconst (v := 0) dX11_bridge_7 (by decide) ?_
  refine r_istore_n3 dX11_bridge_8 rfl ?_
  exact l_rbridge hP hb hv hk hL h7 d 0 (Nat.zero_le n) e J none none (JokR.rf J)
