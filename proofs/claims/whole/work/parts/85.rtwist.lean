/-! the reference: which twists bear most -/
def wY (I : Nat → Nat → Int32) (a m p : Nat → Int32) : Nat → Nat → Int32 := fun x q => if x = 392 ∧ q < 12 then a q else if x = 393 ∧ q < 24576 then m q else if x = 394 ∧ q < 12 then p q else I x q
theorem wY_o (I : Nat → Nat → Int32) (a m p : Nat → Int32) {x : Nat} (h : x < 392 ∨ 394 < x) (q : Nat) : wY I a m p x q = I x q := by simp [wY, show ¬ x = 392 by omega, show ¬ x = 393 by omega, show ¬ x = 394 by omega]
theorem wY_a (I : Nat → Nat → Int32) (a m p : Nat → Int32) {q : Nat} (h : q < 12) : wY I a m p 392 q = a q := by simp [wY, h]
theorem wY_m (I : Nat → Nat → Int32) (a m p : Nat → Int32) {q : Nat} (h : q < 24576) : wY I a m p 393 q = m q := by simp [wY, h]
theorem wY_p (I : Nat → Nat → Int32) (a m p : Nat → Int32) {q : Nat} (h : q < 12) : wY I a m p 394 q = p q := by simp [wY, h]
theorem wY_xa (I : Nat → Nat → Int32) (a m p : Nat → Int32) {k : Nat} (h : k < 12) (v : Int32) : xu (wY I a m p) 392 k v = wY I (up a k v) m p := by
  funext x q
  simp only [xu, wY, up]
  by_cases hx : x = 392
  · subst hx
    by_cases hq : q = k
    · subst hq; simp [h]
    · simp [hq]
  · simp [hx]
theorem wY_xm (I : Nat → Nat → Int32) (a m p : Nat → Int32) {k : Nat} (h : k < 24576) (v : Int32) : xu (wY I a m p) 393 k v = wY I a (up m k v) p := by
  funext x q
  simp only [xu, wY, up]
  by_cases hx : x = 393
  · subst hx
    by_cases hq : q = k
    · subst hq; simp [h]
    · simp [hq]
  · simp [hx]
theorem wY_xp (I : Nat → Nat → Int32) (a m p : Nat → Int32) {k : Nat} (h : k < 12) (v : Int32) : xu (wY I a m p) 394 k v = wY I a m (up p k v) := by
  funext x q
  simp only [xu, wY, up]
  by_cases hx : x = 394
  · subst hx
    by_cases hq : q = k
    · subst hq; simp [h]
    · simp [hq]
  · simp [hx]
theorem wY_id (I : Nat → Nat → Int32) : wY I (I 392) (I 393) (I 394) = I := by
  funext x q
  simp only [wY]
  split
  · rename_i h; rw [h.1]
  · split
    · rename_i h; rw [h.1]
    · split
      · rename_i h; rw [h.1]
      · rfl
theorem LwR.y {I : Nat → Nat → Int32} {L : Nat → (Nat → Int64) → Int64} (h : LwR I L) (a m p : Nat → Int32) : LwR (wY I a m p) L := h.of (fun x h1 h2 => funext (fun q => wY_o I a m p (by omega) q))
theorem ixm {S j : Nat} (hS : S < 4096) (hj : j < 6) : vp_in (6 * nI S + nI j) 24576 := by rw [show (6 : Int32) = nI 6 from rfl, pk_mul, nI_add]; exact vp_in_nI (by omega) (by omega)
theorem cxm {S j : Nat} (hS : S < 4096) (hj : j < 6) : (6 * nI S + nI j).toNatClampNeg = 6 * S + j := by rw [show (6 : Int32) = nI 6 from rfl, pk_mul, nI_add, nI_clamp (by omega)]
set_option maxHeartbeats 1000000 in
theorem k_mostOf {E : xCl} {ex : Bool} {I V : Nat → Nat → Int32} {a m p : Nat → Int32} {e : Int32} {J : Nat → Nat → Int64} {P : Nat → Nat → Nat} (hP : Pok P) {S j : Nat} (hS : S < 4096) (hj : j < 6) (d : Nat) : xEx E ex (d + 1) yX11_mostOf [.ref 347, .int (nI S), .int (nI j)] (SH, wR (wE (wY I a m p) e) 0 V, J, P) (some (.int (m (6 * S + j)))) (SH, wR (wE (wY I a m p) e) 0 V, J, P) := by
  refine x_enter cqX11_mostOf [some (.ref 347), some (.int (nI S)), some (.int (nI j))] rfl (by simp [lg_sl, Value.category]) ?_
  refine r_aload_n dX11_mostOf_0 rfl ?_
  refine r_getR dX11_mostOf_1 flX11_151 sh_347 (by decide) rfl (pf_347_74 hP) ?_
  refine r_bipush (v := 6) dX11_mostOf_4 (by decide) ?_
  refine r_iload_n dX11_mostOf_6 rfl ?_
  refine r_imul dX11_mostOf_7 ?_
  refine r_iload_n dX11_mostOf_8 rfl ?_
  refine r_iadd dX11_mostOf_9 ?_
  refine r_ialv dX11_mostOf_10 sh_393 (ixm hS hj) ((wR_o _ _ _ (by decide) _).trans ((wE_o _ _ (by decide) _).trans ((congrArg (wY I _ _ _ 393) (cxm hS hj)).trans (wY_m _ _ _ _ (by omega))))) ?_
  exact r_iret dX11_mostOf_11 rfl rfl rfl rfl
theorem bz_clr {S t : Nat} (ht : t < 12) : nI S &&& ((1 <<< (nI t &&& 31)) ^^^ (-1)) = nI (nD S (2 ^ t)) := by rw [bz_shl t (by omega), bz_dif]
/-- what a twist of s and t bears, with what is borne besides -/
def tOp (a m : Nat → Int32) (R j s t : Nat) : Int32 := a s + a t + (a s + a t) / 2 + m (6 * nD R (2 ^ t) + (j - 1))
abbrev tTw (V : Nat → Nat → Int32) (a m : Nat → Int32) (R j s t : Nat) (x : Int32) : Prop := R.testBit t = true ∧ V 9 t = 0 ∧ tOp a m R j s t = x
set_option maxHeartbeats 1000000 in
theorem k_isTwin_t {E : xCl} {ex : Bool} {I V : Nat → Nat → Int32} {a m p : Nat → Int32} {e : Int32} {J : Nat → Nat → Int64} {P : Nat → Nat → Nat} (hP : Pok P) {R s t j : Nat} (hR : R < 4096) (hs : s < 12) (ht : t < 12) (hj0 : 0 < j) (hj5 : j < 6) {x : Int32} (h : tTw V a m R j s t x) (d : Nat) : xEx E ex (d + 2) yX11_isTwin [.ref 347, .int (nI R), .int (nI s), .int (nI t), .int (nI j), .int x] (SH, wR (wE (wY I a m p) e) 0 V, J, P) (some (.int 1)) (SH, wR (wE (wY I a m p) e) 0 V, J, P) := by
  refine x_enter cqX11_isTwin [some (.ref 347), some (.int (nI R)), some (.int (nI s)), some (.int (nI t)), some (.int (nI j)), some (.int x), none] rfl (by simp [lg_sl, Value.category]) ?_
  refine r_iload_n dX11_isTwin_0 rfl ?_
  refine r_iload_n dX11_isTwin_1 rfl ?_
  by_cases h2 : (nI R >>> (nI t &&& 31)) &&& 1 = 1
  · refine r_cS2i dX11_isTwin_2 slX11_485 (Nat.le_of_ble_eq_true rfl) (k_isOf_t h2 d) ?_
    have b2 := (bz_1 (by omega) (by omega)).mp h2
    refine r_if_eq 17 dX11_isTwin_5 (by decide) (fun c5 => ?_) (fun c5 => ?_)
    · exact absurd c5 (by decide)
    · refine r_aload_n dX11_isTwin_8 rfl ?_
      refine r_iconst (v := 0) dX11_isTwin_9 (by decide) ?_
      refine r_iload_n dX11_isTwin_10 rfl ?_
      by_cases h11 : V 9 (nI t).toNatClampNeg = 0
      · refine r_cV2i dX11_isTwin_11 vlX11_418 sh_347 (Nat.le_of_ble_eq_true rfl) (k_rTh0_t hP (vp_in_nI (by omega) (by omega)) h11 d) ?_
        have q11 : V 9 t = 0 := by rw [nI_clamp (by omega)] at h11; exact h11
        refine r_if_ne 19 dX11_isTwin_14 (by decide) (fun c14 => ?_) (fun c14 => ?_)
        · refine r_aload_n dX11_isTwin_19 rfl ?_
          refine r_getR dX11_isTwin_20 flX11_148 sh_347 (by decide) rfl (pf_347_73 hP) ?_
          refine r_iload_n dX11_isTwin_23 rfl ?_
          refine r_ialv dX11_isTwin_24 sh_392 (vp_in_nI (by omega) (by omega)) ((wR_o _ _ _ (by decide) _).trans ((wE_o _ _ (by decide) _).trans ((congrArg (wY I _ _ _ 392) (nI_clamp (n := s) (by omega))).trans (wY_a _ _ _ _ (by omega))))) ?_
          refine r_aload_n dX11_isTwin_25 rfl ?_
          refine r_getR dX11_isTwin_26 flX11_148 sh_347 (by decide) rfl (pf_347_73 hP) ?_
          refine r_iload_n dX11_isTwin_29 rfl ?_
          refine r_ialv dX11_isTwin_30 sh_392 (vp_in_nI (by omega) (by omega)) ((wR_o _ _ _ (by decide) _).trans ((wE_o _ _ (by decide) _).trans ((congrArg (wY I _ _ _ 392) (nI_clamp (n := t) (by omega))).trans (wY_a _ _ _ _ (by omega))))) ?_
          refine r_iadd dX11_isTwin_31 ?_
          refine r_istore6 dX11_isTwin_32 rfl ?_
          refine r_iload dX11_isTwin_34 rfl ?_
          refine r_iload dX11_isTwin_36 rfl ?_
          refine r_iconst (v := 2) dX11_isTwin_38 (by decide) ?_
          refine r_idiv dX11_isTwin_39 (by decide) ?_
          refine r_iadd dX11_isTwin_40 ?_
          refine r_aload_n dX11_isTwin_41 rfl ?_
          refine r_iload_n dX11_isTwin_42 rfl ?_
          refine r_iconst (v := 1) dX11_isTwin_43 (by decide) ?_
          refine r_iload_n dX11_isTwin_44 rfl ?_
          refine r_ishl dX11_isTwin_45 ?_
          refine r_iconst (v := (-1)) dX11_isTwin_46 (by decide) ?_
          refine r_ixor dX11_isTwin_47 ?_
          refine r_iand dX11_isTwin_48 ?_
          refine r_iload dX11_isTwin_49 rfl ?_
          refine r_iconst (v := 1) dX11_isTwin_51 (by decide) ?_
          refine r_isub dX11_isTwin_52 ?_
          have z53 := k_mostOf (E := E) (ex := ex) (I := I) (V := V) (a := a) (m := m) (p := p) (e := e) (J := J) hP (S := nD R (2 ^ t)) (j := j - 1) (Nat.lt_of_le_of_lt (nD_le _ _) hR) (by omega) d
          rw [← bz_clr ht, ← nI_pr hj0] at z53
          refine r_cV2i dX11_isTwin_53 vlX11_505 sh_347 (Nat.le_of_ble_eq_true rfl) z53 ?_
          refine r_iadd dX11_isTwin_56 ?_
          refine r_iload dX11_isTwin_57 rfl ?_
          refine r_ic_ne 66 dX11_isTwin_59 (by decide) (fun c59 => ?_) (fun c59 => ?_)
          · refine r_iconst (v := 0) dX11_isTwin_66 (by decide) ?_
            exact absurd h.2.2 c59
          · refine r_iconst (v := 1) dX11_isTwin_62 (by decide) ?_
            refine r_goto 67 dX11_isTwin_63 (by decide) ?_
            exact r_iret dX11_isTwin_67 rfl rfl rfl rfl
        · exact absurd c14 (by decide)
      · refine r_cV2i dX11_isTwin_11 vlX11_418 sh_347 (Nat.le_of_ble_eq_true rfl) (k_rTh0_f hP (vp_in_nI (by omega) (by omega)) h11 d) ?_
        have q11 : ¬ V 9 t = 0 := by rw [nI_clamp (by omega)] at h11; exact h11
        refine r_if_ne 19 dX11_isTwin_14 (by decide) (fun c14 => ?_) (fun c14 => ?_)
        · exact absurd c14 (by decide)
        · refine r_iconst (v := 0) dX11_isTwin_17 (by decide) ?_
          exact absurd h.2.1 q11
  · refine r_cS2i dX11_isTwin_2 slX11_485 (Nat.le_of_ble_eq_true rfl) (k_isOf_f h2 d) ?_
    have b2 : ¬ R.testBit t = true := fun z => h2 ((bz_1 (by omega) (by omega)).mpr z)
    refine r_if_eq 17 dX11_isTwin_5 (by decide) (fun c5 => ?_) (fun c5 => ?_)
    · refine r_iconst (v := 0) dX11_isTwin_17 (by decide) ?_
      exact absurd h.1 b2
    · exact absurd c5 (by decide)
set_option maxHeartbeats 1000000 in
theorem k_isTwin_f {E : xCl} {ex : Bool} {I V : Nat → Nat → Int32} {a m p : Nat → Int32} {e : Int32} {J : Nat → Nat → Int64} {P : Nat → Nat → Nat} (hP : Pok P) {R s t j : Nat} (hR : R < 4096) (hs : s < 12) (ht : t < 12) (hj0 : 0 < j) (hj5 : j < 6) {x : Int32} (h : ¬ tTw V a m R j s t x) (d : Nat) : xEx E ex (d + 2) yX11_isTwin [.ref 347, .int (nI R), .int (nI s), .int (nI t), .int (nI j), .int x] (SH, wR (wE (wY I a m p) e) 0 V, J, P) (some (.int 0)) (SH, wR (wE (wY I a m p) e) 0 V, J, P) := by
  refine x_enter cqX11_isTwin [some (.ref 347), some (.int (nI R)), some (.int (nI s)), some (.int (nI t)), some (.int (nI j)), some (.int x), none] rfl (by simp [lg_sl, Value.category]) ?_
  refine r_iload_n dX11_isTwin_0 rfl ?_
  refine r_iload_n dX11_isTwin_1 rfl ?_
  by_cases h2 : (nI R >>> (nI t &&& 31)) &&& 1 = 1
  · refine r_cS2i dX11_isTwin_2 slX11_485 (Nat.le_of_ble_eq_true rfl) (k_isOf_t h2 d) ?_
    have b2 := (bz_1 (by omega) (by omega)).mp h2
    refine r_if_eq 17 dX11_isTwin_5 (by decide) (fun c5 => ?_) (fun c5 => ?_)
    · exact absurd c5 (by decide)
    · refine r_aload_n dX11_isTwin_8 rfl ?_
      refine r_iconst (v := 0) dX11_isTwin_9 (by decide) ?_
      refine r_iload_n dX11_isTwin_10 rfl ?_
      by_cases h11 : V 9 (nI t).toNatClampNeg = 0
      · refine r_cV2i dX11_isTwin_11 vlX11_418 sh_347 (Nat.le_of_ble_eq_true rfl) (k_rTh0_t hP (vp_in_nI (by omega) (by omega)) h11 d) ?_
        have q11 : V 9 t = 0 := by rw [nI_clamp (by omega)] at h11; exact h11
        refine r_if_ne 19 dX11_isTwin_14 (by decide) (fun c14 => ?_) (fun c14 => ?_)
        · refine r_aload_n dX11_isTwin_19 rfl ?_
          refine r_getR dX11_isTwin_20 flX11_148 sh_347 (by decide) rfl (pf_347_73 hP) ?_
          refine r_iload_n dX11_isTwin_23 rfl ?_
          refine r_ialv dX11_isTwin_24 sh_392 (vp_in_nI (by omega) (by omega)) ((wR_o _ _ _ (by decide) _).trans ((wE_o _ _ (by decide) _).trans ((congrArg (wY I _ _ _ 392) (nI_clamp (n := s) (by omega))).trans (wY_a _ _ _ _ (by omega))))) ?_
          refine r_aload_n dX11_isTwin_25 rfl ?_
          refine r_getR dX11_isTwin_26 flX11_148 sh_347 (by decide) rfl (pf_347_73 hP) ?_
          refine r_iload_n dX11_isTwin_29 rfl ?_
          refine r_ialv dX11_isTwin_30 sh_392 (vp_in_nI (by omega) (by omega)) ((wR_o _ _ _ (by decide) _).trans ((wE_o _ _ (by decide) _).trans ((congrArg (wY I _ _ _ 392) (nI_clamp (n := t) (by omega))).trans (wY_a _ _ _ _ (by omega))))) ?_
          refine r_iadd dX11_isTwin_31 ?_
          refine r_istore6 dX11_isTwin_32 rfl ?_
          refine r_iload dX11_isTwin_34 rfl ?_
          refine r_iload dX11_isTwin_36 rfl ?_
          refine r_iconst (v := 2) dX11_isTwin_38 (by decide) ?_
          refine r_idiv dX11_isTwin_39 (by decide) ?_
          refine r_iadd dX11_isTwin_40 ?_
          refine r_aload_n dX11_isTwin_41 rfl ?_
          refine r_iload_n dX11_isTwin_42 rfl ?_
          refine r_iconst (v := 1) dX11_isTwin_43 (by decide) ?_
          refine r_iload_n dX11_isTwin_44 rfl ?_
          refine r_ishl dX11_isTwin_45 ?_
          refine r_iconst (v := (-1)) dX11_isTwin_46 (by decide) ?_
          refine r_ixor dX11_isTwin_47 ?_
          refine r_iand dX11_isTwin_48 ?_
          refine r_iload dX11_isTwin_49 rfl ?_
          refine r_iconst (v := 1) dX11_isTwin_51 (by decide) ?_
          refine r_isub dX11_isTwin_52 ?_
          have z53 := k_mostOf (E := E) (ex := ex) (I := I) (V := V) (a := a) (m := m) (p := p) (e := e) (J := J) hP (S := nD R (2 ^ t)) (j := j - 1) (Nat.lt_of_le_of_lt (nD_le _ _) hR) (by omega) d
          rw [← bz_clr ht, ← nI_pr hj0] at z53
          refine r_cV2i dX11_isTwin_53 vlX11_505 sh_347 (Nat.le_of_ble_eq_true rfl) z53 ?_
          refine r_iadd dX11_isTwin_56 ?_
          refine r_iload dX11_isTwin_57 rfl ?_
          refine r_ic_ne 66 dX11_isTwin_59 (by decide) (fun c59 => ?_) (fun c59 => ?_)
          · refine r_iconst (v := 0) dX11_isTwin_66 (by decide) ?_
            exact r_iret dX11_isTwin_67 rfl rfl rfl rfl
          · refine r_iconst (v := 1) dX11_isTwin_62 (by decide) ?_
            refine r_goto 67 dX11_isTwin_63 (by decide) ?_
            exact absurd ⟨b2, q11, c59⟩ h
        · exact absurd c14 (by decide)
      · refine r_cV2i dX11_isTwin_11 vlX11_418 sh_347 (Nat.le_of_ble_eq_true rfl) (k_rTh0_f hP (vp_in_nI (by omega) (by omega)) h11 d) ?_
        have q11 : ¬ V 9 t = 0 := by rw [nI_clamp (by omega)] at h11; exact h11
        refine r_if_ne 19 dX11_isTwin_14 (by decide) (fun c14 => ?_) (fun c14 => ?_)
        · exact absurd c14 (by decide)
        · refine r_iconst (v := 0) dX11_isTwin_17 (by decide) ?_
          exact r_iret dX11_isTwin_18 rfl rfl rfl rfl
  · refine r_cS2i dX11_isTwin_2 slX11_485 (Nat.le_of_ble_eq_true rfl) (k_isOf_f h2 d) ?_
    have b2 : ¬ R.testBit t = true := fun z => h2 ((bz_1 (by omega) (by omega)).mpr z)
    refine r_if_eq 17 dX11_isTwin_5 (by decide) (fun c5 => ?_) (fun c5 => ?_)
    · refine r_iconst (v := 0) dX11_isTwin_17 (by decide) ?_
      exact r_iret dX11_isTwin_18 rfl rfl rfl rfl
    · exact absurd c5 (by decide)
set_option maxHeartbeats 1000000 in
theorem l_twA {E : xCl} {ex : Bool} {I V : Nat → Nat → Int32} {a m p : Nat → Int32} {J : Nat → Nat → Int64} {P : Nat → Nat → Nat} (hP : Pok P) {n : Nat} (hv : Vok V n) {L : Nat → (Nat → Int64) → Int64} (hL : LwR I L) (h7 : L7 L) {k : Nat} {x2 : Int32} (d : Nat) {Q : Option Value → xS → Prop} (K : ∀ e1 J1, JokR J J1 → xR (xEx E ex (d + 5)) ex none yX11_layTwists cX11_layTwists none 40 [some (.ref 347), some (.int (nI k)), some (.int x2), some (.int (nI n)), none, none, none, none, none, none] [] (SH, wR (wE (wY I (uA a (fun s => sAl V L (nI s) 0) n) m p) e1) 0 V, J1, P) Q) : ∀ j, j ≤ n → ∀ e1 J1, JokR J J1 → xR (xEx E ex (d + 5)) ex none yX11_layTwists cX11_layTwists none 11 [some (.ref 347), some (.int (nI k)), some (.int x2), some (.int (nI j)), none, none, none, none, none, none] [] (SH, wR (wE (wY I (uA a (fun s => sAl V L (nI s) 0) j) m p) e1) 0 V, J1, P) Q := by
  refine r_for (fun j => ∀ e1 J1, JokR J J1 → xR (xEx E ex (d + 5)) ex none yX11_layTwists cX11_layTwists none 11 [some (.ref 347), some (.int (nI k)), some (.int x2), some (.int (nI j)), none, none, none, none, none, none] [] (SH, wR (wE (wY I (uA a (fun s => sAl V L (nI s) 0) j) m p) e1) 0 V, J1, P) Q) _ ?_ ?_
  · intro j hj ih e1 J1 hJ
    refine r_iload_n dX11_layTwists_11 rfl ?_
    refine r_aload_n dX11_layTwists_12 rfl ?_
    refine r_getR dX11_layTwists_13 flX11_106 sh_347 (by decide) rfl (pf_347_55 hP) ?_
    refine r_iconst (v := 0) dX11_layTwists_16 (by decide) ?_
    refine r_ialv dX11_layTwists_17 sh_378 ix2_0 (rS13_0 _ _) ?_
    refine r_ic_ge 40 dX11_layTwists_18 (by decide) (fun c18 => ?_) (fun c18 => ?_)
    · exact absurd c18 (hv.g hj)
    · refine r_aload_n dX11_layTwists_21 rfl ?_
      refine r_getR dX11_layTwists_22 flX11_148 sh_347 (by decide) rfl (pf_347_73 hP) ?_
      refine r_iload_n dX11_layTwists_25 rfl ?_
      refine r_aload_n dX11_layTwists_26 rfl ?_
      refine r_iconst (v := 0) dX11_layTwists_27 (by decide) ?_
      refine r_iload_n dX11_layTwists_28 rfl ?_
      refine r_iconst (v := 1) dX11_layTwists_29 (by decide) ?_
      obtain ⟨e9, J9, hx9, hj9⟩ := k_bearOf1 (E := E) (ex := ex) (I := wY I (uA a (fun s => sAl V L (nI s) 0) j) m p) (V := V) (e := e1) (J := J1) hP (b := 0) (by decide) hv (hL.y _ _ _) h7 (x := nI j) (hv.i hj) (by rw [hv.c hj]; exact hv.t hj) d
      refine r_cV3i dX11_layTwists_30 vlX11_439 sh_347 (Nat.le_of_ble_eq_true rfl) hx9 ?_
      refine r_iasv dX11_layTwists_33 sh_392 (hv.i hj) (show _ = wR (wE (wY I (uA a (fun s => sAl V L (nI s) 0) (j + 1)) m p) e9) 0 V from (wR_xo _ _ _ (by decide) _ _).trans (congrArg (fun z => wR z _ _) ((wE_c _ _ _ (fun z => absurd z.1 (by decide))).trans (congrArg (fun z => wE z _) (by rw [nI_clamp (n := j) (by have := hv.1; omega), wY_xa _ _ _ _ (by have := hv.1; omega)]; rfl))))) ?_
      refine r_iinc3 (v := 1) dX11_layTwists_34 (by decide) rfl ?_
      refine r_goto 11 dX11_layTwists_37 (by decide) ?_
      rw [nI_1]; exact ih _ _ (hJ.tr hj9)
  · intro e1 J1 hJ
    refine r_iload_n dX11_layTwists_11 rfl ?_
    refine r_aload_n dX11_layTwists_12 rfl ?_
    refine r_getR dX11_layTwists_13 flX11_106 sh_347 (by decide) rfl (pf_347_55 hP) ?_
    refine r_iconst (v := 0) dX11_layTwists_16 (by decide) ?_
    refine r_ialv dX11_layTwists_17 sh_378 ix2_0 (rS13_0 _ _) ?_
    refine r_ic_ge 40 dX11_layTwists_18 (by decide) (fun c18 => ?_) (fun c18 => ?_)
    · exact K _ _ hJ
    · exact absurd hv.l c18
set_option maxHeartbeats 1000000 in
theorem l_twB {E : xCl} {ex : Bool} {I V : Nat → Nat → Int32} {a m p : Nat → Int32} {e : Int32} {J : Nat → Nat → Int64} {P : Nat → Nat → Nat} (hP : Pok P) {k : Nat} (hk5 : k ≤ 5) {x2 : Int32} (d : Nat) {Q : Option Value → xS → Prop} (K : xR (xEx E ex (d + 5)) ex none yX11_layTwists cX11_layTwists none 65 [some (.ref 347), some (.int (nI k)), some (.int x2), some (.int (nI (k + 1))), none, none, none, none, none, none] [] (SH, wR (wE (wY I a (uA m (fun _ => V 14 0) (k + 1)) p) e) 0 V, J, P) Q) : ∀ j, j ≤ k + 1 → xR (xEx E ex (d + 5)) ex none yX11_layTwists cX11_layTwists none 42 [some (.ref 347), some (.int (nI k)), some (.int x2), some (.int (nI j)), none, none, none, none, none, none] [] (SH, wR (wE (wY I a (uA m (fun _ => V 14 0) j) p) e) 0 V, J, P) Q := by
  refine r_for (fun j => xR (xEx E ex (d + 5)) ex none yX11_layTwists cX11_layTwists none 42 [some (.ref 347), some (.int (nI k)), some (.int x2), some (.int (nI j)), none, none, none, none, none, none] [] (SH, wR (wE (wY I a (uA m (fun _ => V 14 0) j) p) e) 0 V, J, P) Q) _ ?_ ?_
  · intro j hj ih
    refine r_iload_n dX11_layTwists_42 rfl ?_
    refine r_iload_n dX11_layTwists_43 rfl ?_
    refine r_ic_gt 65 dX11_layTwists_44 (by decide) (fun c44 => ?_) (fun c44 => ?_)
    · exact absurd c44 (nI_nlt (a := k) (b := j) (by omega) (by omega))
    · refine r_aload_n dX11_layTwists_47 rfl ?_
      refine r_getR dX11_layTwists_48 flX11_151 sh_347 (by decide) rfl (pf_347_74 hP) ?_
      refine r_iload_n dX11_layTwists_51 rfl ?_
      refine r_aload_n dX11_layTwists_52 rfl ?_
      refine r_getR dX11_layTwists_53 flX11_142 sh_347 (by decide) rfl (pf_347_67 hP) ?_
      refine r_iconst (v := 0) dX11_layTwists_56 (by decide) ?_
      refine r_ialv dX11_layTwists_57 sh_390 ix2_0 (rS14_0 _ _) ?_
      refine r_iasv dX11_layTwists_58 sh_393 (vp_in_nI (by omega) (by omega)) (show _ = wR (wE (wY I a (uA m (fun _ => V 14 0) (j + 1)) p) e) 0 V from (wR_xo _ _ _ (by decide) _ _).trans (congrArg (fun z => wR z _ _) ((wE_c _ _ _ (fun z => absurd z.1 (by decide))).trans (congrArg (fun z => wE z _) (by rw [nI_clamp (n := j) (by omega), wY_xm _ _ _ _ (by omega)]; rfl))))) ?_
      refine r_iinc3 (v := 1) dX11_layTwists_59 (by decide) rfl ?_
      refine r_goto 42 dX11_layTwists_62 (by decide) ?_
      rw [nI_1]; exact ih
  · refine r_iload_n dX11_layTwists_42 rfl ?_
    refine r_iload_n dX11_layTwists_43 rfl ?_
    refine r_ic_gt 65 dX11_layTwists_44 (by decide) (fun c44 => ?_) (fun c44 => ?_)
    · exact K
    · exact absurd (nI_lt (a := k) (b := k + 1) (by omega) (by omega)) c44
