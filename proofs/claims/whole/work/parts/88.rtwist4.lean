/-! the reference: partners -/
def tFt (V : Nat → Nat → Int32) (a m : Nat → Int32) (R j s : Nat) (x : Int32) : Nat → Nat → Nat
  | 0, t => t
  | c + 1, t => if tTw V a m R j s t x then t else tFt V a m R j s x c (t + 1)
/-- the first strand with which s is twisted -/
def tF (V : Nat → Nat → Int32) (a m : Nat → Int32) (R j s : Nat) (x : Int32) : Nat := tFt V a m R j s x (11 - s) (s + 1)
theorem tFt_at {V : Nat → Nat → Int32} {a m : Nat → Int32} {R j s : Nat} {x : Int32} : ∀ c t i, i < t + c → t ≤ i → tTw V a m R j s i x → (∀ q, t ≤ q → q < i → ¬ tTw V a m R j s q x) → tFt V a m R j s x c t = i
  | 0, t, i, h1, h2, _, _ => by omega
  | c + 1, t, i, h1, h2, hp, hn => by
    unfold tFt
    by_cases h : t = i
    · subst h; rw [if_pos hp]
    · rw [if_neg (hn t (Nat.le_refl _) (by omega))]
      exact tFt_at c (t + 1) i (by omega) (by omega) hp (fun q h3 h4 => hn q (by omega) h4)
def tPa (V : Nat → Nat → Int32) (a m : Nat → Int32) : Nat → Nat → Nat → (Nat → Int32) → Nat → Int32
  | 0, _, _, p => p
  | c + 1, S, j, p => if S = 0 then p else if m (6 * nD S (2 ^ lowB S) + j) + a (lowB S) = m (6 * S + j) then tPa V a m c (nD S (2 ^ lowB S)) j (up p (lowB S) (-2)) else tPa V a m c (nD (nD S (2 ^ lowB S)) (2 ^ tF V a m (nD S (2 ^ lowB S)) j (lowB S) (m (6 * S + j)))) (j - 1) (up (up (up p (lowB S) (-2)) (lowB S) (nI (tF V a m (nD S (2 ^ lowB S)) j (lowB S) (m (6 * S + j))))) (tF V a m (nD S (2 ^ lowB S)) j (lowB S) (m (6 * S + j))) (nI (lowB S)))
set_option maxHeartbeats 2000000 in
theorem l_tw358 {E : xCl} {ex : Bool} {I V : Nat → Nat → Int32} {a m p : Nat → Int32} {e : Int32} {J : Nat → Nat → Int64} {P : Nat → Nat → Nat} (hP : Pok P) {k R s j : Nat} (hR : R < 4096) (hs : s < 12) (hj0 : 0 < j) (hj5 : j < 6) {x2 x : Int32} (hex : ∃ t, s < t ∧ t < 12 ∧ tTw V a m R j s t x) {y8 y9 : Option Value} (d : Nat) {Q : Option Value → xS → Prop} (K : s < tF V a m R j s x → tF V a m R j s x < 12 → xR (xEx E ex (d + 5)) ex none yX11_layTwists cX11_layTwists none 380 [some (.ref 347), some (.int (nI k)), some (.int x2), some (.int (nI R)), some (.int (nI j)), some (.int (nI s)), some (.int x), some (.int (nI (tF V a m R j s x))), y8, y9] [] (SH, wR (wE (wY I a m p) e) 0 V, J, P) Q) : ∀ c t, t + c = 12 → s < t → (∀ q, s + 1 ≤ q → q < t → ¬ tTw V a m R j s q x) → xR (xEx E ex (d + 5)) ex none yX11_layTwists cX11_layTwists none 358 [some (.ref 347), some (.int (nI k)), some (.int x2), some (.int (nI R)), some (.int (nI j)), some (.int (nI s)), some (.int x), some (.int (nI t)), y8, y9] [] (SH, wR (wE (wY I a m p) e) 0 V, J, P) Q := by
  intro c
  induction c with
  | zero =>
    intro t ht hst hng
    obtain ⟨q, h1, h2, h3⟩ := hex
    exact absurd h3 (hng q (by omega) (by omega))
  | succ c ih =>
    intro t ht hst hng
    refine r_aload_n dX11_layTwists_358 rfl ?_
    refine r_iload_n dX11_layTwists_359 rfl ?_
    refine r_iload dX11_layTwists_360 rfl ?_
    refine r_iload dX11_layTwists_362 rfl ?_
    refine r_iload dX11_layTwists_364 rfl ?_
    refine r_iload dX11_layTwists_366 rfl ?_
    by_cases h368 : tTw V a m R j s t x
    · refine r_cV5i dX11_layTwists_368 vlX11_508 sh_347 (Nat.le_of_ble_eq_true rfl) (k_isTwin_t hP hR hs (by omega) hj0 hj5 h368 (d + 3)) ?_
      refine r_if_ne 380 dX11_layTwists_371 (by decide) (fun c371 => ?_) (fun c371 => ?_)
      · rw [show tF V a m R j s x = t from tFt_at (11 - s) (s + 1) t (by omega) (by omega) h368 (fun q h1 h2 => hng q h1 h2)] at K; exact K (by omega) (by omega)
      · exact absurd c371 (by decide)
    · refine r_cV5i dX11_layTwists_368 vlX11_508 sh_347 (Nat.le_of_ble_eq_true rfl) (k_isTwin_f hP hR hs (by omega) hj0 hj5 h368 (d + 3)) ?_
      refine r_if_ne 380 dX11_layTwists_371 (by decide) (fun c371 => ?_) (fun c371 => ?_)
      · exact absurd c371 (by decide)
      · refine r_iinc7 (v := 1) dX11_layTwists_374 (by decide) rfl ?_
        refine r_goto 358 dX11_layTwists_377 (by decide) ?_
        rw [nI_1]; exact ih (t + 1) (by omega) (by omega) (fun q h1 h2 => if e : q = t then (by rw [e]; exact h368) else hng q h1 (by omega))
set_option maxHeartbeats 4000000 in
theorem l_twP {E : xCl} {ex : Bool} {I V : Nat → Nat → Int32} {a m : Nat → Int32} {e : Int32} {J : Nat → Nat → Int64} {P : Nat → Nat → Nat} (hP : Pok P) {n : Nat} (hn12 : n ≤ 12) {k : Nat} (hk5 : k ≤ 5) (hlaw : tLaw V a m n k) {x2 : Int32} (d : Nat) {Q : Option Value → xS → Prop} : ∀ c S j p y5 y6 y7 y8 y9, S < c → S < 2 ^ n → j ≤ k → (K : Q none (SH, wR (wE (wY I a m (tPa V a m c S j p)) e) 0 V, J, P)) → xR (xEx E ex (d + 5)) ex none yX11_layTwists cX11_layTwists none 280 [some (.ref 347), some (.int (nI k)), some (.int x2), some (.int (nI S)), some (.int (nI j)), y5, y6, y7, y8, y9] [] (SH, wR (wE (wY I a m p) e) 0 V, J, P) Q := by
  have hp12 := pow12 hn12
  intro c
  induction c with
  | zero =>
    intro S j p y5 y6 y7 y8 y9 hc
    omega
  | succ c ih =>
    intro S j p y5 y6 y7 y8 y9 hc hSn hjk K
    by_cases h0 : S = 0
    · rw [tPa, if_pos h0] at K
      refine r_iload_n dX11_layTwists_280 rfl ?_
      refine r_if_eq 413 dX11_layTwists_281 (by decide) (fun c281 => ?_) (fun c281 => ?_)
      · exact r_vretq dX11_layTwists_413 rfl K
      · exact absurd (by rw [h0]; rfl) c281
    · have hlow := low_ok (S := S) (by omega) h0
      have hS1 := clr_lt hlow.2
      have hSn1 : (nD S (2 ^ lowB S)) < 2 ^ n := by omega
      refine r_iload_n dX11_layTwists_280 rfl ?_
      refine r_if_eq 413 dX11_layTwists_281 (by decide) (fun c281 => ?_) (fun c281 => ?_)
      · exact absurd c281 (nI_ne0 (by omega) (by omega))
      · refine r_iconst (v := 0) dX11_layTwists_284 (by decide) ?_
        refine r_istore5 dX11_layTwists_285 rfl ?_
        refine l_low287 (x4 := nI j) (by omega) h0 d ?_ 12 0 (by omega) (fun q hq => absurd hq (by omega))
        refine r_aload_n dX11_layTwists_302 rfl ?_
        refine r_iload_n dX11_layTwists_303 rfl ?_
        refine r_iload dX11_layTwists_304 rfl ?_
        refine r_cV2i dX11_layTwists_306 vlX11_505 sh_347 (Nat.le_of_ble_eq_true rfl) (k_mostOf hP (S := S) (j := j) (by omega) (by omega) (d + 4)) ?_
        refine r_istore6 dX11_layTwists_309 rfl ?_
        refine r_iload_n dX11_layTwists_311 rfl ?_
        refine r_iconst (v := 1) dX11_layTwists_312 (by decide) ?_
        refine r_iload dX11_layTwists_313 rfl ?_
        refine r_ishl dX11_layTwists_315 ?_
        refine r_iconst (v := (-1)) dX11_layTwists_316 (by decide) ?_
        refine r_ixor dX11_layTwists_317 ?_
        refine r_iand dX11_layTwists_318 ?_
        refine r_istore_n3 dX11_layTwists_319 rfl ?_
        rw [bz_clr hlow.1]
        refine r_aload_n dX11_layTwists_320 rfl ?_
        refine r_getR dX11_layTwists_321 flX11_154 sh_347 (by decide) rfl (pf_347_75 hP) ?_
        refine r_iload dX11_layTwists_324 rfl ?_
        refine r_bipush (v := (-2)) dX11_layTwists_326 (by decide) ?_
        refine r_iasv dX11_layTwists_328 sh_394 (vp_in_nI (by omega) (by omega)) (show _ = wR (wE (wY I a m (up p (lowB S) (-2))) e) 0 V from (wR_xo _ _ _ (by decide) _ _).trans (congrArg (fun z => wR z _ _) ((wE_c _ _ _ (fun z => absurd z.1 (by decide))).trans (congrArg (fun z => wE z _) (by rw [nI_clamp (n := (lowB S)) (by omega), wY_xp _ _ _ _ (by omega)]))))) ?_
        refine r_aload_n dX11_layTwists_329 rfl ?_
        refine r_iload_n dX11_layTwists_330 rfl ?_
        refine r_iload dX11_layTwists_331 rfl ?_
        refine r_cV2i dX11_layTwists_333 vlX11_505 sh_347 (Nat.le_of_ble_eq_true rfl) (k_mostOf (p := (up p (lowB S) (-2))) hP (S := (nD S (2 ^ lowB S))) (j := j) (by omega) (by omega) (d + 4)) ?_
        refine r_aload_n dX11_layTwists_336 rfl ?_
        refine r_getR dX11_layTwists_337 flX11_148 sh_347 (by decide) rfl (pf_347_73 hP) ?_
        refine r_iload dX11_layTwists_340 rfl ?_
        refine r_ialv dX11_layTwists_342 sh_392 (vp_in_nI (by omega) (by omega)) ((wR_o _ _ _ (by decide) _).trans ((wE_o _ _ (by decide) _).trans ((congrArg (wY I _ _ _ 392) (nI_clamp (n := lowB S) (by omega))).trans (wY_a _ _ _ _ (by omega))))) ?_
        refine r_iadd dX11_layTwists_343 ?_
        refine r_iload dX11_layTwists_344 rfl ?_
        refine r_ic_ne 352 dX11_layTwists_346 (by decide) (fun c346 => ?_) (fun c346 => ?_)
        · refine r_iload dX11_layTwists_352 rfl ?_
          refine r_iconst (v := 1) dX11_layTwists_354 (by decide) ?_
          refine r_iadd dX11_layTwists_355 ?_
          refine r_istore7 dX11_layTwists_356 rfl ?_
          obtain ⟨hj0, t0, ht1, ht2, ht3⟩ := (hlaw S j h0 hSn hjk).resolve_left c346
          rw [nI_1]
          refine l_tw358 (p := (up p (lowB S) (-2))) hP (by omega) hlow.1 hj0 (by omega) ⟨t0, ht1, by omega, ht3⟩ d (fun hta htb => ?_) (11 - lowB S) (lowB S + 1) (by omega) (by omega) (fun q h1 h2 => absurd h1 (by omega))
          refine r_aload_n dX11_layTwists_380 rfl ?_
          refine r_getR dX11_layTwists_381 flX11_154 sh_347 (by decide) rfl (pf_347_75 hP) ?_
          refine r_iload dX11_layTwists_384 rfl ?_
          refine r_iload dX11_layTwists_386 rfl ?_
          refine r_iasv dX11_layTwists_388 sh_394 (vp_in_nI (by omega) (by omega)) (show _ = wR (wE (wY I a m (up (up p (lowB S) (-2)) (lowB S) (nI (tF V a m (nD S (2 ^ lowB S)) j (lowB S) (m (6 * S + j)))))) e) 0 V from (wR_xo _ _ _ (by decide) _ _).trans (congrArg (fun z => wR z _ _) ((wE_c _ _ _ (fun z => absurd z.1 (by decide))).trans (congrArg (fun z => wE z _) (by rw [nI_clamp (n := (lowB S)) (by omega), wY_xp _ _ _ _ (by omega)]))))) ?_
          refine r_aload_n dX11_layTwists_389 rfl ?_
          refine r_getR dX11_layTwists_390 flX11_154 sh_347 (by decide) rfl (pf_347_75 hP) ?_
          refine r_iload dX11_layTwists_393 rfl ?_
          refine r_iload dX11_layTwists_395 rfl ?_
          refine r_iasv dX11_layTwists_397 sh_394 (vp_in_nI (by omega) (by omega)) (show _ = wR (wE (wY I a m (up (up (up p (lowB S) (-2)) (lowB S) (nI (tF V a m (nD S (2 ^ lowB S)) j (lowB S) (m (6 * S + j))))) (tF V a m (nD S (2 ^ lowB S)) j (lowB S) (m (6 * S + j))) (nI (lowB S)))) e) 0 V from (wR_xo _ _ _ (by decide) _ _).trans (congrArg (fun z => wR z _ _) ((wE_c _ _ _ (fun z => absurd z.1 (by decide))).trans (congrArg (fun z => wE z _) (by rw [nI_clamp (n := (tF V a m (nD S (2 ^ lowB S)) j (lowB S) (m (6 * S + j)))) (by omega), wY_xp _ _ _ _ (by omega)]))))) ?_
          refine r_iload_n dX11_layTwists_398 rfl ?_
          refine r_iconst (v := 1) dX11_layTwists_399 (by decide) ?_
          refine r_iload dX11_layTwists_400 rfl ?_
          refine r_ishl dX11_layTwists_402 ?_
          refine r_iconst (v := (-1)) dX11_layTwists_403 (by decide) ?_
          refine r_ixor dX11_layTwists_404 ?_
          refine r_iand dX11_layTwists_405 ?_
          refine r_istore_n3 dX11_layTwists_406 rfl ?_
          refine r_iinc4 (v := (-1)) dX11_layTwists_407 (by decide) rfl ?_
          refine r_goto 280 dX11_layTwists_410 (by decide) ?_
          rw [bz_clr htb, pm1, nI_pr hj0]; rw [tPa, if_neg h0, if_neg c346] at K; exact ih _ (j - 1) _ _ _ _ _ _ (by have := nD_le (nD S (2 ^ lowB S)) (2 ^ (tF V a m (nD S (2 ^ lowB S)) j (lowB S) (m (6 * S + j)))); omega) (Nat.lt_of_le_of_lt (nD_le _ _) hSn1) (by omega) K
        · refine r_goto 280 dX11_layTwists_349 (by decide) ?_
          rw [tPa, if_neg h0, if_pos c346] at K; exact ih _ j _ _ _ _ _ _ (by omega) hSn1 hjk K
theorem wyid (I : Nat → Nat → Int32) (e : Int32) (V : Nat → Nat → Int32) : wR (wE (wY I (I 392) (I 393) (I 394)) e) 0 V = wR (wE I e) 0 V := by rw [wY_id]
set_option maxHeartbeats 2000000 in
theorem k_layTwists {E : xCl} {ex : Bool} {I V : Nat → Nat → Int32} {e : Int32} {J : Nat → Nat → Int64} {P : Nat → Nat → Nat} (hP : Pok P) {n : Nat} (hv : Vok V n) {L : Nat → (Nat → Int64) → Int64} (hL : LwR I L) (h7 : L7 L) {k : Nat} (hk5 : k ≤ 5) (d : Nat) : ∃ e' J', xEx E ex (d + 6) yX11_layTwists [.ref 347, .int (nI k)] (SH, wR (wE I e) 0 V, J, P) none (SH, wR (wE (wY I (uA (I 392) (fun s => sAl V L (nI s) 0) n) (tAl V (uA (I 392) (fun s => sAl V L (nI s) 0) n) (uA (I 393) (fun _ => V 14 0) (k + 1)) n k (2 ^ n - 1)) (tPa V (uA (I 392) (fun s => sAl V L (nI s) 0) n) (tAl V (uA (I 392) (fun s => sAl V L (nI s) 0) n) (uA (I 393) (fun _ => V 14 0) (k + 1)) n k (2 ^ n - 1)) (2 ^ n) (2 ^ n - 1) k (I 394))) e') 0 V, J', P) ∧ JokR J J' := by
  have key : ∃ r1 S1, xEx E ex (d + 5 + 1) yX11_layTwists [.ref 347, .int (nI k)] (SH, wR (wE (wY I (I 392) (I 393) (I 394)) e) 0 V, J, P) r1 S1 ∧ (r1 = none ∧ ∃ e' J', S1 = (SH, wR (wE (wY I (uA (I 392) (fun s => sAl V L (nI s) 0) n) (tAl V (uA (I 392) (fun s => sAl V L (nI s) 0) n) (uA (I 393) (fun _ => V 14 0) (k + 1)) n k (2 ^ n - 1)) (tPa V (uA (I 392) (fun s => sAl V L (nI s) 0) n) (tAl V (uA (I 392) (fun s => sAl V L (nI s) 0) n) (uA (I 393) (fun _ => V 14 0) (k + 1)) n k (2 ^ n - 1)) (2 ^ n) (2 ^ n - 1) k (I 394))) e') 0 V, J', P) ∧ JokR J J') := by
    refine x_enterq (Q := fun r1 S1 => r1 = none ∧ ∃ e' J', S1 = (SH, wR (wE (wY I (uA (I 392) (fun s => sAl V L (nI s) 0) n) (tAl V (uA (I 392) (fun s => sAl V L (nI s) 0) n) (uA (I 393) (fun _ => V 14 0) (k + 1)) n k (2 ^ n - 1)) (tPa V (uA (I 392) (fun s => sAl V L (nI s) 0) n) (tAl V (uA (I 392) (fun s => sAl V L (nI s) 0) n) (uA (I 393) (fun _ => V 14 0) (k + 1)) n k (2 ^ n - 1)) (2 ^ n) (2 ^ n - 1) k (I 394))) e') 0 V, J', P) ∧ JokR J J') (d := d + 5) cqX11_layTwists [some (.ref 347), some (.int (nI k)), none, none, none, none, none, none, none, none] rfl (by simp [lg_sl, Value.category]) ?_
    refine r_iconst (v := 1) dX11_layTwists_0 (by decide) ?_
    refine r_aload_n dX11_layTwists_1 rfl ?_
    refine r_getR dX11_layTwists_2 flX11_106 sh_347 (by decide) rfl (pf_347_55 hP) ?_
    refine r_iconst (v := 0) dX11_layTwists_5 (by decide) ?_
    refine r_ialv dX11_layTwists_6 sh_378 ix2_0 ((rS13_0 _ _).trans hv.2.1) ?_
    refine r_ishl dX11_layTwists_7 ?_
    refine r_istore_n2 dX11_layTwists_8 rfl ?_
    refine r_iconst (v := 0) dX11_layTwists_9 (by decide) ?_
    refine r_istore_n3 dX11_layTwists_10 rfl ?_
    rw [bz_shl n (by have := hv.1; omega)]
    refine l_twA (I := I) (a := I 392) (m := I 393) (p := I 394) (J := J) hP hv hL h7 d (fun e1 J1 hJ => ?_) 0 (Nat.zero_le _) e J (JokR.rf J)
    refine r_iconst (v := 0) dX11_layTwists_40 (by decide) ?_
    refine r_istore_n3 dX11_layTwists_41 rfl ?_
    refine l_twB (a := (uA (I 392) (fun s => sAl V L (nI s) 0) n)) (m := I 393) (p := I 394) hP hk5 d ?_ 0 (Nat.zero_le _)
    refine r_iconst (v := 1) dX11_layTwists_65 (by decide) ?_
    refine r_istore_n3 dX11_layTwists_66 rfl ?_
    refine l_twS (m := uA (I 393) (fun _ => V 14 0) (k + 1)) hP hv hk5 d (fun x3 y4 y5 y6 y7 y8 y9 => ?_) (2 ^ n - 1) 0 _ _ _ _ _ _ (by have := Nat.two_pow_pos n; omega)
    refine r_iload_n dX11_layTwists_273 rfl ?_
    refine r_iconst (v := 1) dX11_layTwists_274 (by decide) ?_
    refine r_isub dX11_layTwists_275 ?_
    refine r_istore_n3 dX11_layTwists_276 rfl ?_
    refine r_iload_n dX11_layTwists_277 rfl ?_
    refine r_istore4 dX11_layTwists_278 rfl ?_
    rw [nI_pr (Nat.two_pow_pos n)]; exact l_twP hP hv.1 hk5 (tAl_tLaw V _ _ hv.1 hk5) d (2 ^ n) (2 ^ n - 1) k (I 394) _ _ _ _ _ (by have := Nat.two_pow_pos n; omega) (by have := Nat.two_pow_pos n; omega) (Nat.le_refl _) ⟨rfl, e1, J1, rfl, hJ⟩
  rw [wyid] at key
  obtain ⟨r1, S1, h1, h2, e9, J9, h9, h10⟩ := key
  subst h2; subst h9
  exact ⟨e9, J9, h1, h10⟩
set_option maxHeartbeats 2000000 in
theorem k_rtwists {E : xCl} {ex : Bool} {I I0 V : Nat → Nat → Int32} {e : Int32} {J : Nat → Nat → Int64} {P : Nat → Nat → Nat} (hP : Pok P) (hI : xu I 347 2 0 = I0)  {n : Nat} (hv : Vok V n) {L : Nat → (Nat → Int64) → Int64} (hL : LwR I0 L) (h7 : L7 L) {k : Nat} (hk5 : k ≤ 5) (d : Nat) : ∃ e' J', xEx E ex (d + 7) yX11_twists [.ref 347, .int (nI k)] (SH, wR (wE I e) 0 V, J, P) (some (.int ((tAl V (uA (I0 392) (fun s => sAl V L (nI s) 0) n) (uA (I0 393) (fun _ => V 14 0) (k + 1)) n k (2 ^ n - 1)) (6 * (2 ^ n - 1) + k)))) (SH, wR (wE (wY I0 (uA (I0 392) (fun s => sAl V L (nI s) 0) n) (tAl V (uA (I0 392) (fun s => sAl V L (nI s) 0) n) (uA (I0 393) (fun _ => V 14 0) (k + 1)) n k (2 ^ n - 1)) (tPa V (uA (I0 392) (fun s => sAl V L (nI s) 0) n) (tAl V (uA (I0 392) (fun s => sAl V L (nI s) 0) n) (uA (I0 393) (fun _ => V 14 0) (k + 1)) n k (2 ^ n - 1)) (2 ^ n) (2 ^ n - 1) k (I0 394))) e') 0 V, J', P) ∧ JokR J J' := by
  refine QR.use (F := fun z => wR z 0 V) (I := (wY I0 (uA (I0 392) (fun s => sAl V L (nI s) 0) n) (tAl V (uA (I0 392) (fun s => sAl V L (nI s) 0) n) (uA (I0 393) (fun _ => V 14 0) (k + 1)) n k (2 ^ n - 1)) (tPa V (uA (I0 392) (fun s => sAl V L (nI s) 0) n) (tAl V (uA (I0 392) (fun s => sAl V L (nI s) 0) n) (uA (I0 393) (fun _ => V 14 0) (k + 1)) n k (2 ^ n - 1)) (2 ^ n) (2 ^ n - 1) k (I0 394)))) (x_enterq (d := d + 6) cqX11_twists [some (.ref 347), some (.int (nI k))] rfl (by simp [lg_sl, Value.category]) ?_)
  refine r_aload_n dX11_twists_0 rfl ?_
  refine r_iconst (v := 0) dX11_twists_1 (by decide) ?_
  refine r_putIv dX11_twists_2 flX11_193 ⟨_, _, _, rfl, Or.inl rfl⟩ sh_347 (by decide) rfl rfl rfl ((wR_xo _ _ _ (by decide) _ _).trans (congrArg (fun z => wR z _ _) ((wE_c _ _ _ (by decide)).trans (congrArg (fun z => wE z _) hI)))) ?_
  refine r_iload_n dX11_twists_5 rfl ?_
  refine r_iconst (v := 0) dX11_twists_6 (by decide) ?_
  refine r_iconst (v := 5) dX11_twists_7 (by decide) ?_
  refine r_cS3i dX11_twists_8 slX11_238 (Nat.le_of_ble_eq_true rfl) (k_isIn_t ⟨nI_pos (by omega), nI_nlt (a := 5) (b := k) (by omega) (by omega)⟩ (d + 5)) ?_
  refine r_if_ne 16 dX11_twists_11 (by decide) (fun c11 => ?_) (fun c11 => ?_)
  · refine r_aload_n dX11_twists_16 rfl ?_
    refine r_iload_n dX11_twists_17 rfl ?_
    obtain ⟨e9, J9, hx9, hj9⟩ := k_layTwists (E := E) (ex := ex) (I := I0) (V := V) (e := e) (J := J) hP hv hL h7 hk5 d
    refine r_cV1v dX11_twists_18 vlX11_512 sh_347 (Nat.le_of_ble_eq_true rfl) hx9 ?_
    refine r_aload_n dX11_twists_21 rfl ?_
    refine r_iconst (v := 1) dX11_twists_22 (by decide) ?_
    refine r_aload_n dX11_twists_23 rfl ?_
    refine r_getR dX11_twists_24 flX11_106 sh_347 (by decide) rfl (pf_347_55 hP) ?_
    refine r_iconst (v := 0) dX11_twists_27 (by decide) ?_
    refine r_ialv dX11_twists_28 sh_378 ix2_0 ((rS13_0 _ _).trans hv.2.1) ?_
    refine r_ishl dX11_twists_29 ?_
    refine r_iconst (v := 1) dX11_twists_30 (by decide) ?_
    refine r_isub dX11_twists_31 ?_
    refine r_iload_n dX11_twists_32 rfl ?_
    have hp12 := pow12 hv.1
    have hp0 := Nat.two_pow_pos n
    have z33 := k_mostOf (E := E) (ex := ex) (I := I0) (V := V) (a := (uA (I0 392) (fun s => sAl V L (nI s) 0) n)) (m := (tAl V (uA (I0 392) (fun s => sAl V L (nI s) 0) n) (uA (I0 393) (fun _ => V 14 0) (k + 1)) n k (2 ^ n - 1))) (p := (tPa V (uA (I0 392) (fun s => sAl V L (nI s) 0) n) (tAl V (uA (I0 392) (fun s => sAl V L (nI s) 0) n) (uA (I0 393) (fun _ => V 14 0) (k + 1)) n k (2 ^ n - 1)) (2 ^ n) (2 ^ n - 1) k (I0 394))) (e := e9) (J := J9) hP (S := 2 ^ n - 1) (j := k) (by omega) (by omega) (d + 5)
    rw [← nI_pr hp0, ← bz_shl n (by have := hv.1; omega)] at z33
    refine r_cV2i dX11_twists_33 vlX11_505 sh_347 (Nat.le_of_ble_eq_true rfl) z33 ?_
    exact r_iretq dX11_twists_36 rfl rfl (QR.mk (F := fun z => wR z 0 V) (I := (wY I0 (uA (I0 392) (fun s => sAl V L (nI s) 0) n) (tAl V (uA (I0 392) (fun s => sAl V L (nI s) 0) n) (uA (I0 393) (fun _ => V 14 0) (k + 1)) n k (2 ^ n - 1)) (tPa V (uA (I0 392) (fun s => sAl V L (nI s) 0) n) (tAl V (uA (I0 392) (fun s => sAl V L (nI s) 0) n) (uA (I0 393) (fun _ => V 14 0) (k + 1)) n k (2 ^ n - 1)) (2 ^ n) (2 ^ n - 1) k (I0 394)))) hj9)
  · exact absurd c11 (by decide)
set_option maxHeartbeats 1000000 in
theorem k_rtwists_n {E : xCl} {ex : Bool} {I I0 V : Nat → Nat → Int32} {e : Int32} {J : Nat → Nat → Int64} {P : Nat → Nat → Nat} (hP : Pok P) (hI : xu I 347 2 0 = I0) {x : Int32} (h : ¬ (¬ x < 0 ∧ ¬ 5 < x)) (d : Nat) : xEx E ex (d + 2) yX11_twists [.ref 347, .int x] (SH, wR (wE I e) 0 V, J, P) (some (.int (-1))) (SH, wR (wE I0 e) 0 V, J, P) := by
  refine x_enter cqX11_twists [some (.ref 347), some (.int x)] rfl (by simp [lg_sl, Value.category]) ?_
  refine r_aload_n dX11_twists_0 rfl ?_
  refine r_iconst (v := 0) dX11_twists_1 (by decide) ?_
  refine r_putIv dX11_twists_2 flX11_193 ⟨_, _, _, rfl, Or.inl rfl⟩ sh_347 (by decide) rfl rfl rfl ((wR_xo _ _ _ (by decide) _ _).trans (congrArg (fun z => wR z _ _) ((wE_c _ _ _ (by decide)).trans (congrArg (fun z => wE z _) hI)))) ?_
  refine r_iload_n dX11_twists_5 rfl ?_
  refine r_iconst (v := 0) dX11_twists_6 (by decide) ?_
  refine r_iconst (v := 5) dX11_twists_7 (by decide) ?_
  refine r_cS3i dX11_twists_8 slX11_238 (Nat.le_of_ble_eq_true rfl) (k_isIn_f h d) ?_
  refine r_if_ne 16 dX11_twists_11 (by decide) (fun c11 => ?_) (fun c11 => ?_)
  · exact absurd c11 (by decide)
  · refine r_iconst (v := (-1)) dX11_twists_14 (by decide) ?_
    exact r_iret dX11_twists_15 rfl rfl rfl rfl
set_option maxHeartbeats 2000000 in
theorem k_rpartner {E : xCl} {ex : Bool} {I I0 V : Nat → Nat → Int32} {e : Int32} {J : Nat → Nat → Int64} {P : Nat → Nat → Nat} (hP : Pok P) (hI : xu I 347 2 0 = I0)  {n : Nat} (hv : Vok V n) {L : Nat → (Nat → Int64) → Int64} (hL : LwR I0 L) (h7 : L7 L) {k : Nat} (hk5 : k ≤ 5) {s : Int32} (hs : sTh V s) (d : Nat) : ∃ e' J', xEx E ex (d + 7) yX11_partner [.ref 347, .int (nI k), .int s] (SH, wR (wE I e) 0 V, J, P) (some (.int ((tPa V (uA (I0 392) (fun s => sAl V L (nI s) 0) n) (tAl V (uA (I0 392) (fun s => sAl V L (nI s) 0) n) (uA (I0 393) (fun _ => V 14 0) (k + 1)) n k (2 ^ n - 1)) (2 ^ n) (2 ^ n - 1) k (I0 394)) s.toNatClampNeg))) (SH, wR (wE (wY I0 (uA (I0 392) (fun s => sAl V L (nI s) 0) n) (tAl V (uA (I0 392) (fun s => sAl V L (nI s) 0) n) (uA (I0 393) (fun _ => V 14 0) (k + 1)) n k (2 ^ n - 1)) (tPa V (uA (I0 392) (fun s => sAl V L (nI s) 0) n) (tAl V (uA (I0 392) (fun s => sAl V L (nI s) 0) n) (uA (I0 393) (fun _ => V 14 0) (k + 1)) n k (2 ^ n - 1)) (2 ^ n) (2 ^ n - 1) k (I0 394))) e') 0 V, J', P) ∧ JokR J J' := by
  refine QR.use (F := fun z => wR z 0 V) (I := (wY I0 (uA (I0 392) (fun s => sAl V L (nI s) 0) n) (tAl V (uA (I0 392) (fun s => sAl V L (nI s) 0) n) (uA (I0 393) (fun _ => V 14 0) (k + 1)) n k (2 ^ n - 1)) (tPa V (uA (I0 392) (fun s => sAl V L (nI s) 0) n) (tAl V (uA (I0 392) (fun s => sAl V L (nI s) 0) n) (uA (I0 393) (fun _ => V 14 0) (k + 1)) n k (2 ^ n - 1)) (2 ^ n) (2 ^ n - 1) k (I0 394)))) (x_enterq (d := d + 6) cqX11_partner [some (.ref 347), some (.int (nI k)), some (.int s)] rfl (by simp [lg_sl, Value.category]) ?_)
  refine r_aload_n dX11_partner_0 rfl ?_
  refine r_iconst (v := 0) dX11_partner_1 (by decide) ?_
  refine r_putIv dX11_partner_2 flX11_193 ⟨_, _, _, rfl, Or.inl rfl⟩ sh_347 (by decide) rfl rfl rfl ((wR_xo _ _ _ (by decide) _ _).trans (congrArg (fun z => wR z _ _) ((wE_c _ _ _ (by decide)).trans (congrArg (fun z => wE z _) hI)))) ?_
  refine r_iload_n dX11_partner_5 rfl ?_
  refine r_iconst (v := 0) dX11_partner_6 (by decide) ?_
  refine r_iconst (v := 5) dX11_partner_7 (by decide) ?_
  refine r_cS3i dX11_partner_8 slX11_238 (Nat.le_of_ble_eq_true rfl) (k_isIn_t ⟨nI_pos (by omega), nI_nlt (a := 5) (b := k) (by omega) (by omega)⟩ (d + 5)) ?_
  refine r_if_eq 31 dX11_partner_11 (by decide) (fun c11 => ?_) (fun c11 => ?_)
  · exact absurd c11 (by decide)
  · refine r_aload_n dX11_partner_14 rfl ?_
    refine r_iload_n dX11_partner_15 rfl ?_
    refine r_cV1i dX11_partner_16 vlX11_465 sh_347 (Nat.le_of_ble_eq_true rfl) (k_rStr_t hP hv hs.1 (d + 5)) ?_
    refine r_if_eq 31 dX11_partner_19 (by decide) (fun c19 => ?_) (fun c19 => ?_)
    · exact absurd c19 (by decide)
    · refine r_aload_n dX11_partner_22 rfl ?_
      refine r_iconst (v := 0) dX11_partner_23 (by decide) ?_
      refine r_iload_n dX11_partner_24 rfl ?_
      refine r_cV2i dX11_partner_25 vlX11_418 sh_347 (Nat.le_of_ble_eq_true rfl) (k_rTh0_t hP (vin12 hs.1.1 hs.1.2.2) hs.2 (d + 5)) ?_
      refine r_if_ne 33 dX11_partner_28 (by decide) (fun c28 => ?_) (fun c28 => ?_)
      · refine r_aload_n dX11_partner_33 rfl ?_
        refine r_iload_n dX11_partner_34 rfl ?_
        obtain ⟨e9, J9, hx9, hj9⟩ := k_layTwists (E := E) (ex := ex) (I := I0) (V := V) (e := e) (J := J) hP hv hL h7 hk5 d
        refine r_cV1v dX11_partner_35 vlX11_512 sh_347 (Nat.le_of_ble_eq_true rfl) hx9 ?_
        refine r_aload_n dX11_partner_38 rfl ?_
        refine r_getR dX11_partner_39 flX11_154 sh_347 (by decide) rfl (pf_347_75 hP) ?_
        refine r_iload_n dX11_partner_42 rfl ?_
        refine r_ialv dX11_partner_43 sh_394 (vin12 hs.1.1 hs.1.2.2) ((wR_o _ _ _ (by decide) _).trans ((wE_o _ _ (by decide) _).trans (wY_p _ _ _ _ (vlt (vin12 hs.1.1 hs.1.2.2))))) ?_
        exact r_iretq dX11_partner_44 rfl rfl (QR.mk (F := fun z => wR z 0 V) (I := (wY I0 (uA (I0 392) (fun s => sAl V L (nI s) 0) n) (tAl V (uA (I0 392) (fun s => sAl V L (nI s) 0) n) (uA (I0 393) (fun _ => V 14 0) (k + 1)) n k (2 ^ n - 1)) (tPa V (uA (I0 392) (fun s => sAl V L (nI s) 0) n) (tAl V (uA (I0 392) (fun s => sAl V L (nI s) 0) n) (uA (I0 393) (fun _ => V 14 0) (k + 1)) n k (2 ^ n - 1)) (2 ^ n) (2 ^ n - 1) k (I0 394)))) hj9)
      · exact absurd c28 (by decide)
set_option maxHeartbeats 1000000 in
theorem k_rpartner_n {E : xCl} {ex : Bool} {I I0 V : Nat → Nat → Int32} {e : Int32} {J : Nat → Nat → Int64} {P : Nat → Nat → Nat} (hP : Pok P) (hI : xu I 347 2 0 = I0)  {n : Nat} (hv : Vok V n) {x s : Int32} (h : ¬ ((¬ x < 0 ∧ ¬ 5 < x) ∧ sTh V s)) (d : Nat) : xEx E ex (d + 2) yX11_partner [.ref 347, .int x, .int s] (SH, wR (wE I e) 0 V, J, P) (some (.int (-1))) (SH, wR (wE I0 e) 0 V, J, P) := by
  refine x_enter cqX11_partner [some (.ref 347), some (.int x), some (.int s)] rfl (by simp [lg_sl, Value.category]) ?_
  refine r_aload_n dX11_partner_0 rfl ?_
  refine r_iconst (v := 0) dX11_partner_1 (by decide) ?_
  refine r_putIv dX11_partner_2 flX11_193 ⟨_, _, _, rfl, Or.inl rfl⟩ sh_347 (by decide) rfl rfl rfl ((wR_xo _ _ _ (by decide) _ _).trans (congrArg (fun z => wR z _ _) ((wE_c _ _ _ (by decide)).trans (congrArg (fun z => wE z _) hI)))) ?_
  refine r_iload_n dX11_partner_5 rfl ?_
  refine r_iconst (v := 0) dX11_partner_6 (by decide) ?_
  refine r_iconst (v := 5) dX11_partner_7 (by decide) ?_
  by_cases h8 : ¬ x < 0 ∧ ¬ 5 < x
  · refine r_cS3i dX11_partner_8 slX11_238 (Nat.le_of_ble_eq_true rfl) (k_isIn_t h8 d) ?_
    refine r_if_eq 31 dX11_partner_11 (by decide) (fun c11 => ?_) (fun c11 => ?_)
    · exact absurd c11 (by decide)
    · refine r_aload_n dX11_partner_14 rfl ?_
      refine r_iload_n dX11_partner_15 rfl ?_
      by_cases h16 : sSt V s
      · refine r_cV1i dX11_partner_16 vlX11_465 sh_347 (Nat.le_of_ble_eq_true rfl) (k_rStr_t hP hv h16 d) ?_
        refine r_if_eq 31 dX11_partner_19 (by decide) (fun c19 => ?_) (fun c19 => ?_)
        · exact absurd c19 (by decide)
        · refine r_aload_n dX11_partner_22 rfl ?_
          refine r_iconst (v := 0) dX11_partner_23 (by decide) ?_
          refine r_iload_n dX11_partner_24 rfl ?_
          by_cases h25 : V 9 s.toNatClampNeg = 0
          · refine r_cV2i dX11_partner_25 vlX11_418 sh_347 (Nat.le_of_ble_eq_true rfl) (k_rTh0_t hP (vin12 h16.1 h16.2.2) h25 d) ?_
            refine r_if_ne 33 dX11_partner_28 (by decide) (fun c28 => ?_) (fun c28 => ?_)
            · exact absurd ⟨h8, h16, h25⟩ h
            · exact absurd c28 (by decide)
          · refine r_cV2i dX11_partner_25 vlX11_418 sh_347 (Nat.le_of_ble_eq_true rfl) (k_rTh0_f hP (vin12 h16.1 h16.2.2) h25 d) ?_
            refine r_if_ne 33 dX11_partner_28 (by decide) (fun c28 => ?_) (fun c28 => ?_)
            · exact absurd c28 (by decide)
            · refine r_iconst (v := (-1)) dX11_partner_31 (by decide) ?_
              exact r_iret dX11_partner_32 rfl rfl rfl rfl
      · refine r_cV1i dX11_partner_16 vlX11_465 sh_347 (Nat.le_of_ble_eq_true rfl) (k_rStr_f hP hv h16 d) ?_
        refine r_if_eq 31 dX11_partner_19 (by decide) (fun c19 => ?_) (fun c19 => ?_)
        · refine r_iconst (v := (-1)) dX11_partner_31 (by decide) ?_
          exact r_iret dX11_partner_32 rfl rfl rfl rfl
        · exact absurd c19 (by decide)
  · refine r_cS3i dX11_partner_8 slX11_238 (Nat.le_of_ble_eq_true rfl) (k_isIn_f h8 d) ?_
    refine r_if_eq 31 dX11_partner_11 (by decide) (fun c11 => ?_) (fun c11 => ?_)
    · refine r_iconst (v := (-1)) dX11_partner_31 (by decide) ?_
      exact r_iret dX11_partner_32 rfl rfl rfl rfl
    · exact absurd c11 (by decide)
