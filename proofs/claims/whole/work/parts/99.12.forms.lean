/-! both sides of a text: forms, runs, what holds between them -/
def uC (t : Nat) (K I : Nat → Nat → Int32) : Nat → Nat → Int32 := fun a q => if t ≤ a ∧ a < t + 13 then K (500 + (a - t)) q else if a = 1 ∨ a = 2 ∨ (16 ≤ a ∧ a ≤ 30) then K a q else I a q
def uR (M I : Nat → Nat → Int32) : Nat → Nat → Int32 := fun a q => if 347 ≤ a ∧ a ≤ 403 then M a q else I a q
theorem tl_c {t : Nat} (ht : t ∈ TL) : t = 3 ∨ t = 31 := by simpa [TL] using ht
theorem uC_t {t : Nat} {K I : Nat → Nat → Int32} {j : Nat} (hj : j < 13) (q : Nat) : uC t K I (t + j) q = K (500 + j) q := by
  simp only [uC]
  rw [if_pos (by omega), Nat.add_sub_cancel_left]
theorem uC_t0 {t : Nat} {K I : Nat → Nat → Int32} (q : Nat) : uC t K I t q = K 500 q := uC_t (j := 0) (by omega) q
theorem uC_c {t : Nat} (ht : t ∈ TL) {K I : Nat → Nat → Int32} {a : Nat} (h : a = 1 ∨ a = 2 ∨ (16 ≤ a ∧ a ≤ 30)) (q : Nat) : uC t K I a q = K a q := by
  have := tl_c ht
  simp only [uC]
  rw [if_neg (by omega), if_pos h]
theorem uC_o {t : Nat} {K I : Nat → Nat → Int32} {a : Nat} (h : ¬ (t ≤ a ∧ a < t + 13)) (h2 : ¬ (a = 1 ∨ a = 2 ∨ (16 ≤ a ∧ a ≤ 30))) (q : Nat) : uC t K I a q = I a q := by
  simp only [uC]
  rw [if_neg h, if_neg h2]
theorem uC_tv {t : Nat} {K I : Nat → Nat → Int32} {j : Nat} (hj : j < 13) {q : Nat} {v : Int32} (h : K (500 + j) q = v) : uC t K I (t + j) q = v := (uC_t hj q).trans h
theorem uC_t0v {t : Nat} {K I : Nat → Nat → Int32} {q : Nat} {v : Int32} (h : K 500 q = v) : uC t K I t q = v := (uC_t0 q).trans h
theorem uC_cv {t : Nat} (ht : t ∈ TL) {K I : Nat → Nat → Int32} {a : Nat} (h : a = 1 ∨ a = 2 ∨ (16 ≤ a ∧ a ≤ 30)) {q : Nat} {v : Int32} (hv : K a q = v) : uC t K I a q = v := (uC_c ht h q).trans hv
theorem uC_xt {t : Nat} {K I : Nat → Nat → Int32} {j : Nat} (hj : j < 13) (q : Nat) (v : Int32) (ht : t ∈ TL) : xu (uC t K I) (t + j) q v = uC t (xu K (500 + j) q v) I := by
  funext a k
  simp only [xu, uC]
  by_cases h : t ≤ a ∧ a < t + 13
  · rw [if_pos h, if_pos h]
    by_cases e : a = t + j ∧ k = q
    · rw [if_pos e, if_pos (by omega)]
    · rw [if_neg e, if_neg (by omega)]
  · rw [if_neg h, if_neg h, if_neg (by omega)]
    by_cases h2 : a = 1 ∨ a = 2 ∨ (16 ≤ a ∧ a ≤ 30)
    · rw [if_pos h2, if_pos h2, if_neg (by omega)]
    · rw [if_neg h2, if_neg h2]
theorem uC_xt0 {t : Nat} {K I : Nat → Nat → Int32} (q : Nat) (v : Int32) (ht : t ∈ TL) : xu (uC t K I) t q v = uC t (xu K 500 q v) I := uC_xt (j := 0) (by omega) q v ht
theorem uC_xc {t : Nat} (ht : t ∈ TL) {K I : Nat → Nat → Int32} {b : Nat} (hb : b = 1 ∨ b = 2 ∨ (16 ≤ b ∧ b ≤ 30)) (q : Nat) (v : Int32) : xu (uC t K I) b q v = uC t (xu K b q v) I := by
  have := tl_c ht
  funext a k
  simp only [xu, uC]
  by_cases h : t ≤ a ∧ a < t + 13
  · rw [if_pos h, if_pos h, if_neg (by omega), if_neg (by omega)]
  · rw [if_neg h, if_neg h]
    by_cases h2 : a = 1 ∨ a = 2 ∨ (16 ≤ a ∧ a ≤ 30)
    · rw [if_pos h2, if_pos h2]
    · rw [if_neg h2, if_neg h2, if_neg (by omega)]
theorem uR_r {M I : Nat → Nat → Int32} {a : Nat} (h : 347 ≤ a ∧ a ≤ 403) (q : Nat) : uR M I a q = M a q := by
  simp only [uR]
  rw [if_pos h]
theorem uR_v {M I : Nat → Nat → Int32} {a : Nat} (h : 347 ≤ a ∧ a ≤ 403) {q : Nat} {v : Int32} (hv : M a q = v) : uR M I a q = v := (uR_r h q).trans hv
theorem uR_x {M I : Nat → Nat → Int32} {b : Nat} (hb : 347 ≤ b ∧ b ≤ 403) (q : Nat) (v : Int32) : xu (uR M I) b q v = uR (xu M b q v) I := by
  funext a k
  simp only [xu, uR]
  by_cases h : 347 ≤ a ∧ a ≤ 403
  · rw [if_pos h, if_pos h]
  · rw [if_neg h, if_neg h, if_neg (by omega)]
theorem uC_wK {t : Nat} (ht : t ∈ TL) (K I : Nat → Nat → Int32) (s i p k v : Int32) : wK (uC t K I) s i p k v = uC t (wK K s i p k v) I := by
  have := tl_c ht
  funext a q
  by_cases h : a = 28
  · subst h
    rw [uC_c ht (by decide)]
    simp only [wK, uC_c ht (show (28 : Nat) = 1 ∨ 28 = 2 ∨ (16 ≤ 28 ∧ 28 ≤ 30) by decide)]
  · simp only [wK, uC]
    rw [if_neg h]
    by_cases h1 : t ≤ a ∧ a < t + 13
    · rw [if_pos h1, if_pos h1, if_neg (by omega)]
    · rw [if_neg h1, if_neg h1, if_neg h]
theorem uR_wQ (M I : Nat → Nat → Int32) (s i k w b : Int32) : wQ (uR M I) s i k w b = uR (wQ M s i k w b) I := by
  funext a q
  by_cases h : a = 347
  · subst h
    rw [uR_r (by decide)]
    simp only [wQ, uR_r (show 347 ≤ 347 ∧ 347 ≤ 403 by decide)]
  · simp only [wQ, uR, if_neg h]
theorem uC_wB {t : Nat} (ht : t ∈ TL) (K I V : Nat → Nat → Int32) : wB (uC t K I) 16 V = uC t (wB K 16 V) I := by
  have := tl_c ht
  funext a q
  by_cases h : 16 ≤ a ∧ a ≤ 27
  · rw [uC_c ht (by omega)]
    simp only [wB, uC_c ht (show a = 1 ∨ a = 2 ∨ (16 ≤ a ∧ a ≤ 30) by omega)]
  · rw [wB_o _ _ _ (by omega)]
    simp only [uC]
    by_cases h1 : t ≤ a ∧ a < t + 13
    · rw [if_pos h1, if_pos h1, wB_o _ _ _ (by omega)]
    · rw [if_neg h1, if_neg h1]
      by_cases h2 : a = 1 ∨ a = 2 ∨ (16 ≤ a ∧ a ≤ 30)
      · rw [if_pos h2, if_pos h2, wB_o _ _ _ (by omega)]
      · rw [if_neg h2, if_neg h2]
theorem vB_uC {t : Nat} (ht : t ∈ TL) (K I : Nat → Nat → Int32) : vB (uC t K I) 16 = vB K 16 := by
  funext f k
  simp only [vB]
  by_cases h : f < 12
  · rw [if_pos h, if_pos h, uC_c ht (by omega)]
  · rw [if_neg h, if_neg h, uC_c ht (by omega)]
def Aq (b : Bool) (t : Nat) (P : Nat → Nat → Nat) : Prop := Pok P ∧ P 2 2 = t + 1 ∧ (b = true → P 29 6 = t + 7 + 1)
def cRun (b : Bool) (h : Nat) (y : MethodName) (vs : Nat → List Value) (K : Nat → Nat → Int32) (r : Option Value) (K' : Nat → Nat → Int32) : Prop := ∀ (E : xCl) (ex : Bool) (t : Nat) (I : Nat → Nat → Int32) (J : Nat → Nat → Int64) (P : Nat → Nat → Nat) (n : Nat), h ≤ n → t ∈ TL → EW E → Aq b t P → xEx E ex n y (vs t) (SH, uC t K I, J, P) r (SH, uC t K' I, J, P)
def rRun (h : Nat) (y : MethodName) (vs : List Value) (M : Nat → Nat → Int32) (r : Option Value) (M' : Nat → Nat → Int32) : Prop := ∀ (E : xCl) (ex : Bool) (I : Nat → Nat → Int32) (J : Nat → Nat → Int64) (P : Nat → Nat → Nat) (n : Nat), h ≤ n → Pok P → xEx E ex n y vs (SH, uR M I, J, P) r (SH, uR M' I, J, P)
theorem cRun.w {h : Nat} {y : MethodName} {vs : Nat → List Value} {K K' : Nat → Nat → Int32} {r : Option Value} (z : cRun false h y vs K r K') : cRun true h y vs K r K' := fun E ex t I J P n hn ht hE hq => z E ex t I J P n hn ht hE ⟨hq.1, hq.2.1, fun c => absurd c (by decide)⟩
def cAt (b : Bool) (h : Nat) (y : MethodName) (cc : ByteArray) (ret : Option FieldType) (pc : Nat) (ls : List (Option Value)) (st : List Value) (K : Nat → Nat → Int32) : Option Value → (Nat → Nat → Int32) → Prop := fun r K' => ∀ (E : xCl) (ex : Bool) (t : Nat) (I : Nat → Nat → Int32) (J : Nat → Nat → Int64) (P : Nat → Nat → Nat) (n : Nat), h ≤ n → t ∈ TL → EW E → Aq b t P → xR (xEx E ex n) ex none y cc ret pc ls st (SH, uC t K I, J, P) (xEq r (SH, uC t K' I, J, P))
def rAt (h : Nat) (y : MethodName) (cc : ByteArray) (ret : Option FieldType) (pc : Nat) (ls : List (Option Value)) (st : List Value) (M : Nat → Nat → Int32) : Option Value → (Nat → Nat → Int32) → Prop := fun r M' => ∀ (E : xCl) (ex : Bool) (I : Nat → Nat → Int32) (J : Nat → Nat → Int64) (P : Nat → Nat → Nat) (n : Nat), h ≤ n → Pok P → xR (xEx E ex n) ex none y cc ret pc ls st (SH, uR M I, J, P) (xEq r (SH, uR M' I, J, P))
abbrev xJ : Type := Option Value → (Nat → Nat → Int32) → Prop
def JG (A B : xJ) (Q : Option Value → (Nat → Nat → Int32) → Option Value → (Nat → Nat → Int32) → Prop) : Prop := ∃ r K' r' M', A r K' ∧ B r' M' ∧ Q r K' r' M'
theorem JG.a {A A2 B : xJ} {Q : Option Value → (Nat → Nat → Int32) → Option Value → (Nat → Nat → Int32) → Prop} (h : ∀ r K', A2 r K' → A r K') (g : JG A2 B Q) : JG A B Q := by
  obtain ⟨r, K', r', M', a, b, q⟩ := g
  exact ⟨r, K', r', M', h _ _ a, b, q⟩
theorem JG.b {A B B2 : xJ} {Q : Option Value → (Nat → Nat → Int32) → Option Value → (Nat → Nat → Int32) → Prop} (h : ∀ r K', B2 r K' → B r K') (g : JG A B2 Q) : JG A B Q := by
  obtain ⟨r, K', r', M', a, b, q⟩ := g
  exact ⟨r, K', r', M', a, h _ _ b, q⟩
theorem JG.fin {A B : xJ} {Q : Option Value → (Nat → Nat → Int32) → Option Value → (Nat → Nat → Int32) → Prop} {r r' : Option Value} {K' M' : Nat → Nat → Int32} (a : A r K') (b : B r' M') (q : Q r K' r' M') : JG A B Q := ⟨r, K', r', M', a, b, q⟩
theorem JG.q {A B : xJ} {Q Q2 : Option Value → (Nat → Nat → Int32) → Option Value → (Nat → Nat → Int32) → Prop} (h : ∀ r K' r' M', Q2 r K' r' M' → Q r K' r' M') (g : JG A B Q2) : JG A B Q := by
  obtain ⟨r, K', r', M', a, b, q⟩ := g
  exact ⟨r, K', r', M', a, b, h _ _ _ _ q⟩
theorem cAt.run {b : Bool} {h : Nat} {y : MethodName} {cc : ByteArray} {nL : Nat} {ret : Option FieldType} (hco : xCo y cc nL ret) {vs : List Value} {ls : List (Option Value)} (hls : xent vs nL = ls) (hle : (lg_sl vs).length ≤ nL) {K K' : Nat → Nat → Int32} {r : Option Value} (g : cAt b h y cc ret 0 ls [] K r K') : cRun b (h + 1) y (fun _ => vs) K r K' := by
  intro E ex t I J P n hn ht hE hq
  obtain ⟨d, rfl⟩ : ∃ d, n = d + 1 := ⟨n - 1, by omega⟩
  exact x_enter hco ls hls hle (g E ex t I J P d (by omega) ht hE hq)
theorem rAt.run {h : Nat} {y : MethodName} {cc : ByteArray} {nL : Nat} {ret : Option FieldType} (hco : xCo y cc nL ret) {vs : List Value} {ls : List (Option Value)} (hls : xent vs nL = ls) (hle : (lg_sl vs).length ≤ nL) {M M' : Nat → Nat → Int32} {r : Option Value} (g : rAt h y cc ret 0 ls [] M r M') : rRun (h + 1) y vs M r M' := by
  intro E ex I J P n hn hP
  obtain ⟨d, rfl⟩ : ∃ d, n = d + 1 := ⟨n - 1, by omega⟩
  exact x_enter hco ls hls hle (g E ex I J P d (by omega) hP)
/-! what holds between both while a text is told -/
def in0 (x : Int32) (a b : Nat) : Prop := ∃ n : Nat, a ≤ n ∧ n ≤ b ∧ x = nI n
def jT (s i p : Nat) (K M : Nat → Nat → Int32) : Prop := s ≤ 700 ∧ i ≤ s ∧ p ≤ i ∧ (¬ K 28 4 = 38 → p < i) ∧ K 28 1 = nI s ∧ K 28 2 = nI i ∧ K 28 3 = nI p ∧ M 347 6 = nI s ∧ M 347 7 = nI i ∧ M 347 10 = nI p ∧ TkR (K 28 4) (K 28 5) (M 347 8) (M 347 9) ∧ tbR (K 1) (M 348) s ∧ rRow (M 349) 0 rWords
def jF (K M : Nat → Nat → Int32) : Prop := K 2 4 = M 347 4 ∧ K 2 5 = M 347 5
def jP (np : Nat) (K M : Nat → Nat → Int32) : Prop := np ≤ 6 ∧ K 500 3 = nI np ∧ M 347 16 = nI np ∧ ∀ j, j < np → K 501 j = M 352 (6 + j) ∧ K 502 j = M 353 (6 + j) ∧ (K 502 j = 0 ∨ K 502 j = 1) ∧ K 503 j = M 355 (6 + j) ∧ K 17 j = M 354 (6 + j) ∧ K 18 j = K 502 j
def jD (np nd : Nat) (K M : Nat → Nat → Int32) : Prop := nd ≤ 10 ∧ K 16 13 = nI nd ∧ K 500 9 = nI nd ∧ M 347 17 = nI nd ∧ (∃ x, x < 2 ^ nd ∧ K 16 12 = nI x) ∧ (∀ j, j < nd → vp_in (K 19 j) np ∧ K 19 j = M 356 (10 + j) ∧ vp_in (K 20 j) np ∧ K 20 j = M 357 (10 + j) ∧ K 21 j = M 358 (10 + j) ∧ in0 (K 21 j) 1 999 ∧ K 22 j = M 359 (10 + j) ∧ in0 (K 22 j) 0 99 ∧ K 23 j = M 360 (10 + j) ∧ K 24 j = 0 ∧ K 25 j = 0 ∧ K 26 j = M 362 (10 + j) ∧ bI (K 16 12) j = M 361 (10 + j)) ∧ (∀ j, nd ≤ j → j < 10 → M 362 (10 + j) = -1) ∧ ∀ j, j < nd → K 26 j = -1 ∨ ∃ q, q < nd ∧ q ≠ j ∧ K 26 j = nI q ∧ K 26 q = nI j
def jX (np nc : Nat) (K M : Nat → Nat → Int32) : Prop := nc ≤ 8 ∧ K 500 7 = nI nc ∧ M 347 18 = nI nc ∧ ∀ j, j < nc → vp_in (K 504 j) np ∧ K 504 j = M 363 (8 + j) ∧ K 505 j = M 364 (8 + j) ∧ K 506 j = M 365 (8 + j)
def jO (ln : Nat) (K M : Nat → Nat → Int32) : Prop := K 500 10 = nI ln ∧ K 500 11 = M 350 0 ∧ K 500 12 = M 350 1 ∧ K 16 14 = M 351 2 ∧ in0 (K 16 14) 0 999 ∧ K 16 15 = 0 ∧ ∀ k, k < 8 → K 27 k = 0
def Lf (kc kr pt : Int32) : Prop := (∃ x, x ≤ 9999 ∧ kc = nI x ∧ kr = 0 ∧ pt = nI x) ∨ ∃ m, m < 7 ∧ kc = nI (10013 + m) ∧ kr = 1 ∧ pt = nI m
def wtB (kc kr : Int32) : Prop := wtR kc kr ∧ ¬ kc = 33 ∧ ¬ kc = 22
/-- behind c knots from s on, hs is what stands: numbers of knots, the last one first -/
def Ws (K M : Nat → Nat → Int32) (s : Nat) : Nat → List Nat → Prop
  | 0, hs => hs = []
  | c + 1, hs => ∃ r, hs = (s + c) :: r ∧ ((Lf (K 508 (s + c)) (M 369 (64 + (s + c))) (M 370 (64 + (s + c))) ∧ Ws K M s c r) ∨ (K 508 (s + c) = nI 10022 ∧ M 369 (64 + (s + c)) = 2 ∧ ∃ a, M 370 (64 + (s + c)) = nI a ∧ Ws K M s c (a :: r)) ∨ ∃ kc, wtB kc (M 369 (64 + (s + c))) ∧ K 508 (s + c) = 10000 + kc ∧ ∃ a b, M 370 (64 + (s + c)) = nI a ∧ M 371 (64 + (s + c)) = nI b ∧ Ws K M s c (b :: a :: r))
def jL (q l : Nat) (K M : Nat → Nat → Int32) : Prop := (K 509 l = -1 ∧ M 366 (3 + l) = 0) ∨ (M 366 (3 + l) = 1 ∧ ∃ s e x, s < e ∧ e ≤ q ∧ K 509 l = nI s ∧ K 510 l = nI e ∧ M 367 (3 + l) = nI s ∧ M 368 (3 + l) = nI e ∧ Ws K M s (e - s) [x])
def jW (q : Nat) (K M : Nat → Nat → Int32) : Prop := q ≤ 64 ∧ K 507 6 = nI q ∧ K 507 5 = nI q ∧ M 347 19 = nI q ∧ M 347 47 = nI q ∧ ∀ l, l < 3 → jL q l K M
/-- the rows of the told bridge name people in any case -/
def jB (K : Nat → Nat → Int32) : Prop := ∀ k, vp_in (K 19 k) 6 ∧ vp_in (K 20 k) 6 ∧ vp_in (K 504 k) 6
def Rl (s i p np nd nc q ln : Nat) (K M : Nat → Nat → Int32) : Prop := jT s i p K M ∧ jF K M ∧ jP np K M ∧ jD np nd K M ∧ jX np nc K M ∧ jO ln K M ∧ jW q K M ∧ jB K
/-- the reference's rows name people, or are 0 or 1, in any case -/
def jZ (M : Nat → Nat → Int32) : Prop := ∀ k, vp_in (M 356 k) 6 ∧ vp_in (M 357 k) 6 ∧ (M 361 k = 0 ∨ M 361 k = 1) ∧ vp_in (M 363 k) 6
/-- what a text leaves as it was in the reference -/
def LF (M M' : Nat → Nat → Int32) : Prop := (∀ a k, ¬ ((a = 347 ∧ ((4 ≤ k ∧ k ≤ 11) ∨ (16 ≤ k ∧ k ≤ 19) ∨ (44 ≤ k ∧ k ≤ 49))) ∨ a = 350 ∨ (a = 351 ∧ 2 ≤ k) ∨ (352 ≤ a ∧ a ≤ 355 ∧ 6 ≤ k) ∨ (356 ≤ a ∧ a ≤ 362 ∧ 10 ≤ k) ∨ (363 ≤ a ∧ a ≤ 365 ∧ 8 ≤ k) ∨ (366 ≤ a ∧ a ≤ 368 ∧ 3 ≤ k) ∨ (369 ≤ a ∧ a ≤ 371 ∧ 64 ≤ k) ∨ a = 372 ∨ a = 373) → M' a k = M a k) ∧ (jZ M → jZ M')
theorem LF.rf (M : Nat → Nat → Int32) : LF M M := ⟨fun _ _ _ => rfl, fun h => h⟩
theorem LF.tr {M M1 M2 : Nat → Nat → Int32} (h : LF M M1) (g : LF M1 M2) : LF M M2 := ⟨fun a k z => (g.1 a k z).trans (h.1 a k z), fun z => g.2 (h.2 z)⟩
theorem xu_ne {α : Type} {f : Nat → Nat → α} {a k a' k' : Nat} {v : α} (h : ¬ (a' = a ∧ k' = k)) : xu f a k v a' k' = f a' k' := by simp only [xu, if_neg h]
theorem LF.of {M M' : Nat → Nat → Int32} (h : ∀ a k, ¬ ((a = 347 ∧ ((4 ≤ k ∧ k ≤ 11) ∨ (16 ≤ k ∧ k ≤ 19) ∨ (44 ≤ k ∧ k ≤ 49))) ∨ a = 350 ∨ (a = 351 ∧ 2 ≤ k) ∨ (352 ≤ a ∧ a ≤ 355 ∧ 6 ≤ k) ∨ ((a = 358 ∨ a = 359 ∨ a = 360 ∨ a = 362) ∧ 10 ≤ k) ∨ ((a = 364 ∨ a = 365) ∧ 8 ≤ k) ∨ (366 ≤ a ∧ a ≤ 368 ∧ 3 ≤ k) ∨ (369 ≤ a ∧ a ≤ 371 ∧ 64 ≤ k) ∨ a = 372 ∨ a = 373) → M' a k = M a k) : LF M M' := ⟨fun a k z => h a k (by omega), fun z k => by rw [h 356 k (by omega), h 357 k (by omega), h 361 k (by omega), h 363 k (by omega)]; exact z k⟩
theorem LF.dz {c : Nat} {M M' : Nat → Nat → Int32} (hc : 10 ≤ c) (h : ∀ a k, ¬ (((a = 347 ∧ ((4 ≤ k ∧ k ≤ 11) ∨ (16 ≤ k ∧ k ≤ 19) ∨ (44 ≤ k ∧ k ≤ 49))) ∨ a = 350 ∨ (a = 351 ∧ 2 ≤ k) ∨ (352 ≤ a ∧ a ≤ 355 ∧ 6 ≤ k) ∨ ((a = 358 ∨ a = 359 ∨ a = 360 ∨ a = 362) ∧ 10 ≤ k) ∨ ((a = 364 ∨ a = 365) ∧ 8 ≤ k) ∨ (366 ≤ a ∧ a ≤ 368 ∧ 3 ≤ k) ∨ (369 ≤ a ∧ a ≤ 371 ∧ 64 ≤ k) ∨ a = 372 ∨ a = 373) ∨ ((a = 356 ∨ a = 357 ∨ a = 361) ∧ k = c)) → M' a k = M a k) (h1 : vp_in (M' 356 c) 6) (h2 : vp_in (M' 357 c) 6) (h3 : M' 361 c = M 361 c ∨ M' 361 c = 0 ∨ M' 361 c = 1) : LF M M' := by
  refine ⟨fun a k z => h a k (by omega), fun z k => ?_⟩
  by_cases e : k = c
  · subst e
    refine ⟨h1, h2, ?_, by rw [h 363 k (by omega)]; exact (z k).2.2.2⟩
    rcases h3 with h3 | h3
    · rw [h3]; exact (z k).2.2.1
    · exact h3
  · rw [h 356 k (by omega), h 357 k (by omega), h 361 k (by omega), h 363 k (by omega)]; exact z k
theorem LF.x {M M1 : Nat → Nat → Int32} (h : LF M M1) {a k : Nat} {v : Int32} (z : (a = 347 ∧ ((4 ≤ k ∧ k ≤ 11) ∨ (16 ≤ k ∧ k ≤ 19) ∨ (44 ≤ k ∧ k ≤ 49))) ∨ a = 350 ∨ (a = 351 ∧ 2 ≤ k) ∨ (352 ≤ a ∧ a ≤ 355 ∧ 6 ≤ k) ∨ ((a = 358 ∨ a = 359 ∨ a = 360 ∨ a = 362) ∧ 10 ≤ k) ∨ ((a = 364 ∨ a = 365) ∧ 8 ≤ k) ∨ (366 ≤ a ∧ a ≤ 368 ∧ 3 ≤ k) ∨ (369 ≤ a ∧ a ≤ 371 ∧ 64 ≤ k) ∨ a = 372 ∨ a = 373) : LF M (xu M1 a k v) := h.tr (LF.of fun a' k' z' => xu_ne (by rintro ⟨rfl, rfl⟩; exact z' z))
theorem LF.y6 {M M1 : Nat → Nat → Int32} (h : LF M M1) {a k : Nat} {v : Int32} (z : ((a = 356 ∨ a = 357) ∧ 10 ≤ k) ∨ (a = 363 ∧ 8 ≤ k)) (hv : vp_in v 6) : LF M (xu M1 a k v) := by
  refine h.tr ⟨fun a' k' z' => xu_ne (by omega), fun y k' => ?_⟩
  have e : ∀ b, vp_in (M1 b k') 6 → vp_in (xu M1 a k v b k') 6 := fun b w => by
    by_cases e : b = a ∧ k' = k
    · rw [e.1, e.2, xu_s]; exact hv
    · rw [xu_ne e]; exact w
  exact ⟨e 356 (y k').1, e 357 (y k').2.1, by rw [xu_ne (by omega)]; exact (y k').2.2.1, e 363 (y k').2.2.2⟩
/-! each of them reads but its own cells -/
theorem jF.c {K K' M M' : Nat → Nat → Int32} (h : jF K M) (hK : ∀ a k, (a = 2 ∧ (k = 4 ∨ k = 5)) → K' a k = K a k) (hM : ∀ a k, (a = 347 ∧ (k = 4 ∨ k = 5)) → M' a k = M a k) : jF K' M' := ⟨(hK _ _ (by decide)).trans (h.1.trans (hM _ _ (by decide)).symm), (hK _ _ (by decide)).trans (h.2.trans (hM _ _ (by decide)).symm)⟩
theorem jT.c {s i p : Nat} {K K' M M' : Nat → Nat → Int32} (h : jT s i p K M) (hK : ∀ a k, (a = 28 ∨ a = 1) → K' a k = K a k) (hM : ∀ a k, ((a = 347 ∧ 6 ≤ k ∧ k ≤ 10) ∨ a = 348 ∨ a = 349) → M' a k = M a k) : jT s i p K' M' := by
  have h1 : K' 1 = K 1 := funext fun k => hK 1 k (by decide)
  have h2 : M' 348 = M 348 := funext fun k => hM 348 k (by omega)
  have h3 : M' 349 = M 349 := funext fun k => hM 349 k (by omega)
  unfold jT at h ⊢
  rw [h1, h2, h3, hK 28 1 (by decide), hK 28 2 (by decide), hK 28 3 (by decide), hK 28 4 (by decide), hK 28 5 (by decide), hM 347 6 (by decide), hM 347 7 (by decide), hM 347 8 (by decide), hM 347 9 (by decide), hM 347 10 (by decide)]
  exact h
theorem jP.c {np : Nat} {K K' M M' : Nat → Nat → Int32} (h : jP np K M) (hK : ∀ a k, ((a = 500 ∧ k = 3) ∨ (501 ≤ a ∧ a ≤ 503) ∨ a = 17 ∨ a = 18) → K' a k = K a k) (hM : ∀ a k, ((a = 347 ∧ k = 16) ∨ (352 ≤ a ∧ a ≤ 355)) → M' a k = M a k) : jP np K' M' := by
  obtain ⟨h0, h1, h2, h3⟩ := h
  refine ⟨h0, (hK _ _ (by omega)).trans h1, (hM _ _ (by omega)).trans h2, fun j hj => ?_⟩
  rw [hK 501 j (by omega), hK 502 j (by omega), hK 503 j (by omega), hK 17 j (by omega), hK 18 j (by omega), hM 352 _ (by omega), hM 353 _ (by omega), hM 354 _ (by omega), hM 355 _ (by omega)]
  exact h3 j hj
theorem jD.c {np nd : Nat} {K K' M M' : Nat → Nat → Int32} (h : jD np nd K M) (hK : ∀ a k, ((a = 500 ∧ k = 9) ∨ (a = 16 ∧ (k = 12 ∨ k = 13)) ∨ (19 ≤ a ∧ a ≤ 26)) → K' a k = K a k) (hM : ∀ a k, ((a = 347 ∧ k = 17) ∨ (356 ≤ a ∧ a ≤ 362)) → M' a k = M a k) : jD np nd K' M' := by
  obtain ⟨h0, h1, h2, h3, h4, h5, h6, h7⟩ := h
  refine ⟨h0, (hK _ _ (by omega)).trans h1, (hK _ _ (by omega)).trans h2, (hM _ _ (by omega)).trans h3, ?_, fun j hj => ?_, fun j z1 z2 => (hM _ _ (by omega)).trans (h6 j z1 z2), fun j hj => ?_⟩
  · rw [hK 16 12 (by omega)]; exact h4
  · rw [hK 16 12 (by omega), hK 19 j (by omega), hK 20 j (by omega), hK 21 j (by omega), hK 22 j (by omega), hK 23 j (by omega), hK 24 j (by omega), hK 25 j (by omega), hK 26 j (by omega), hM 356 _ (by omega), hM 357 _ (by omega), hM 358 _ (by omega), hM 359 _ (by omega), hM 360 _ (by omega), hM 361 _ (by omega), hM 362 _ (by omega)]
    exact h5 j hj
  · rw [hK 26 j (by omega)]
    rcases h7 j hj with z | ⟨q, z1, z2, z3, z4⟩
    · exact Or.inl z
    · exact Or.inr ⟨q, z1, z2, z3, (hK 26 q (by omega)).trans z4⟩
theorem jX.c {np nc : Nat} {K K' M M' : Nat → Nat → Int32} (h : jX np nc K M) (hK : ∀ a k, ((a = 500 ∧ k = 7) ∨ (504 ≤ a ∧ a ≤ 506)) → K' a k = K a k) (hM : ∀ a k, ((a = 347 ∧ k = 18) ∨ (363 ≤ a ∧ a ≤ 365)) → M' a k = M a k) : jX np nc K' M' := by
  obtain ⟨h0, h1, h2, h3⟩ := h
  refine ⟨h0, (hK _ _ (by omega)).trans h1, (hM _ _ (by omega)).trans h2, fun j hj => ?_⟩
  rw [hK 504 j (by omega), hK 505 j (by omega), hK 506 j (by omega), hM 363 _ (by omega), hM 364 _ (by omega), hM 365 _ (by omega)]
  exact h3 j hj
theorem jO.c {ln : Nat} {K K' M M' : Nat → Nat → Int32} (h : jO ln K M) (hK : ∀ a k, ((a = 500 ∧ 10 ≤ k) ∨ (a = 16 ∧ 14 ≤ k) ∨ a = 27) → K' a k = K a k) (hM : ∀ a k, (a = 350 ∨ (a = 351 ∧ k = 2)) → M' a k = M a k) : jO ln K' M' := by
  obtain ⟨h0, h1, h2, h3, h4, h5, h6⟩ := h
  refine ⟨(hK _ _ (by omega)).trans h0, ?_, ?_, ?_, ?_, (hK _ _ (by omega)).trans h5, fun k hk => (hK _ _ (by omega)).trans (h6 k hk)⟩
  · rw [hK 500 11 (by omega), hM 350 0 (by omega)]; exact h1
  · rw [hK 500 12 (by omega), hM 350 1 (by omega)]; exact h2
  · rw [hK 16 14 (by omega), hM 351 2 (by omega)]; exact h3
  · rw [hK 16 14 (by omega)]; exact h4
theorem Ws.c {K K' M M' : Nat → Nat → Int32} {s : Nat} : ∀ {c : Nat} {hs : List Nat}, Ws K M s c hs → (∀ k, s ≤ k → k < s + c → K' 508 k = K 508 k) → (∀ a k, (369 ≤ a ∧ a ≤ 371) → s ≤ k → k < s + c → M' a (64 + k) = M a (64 + k)) → Ws K' M' s c hs
  | 0, _, h, _, _ => h
  | c + 1, _, ⟨r, h, g⟩, hK, hM => by
    refine ⟨r, h, ?_⟩
    rw [hK (s + c) (by omega) (by omega), hM 369 (s + c) (by omega) (by omega) (by omega), hM 370 (s + c) (by omega) (by omega) (by omega), hM 371 (s + c) (by omega) (by omega) (by omega)]
    have ih : ∀ {hs : List Nat}, Ws K M s c hs → Ws K' M' s c hs := fun z => Ws.c z (fun k h1 h2 => hK k h1 (by omega)) (fun a k h0 h1 h2 => hM a k h0 h1 (by omega))
    rcases g with ⟨g1, g2⟩ | ⟨g1, g2, a, g3, g4⟩ | ⟨kc, g1, g2, a, b, g3, g4, g5⟩
    · exact Or.inl ⟨g1, ih g2⟩
    · exact Or.inr (Or.inl ⟨g1, g2, a, g3, ih g4⟩)
    · exact Or.inr (Or.inr ⟨kc, g1, g2, a, b, g3, g4, ih g5⟩)
theorem jL.c {q q' l : Nat} {K K' M M' : Nat → Nat → Int32} (h : jL q l K M) (hq : q ≤ q') (hK : ∀ a k, ((a = 508 ∧ k < q) ∨ ((a = 509 ∨ a = 510) ∧ k = l)) → K' a k = K a k) (hM : ∀ a k, (((366 ≤ a ∧ a ≤ 368) ∧ k = 3 + l) ∨ ((369 ≤ a ∧ a ≤ 371) ∧ k < 64 + q)) → M' a k = M a k) : jL q' l K' M' := by
  rcases h with ⟨h1, h2⟩ | ⟨h1, s, e, x, h2, h3, h4, h5, h6, h7, h8⟩
  · exact Or.inl ⟨(hK _ _ (by omega)).trans h1, (hM _ _ (by omega)).trans h2⟩
  · exact Or.inr ⟨(hM _ _ (by omega)).trans h1, s, e, x, h2, by omega, (hK _ _ (by omega)).trans h4, (hK _ _ (by omega)).trans h5, (hM _ _ (by omega)).trans h6, (hM _ _ (by omega)).trans h7, h8.c (fun k z1 z2 => hK _ _ (by omega)) (fun a k z0 z1 z2 => hM _ _ (by omega))⟩
theorem jW.c {q : Nat} {K K' M M' : Nat → Nat → Int32} (h : jW q K M) (hK : ∀ a k, ((a = 507 ∧ (k = 5 ∨ k = 6)) ∨ (508 ≤ a ∧ a ≤ 510)) → K' a k = K a k) (hM : ∀ a k, ((a = 347 ∧ (k = 19 ∨ k = 47)) ∨ (366 ≤ a ∧ a ≤ 371)) → M' a k = M a k) : jW q K' M' := by
  obtain ⟨h0, h1, h2, h3, h4, h5⟩ := h
  exact ⟨h0, (hK _ _ (by omega)).trans h1, (hK _ _ (by omega)).trans h2, (hM _ _ (by omega)).trans h3, (hM _ _ (by omega)).trans h4, fun l hl => (h5 l hl).c (Nat.le_refl _) (fun a k z => hK a k (by omega)) (fun a k z => hM a k (by omega))⟩
theorem jB.c {K K' : Nat → Nat → Int32} (h : jB K) (hK : ∀ a k, (a = 19 ∨ a = 20 ∨ a = 504) → K' a k = K a k) : jB K' := fun k => by rw [hK 19 k (by omega), hK 20 k (by omega), hK 504 k (by omega)]; exact h k
theorem jB.y {K K' : Nat → Nat → Int32} {c : Nat} (h : jB K) (hK : ∀ a k, (a = 19 ∨ a = 20 ∨ (a = 504 ∧ k ≠ c)) → K' a k = K a k) (hc : vp_in (K' 504 c) 6) : jB K' := fun k => by
  refine ⟨by rw [hK 19 k (by omega)]; exact (h k).1, by rw [hK 20 k (by omega)]; exact (h k).2.1, ?_⟩
  by_cases e : k = c
  · subst e; exact hc
  · rw [hK 504 k (by omega)]; exact (h k).2.2
/-- all but what is read of the text stays -/
def agT (K K' M M' : Nat → Nat → Int32) : Prop := (∀ a k, ¬ a = 28 → K' a k = K a k) ∧ ∀ a k, ¬ (a = 347 ∧ 6 ≤ k ∧ k ≤ 10) → M' a k = M a k
theorem agT.lf {K K' M M' : Nat → Nat → Int32} (h : agT K K' M M') : LF M M' := LF.of fun a k z => h.2 a k (by omega)
theorem Rl.c {s i p np nd nc q ln i' p' : Nat} {K K' M M' : Nat → Nat → Int32} (h : Rl s i p np nd nc q ln K M) (g : jT s i' p' K' M') (z : agT K K' M M') : Rl s i' p' np nd nc q ln K' M' :=
  ⟨g, h.2.1.c (fun a k e => z.1 a k (by omega)) (fun a k e => z.2 a k (by omega)), h.2.2.1.c (fun a k e => z.1 a k (by omega)) (fun a k e => z.2 a k (by omega)), h.2.2.2.1.c (fun a k e => z.1 a k (by omega)) (fun a k e => z.2 a k (by omega)), h.2.2.2.2.1.c (fun a k e => z.1 a k (by omega)) (fun a k e => z.2 a k (by omega)), h.2.2.2.2.2.1.c (fun a k e => z.1 a k (by omega)) (fun a k e => z.2 a k (by omega)), h.2.2.2.2.2.2.1.c (fun a k e => z.1 a k (by omega)) (fun a k e => z.2 a k (by omega)), h.2.2.2.2.2.2.2.c (fun a k e => z.1 a k (by omega))⟩
/-! one token further, on both sides -/
theorem adv_R {s i p : Nat} {K M : Nat → Nat → Int32} (h : jT s i p K M) : ∃ i' p' K' M', i ≤ p' ∧ jT s i' p' K' M' ∧ agT K K' M M' ∧ cRun false 3 yX8_advance (fun _ => [.ref 28]) K none K' ∧ rRun 2 yX11_token [.ref 347] M none M' := by
  obtain ⟨hs, hi, hp, hk, e1, e2, e3, m1, m2, m3, hT, hb, hw⟩ := h
  obtain ⟨q1, q2, q3, q4, q5⟩ := tok_R hs hb hi (K 28 5) (M 347 9)
  have q6 := cTo_i (K 1) (s := s) (j := cSp (K 1) (s - i) i) q3 (K 28 5)
  refine ⟨(cTo (K 1) s (cSp (K 1) (s - i) i) (K 28 5)).1, cSp (K 1) (s - i) i, wKa K (K 1) s i (K 28 5), wQa M (M 348) rWords s i (M 347 9), q2, ?_, ?_, ?_, ?_⟩
  · refine ⟨hs, q6.2.1, q6.1, ?_, by simp [wKa, wK], by simp [wKa, wK], by simp [wKa, wK], by simp [wQa, wQ], ?_, ?_, ?_, ?_, ?_⟩
    · intro z
      apply q6.2.2
      apply Classical.byContradiction
      intro z2
      apply z
      have : s ≤ cSp (K 1) (s - i) i := by omega
      simp [wKa, wK, cTo, this]
    · simp only [wQa, wQ, if_true]
      rw [if_neg (by decide), q4]
    · simp only [wQa, wQ, if_true]
      rw [if_neg (by decide), if_neg (by decide), if_neg (by decide), if_neg (by decide), q1]
    · have z1 : wKa K (K 1) s i (K 28 5) 28 4 = (cTo (K 1) s (cSp (K 1) (s - i) i) (K 28 5)).2.1 := by simp [wKa, wK]
      have z2 : wKa K (K 1) s i (K 28 5) 28 5 = (cTo (K 1) s (cSp (K 1) (s - i) i) (K 28 5)).2.2 := by simp [wKa, wK]
      have z3 : wQa M (M 348) rWords s i (M 347 9) 347 8 = (rTo (M 348) rWords s (cSp (M 348) (s - i) i) (M 347 9)).2.1 := by simp [wQa, wQ]
      have z4 : wQa M (M 348) rWords s i (M 347 9) 347 9 = (rTo (M 348) rWords s (cSp (M 348) (s - i) i) (M 347 9)).2.2 := by simp [wQa, wQ]
      rw [z1, z2, z3, z4]
      exact q5
    · have z1 : wKa K (K 1) s i (K 28 5) 1 = K 1 := by funext q; simp [wKa, wK]
      have z2 : wQa M (M 348) rWords s i (M 347 9) 348 = M 348 := by funext q; simp [wQa, wQ]
      rw [z1, z2]
      exact hb
    · have z2 : wQa M (M 348) rWords s i (M 347 9) 349 = M 349 := by funext q; simp [wQa, wQ]
      rw [z2]
      exact hw
  · refine ⟨fun a k z => by simp only [wKa, wK, if_neg z], fun a k z => ?_⟩
    simp only [wQa, wQ]
    by_cases z1 : a = 347
    · rw [if_pos z1, if_neg (by omega), if_neg (by omega), if_neg (by omega), if_neg (by omega), if_neg (by omega)]
    · rw [if_neg z1]
  · intro E ex t I J P n hn ht hE hq
    obtain ⟨d, rfl⟩ : ∃ d, n = d + 3 := ⟨n - 3, by omega⟩
    have z := k_advance (E := E) (ex := ex) (I := uC t K I) (J := J) (P := P) hE hq.1 hs hi (K 28 3) (K 28 4) (K 28 5) d
    have y1 : uC t K I 1 = K 1 := funext fun q => uC_c ht (by decide) q
    have y2 : wK (uC t K I) (nI s) (nI i) (K 28 3) (K 28 4) (K 28 5) = uC t K I := by
      have := wK_id (I := K)
      rw [uC_wK ht, ← e1, ← e2, this]
    rw [y1, y2] at z
    exact (congrArg (fun S => xEx E ex (d + 3) yX8_advance [.ref 28] (SH, uC t K I, J, P) none (SH, S, J, P)) (uC_wK ht K I _ _ _ _ _)).mp z
  · intro E ex I J P n hn hP
    obtain ⟨d, rfl⟩ : ∃ d, n = d + 2 := ⟨n - 2, by omega⟩
    have y1 : uR M I 348 = M 348 := funext fun q => uR_r (by decide) q
    have y3 : uR M I 349 = M 349 := funext fun q => uR_r (by decide) q
    have z := k_token (E := E) (ex := ex) (I := uR M I) (J := J) (P := P) hP hs hi (ws := rWords) (by rw [y3]; exact hw) (M 347 8) (M 347 9) (M 347 10) d
    have y2 : wQ (uR M I) (nI s) (nI i) (M 347 8) (M 347 9) (M 347 10) = uR M I := by
      rw [uR_wQ, ← m1, ← m2]
      congr 1
      funext a q
      simp only [wQ]
      by_cases h : a = 347
      · subst h
        simp only [if_true]
        by_cases h1 : q = 6
        · rw [if_pos h1, h1]
        rw [if_neg h1]
        by_cases h1 : q = 7
        · rw [if_pos h1, h1]
        rw [if_neg h1]
        by_cases h1 : q = 8
        · rw [if_pos h1, h1]
        rw [if_neg h1]
        by_cases h1 : q = 9
        · rw [if_pos h1, h1]
        rw [if_neg h1]
        by_cases h1 : q = 10
        · rw [if_pos h1, h1]
        rw [if_neg h1]
      · rw [if_neg h]
    rw [y1, y2] at z
    exact (congrArg (fun S => xEx E ex (d + 2) yX11_token [.ref 347] (SH, uR M I, J, P) none (SH, S, J, P)) (uR_wQ M I _ _ _ _ _)).mp z
