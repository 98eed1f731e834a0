/-! the law's cases: what both answer is an int (or, of law, a long) -/
section TY
variable {s0 : State} {a0 : Array Value} {D : va_G} {t : Nat → ClassId}
theorem code_ret (C : xC s0 a0 D t) {y : MethodName} {cc : ByteArray} {nL : Nat} {ret ty : Option FieldType} (hc : Cond.code y cc nL ret ∈ xgw) (hd : (parseMethodDescriptor y.desc).map (fun d => d.returnType) = some ty) : ret = ty := by
  have hb : (Cond.code y cc nL ret).before a0 s0 = true := C.1 _ (List.mem_filter.mp hc).1
  cases hm : s0.methodNamed? y with
  | none => simp [Cond.before, Cond.holds, Cond.value, hm] at hb
  | some m =>
    obtain ⟨meth, c, -, -, -, -, hr, -, -, hs⟩ := Cond.code_spec hm hb
    rw [hs] at hd
    rw [← hr]
    exact Option.some.inj hd
theorem xEx_int (C : xC s0 a0 D t) {y : MethodName} {ty : FieldType} (hty : ty ≠ .long) (hd : (parseMethodDescriptor y.desc).map (fun d => d.returnType) = some (some ty)) (hn : y ≠ yX8_wordKind) : ∀ (n : Nat) (vs : List Value) (S : xS) (r : Value) (S' : xS), xEx EWd false n y vs S (some r) S' → ∃ q, r = .int q
  | 0, _, _, _, _, h => h.elim
  | n + 1, vs, S, r, S', h => by
    rcases h with ⟨cc, nL, ret, k, hc, -, -, -, h⟩ | h | h
    · have hret := code_ret C hc hd
      subst hret
      have key : ∀ (k pc : Nat) (ls : List (Option Value)) (st : List Value) (S : xS), xRn (xEx EWd false n) false none y cc (some ty) k pc ls st S (some r) S' → ∃ q, r = .int q := by
        intro k
        induction k with
        | zero =>
          rintro pc ls st S ⟨⟨i, len, -, -, hi⟩, -⟩
          cases i with
          | ireturn => obtain ⟨x, ty, -, -, -, e⟩ := hi; exact ⟨x, Option.some.inj e⟩
          | lreturn => obtain ⟨x, -, e, -⟩ := hi; exact absurd (Option.some.inj e) hty
          | return_ => cases hi.2.2
          | _ => exact hi.elim
        | succ k ih =>
          rintro pc ls st S ⟨_, _, _, _, -, h⟩
          exact ih _ _ _ _ h
      exact key _ _ _ _ _ h
    · obtain ⟨I, J, P, s, p, n, i, k, v, -, -, -, -, e, -⟩ := h
      exact absurd e hn
    · exact xEx_int C hty hd hn n vs S r S' h
theorem Cl.int (C : xC s0 a0 D t) {yC yR : MethodName} {vC vR : List Value} (h : Cl EWd false yC vC yR vR) {ty : FieldType} (hty : ty ≠ .long) (hd : (parseMethodDescriptor yC.desc).map (fun d => d.returnType) = some (some ty)) (hn : yC ≠ yX8_wordKind) {I : Nat → Nat → Int32} {J : Nat → Nat → Int64} {P : Nat → Nat → Nat} (hX : RX I P) : ∃ (q : Int32) (I1 : Nat → Nat → Int32) (J1 : Nat → Nat → Int64) (P1 : Nat → Nat → Nat) (I2 : Nat → Nat → Int32) (J2 : Nat → Nat → Int64), xEx EWd false 30 yC vC (SH, I, J, P) (some (.int q)) (SH, I1, J1, P1) ∧ xEx EWd false 30 yR vR (SH, I1, J1, P1) (some (.int q)) (SH, I2, J2, P1) ∧ RX I2 P1 := by
  obtain ⟨r, I1, J1, P1, I2, J2, h1, h2, h3⟩ := h I J P hX 30 (Nat.le_refl _)
  obtain ⟨q, rfl⟩ := xEx_int C hty hd hn _ _ _ _ _ h1
  exact ⟨q, I1, J1, P1, I2, J2, h1, h2, h3⟩
end TY
theorem Cl.roL {E : xCl} {ex : Bool} {t np q n m s kb u sn N : Nat} {I : Nat → Nat → Int32} {J J1 J2 : Nat → Nat → Int64} {P : Nat → Nat → Nat} {yC yR : MethodName} {vC vR : List Value} {r : Int64} {e : Int32} (h : Rel t np q n m s kb u sn I P) (hc : xEx E ex N yC vC (SH, I, J, P) (some (.long r)) (SH, I, J1, P)) (hr : xEx E ex N yR vR (SH, I, J1, P) (some (.long r)) (SH, wE (xu I 347 2 0) e, J2, P)) : ∃ (r : Int64) (I1 : Nat → Nat → Int32) (J1 : Nat → Nat → Int64) (P1 : Nat → Nat → Nat) (I2 : Nat → Nat → Int32) (J2 : Nat → Nat → Int64), xEx E ex N yC vC (SH, I, J, P) (some (.long r)) (SH, I1, J1, P1) ∧ xEx E ex N yR vR (SH, I1, J1, P1) (some (.long r)) (SH, I2, J2, P1) ∧ RX I2 P1 :=
  ⟨r, I, J1, P, _, J2, hc, hr, t, np, q, n, m, s, kb, u, sn, h.g (ag_e I e) (Ap.rf P) ((h.2.2.2.2.2.2.1.2.2.2.2.2.x2 2 0).x2 52 e)⟩
theorem law_ClL {E : xCl} {ex : Bool} (w x : Int32) {I : Nat → Nat → Int32} {J : Nat → Nat → Int64} {P : Nat → Nat → Nat} (hX : RX I P) : ∃ (r : Int64) (I1 : Nat → Nat → Int32) (J1 : Nat → Nat → Int64) (P1 : Nat → Nat → Nat) (I2 : Nat → Nat → Int32) (J2 : Nat → Nat → Int64), xEx E ex 30 yX10_law [.ref 0, .int w, .int x] (SH, I, J, P) (some (.long r)) (SH, I1, J1, P1) ∧ xEx E ex 30 yX11_law [.ref 347, .int w, .int x] (SH, I1, J1, P1) (some (.long r)) (SH, I2, J2, P1) ∧ RX I2 P1 := by
  obtain ⟨t, np, q, n, m, s, kb, u, sn, h⟩ := hX
  have h1 := h.1
  have h5 := h.2.2.2.2.1
  have h7 := h.2.2.2.2.2.2.1
  have hp := h7.2.2.2.2.2
  by_cases c0 : ¬ w < 0 ∧ ¬ 2 < w
  · have c3 : ¬ (3 : Int32) ≤ w := fun z => c0.2 (Int32.lt_of_lt_of_le (by decide) z)
    obtain ⟨k, hk, rfl⟩ := in_lt (m := 3) (by omega) c0.1 (Int32.not_le.mp c3)
    obtain ⟨e', J2, rr⟩ : ∃ e' J2, _ := k_rlaw (E := E) (ex := ex) (I := I) (V := vR I 0) (e := I 347 52) (J := J) (P := P) h1.2.1 rfl h7.rv.1 h5.2.1.x2 (Lv_7 I t) hk x 0
    by_cases c1 : sTh (vB I 56) x
    · obtain ⟨J1, cc, -⟩ := k_law_t (E := E) (ex := ex) (I := I) (V := vB I 56) (J := J) (P := P) h1.2.1 h1.1 h1.2.2.1 h1.2.2.2.2.2 h7.1.1 h5.1 (w := nI k) (s := x) ⟨c0.1, c3, c1⟩ 0
      rw [wB_vB] at cc
      obtain ⟨e', J2, rr, -⟩ := k_rlaw (E := E) (ex := ex) (I := I) (V := vR I 0) (e := I 347 52) (J := J1) (P := P) h1.2.1 rfl h7.rv.1 h5.2.1.x2 (Lv_7 I t) hk x 0
      obtain ⟨j, hj, rfl⟩ := h7.1.1.lt c1.1
      rw [preR hp, postR hp, if_pos ((h7.2.1.th h7.1.1 _).mp c1), ← h7.2.1.two h7.1.1 hj, ← h7.2.1.nm h7.1.1 h7.1.2.2.2.1 hj] at rr
      rw [nI_clamp (by omega)] at cc
      exact Cl.roL h (x_le (by omega) cc) (x_le (by omega) rr)
    · have cc := k_law_n (E := E) (ex := ex) (I := I) (V := vB I 56) (J := J) (P := P) h1.2.1 h1.1 h1.2.2.1 h1.2.2.2.2.2 (w := nI k) (s := x) (fun z => c1 z.2.2) 0
      rw [wB_vB] at cc
      have rr := rr.1
      rw [preR hp, postR hp, if_neg (fun z => c1 ((h7.2.1.th h7.1.1 _).mpr z))] at rr
      exact Cl.roL h (x_le (by omega) cc) (x_le (by omega) rr)
  · have cc := k_law_n (E := E) (ex := ex) (I := I) (V := vB I 56) (J := J) (P := P) h1.2.1 h1.1 h1.2.2.1 h1.2.2.2.2.2 (w := w) (s := x) (fun z => c0 ⟨z.1, fun y => z.2.1 (by
        have a := Int32.lt_iff_toInt_lt.mp y
        refine Int32.le_iff_toInt_le.mpr ?_
        have e2 : (2 : Int32).toInt = 2 := by decide
        have e3 : (3 : Int32).toInt = 3 := by decide
        omega)⟩) 0
    rw [wB_vB] at cc
    have rr := k_rlaw_n (E := E) (ex := ex) (I := I) (V := vR I 0) (e := I 347 52) (J := J) (P := P) h1.2.1 rfl (w := w) (s := x) c0 0
    rw [preR hp, postR hp] at rr
    exact Cl.roL h (x_le (by omega) cc) (x_le (by omega) rr)
/-! the law's locals; an int of the script -/
abbrev lwl (i : Nat) (a5 a6 : Option Value) : List (Option Value) := [some (.retAddr 0), some (.ref 0), some (.ref 347), some (.ref 404), some (.int (nI i)), a5, a6]
theorem lcmp_e (x : Int64) : lg_cmp x x = 0 := by simp [lg_cmp]
section LA
variable {K : xKt} {call : xCl} {L : Nat} {xs : Nat → Int32} {i : Nat} {a5 a6 : Option Value} {st : List Value} {I : Nat → Nat → Int32} {J : Nat → Nat → Int64} {P : Nat → Nat → Nat}
theorem g_arg (hK : xW K call false (some (L, xs)) yL_law cL_law) (hi : i + 6 ≤ L) (hL : L ≤ 3072) {pc : Nat} (k : Nat) {n : Int} (h0 : decode cL_law pc = .ok (.aload_n 0, 1)) (h1 : decode cL_law (pc + 1) = .ok (.iload 4, 2)) (h2 : decode cL_law (pc + 1 + 2) = .ok (.iconst n, 1)) (h3 : decode cL_law (pc + 1 + 2 + 1) = .ok (.iadd, 1)) (h4 : decode cL_law (pc + 1 + 2 + 1 + 1) = .ok (.iaload, 1)) (hv : Int32.ofInt n = nI k) (hk : k < 6) (kk : K (pc + 1 + 2 + 1 + 1 + 1) (lwl i a5 a6) (.int (xs (i + k)) :: st) (SH, I, J, P)) : K pc (lwl i a5 a6) st (SH, I, J, P) := by
  refine g_aloadX_n hK h0 rfl ?_
  refine g_iload hK h1 rfl ?_
  refine g_iconst hK (v := nI k) h2 hv ?_
  refine g_iadd hK h3 ?_
  rw [nI_add]
  refine g_ialX hK h4 rfl (vp_in_nI (by omega) (by omega)) ?_
  rw [nI_clamp (by omega)]
  exact kk
theorem g_cV2l {X : Option (Nat × (Nat → Int32))} {y : MethodName} {cc : ByteArray} {pc : Nat} {ls : List (Option Value)} {S : xS} (hK : xW K call false X y cc) {idx ci N a : Nat} {y2 : MethodName} {v1 v2 : Value} {q : Int64} {S1 : xS} (hd : decode cc pc = .ok (.invokevirtual idx, 3)) (hl : xVl y.cls idx y2 2 ci) (hs : S.1[a]? = some (.inl ci, N)) (hc : (st.map fun v => v.category).sum ≤ 8) (h : call y2 (.ref a :: [v1, v2]) S (some (.long q)) S1) (hsh : S1.1 = S.1) (kk : K (pc + 3) ls (.long q :: st) S1) : K pc ls (v2 :: v1 :: .ref a :: st) S := g_step hK ⟨_, _, hd, rfl, rfl, rfl, y2, 2, ci, [v1, v2], a, N, st, (some (.long q)), hl, hs, rfl, rfl, hc, h, rfl⟩ hsh kk
end LA
