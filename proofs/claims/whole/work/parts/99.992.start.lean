/-! the law's start: both are made -/
theorem tk_b (q : Nat) (I : Nat → Nat → Int32) (J : Nat → Nat → Int64) (P : Nat → Nat → Nat) : (SH.take q).length ≤ 601024 ∧ xus (SH.take q, I, J, P) ≤ 7293034 := by
  have h := xus_le (S := (SH.take q, I, J, P)) (S' := (SH, I, J, P)) (List.take_prefix q SH)
  have e1 : SH.length = 405 := by decide +kernel
  have e2 : xus (SH, I, J, P) = 36555 := by
    show (SH.map (fun q => q.2)).sum = 36555
    decide +kernel
  have h1 : (SH.take q).length ≤ SH.length := h.1
  have h2 := h.2
  omega
theorem pN_t {q N : Nat} {ck : xK} {I : Nat → Nat → Int32} {J : Nat → Nat → Int64} {P : Nat → Nat → Nat} (hs : SH[q]? = some (ck, N)) (hI : ∀ k, I q k = 0) (hJ : ∀ k, J q k = 0) : (SH.take (q + 1), I, J, zr P q) = pN (SH.take q, I, J, P) ck N := by
  show _ = (xsn ck N (SH.take q), xzn I (SH.take q), xzn J (SH.take q), xzn P (SH.take q))
  rw [tk_s hs, xzn_t (f := I) hs, xzn_t (f := J) hs, xzn_t (f := P) hs, zr_id hI, zr_id hJ]
theorem pN_u {q N : Nat} {ck : xK} {I : Nat → Nat → Int32} {J : Nat → Nat → Int64} {P : Nat → Nat → Nat} (hs : SH[q]? = some (ck, N)) (hI : ∀ k, I q k = 0) (hP : ∀ k, P q k = 0) : (SH.take (q + 1), I, zr J q, P) = pN (SH.take q, I, J, P) ck N := by
  show _ = (xsn ck N (SH.take q), xzn I (SH.take q), xzn J (SH.take q), xzn P (SH.take q))
  rw [tk_s hs, xzn_t (f := I) hs, xzn_t (f := J) hs, xzn_t (f := P) hs, zr_id hI, zr_id hP]
theorem PCC_404 (k : Nat) : PCC 404 k = 0 := PI_e (by decide +kernel) k
section LS
variable {p : Program} {l : Launch} {e : Env} {s : State} {m : MethodId} {below : List Frame} {meth : Method} {c : Code} {D : va_G} {t : Nat → ClassId} {b : Nat}
theorem s_t (C : xC s #[Value.ref b] D t) (M : xMx p s m meth c s yL_law cL_law 7 ret) (hcall : ∀ y vs S r S', xEx NoE true 10 y vs S r S' → xM l s D t b true 20 y vs S r S') {q q' pc pc' : Nat} {ls ls' : List (Option Value)} {st st' : List Value} {I I' : Nat → Nat → Int32} {J J' : Nat → Nat → Int64} {P P' : Nat → Nat → Nat} (h : xSt (xEx NoE true 10) true none yL_law cL_law pc ls st (SH.take q, I, J, P) pc' ls' st' (SH.take q', I', J', P'))
    (kk : lG p l e s m below meth c D t b (SH.take q').length (xus (SH.take q', I', J', P')) pc' ls' st' (SH.take q', I', J', P')) : lG p l e s m below meth c D t b (SH.take q).length (xus (SH.take q, I, J, P)) pc ls st (SH.take q, I, J, P) := by
  obtain ⟨z1, z2⟩ := xus_le (xSt_sh (xEx_sh (fun _ _ _ _ _ h => h.elim) 10) h)
  have z1 : (SH.take q).length ≤ (SH.take q').length := z1
  have e1 : (SH.take q).length + ((SH.take q').length - (SH.take q).length) = (SH.take q').length := by omega
  have e2 : xus (SH.take q, I, J, P) + (xus (SH.take q', I', J', P') - xus (SH.take q, I, J, P)) = xus (SH.take q', I', J', P') := by omega
  refine x_step C M (X := none) (fun L xs h => by cases h) hcall (d := 20) ⟨by decide, by decide⟩ h (fun _ => rfl) ?_ ?_ ?_
  · show (SH.take q).length + ((SH.take q').length - (SH.take q).length) ≤ 601024
    rw [e1]; exact (tk_b q' I' J' P').1
  · show _ ≤ 7293034
    rw [e2]; exact (tk_b q' I' J' P').2
  · show lG p l e s m below meth c D t b ((SH.take q).length + ((SH.take q').length - (SH.take q).length)) _ pc' ls' st' _
    rw [e1, e2]; exact kk
set_option maxHeartbeats 1000000 in
theorem law_start (C : xC s #[Value.ref b] D t) (M : xMx p s m meth c s yL_law cL_law 7 ret) (hcall : ∀ y vs S r S', xEx NoE true 10 y vs S r S' → xM l s D t b true 20 y vs S r S')
    (kk : ∀ (I : Nat → Nat → Int32) (J : Nat → Nat → Int64) (P : Nat → Nat → Nat), RX I P → lG p l e s m below meth c D t b 405 36555 23 (lwl 0 none none) [] (SH, I, J, P)) : lG p l e s m below meth c D t b 0 0 0 [some (.retAddr 0), none, none, none, none, none, none] [] (SH.take 0, I00, J0, PI) := by
  obtain ⟨IF, JF, hF, hRX, hz⟩ := i_X11 5
  refine s_t (q := 0) (q' := 1) (I := I00) (J := J0) (P := PI) (P' := zr PI 0) C M hcall (ls' := [some (.retAddr 0), none, none, none, none, none, none]) (st' := [.ref 0]) ⟨_, _, dL_law_0, rfl, rfl, rfl, rfl, 10, 19, nlL_8, rfl, pN_t sh_0 (fun _ => rfl) (fun _ => rfl)⟩ ?_
  refine s_t C M hcall (q' := 1) (ls' := [some (.retAddr 0), none, none, none, none, none, none]) (st' := [.ref 0, .ref 0]) ⟨_, _, dL_law_3, rfl, ⟨rfl, rfl, rfl⟩, .ref 0, [], rfl, rfl, rfl⟩ ?_
  refine s_t C M hcall (q' := 347) (I' := ICC) (J' := J0) (P' := PCC) (ls' := [some (.retAddr 0), none, none, none, none, none, none]) (st' := [.ref 0]) ⟨_, _, dL_law_4, rfl, rfl, rfl, Or.inl ⟨yX10_init, 0, [], 0, [.ref 0], ilL_17, rfl, rfl, by simp [Value.category], i_X10 5, rfl⟩⟩ ?_
  refine s_t C M hcall (q' := 347) (ls' := [some (.retAddr 0), some (.ref 0), none, none, none, none, none]) (st' := []) ⟨_, _, dL_law_7, rfl, rfl, rfl, by decide, 0, rfl, rfl⟩ ?_
  refine s_t C M hcall (q' := 348) (I' := ICC) (J' := J0) (P' := zr PCC 347) (ls' := [some (.retAddr 0), some (.ref 0), none, none, none, none, none]) (st' := [.ref 347]) ⟨_, _, dL_law_8, rfl, rfl, rfl, rfl, 11, 91, nlL_18, by rw [tk_len sh_347], pN_t sh_347 (fun _ => ICC_z (by omega) (by omega) (by omega)) (fun _ => rfl)⟩ ?_
  refine s_t C M hcall (q' := 348) (ls' := [some (.retAddr 0), some (.ref 0), none, none, none, none, none]) (st' := [.ref 347, .ref 347]) ⟨_, _, dL_law_11, rfl, ⟨rfl, rfl, rfl⟩, .ref 347, [], rfl, rfl, rfl⟩ ?_
  refine s_t C M hcall (q' := 404) (I' := IF) (J' := JF) (P' := PCC) (ls' := [some (.retAddr 0), some (.ref 0), none, none, none, none, none]) (st' := [.ref 347]) ⟨_, _, dL_law_12, rfl, rfl, rfl, Or.inl ⟨yX11_init, 0, [], 347, [.ref 347], ilL_20, rfl, rfl, by simp [Value.category], hF, rfl⟩⟩ ?_
  refine s_t C M hcall (q' := 404) (ls' := [some (.retAddr 0), some (.ref 0), some (.ref 347), none, none, none, none]) (st' := []) ⟨_, _, dL_law_15, rfl, rfl, rfl, by decide, 347, rfl, rfl⟩ ?_
  refine s_t C M hcall (q' := 404) (ls' := [some (.retAddr 0), some (.ref 0), some (.ref 347), none, none, none, none]) (st' := [.int 1]) ⟨_, _, dL_law_16, rfl, ⟨rfl, rfl, rfl⟩, by decide⟩ ?_
  refine s_t C M hcall (q' := 405) (I' := IF) (J' := zr JF 404) (P' := PCC) (ls' := [some (.retAddr 0), some (.ref 0), some (.ref 347), none, none, none, none]) (st' := [.ref 404]) ⟨_, _, dL_law_17, rfl, rfl, rfl, rfl, 1, [], 3, rfl, by decide, by decide, rfl, by rw [tk_len sh_404], pN_u sh_404 hz PCC_404⟩ ?_
  refine s_t C M hcall (q' := 405) (ls' := [some (.retAddr 0), some (.ref 0), some (.ref 347), some (.ref 404), none, none, none]) (st' := []) ⟨_, _, dL_law_19, rfl, rfl, rfl, by decide, 404, rfl, rfl⟩ ?_
  refine s_t C M hcall (q' := 405) (ls' := [some (.retAddr 0), some (.ref 0), some (.ref 347), some (.ref 404), none, none, none]) (st' := [.int (nI 0)]) ⟨_, _, dL_law_20, rfl, ⟨rfl, rfl, rfl⟩, by decide⟩ ?_
  refine s_t C M hcall (q' := 405) (ls' := lwl 0 none none) (st' := []) ⟨_, _, dL_law_21, rfl, rfl, rfl, by decide, nI 0, rfl, rfl⟩ ?_
  have e0 : SH.length = 405 := by decide +kernel
  have e1 : SH.take 405 = SH := List.take_of_length_le (Nat.le_of_eq e0)
  have e2 : xus (SH, IF, zr JF 404, PCC) = 36555 := by
    show (SH.map (fun q => q.2)).sum = 36555
    decide +kernel
  rw [e1, e0, e2]
  exact kk IF (zr JF 404) PCC hRX
end LS
/-- what holds at the law's entry -/
def lw_At (p : Program) (s : State) (m : MethodId) (meth : Method) (c : Code) (b L : Nat) (xs : Nat → Int32) : Prop :=
  p.tables.exec = Jvm.exec ∧ c.code = code ∧ meth.sig.returnType = ret ∧ c.maxLocals = 7 ∧ s.vm.findClass RL = some m.cls ∧ (∀ w ∈ lw_tbl, w.before #[Value.ref b] s = true) ∧ va_X b L xs s s.heap ∧ b < s.heap.size ∧ meth.locks = false ∧ (Jvm.Cond.and given_1 narrow_1).before #[Value.ref b] s = true ∧ meth.name = yL_law.name
theorem whole_start (hcat : vxC) {p : Program} {e : Env} {s : State} {m : MethodId} {below : List Frame} {meth : Method} {c : Code} (l : Launch) (hst : l.stackTraces = false) {b L : Nat} {xs : Nat → Int32} (hL : L ≤ 3072) (C0 : lw_At p s m meth c b L xs) : W p l e room_1 s m #[Value.ref b] below meth c s.heap [] 0 0 (lw_Z below #[Value.ref b] s) (entryFrame m ([Value.ref b] : List Value).toArray 7) := by
  obtain ⟨hx, hb, hr, hml, hown, hts, hX, hbl, hlocks, hgv, hnm⟩ := C0
  obtain ⟨D, t, C⟩ := xC_of hts
  obtain ⟨a, v, hw, hZ⟩ := jdW_of hts hgv
  obtain ⟨sa1, sa2, pw⟩ := pW_of hts hgv
  have M : xMx p s m meth c s yL_law cL_law 7 ret := ⟨hx, hb, hml, hr, hlocks, hown, hnm, State.WarmedH.refl s⟩
  have hE := EWd_M (l := l) (b := b) (ex := false) C hw hZ
  have hc5 := x_met (l := l) (b := b) (ex := false) C EWd_s hE 5 15 (by omega)
  have hc30 := x_met (l := l) (b := b) (ex := false) C EWd_s hE 30 40 (by omega)
  have hc10 := x_met (l := l) (b := b) (ex := true) (E := NoE) C (fun _ _ _ _ _ h => h.elim) (fun _ _ _ _ _ _ _ h => h.elim) 10 20 (by omega)
  have hl := lv_entry [Value.ref b] (n := 7) (Nat.le_of_ble_eq_true rfl)
  rw [lg_entry_eq]
  generalize (lg_sl ([Value.ref b]) ++ List.replicate (7 - (lg_sl ([Value.ref b])).length) Slot.unset).toArray = lr at hl ⊢
  have hH : xH s D t b (SH.take 0, I00, J0, PI) s.heap := ⟨fun k q h => by simp [xws] at h, va_S.rf⟩
  exact law_start (e := e) (below := below) C M hc10 (fun I J P hRX => law_loop hcat hst C M hX hbl pw hc5 hc30 hL 512 0 405 36555 none none I J P (by omega) (by omega) (by omega) (by omega) hRX) s.heap [] lr (xent_L (vs := [.retAddr 0]) (Nat.le_of_ble_eq_true rfl) hl) hH (fun _ h => by cases h)
