/-! calls -/
theorem xMet_blind (s0 : State) (D : va_G) (t : Nat → ClassId) (b : Nat) (ex : Bool) (S : xS) (vs : List Value) : FrameBlind (va_Pc vs (fun U => s0.WarmedH U.vm ∧ xH s0 D t b S U.heap ∧ (ex = true → U.heap.size = s0.heap.size + S.1.length))) := fun _ _ _ _ h => ⟨h.1, h.2.1, h.2.2.1, h.2.2.2⟩
theorem xG1 {w : Cond} (h : w ∈ xgw) : GoodIn xgw [w] := fun v hv => by
  rw [List.mem_singleton] at hv
  subst hv
  exact ⟨h, good_of_word (List.mem_filter.mp h).2⟩
theorem x_nfw : nativeFrameWords "java/lang/System" "arraycopy" 5 = 7 := by decide +kernel
set_option maxRecDepth 20000 in
theorem xw_m1 : Cond.static Lib.Math.max.name ∈ xgw := List.mem_filter.mpr ⟨by decide +kernel, by decide +kernel⟩
set_option maxRecDepth 20000 in
theorem xw_m2 : Cond.code Lib.Math.max.name Lib.Math.max.code 2 (some .int) ∈ xgw := List.mem_filter.mpr ⟨by decide +kernel, by decide +kernel⟩
set_option maxRecDepth 20000 in
theorem xw_m3 : Cond.static Lib.Math.min.name ∈ xgw := List.mem_filter.mpr ⟨by decide +kernel, by decide +kernel⟩
set_option maxRecDepth 20000 in
theorem xw_m4 : Cond.code Lib.Math.min.name Lib.Math.min.code 2 (some .int) ∈ xgw := List.mem_filter.mpr ⟨by decide +kernel, by decide +kernel⟩
/-- this class has no link to Math.abs -/
def xw_ab (w : Cond) : Bool := match w with
  | .methodLink _ _ q => decide (q = Lib.MathLoose.abs_long.x)
  | _ => false
set_option maxRecDepth 20000 in
theorem xw_na : lw_tbl.all (fun w => !xw_ab w) = true := by decide +kernel
theorem xw_no {C : String} {i : Nat} (h : Cond.methodLink C i Lib.MathLoose.abs_long.x ∈ xgw) : False := by
  have z := List.all_eq_true.mp xw_na _ (List.mem_filter.mp h).1
  simp [xw_ab] at z
set_option maxRecDepth 20000 in
theorem xw_mi : Cond.initialized "java/lang/Math" ∈ xgw := List.mem_filter.mpr ⟨by decide +kernel, by decide +kernel⟩
section XE
variable {p : Program} {l : Launch} {e : Env} {R : Room} {s : State} {m : MethodId} {args : Array Value} {below : List Frame} {meth : Method} {c : Code} {Q : State → Prop} {s0 : State} {a0 : Array Value} {D : va_G} {t : Nat → ClassId} {b nL : Nat} {y : MethodName} {cc : ByteArray} {ret : Option FieldType} {ex : Bool} {X : Option (Nat × (Nat → Int32))} {call : xCl} {d : Nat}
def xI (i : Instr) : Bool := match i with
  | .invokevirtual _ | .invokestatic _ | .invokespecial _ => true
  | _ => false
set_option maxHeartbeats 4000000 in
theorem x_stepI (C : xC s0 a0 D t) (M : xMx p s m meth c s0 y cc nL ret) (hcall : ∀ y vs S r S', call y vs S r S' → xM l s0 D t b ex d y vs S r S') (hR : d + 1 ≤ R.frames ∧ 80 * (d + 1) ≤ R.locals) {cells slots pc len pc' : Nat} {ls ls' : List (Option Value)} {st st' : List Value} {S S' : xS} {i : Instr} (hd : decode cc pc = .ok (i, len)) (hi : xI i = true) (h : xSm call ex X y pc len ls st S pc' ls' st' S' i)
    (hex : ex = true → s.heap.size + cells = s0.heap.size + S.1.length) (hrc : cells + (S'.1.length - S.1.length) ≤ R.cells) (hrs : slots + (xus S' - xus S) ≤ R.slots)
    (kk : xG p l e R s m args below meth c Q s0 D t b nL (cells + (S'.1.length - S.1.length)) (slots + (xus S' - xus S)) pc' ls' st' S') : xG p l e R s m args below meth c Q s0 D t b nL cells slots pc ls st S := by
  obtain ⟨hx, hb, hml, hr, hlk, hown, hnm, hW⟩ := M
  have hts := C.w hW (args := args)
  have hK := C.k hW
  intro H locs lr hL hH hlo
  refine x_size fun hz => ?_
  have hlow := hH.size
  have hsz : ex = true → H.size = s0.heap.size + S.1.length := fun q => by have := hex q; omega
  have hpre : ∀ (vs : List Value) (U : State), U.heap = H → s.WarmedH U.vm → va_Pc (vs.map (xcv b s0.heap.size)) (fun U => s0.WarmedH U.vm ∧ xH s0 D t b S U.heap ∧ (ex = true → U.heap.size = s0.heap.size + S.1.length)) (vs.map (xcv b s0.heap.size)).toArray U := fun vs U hU hWU => ⟨rfl, hW.trans hWU, by rw [hU]; exact hH, by rw [hU]; exact hsz⟩
  have hroom : ∀ {n2 : Nat}, n2 ≤ 40 → ∀ k n, (xrm d k n).frames + 1 ≤ R.frames ∧ 8 + (n2 + 11) + (xrm d k n).locals ≤ R.locals := fun hn k n => ⟨hR.1, by have := hR.2; show _ + 80 * d ≤ _; omega⟩
  have hend : ∀ (q : Option Value) (r : List Value), (q.map (xcv b s0.heap.size)).toList ++ r.map (xcv b s0.heap.size) = (q.toList ++ r).map (xcv b s0.heap.size) := fun q r => by cases q <;> simp
  cases i with
  | invokevirtual idx =>
    obtain ⟨rfl, rfl, rfl, y2, n, ci, vs, a, N, r, q, ⟨h1, h2, h3, ⟨h4, h5⟩, T, N2, hc⟩, hs, hn, rfl, hcat, hcl, rfl⟩ := h
    obtain ⟨cc2, nL2, ret2, hcode, hnl, -, hMet⟩ := hcall _ _ _ _ _ hcl
    have hrun := va_runV (l := l) (e := e) (R := R) (below := below) (meth := meth) (H := H) (locs := locs) (cells := cells) (slots := slots) (Ts := xgw) (As := vs.map (xcv b s0.heap.size)) (rest := r.map (xcv b s0.heap.size)) (b := s0.heap.size + a) (g := F0 m pc lr ((vs.reverse ++ .ref a :: r).map (xcv b s0.heap.size))) ⟨hx, hb, hml, hown, hts⟩ hMet
      ⟨callB_of n hts (xG1 hcode) rfl rfl rfl (hts _ h4) (hts _ h1) h5 (hroom hnl _ _), hts _ h2, hts _ h3⟩ ⟨xMet_blind s0 D t b ex S _, va_recv hK hH.1 hc ((xws_get t b s0.heap.size S (xlt hs)).trans (by rw [xe_obj hs])), fun U hU hWU => hpre (.ref a :: vs) U hU hWU⟩
      rfl (by rw [List.length_map]; exact hn) hL.1.1 (by simp [xcv]) (lv_room (by rw [xcv_cats]; exact hcat)) hd ⟨hrc, hrs⟩
    refine x_go hrun (fun st oc u h => h) (fun q h => h) hlo fun H1 locs1 hH1 hl1 => ?_
    have k1 := kk H1 locs1 lr hL hH1 hl1
    rw [hend]
    exact k1
  | invokestatic idx =>
    obtain ⟨rfl, rfl, rfl, ⟨y2, n, vs, r, q, ⟨h1, h2, h4, h5⟩, hn, rfl, hcat, hcl, rfl⟩ | ⟨h1, n, dp, sp, c0, c1, n0, n1, rfl, hs0, hs1, z1, z2, z3, z4, z5, hcat, rfl⟩ | ⟨rfl, hmth⟩⟩ := h
    · obtain ⟨cc2, nL2, ret2, hcode, hnl, -, hMet⟩ := hcall _ _ _ _ _ hcl
      rcases h1 with h1 | ⟨host, h1⟩
      · have hrun := va_runS (l := l) (e := e) (R := R) (below := below) (meth := meth) (H := H) (locs := locs) (cells := cells) (slots := slots) (Ts := xgw) (As := vs.map (xcv b s0.heap.size)) (rest := r.map (xcv b s0.heap.size)) (g := F0 m pc lr ((vs.reverse ++ r).map (xcv b s0.heap.size))) ⟨hx, hb, hml, hown, hts⟩ hMet
          ⟨callB_of n hts (xG1 hcode) rfl rfl rfl (hts _ h4) (hts _ h1) h5 (hroom hnl _ _), hts _ h2⟩ ⟨xMet_blind s0 D t b ex S _, fun U hU hWU => hpre vs U hU hWU⟩
          rfl (by rw [List.length_map]; exact hn) hL.1.1 (by simp) (lv_room (by rw [xcv_cats]; exact hcat)) hd ⟨hrc, hrs⟩
        refine x_go hrun (fun st oc u h => h) (fun q h => h) hlo fun H1 locs1 hH1 hl1 => ?_
        have k1 := kk H1 locs1 lr hL hH1 hl1
        rw [hend]
        exact k1
      · have hrun := va_runSN (l := l) (e := e) (R := R) (below := below) (meth := meth) (H := H) (locs := locs) (cells := cells) (slots := slots) (Ts := xgw) (As := vs.map (xcv b s0.heap.size)) (rest := r.map (xcv b s0.heap.size)) (g := F0 m pc lr ((vs.reverse ++ r).map (xcv b s0.heap.size))) ⟨hx, hb, hml, hown, hts⟩ hMet
          ⟨va_cnB n hts (xG1 hcode) rfl rfl rfl (va_Nw.warmM hW (va_Nw.of rfl (C.1 _ h1))) (hts _ h4) h5 (hroom hnl _ _), hts _ h2, trivial⟩ ⟨xMet_blind s0 D t b ex S _, fun U hU hWU => hpre vs U hU hWU⟩
          rfl (by rw [List.length_map]; exact hn) hL.1.1 (by simp) (lv_room (by rw [xcv_cats]; exact hcat)) hd ⟨hrc, hrs⟩
        refine x_go hrun (fun st oc u h => h) (fun q h => h) hlo fun H1 locs1 hH1 hl1 => ?_
        have k1 := kk H1 locs1 lr hL hH1 hl1
        rw [hend]
        exact k1
    · have hw : (xws t b s0.heap.size S).set c1 (s0.heap.size + c1, .inl (t 0, n1, .inl (va_cpy (S.2.1 c0) (S.2.1 c1) sp.toNatClampNeg dp.toNatClampNeg n.toNatClampNeg))) = xws t b s0.heap.size (pC S c0 sp.toNatClampNeg c1 dp.toNatClampNeg n.toNatClampNeg) := by
        refine xws_set rfl ?_ (fun k hk hne => ?_)
        · rw [xe_0 (S := pC S c0 sp.toNatClampNeg c1 dp.toNatClampNeg n.toNatClampNeg) hs1]
          congr 4
          funext j
          simp [va_cpy, pC]
        · have e1 : (pC S c0 sp.toNatClampNeg c1 dp.toNatClampNeg n.toNatClampNeg).2.1 k = S.2.1 k := by funext j; simp [pC, hne]
          have e4 : ∀ ci j, xav (pC S c0 sp.toNatClampNeg c1 dp.toNatClampNeg n.toNatClampNeg) ci k j = xav S ci k j := by
            intro ci j
            simp only [xav, gI, gJ, gP, e1]
            rfl
          simp only [xe, e1, e4]
          rfl
      have kk : xG p l e R s m args below meth c Q s0 D t b nL cells slots (pc + 3) ls' st' (pC S c0 sp.toNatClampNeg c1 dp.toNatClampNeg n.toNatClampNeg) := by
        have e1 : (pC S c0 sp.toNatClampNeg c1 dp.toNatClampNeg n.toNatClampNeg).1 = S.1 := rfl
        rw [xus, xus, e1, Nat.sub_self, Nat.sub_self, Nat.add_zero, Nat.add_zero] at kk
        exact kk
      exact va_copyi hx hb (by rw [hml, hL.1.1]) hown (hts _ h1) (hts _ xw_cn) (hts _ xw_cs) (hts _ xw_ci) hK hH.1 (xws_D t b s0.heap.size S) (hH.S hlo) c0 c1 0 0 ((xws_get t b s0.heap.size S (xlt hs0)).trans (by rw [xe_0 hs0])) ((xws_get t b s0.heap.size S (xlt hs1)).trans (by rw [xe_0 hs1])) rfl rfl rfl z1 z2 z3 z4 z5 (fun _ _ => rfl) (by have := hR.1; omega) (by rw [xcv_cats]; have := hR.2; have := x_nfw; omega) hd
        (fun H1 locs1 hP1 hD1 hS1 => kk H1 locs1 lr hL (xH.of (by rw [← hw]; exact hP1) hS1) hS1.2.2)
    · rw [Nat.sub_self, Nat.sub_self, Nat.add_zero, Nat.add_zero] at kk
      rw [Nat.sub_self, Nat.add_zero] at hrc hrs
      have hml2 : c.maxLocals = lr.size := by rw [hml, hL.1.1]
      rcases hmth with ⟨h1, x, z, r, rfl, rfl, hcat⟩ | ⟨h1, x, z, r, rfl, rfl, hcat⟩ | ⟨h1, x, r, rfl, rfl, hcat⟩
      · exact va_mmax hx hb hml2 hown (hts _ h1) (hts _ xw_m1) (hts _ xw_mi) (hts _ xw_m2) (by have := hR.1; omega) (by rw [xcv_cats]; have := hR.2; omega) hrc hrs hd (kk H locs lr hL hH hlo)
      · exact va_mmin hx hb hml2 hown (hts _ h1) (hts _ xw_m3) (hts _ xw_mi) (hts _ xw_m4) (by have := hR.1; omega) (by rw [xcv_cats]; have := hR.2; omega) hrc hrs hd (kk H locs lr hL hH hlo)
      · exact (xw_no h1).elim
  | invokespecial idx =>
    obtain ⟨rfl, rfl, rfl, ⟨y2, n, vs, a, r, ⟨h1, h2, h3, h4, h5⟩, hn, rfl, hcat, hcl, rfl⟩ | ⟨h1, rfl, a, rfl, hcat⟩⟩ := h
    · obtain ⟨cc2, nL2, ret2, hcode, hnl, hnone, hMet⟩ := hcall _ _ _ _ _ hcl
      obtain rfl := hnone rfl
      rcases h1 with h1 | ⟨host, h1⟩
      · have hrun := va_runI (l := l) (e := e) (R := R) (below := below) (meth := meth) (H := H) (locs := locs) (cells := cells) (slots := slots) (Ts := xgw) (As := vs.map (xcv b s0.heap.size)) (rest := st'.map (xcv b s0.heap.size)) (b := s0.heap.size + a) (g := F0 m pc lr ((vs.reverse ++ .ref a :: st').map (xcv b s0.heap.size))) ⟨hx, hb, hml, hown, hts⟩ hMet
          ⟨callB_of n hts (xG1 hcode) rfl rfl rfl (hts _ h4) (hts _ h1) h5 (hroom hnl _ _), h3, hts _ h2⟩ ⟨xMet_blind s0 D t b ex S _, fun U hU hWU => hpre (.ref a :: vs) U hU hWU⟩
          rfl (by rw [List.length_map]; exact hn) hL.1.1 (by simp [xcv]) (lv_room (by rw [xcv_cats]; exact hcat)) hd ⟨hrc, hrs⟩
        exact x_go hrun (fun st oc u h => h) (fun q h => h) hlo fun H1 locs1 hH1 hl1 => kk H1 locs1 lr hL hH1 hl1
      · have hrun := va_runIN (l := l) (e := e) (R := R) (below := below) (meth := meth) (H := H) (locs := locs) (cells := cells) (slots := slots) (Ts := xgw) (As := vs.map (xcv b s0.heap.size)) (rest := st'.map (xcv b s0.heap.size)) (b := s0.heap.size + a) (g := F0 m pc lr ((vs.reverse ++ .ref a :: st').map (xcv b s0.heap.size))) ⟨hx, hb, hml, hown, hts⟩ hMet
          ⟨va_cnB n hts (xG1 hcode) rfl rfl rfl (va_Nw.warmM hW (va_Nw.of rfl (C.1 _ h1))) (hts _ h4) h5 (hroom hnl _ _), h3, hts _ h2⟩ ⟨xMet_blind s0 D t b ex S _, fun U hU hWU => hpre (.ref a :: vs) U hU hWU⟩
          rfl (by rw [List.length_map]; exact hn) hL.1.1 (by simp [xcv]) (lv_room (by rw [xcv_cats]; exact hcat)) hd ⟨hrc, hrs⟩
        exact x_go hrun (fun st oc u h => h) (fun q h => h) hlo fun H1 locs1 hH1 hl1 => kk H1 locs1 lr hL hH1 hl1
    · rw [Nat.sub_self, Nat.sub_self, Nat.add_zero, Nat.add_zero] at kk
      exact W.objInit hx hb hown (hts _ h1) (hts _ xw_oi) (hts _ xw_oc) rfl (by rw [hml]; exact hL.1.1) rfl hd (by have := hR.1; omega) (by show 2 * 0 + _ + _ ≤ _; rw [xcv_cats]; have := hR.2; omega) (kk H locs lr hL hH hlo)
  | _ => exact absurd hi (by simp [xI])
/-- ONE STEP -/
theorem x_step (C : xC s0 a0 D t) (M : xMx p s m meth c s0 y cc nL ret) (hX : ∀ L xs, X = some (L, xs) → va_X b L xs s s0.heap ∧ b < s0.heap.size) (hcall : ∀ y vs S r S', call y vs S r S' → xM l s0 D t b ex d y vs S r S') (hR : d + 1 ≤ R.frames ∧ 80 * (d + 1) ≤ R.locals) {cells slots pc pc' : Nat} {ls ls' : List (Option Value)} {st st' : List Value} {S S' : xS} (h : xSt call ex X y cc pc ls st S pc' ls' st' S')
    (hex : ex = true → s.heap.size + cells = s0.heap.size + S.1.length) (hrc : cells + (S'.1.length - S.1.length) ≤ R.cells) (hrs : slots + (xus S' - xus S) ≤ R.slots)
    (kk : xG p l e R s m args below meth c Q s0 D t b nL (cells + (S'.1.length - S.1.length)) (slots + (xus S' - xus S)) pc' ls' st' S') : xG p l e R s m args below meth c Q s0 D t b nL cells slots pc ls st S := by
  obtain ⟨i, len, hd, h⟩ := h
  by_cases hi : xI i = true
  · exact x_stepI C M hcall hR hd hi h hex hrc hrs kk
  by_cases hD : xD i = true
  · exact x_stepD C M hd hD h hex hrc hrs kk
  have hsame : S'.1 = S.1 ∧ (xA i = true ∨ xB i = true) := by
    cases i with
    | putfield idx => obtain ⟨-, -, -, ci, k, ty, N, a, v, -, -, -, -, -, h⟩ := h; exact ⟨xPv_sh h, Or.inr rfl⟩
    | iastore => obtain ⟨-, -, -, x, i, a, n, -, -, -, h⟩ := h; exact ⟨by rw [h]; rfl, Or.inr rfl⟩
    | bastore => obtain ⟨-, -, -, x, i, a, n, -, -, ⟨-, h⟩ | ⟨-, h⟩⟩ := h <;> exact ⟨by rw [h]; rfl, Or.inr rfl⟩
    | lastore => obtain ⟨-, -, -, x, i, a, n, -, -, -, h⟩ := h; exact ⟨by rw [h]; rfl, Or.inr rfl⟩
    | aastore => obtain ⟨-, -, -, q, i, a, n, N, -, -, -, -, h⟩ := h; exact ⟨by rw [h]; rfl, Or.inr rfl⟩
    | goto off => exact ⟨by rw [h.2.2.1], Or.inl rfl⟩
    | ifCond c off => exact ⟨by rw [h.2.2.1], Or.inl rfl⟩
    | if_icmp c off => exact ⟨by rw [h.2.2.1], Or.inl rfl⟩
    | tableswitch d lo hi offs => exact ⟨by rw [h.2.1], Or.inl rfl⟩
    | istore k => exact ⟨by rw [h.2.2.1], Or.inl rfl⟩
    | istore_n k => exact ⟨by rw [h.2.2.1], Or.inl rfl⟩
    | lstore k => exact ⟨by rw [h.2.2.1], Or.inl rfl⟩
    | lstore_n k => exact ⟨by rw [h.2.2.1], Or.inl rfl⟩
    | astore k => exact ⟨by rw [h.2.2.1], Or.inl rfl⟩
    | astore_n k => exact ⟨by rw [h.2.2.1], Or.inl rfl⟩
    | iinc k n => exact ⟨by rw [h.2.2.1], Or.inl rfl⟩
    | invokevirtual k => exact absurd rfl hi
    | invokestatic k => exact absurd rfl hi
    | invokespecial k => exact absurd rfl hi
    | new k => exact absurd rfl hD
    | newarray k => exact absurd rfl hD
    | anewarray k => exact absurd rfl hD
    | _ => first | exact h.elim | exact ⟨by rw [h.2.1.2.2], Or.inl rfl⟩ | exact ⟨by rw [h.2.1.2.2], Or.inr rfl⟩
  rw [xus, xus, hsame.1, Nat.sub_self, Nat.sub_self, Nat.add_zero, Nat.add_zero] at kk
  rcases hsame.2 with h1 | h1
  · exact x_stepA C M hd h1 h kk
  · exact x_stepB C M hX hd h1 h kk
end XE
