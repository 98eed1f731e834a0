/-! the law's end, its person case -/
def lw_Q (_ : Array Value) (s : State) (o : Outcome) (t : State) : Prop := o = .returned (some (.int 1)) ∧ Framed s o t [] 601024 7293034
def lw_Z (below : List Frame) (a : Array Value) (s : State) : State → Prop := fun t => ∃ o, t.status = .running ∧ Ended t below o ∧ lw_Q a s o t
theorem lw_ret {p : Program} {l : Launch} {e : Env} {s : State} {m : MethodId} {below : List Frame} {meth : Method} {c : Code} {b : Nat} (hx : p.tables.exec = Jvm.exec) (hb : c.code = code) (hr : meth.sig.returnType = ret) (hlocks : meth.locks = false) {pc : Nat} {H : Heap} {ls : Array Slot} (hdg : decode code pc = .ok (.ireturn, 1)) : W p l e room_1 s m #[Value.ref b] below meth c H [] 601024 7293034 (lw_Z below #[Value.ref b] s) (F0 m pc ls [.int 1]) := by
  intro T hT X
  obtain ⟨fs, hret, hrun, hended, hW, hframe⟩ := X.leave (v := some (.int 1)) (hlocks := hlocks) (fun h => by rw [hr] at h; cases h)
  have hmeth' : T.vm.method? m = some meth := X.method'
  refine ⟨T.setFrames fs, ?_, .returned (some (.int 1)), hrun, hended, rfl, ⟨_, rfl⟩, hW, hframe⟩
  jvm_step X.here [X.here.top, hx, hb, hdg, hmeth', hr, ret, narrow_b1]
  (try refine ⟨rfl, ?_⟩); (try refine ⟨rfl, ?_⟩)
  first | (intro acts; rw [hret _ acts rfl rfl rfl]) | rw [hret _ _ rfl rfl rfl]
  exact Steps.refl _
set_option maxRecDepth 20000 in
theorem mlL_39 : Cond.methodLink RL 39 yL_person ∈ xgw := List.mem_filter.mpr ⟨by decide +kernel, by decide +kernel⟩
section LW
variable {p : Program} {l : Launch} {e : Env} {s : State} {m : MethodId} {below : List Frame} {meth : Method} {c : Code} {D : va_G} {t : Nat → ClassId} {b L : Nat} {xs : Nat → Int32}
/-- the law's goal, behind 'cells' cells of 'slots' slots -/
abbrev lG (p : Program) (l : Launch) (e : Env) (s : State) (m : MethodId) (below : List Frame) (meth : Method) (c : Code) (D : va_G) (t : Nat → ClassId) (b cells slots : Nat) : xKt := xG p l e room_1 s m #[Value.ref b] below meth c (lw_Z below #[Value.ref b] s) s D t b 7 cells slots
theorem law_end (M : xMx p s m meth c s yL_law cL_law 7 ret) {cells slots : Nat} (h1 : cells ≤ 601024) (h2 : slots ≤ 7293034) {ls : List (Option Value)} {S : xS} : lG p l e s m below meth c D t b cells slots 1423 ls [] S := by
  obtain ⟨hx, hb, hml, hr, hlk, hown, hnm, hW⟩ := M
  intro H locs lr hL hH hlo
  refine lv_iconst hx hb (v := 1) dL_law_1423 (by decide) ?_
  refine va_forget hlo ?_
  refine W.widen h1 h2 ?_
  exact lw_ret hx hb hr hlk dL_law_1424
theorem law_W (C : xC s #[Value.ref b] D t) (M : xMx p s m meth c s yL_law cL_law 7 ret) (hX : va_X b L xs s s.heap) (hbl : b < s.heap.size) (hcall : ∀ y vs S r S', xEx EWd false 30 y vs S r S' → xM l s D t b false 40 y vs S r S') {cells slots : Nat} (h1 : cells ≤ 601024) (h2 : slots ≤ 7293034) : xW (lG p l e s m below meth c D t b cells slots) (xEx EWd false 30) false (some (L, xs)) yL_law cL_law :=
  xG_W C M (d := 40) (fun L' xs' h => by cases h; exact ⟨hX, hbl⟩) hcall ⟨by decide, by decide⟩ h1 h2
set_option maxHeartbeats 1000000 in
theorem lc_4 (hcat : vxC) (hst : l.stackTraces = false) (C : xC s #[Value.ref b] D t) (M : xMx p s m meth c s yL_law cL_law 7 ret) (hX : va_X b L xs s s.heap) (hbl : b < s.heap.size) {sa1 sa2 : Nat} {tx1 tx2 : String} (pw : pW s sa1 sa2 tx1 tx2) (hc5 : ∀ y vs S r S', xEx EWd false 5 y vs S r S' → xM l s D t b false 15 y vs S r S') (hc30 : ∀ y vs S r S', xEx EWd false 30 y vs S r S' → xM l s D t b false 40 y vs S r S')
    {cells slots : Nat} (h1 : cells + 1 ≤ 601024) (h2 : slots + 6 ≤ 7293034) {i : Nat} (hi : i + 6 ≤ L) (hL : L ≤ 3072) {a5 a6 : Option Value} {I : Nat → Nat → Int32} {J : Nat → Nat → Int64} {P : Nat → Nat → Nat} (hRX : RX I P)
    (kk : ∀ (a5 a6 : Option Value) (I2 : Nat → Nat → Int32) (J2 : Nat → Nat → Int64) (P2 : Nat → Nat → Nat), RX I2 P2 → lG p l e s m below meth c D t b (cells + 1) (slots + 6) 1417 (lwl i a5 a6) [] (SH, I2, J2, P2)) : lG p l e s m below meth c D t b cells slots 352 (lwl i a5 a6) [] (SH, I, J, P) := by
  obtain ⟨t', n, np, k, v, bb, I2, ht, hPk, h5, h56, hv, h3, hnp, hk, hr, hI2, hvb, hk2, hX2⟩ := person_R (E := EWd) (ex := false) hRX (xs (i + 1)) (xs (i + 2))
  have hper := k_personX (b := b) C hst pw hc5 (I := I) (J := J) hPk ht h5 h56 hv h3 hnp hk
  have hMet := k_lperson hcat C pw hper
  have hK := law_W (e := e) (below := below) (L := L) (xs := xs) C M hX hbl hc30 (cells := cells) (slots := slots) (by omega) (by omega)
  have hK1 := law_W (e := e) (below := below) (L := L) (xs := xs) C M hX hbl hc30 h1 h2
  refine g_aload_n hK dL_law_352 rfl ?_
  refine g_arg hK hi hL 1 dL_law_353 dL_law_354 dL_law_356 dL_law_357 dL_law_358 (by decide) (by decide) ?_
  refine g_arg hK hi hL 2 dL_law_359 dL_law_360 dL_law_362 dL_law_363 dL_law_364 (by decide) (by decide) ?_
  refine g_aload_n hK dL_law_365 rfl ?_
  obtain ⟨hx, hb, hml, hre, hlk, hown, hnm, hW⟩ := M
  have hts := C.w hW (args := #[Value.ref b])
  intro H locs lr hLr hH hlo
  have hgood : GoodIn xgw (va_wsS RL 39 yL_person [Cond.codeWith yL_person cL_person 5 (some .int) [(0, 10, 13, 13), (0, 10, 17, 15)]]) := goodIn_app (goodIn_app (xG1 mlL_39) (goodIn_app (xG1 slL_39.2.1) (xG1 mb_L_person.1))) (xG1 cwL_person)
  have hrun := vx_runSW (l := l) (e := e) (R := room_1) (below := below) (meth := meth) (H := H) (locs := locs) (cells := cells) (slots := slots) (Ts := xgw) (own := RL) (As := [Value.ref 0, .int (xs (i + 1)), .int (xs (i + 2)), .ref 404].map (xcv b s.heap.size)) (rest := []) (g := F0 m 366 lr ([Value.ref 404, .int (xs (i + 2)), .int (xs (i + 1)), .ref 0].map (xcv b s.heap.size))) ⟨hx, hb, hml, hown, hts⟩ hMet
      (vx_cwSW 4 hts hgood rfl rfl rfl mb_L_person.2 ⟨by decide, by decide⟩) ⟨fun _ _ _ _ h => ⟨h.1, h.2.1, h.2.2⟩, fun U hU hWU => ⟨rfl, hWU, by rw [hU]; exact hH⟩⟩
      rfl rfl hLr.1.1 rfl (by simp [F0, JFrame.monitorRoom]) dL_law_366 ⟨h1, h2⟩
  refine x_go hrun (fun st oc u h => h) (fun q h => h) hlo (fun H1 locs1 hH1 hl1 => ?_)
  have hJ : k = 0 → (if k = 0 then xu J 404 0 v.toInt64 else J) 404 0 = bb.toInt64 := fun z => by rw [if_pos z, xu_s, hvb z]
  refine (?_ : lG p l e s m below meth c D t b (cells + 1) (slots + 6) 369 (lwl i a5 a6) [.int (nI k)] (lpS k v I J P)) H1 locs1 lr hLr hH1 hl1
  unfold lpS
  generalize (if k = 0 then xu J 404 0 v.toInt64 else J) = J' at hJ ⊢
  refine g_istore5 hK1 dL_law_369 rfl ?_
  refine g_aload_n hK1 dL_law_371 rfl ?_
  refine g_arg hK1 hi hL 1 dL_law_372 dL_law_373 dL_law_375 dL_law_376 dL_law_377 (by decide) (by decide) ?_
  refine g_arg hK1 hi hL 2 dL_law_378 dL_law_379 dL_law_381 dL_law_382 dL_law_383 (by decide) (by decide) ?_
  refine g_cV2i hK1 dL_law_384 vlL_44 sh_347 (by simp) (x_le (by omega) (hr J')) rfl ?_
  refine g_istore6 hK1 dL_law_387 rfl ?_
  refine g_aload_n hK1 dL_law_389 rfl ?_
  refine g_cV0i hK1 dL_law_390 vlL_45 sh_347 (by simp) (k_rthrown 29) rfl ?_
  refine g_iload hK1 dL_law_393 rfl ?_
  refine g_ic_eq hK1 400 dL_law_395 (by decide) (fun _ => ?_) (fun h => absurd hI2 h)
  refine g_iload hK1 dL_law_400 rfl ?_
  refine g_if_ne hK1 417 dL_law_402 (by decide) (fun _ => g_goto hK1 1417 dL_law_417 (by decide) (kk _ _ _ _ _ hX2)) (fun h => ?_)
  have hk0 : k = 0 := (nI_eq (b := 0) (by omega) (by omega)).mp h
  refine g_aload_n hK1 dL_law_405 rfl ?_
  refine g_iconst hK1 (v := 0) dL_law_406 (by decide) ?_
  refine g_lal hK1 dL_law_407 sh_404 (vp_in_nI (n := 0) (by omega) (by omega)) ?_
  refine g_iload hK1 dL_law_408 rfl ?_
  refine g_i2l hK1 dL_law_410 ?_
  refine g_lcmp hK1 dL_law_411 ?_
  refine g_if_eq hK1 417 dL_law_412 (by decide) (fun _ => g_goto hK1 1417 dL_law_417 (by decide) (kk _ _ _ _ _ hX2)) (fun h => absurd ?_ h)
  rw [show J' 404 ((0 : Int32).toNatClampNeg) = bb.toInt64 from hJ hk0]
  exact lcmp_e _
end LW
