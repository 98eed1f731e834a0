/-! the law's own person: what it catches -/
set_option maxRecDepth 20000 in
theorem cwL_person : Cond.codeWith yL_person cL_person 5 (some .int) [(0, 10, 13, 13), (0, 10, 17, 15)] ∈ xgw := List.mem_filter.mpr ⟨by decide +kernel, by decide +kernel⟩
set_option maxRecDepth 20000 in
theorem wcL_13 : Cond.classLink RL 13 xIO ∈ xgw := List.mem_filter.mpr ⟨by decide +kernel, by decide +kernel⟩
set_option maxRecDepth 20000 in
theorem wcL_15 : Cond.classLink RL 15 xNE ∈ xgw := List.mem_filter.mpr ⟨by decide +kernel, by decide +kernel⟩
set_option maxRecDepth 20000 in
theorem mlL_7 : Cond.methodLink RL 7 yX10_person ∈ xgw ∧ Cond.instanceMethod yX10_person ∈ xgw ∧ Cond.selects RX10 yX10_person yX10_person ∈ xgw := ⟨List.mem_filter.mpr ⟨by decide +kernel, by decide +kernel⟩, List.mem_filter.mpr ⟨by decide +kernel, by decide +kernel⟩, List.mem_filter.mpr ⟨by decide +kernel, by decide +kernel⟩⟩
theorem mbPer : xMb yX10_person 2 := ⟨wi_X10, by decide +kernel⟩
section LP
variable {p : Program} {l : Launch} {e : Env} {R : Room} {s : State} {m : MethodId} {args : Array Value} {below : List Frame} {meth : Method} {c : Code} {H : Heap} {locs : List Loc} {cells slots : Nat} {Q : State → Prop} {s0 : State} {a0 : Array Value} {D : va_G} {t : Nat → ClassId} {b : Nat}
theorem x_goX {S : xS} {mc ms pc k : Nat} {v : Int32} {lr : Array Slot} {st0 rest : List Value}
    (hr : vx_Run p l e R s m args below meth c H locs cells slots mc ms (F0 m pc lr st0) rest (fun _ oc u => k = 0 ∧ oc = .returned (some (.int v)) ∧ xH s0 D t b S u.heap) (fun E _ u => ((k = 1 ∧ E = xIO) ∨ (k = 2 ∧ E = xNE)) ∧ xH s0 D t b S u.heap) (fun q => s0.heap.size ≤ q)) (hlo : ∀ q ∈ locs, s0.heap.size ≤ q.base)
    (kk : ∀ (H1 : Heap) (locs1 : List Loc), k = 0 → xH s0 D t b S H1 → (∀ q ∈ locs1, s0.heap.size ≤ q.base) → W p l e R s m args below meth c H1 locs1 (cells + mc) (slots + ms) Q (F0 m (pc + 3) lr (.int v :: rest)))
    (kx : ∀ (H1 : Heap) (locs1 : List Loc) (E : String) (ce : Cell) (q : Addr), ((k = 1 ∧ E = xIO) ∨ (k = 2 ∧ E = xNE)) → xH s0 D t b S H1 → (∀ q ∈ locs1, s0.heap.size ≤ q.base) → H1[q]? = some ce → ce.vm = .none → s.vm.findClass E = some ce.cls → vx_W p l e R s m args below meth c H1 locs1 (cells + mc) (slots + ms) Q (F0 m pc lr rest) q) : W p l e R s m args below meth c H locs cells slots Q (F0 m pc lr st0) := by
  intro T hT X
  rcases hr T hT X with ⟨v', st₀, u, T', L, h0, X', hL, e1, e2, ⟨hk, hv, hx⟩, st⟩ | ⟨q, st₀, u, T', L, E, ce, h0, X', hL, e1, e2, ⟨hE, hx⟩, hc, hcv, hcl, st⟩
  · have hv : v' = some (.int v) := Outcome.returned.inj hv
    subst hv
    obtain ⟨t2, a1, b1⟩ := kk T'.heap (locs ++ L) hk (by rw [e1]; exact hx) (fun q hq => by
      rcases List.mem_append.mp hq with h | h
      · exact hlo q h
      · exact hL q h) T' rfl X'
    exact ⟨t2, st t2 a1, b1⟩
  · obtain ⟨t2, a1, b1⟩ := kx T'.heap (locs ++ L) E ce q hE (by rw [e1]; exact hx) (fun z hz => by
      rcases List.mem_append.mp hz with h | h
      · exact hlo z h
      · exact hL z h) (by rw [e1]; exact hc) hcv hcl T' rfl X'
    exact ⟨t2, st.trans a1, b1⟩
end LP
section LQ
variable {l : Launch} {s0 : State} {a0 : Array Value} {D : va_G} {t : Nat → ClassId} {b : Nat} {sa1 sa2 : Nat} {tx1 tx2 : String}
/-- what the law's person leaves: the answer, if there is one, in out -/
def lpS (k : Nat) (v : Int32) (I : Nat → Nat → Int32) (J : Nat → Nat → Int64) (P : Nat → Nat → Nat) : xS := (SH, I, if k = 0 then xu J 404 0 v.toInt64 else J, P)
set_option maxHeartbeats 1000000 in
theorem k_lperson (hcat : vxC) (C : xC s0 a0 D t) (pw : pW s0 sa1 sa2 tx1 tx2) {I : Nat → Nat → Int32} {J : Nat → Nat → Int64} {P : Nat → Nat → Nat} {x w v : Int32} {k : Nat}
    (hper : vx_Met l yX10_person [Cond.code yX10_person cX10_person 3 (some .int)] (xrm 20 1 6) (va_Pc ([Value.ref 0, .int x, .int w].map (xcv b s0.heap.size)) (fun U => s0.WarmedH U.vm ∧ xH s0 D t b (SH, I, J, P) U.heap)) (fun _ _ oc u => k = 0 ∧ oc = .returned (some (.int v)) ∧ xH s0 D t b (SH, I, J, P) u.heap) (fun E _ u => ((k = 1 ∧ E = xIO) ∨ (k = 2 ∧ E = xNE)) ∧ xH s0 D t b (SH, I, J, P) u.heap) 1 6 (fun q => s0.heap.size ≤ q)) :
    Met l yL_person [Cond.codeWith yL_person cL_person 5 (some .int) [(0, 10, 13, 13), (0, 10, 17, 15)]] (xrm 21 1 6) (va_Pc ([Value.ref 0, .int x, .int w, .ref 404].map (xcv b s0.heap.size)) (fun U => s0.WarmedH U.vm ∧ xH s0 D t b (SH, I, J, P) U.heap)) (fun _ _ oc u => oc = .returned (some (.int (nI k))) ∧ xH s0 D t b (lpS k v I J P) u.heap) 1 6 (fun q => s0.heap.size ≤ q) := by
  refine va_MetW (cc := cL_person) (maxL := 5) (ret := some .int) (hh := [(0, 10, 13, 13), (0, 10, 17, 15)]) (by decide) rfl ?_
  intro pr e s m args below meth c s₁ B hml hvv
  obtain ⟨rfl, hW, hH⟩ := hvv
  have htab := vx_table (x := yL_person) B (atoms_spec (ws := [Cond.codeWith yL_person cL_person 5 (some .int) [(0, 10, 13, 13), (0, 10, 17, 15)]]) B.pre _ List.mem_cons_self)
  have M : xMx pr s m meth c s0 yL_person cL_person 5 (some .int) := ⟨B.exec, B.bytes, hml, B.returns, B.notSynchronized, findClass_of_methodNamed B.named, (name_of_methodNamed B.named B.method).1, hW⟩
  have hlr := lv_entry ([Value.ref 0, .int x, .int w, .ref 404].map (xcv b s0.heap.size)) (n := 5) (by simp [lg_sl, Value.category, xcv])
  rw [lg_entry_eq]
  generalize (lg_sl ([Value.ref 0, .int x, .int w, .ref 404].map (xcv b s0.heap.size)) ++ List.replicate (5 - (lg_sl ([Value.ref 0, .int x, .int w, .ref 404].map (xcv b s0.heap.size))).length) Slot.unset).toArray = lr at hlr ⊢
  have hKc : ∀ {cells slots : Nat}, cells ≤ 1 → slots ≤ 6 → xW (xG pr l e (xrm 21 1 6) s m ([Value.ref 0, .int x, .int w, .ref 404].map (xcv b s0.heap.size)).toArray below meth c (MQ below (fun _ _ oc u => oc = .returned (some (.int (nI k))) ∧ xH s0 D t b (lpS k v I J P) u.heap) ([Value.ref 0, .int x, .int w, .ref 404].map (xcv b s0.heap.size)).toArray s 1 6 (fun q => s0.heap.size ≤ q)) s0 D t b 5 cells slots) (fun _ _ _ _ _ => False) false none yL_person cL_person := fun h1 h2 => xG_W C M (d := 15) (fun L xs h => by cases h) (fun _ _ _ _ _ h => h.elim) ⟨by decide, by decide⟩ h1 h2
  have hK := hKc (Nat.zero_le 1) (Nat.zero_le 6)
  have hK1 := hKc (Nat.le_refl 1) (Nat.le_refl 6)
  refine (?_ : xG pr l e (xrm 21 1 6) s m ([Value.ref 0, .int x, .int w, .ref 404].map (xcv b s0.heap.size)).toArray below meth c _ s0 D t b 5 0 0 0 [some (.ref 0), some (.int x), some (.int w), some (.ref 404), none] [] (SH, I, J, P)) s.heap [] lr (xent_L (vs := [.ref 0, .int x, .int w, .ref 404]) (by simp [lg_sl, Value.category]) hlr) hH (fun _ h => by cases h)
  refine g_aload_n hK dL_person_0 rfl ?_
  refine g_iconst hK (v := 0) dL_person_1 (by decide) ?_
  refine g_aload_n hK dL_person_2 rfl ?_
  refine g_iload_n hK dL_person_3 rfl ?_
  refine g_iload_n hK dL_person_4 rfl ?_
  obtain ⟨hx, hb, hml2, hr, hlk, hown, hnm, hW2⟩ := M
  have hts := C.w hW (args := ([Value.ref 0, .int x, .int w, .ref 404].map (xcv b s0.heap.size)).toArray)
  intro H locs lr2 hL hH2 hlo
  have hrun := vx_runV (l := l) (e := e) (R := xrm 21 1 6) (below := below) (meth := meth) (H := H) (locs := locs) (cells := 0) (slots := 0) (Ts := xgw) (As := [.int x, .int w]) (rest := [.int 0, .ref (s0.heap.size + 404)]) (b := s0.heap.size + 0) (g := F0 m 5 lr2 [.int w, .int x, .ref (s0.heap.size + 0), .int 0, .ref (s0.heap.size + 404)]) ⟨hx, hb, hml, hown, hts⟩ hper
      ⟨callB_of 2 hts (xG1 coX10_person) rfl rfl rfl (hts _ mbPer.1) (hts _ mlL_7.1) mbPer.2 ⟨by decide, by decide⟩, hts _ mlL_7.2.1, hts _ mlL_7.2.2⟩ ⟨fun _ _ _ _ h => ⟨h.1, h.2.1, h.2.2⟩, va_recv (C.k hW) hH2.1 (show vwCl[10]? = some (RX10, TX10, 19) from rfl) ((xws_get t b s0.heap.size (SH, I, J, P) (xlt sh_0)).trans (by rw [xe_obj sh_0])), fun U hU hWU => ⟨rfl, hW.trans hWU, by rw [hU]; exact hH2⟩⟩
      rfl rfl hL.1.1 rfl (by simp [F0, JFrame.monitorRoom, Value.category]) dL_person_5 ⟨by decide, by decide⟩
  refine x_goX hrun hlo (fun H1 locs1 hk0 hH1 hl1 => ?_) (fun H1 locs1 E ce q hE hH1 hl1 hc hcv hcl => ?_)
  · subst hk0
    refine (?_ : xG pr l e (xrm 21 1 6) s m ([Value.ref 0, .int x, .int w, .ref 404].map (xcv b s0.heap.size)).toArray below meth c _ s0 D t b 5 1 6 8 [some (.ref 0), some (.int x), some (.int w), some (.ref 404), none] [.int v, .int 0, .ref 404] (SH, I, J, P)) H1 locs1 lr2 hL hH1 hl1
    refine g_i2l hK1 dL_person_8 ?_
    refine g_las hK1 dL_person_9 sh_404 (vp_in_nI (n := 0) (by omega) (by omega)) ?_
    refine g_goto hK1 21 dL_person_10 (by decide) ?_
    refine g_iconst hK1 (v := 0) dL_person_21 (by decide) ?_
    intro H3 locs3 lr3 hL3 hH3 hlo3
    exact W.zret hx hb hr (by rfl) (fun u hu _ => ⟨rfl, by rw [hu]; exact hH3⟩) hlo3 dL_person_22 hlk
  · rcases hE with ⟨rfl, rfl⟩ | ⟨rfl, rfl⟩
    · refine hcat (own := RL) (name := xIO) (E := xIO) (ce := ce) hown [] ⟨0, 10, 13, 13⟩ [⟨0, 10, 17, 15⟩] htab (fun z hz => by cases hz) (by decide) (by decide) (hts _ wcL_13) ((va_Nw.warmC hW pw.1).use rfl) hc hcv hcl ?_
      refine lv_astore hx hb dL_person_13 (nL := 5) (lv := []) ⟨hL.1.1, hL.1.2.1, fun _ h => by cases h⟩ (by decide) rfl (fun ls' hl' => ?_)
      refine lv_iconst hx hb (v := 1) dL_person_15 (by decide) ?_
      exact W.zret hx hb hr (by rfl) (fun u hu _ => ⟨rfl, by rw [hu]; exact hH1⟩) hl1 dL_person_16 hlk
    · refine hcat (own := RL) (name := xNE) (E := xNE) (ce := ce) hown [⟨0, 10, 13, 13⟩] ⟨0, 10, 17, 15⟩ [] htab (fun z hz => ?_) (by decide) (by decide) (hts _ wcL_15) ((va_Nw.warmC hW pw.2.1).use rfl) hc hcv hcl ?_
      · rw [List.mem_singleton] at hz
        subst hz
        exact Or.inr ⟨by decide, xIO, hts _ wcL_13, va_Nc.moved hW.alike pw.2.2.1⟩
      · refine lv_astore hx hb dL_person_17 (nL := 5) (lv := []) ⟨hL.1.1, hL.1.2.1, fun _ h => by cases h⟩ (by decide) rfl (fun ls' hl' => ?_)
        refine lv_iconst hx hb (v := 2) dL_person_19 (by decide) ?_
        exact W.zret hx hb hr (by rfl) (fun u hu _ => ⟨rfl, by rw [hu]; exact hH1⟩) hl1 dL_person_20 hlk
end LQ
