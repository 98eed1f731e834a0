/-! the strings of the JDK: its members that wordKind reaches, over one String constant -/
theorem dJ0_length_8abf5_0 : decode cJ0_length_8abf5 0 = .ok (.aload_n 0, 1) := by decide +kernel
theorem dJ0_length_8abf5_1 : decode cJ0_length_8abf5 1 = .ok (.getfield 9, 3) := by decide +kernel
theorem dJ0_length_8abf5_4 : decode cJ0_length_8abf5 4 = .ok (.arraylength, 1) := by decide +kernel
theorem dJ0_length_8abf5_5 : decode cJ0_length_8abf5 5 = .ok (.aload_n 0, 1) := by decide +kernel
theorem dJ0_length_8abf5_6 : decode cJ0_length_8abf5 6 = .ok (.invokevirtual 335, 3) := by decide +kernel
theorem dJ0_length_8abf5_9 : decode cJ0_length_8abf5 9 = .ok (.ishr, 1) := by decide +kernel
theorem dJ0_length_8abf5_10 : decode cJ0_length_8abf5 10 = .ok (.ireturn, 1) := by decide +kernel
theorem dJ0_charAt_5068e_0 : decode cJ0_charAt_5068e 0 = .ok (.aload_n 0, 1) := by decide +kernel
theorem dJ0_charAt_5068e_1 : decode cJ0_charAt_5068e 1 = .ok (.invokevirtual 492, 3) := by decide +kernel
theorem dJ0_charAt_5068e_4 : decode cJ0_charAt_5068e 4 = .ok (.ifCond .eq 12, 3) := by decide +kernel
theorem dJ0_charAt_5068e_7 : decode cJ0_charAt_5068e 7 = .ok (.aload_n 0, 1) := by decide +kernel
theorem dJ0_charAt_5068e_8 : decode cJ0_charAt_5068e 8 = .ok (.getfield 9, 3) := by decide +kernel
theorem dJ0_charAt_5068e_11 : decode cJ0_charAt_5068e 11 = .ok (.iload_n 1, 1) := by decide +kernel
theorem dJ0_charAt_5068e_12 : decode cJ0_charAt_5068e 12 = .ok (.invokestatic 495, 3) := by decide +kernel
theorem dJ0_charAt_5068e_15 : decode cJ0_charAt_5068e 15 = .ok (.ireturn, 1) := by decide +kernel
theorem dJ0_charAt_5068e_16 : decode cJ0_charAt_5068e 16 = .ok (.aload_n 0, 1) := by decide +kernel
theorem dJ0_charAt_5068e_17 : decode cJ0_charAt_5068e 17 = .ok (.getfield 9, 3) := by decide +kernel
theorem dJ0_charAt_5068e_20 : decode cJ0_charAt_5068e 20 = .ok (.iload_n 1, 1) := by decide +kernel
theorem dJ0_charAt_5068e_21 : decode cJ0_charAt_5068e 21 = .ok (.invokestatic 498, 3) := by decide +kernel
theorem dJ0_charAt_5068e_24 : decode cJ0_charAt_5068e 24 = .ok (.ireturn, 1) := by decide +kernel
theorem dJ0_coder_7d493_0 : decode cJ0_coder_7d493 0 = .ok (.getstatic 38, 3) := by decide +kernel
theorem dJ0_coder_7d493_3 : decode cJ0_coder_7d493 3 = .ok (.ifCond .eq 10, 3) := by decide +kernel
theorem dJ0_coder_7d493_6 : decode cJ0_coder_7d493 6 = .ok (.aload_n 0, 1) := by decide +kernel
theorem dJ0_coder_7d493_7 : decode cJ0_coder_7d493 7 = .ok (.getfield 15, 3) := by decide +kernel
theorem dJ0_coder_7d493_10 : decode cJ0_coder_7d493 10 = .ok (.goto 4, 3) := by decide +kernel
theorem dJ0_coder_7d493_13 : decode cJ0_coder_7d493 13 = .ok (.iconst 1, 1) := by decide +kernel
theorem dJ0_coder_7d493_14 : decode cJ0_coder_7d493 14 = .ok (.ireturn, 1) := by decide +kernel
theorem dJ0_isLatin1_aae02_0 : decode cJ0_isLatin1_aae02 0 = .ok (.getstatic 38, 3) := by decide +kernel
theorem dJ0_isLatin1_aae02_3 : decode cJ0_isLatin1_aae02 3 = .ok (.ifCond .eq 14, 3) := by decide +kernel
theorem dJ0_isLatin1_aae02_6 : decode cJ0_isLatin1_aae02 6 = .ok (.aload_n 0, 1) := by decide +kernel
theorem dJ0_isLatin1_aae02_7 : decode cJ0_isLatin1_aae02 7 = .ok (.getfield 15, 3) := by decide +kernel
theorem dJ0_isLatin1_aae02_10 : decode cJ0_isLatin1_aae02 10 = .ok (.ifCond .ne 7, 3) := by decide +kernel
theorem dJ0_isLatin1_aae02_13 : decode cJ0_isLatin1_aae02 13 = .ok (.iconst 1, 1) := by decide +kernel
theorem dJ0_isLatin1_aae02_14 : decode cJ0_isLatin1_aae02 14 = .ok (.goto 4, 3) := by decide +kernel
theorem dJ0_isLatin1_aae02_17 : decode cJ0_isLatin1_aae02 17 = .ok (.iconst 0, 1) := by decide +kernel
theorem dJ0_isLatin1_aae02_18 : decode cJ0_isLatin1_aae02 18 = .ok (.ireturn, 1) := by decide +kernel
theorem dJ0_checkIndex_df160_0 : decode cJ0_checkIndex_df160 0 = .ok (.iload_n 0, 1) := by decide +kernel
theorem dJ0_checkIndex_df160_1 : decode cJ0_checkIndex_df160 1 = .ok (.iload_n 1, 1) := by decide +kernel
theorem dJ0_checkIndex_df160_2 : decode cJ0_checkIndex_df160 2 = .ok (.getstatic 1053, 3) := by decide +kernel
theorem dJ0_checkIndex_df160_5 : decode cJ0_checkIndex_df160 5 = .ok (.invokestatic 1059, 3) := by decide +kernel
theorem dJ0_checkIndex_df160_8 : decode cJ0_checkIndex_df160 8 = .ok (.pop, 1) := by decide +kernel
theorem dJ0_checkIndex_df160_9 : decode cJ0_checkIndex_df160 9 = .ok (.return_, 1) := by decide +kernel
theorem dJ1_charAt_3b067_0 : decode cJ1_charAt_3b067 0 = .ok (.iload_n 1, 1) := by decide +kernel
theorem dJ1_charAt_3b067_1 : decode cJ1_charAt_3b067 1 = .ok (.aload_n 0, 1) := by decide +kernel
theorem dJ1_charAt_3b067_2 : decode cJ1_charAt_3b067 2 = .ok (.arraylength, 1) := by decide +kernel
theorem dJ1_charAt_3b067_3 : decode cJ1_charAt_3b067 3 = .ok (.invokestatic 9, 3) := by decide +kernel
theorem dJ1_charAt_3b067_6 : decode cJ1_charAt_3b067 6 = .ok (.aload_n 0, 1) := by decide +kernel
theorem dJ1_charAt_3b067_7 : decode cJ1_charAt_3b067 7 = .ok (.iload_n 1, 1) := by decide +kernel
theorem dJ1_charAt_3b067_8 : decode cJ1_charAt_3b067 8 = .ok (.baload, 1) := by decide +kernel
theorem dJ1_charAt_3b067_9 : decode cJ1_charAt_3b067 9 = .ok (.sipush 255, 3) := by decide +kernel
theorem dJ1_charAt_3b067_12 : decode cJ1_charAt_3b067 12 = .ok (.iand, 1) := by decide +kernel
theorem dJ1_charAt_3b067_13 : decode cJ1_charAt_3b067 13 = .ok (.i2c, 1) := by decide +kernel
theorem dJ1_charAt_3b067_14 : decode cJ1_charAt_3b067 14 = .ok (.ireturn, 1) := by decide +kernel
theorem dJ3_checkIndex_8e157_0 : decode cJ3_checkIndex_8e157 0 = .ok (.iload_n 0, 1) := by decide +kernel
theorem dJ3_checkIndex_8e157_1 : decode cJ3_checkIndex_8e157 1 = .ok (.ifCond .lt 8, 3) := by decide +kernel
theorem dJ3_checkIndex_8e157_4 : decode cJ3_checkIndex_8e157 4 = .ok (.iload_n 0, 1) := by decide +kernel
theorem dJ3_checkIndex_8e157_5 : decode cJ3_checkIndex_8e157 5 = .ok (.iload_n 1, 1) := by decide +kernel
theorem dJ3_checkIndex_8e157_6 : decode cJ3_checkIndex_8e157 6 = .ok (.if_icmp .lt 10, 3) := by decide +kernel
theorem dJ3_checkIndex_8e157_9 : decode cJ3_checkIndex_8e157 9 = .ok (.aload_n 2, 1) := by decide +kernel
theorem dJ3_checkIndex_8e157_10 : decode cJ3_checkIndex_8e157 10 = .ok (.iload_n 0, 1) := by decide +kernel
theorem dJ3_checkIndex_8e157_11 : decode cJ3_checkIndex_8e157 11 = .ok (.iload_n 1, 1) := by decide +kernel
theorem dJ3_checkIndex_8e157_12 : decode cJ3_checkIndex_8e157 12 = .ok (.invokestatic 95, 3) := by decide +kernel
theorem dJ3_checkIndex_8e157_15 : decode cJ3_checkIndex_8e157 15 = .ok (.athrow, 1) := by decide +kernel
theorem dJ3_checkIndex_8e157_16 : decode cJ3_checkIndex_8e157 16 = .ok (.iload_n 0, 1) := by decide +kernel
theorem dJ3_checkIndex_8e157_17 : decode cJ3_checkIndex_8e157 17 = .ok (.ireturn, 1) := by decide +kernel
set_option maxRecDepth 20000 in
theorem jl_65 : Cond.methodLink RX8 65 yJ0_length_8abf5 ∈ xgw := List.mem_filter.mpr ⟨by decide +kernel, by decide +kernel⟩
set_option maxRecDepth 20000 in
theorem jl_70 : Cond.methodLink RX8 70 yJ0_charAt_5068e ∈ xgw := List.mem_filter.mpr ⟨by decide +kernel, by decide +kernel⟩
set_option maxRecDepth 20000 in
theorem jl_335 : Cond.methodLink RJ0 335 yJ0_coder_7d493 ∈ xgw := List.mem_filter.mpr ⟨by decide +kernel, by decide +kernel⟩
set_option maxRecDepth 20000 in
theorem jl_492 : Cond.methodLink RJ0 492 yJ0_isLatin1_aae02 ∈ xgw := List.mem_filter.mpr ⟨by decide +kernel, by decide +kernel⟩
set_option maxRecDepth 20000 in
theorem ji_length_8abf5 : Cond.instanceMethod yJ0_length_8abf5 ∈ xgw := List.mem_filter.mpr ⟨by decide +kernel, by decide +kernel⟩
set_option maxRecDepth 20000 in
theorem js_length_8abf5 : Cond.selects RJ0 yJ0_length_8abf5 yJ0_length_8abf5 ∈ xgw := List.mem_filter.mpr ⟨by decide +kernel, by decide +kernel⟩
set_option maxRecDepth 20000 in
theorem ji_charAt_5068e : Cond.instanceMethod yJ0_charAt_5068e ∈ xgw := List.mem_filter.mpr ⟨by decide +kernel, by decide +kernel⟩
set_option maxRecDepth 20000 in
theorem js_charAt_5068e : Cond.selects RJ0 yJ0_charAt_5068e yJ0_charAt_5068e ∈ xgw := List.mem_filter.mpr ⟨by decide +kernel, by decide +kernel⟩
set_option maxRecDepth 20000 in
theorem ji_coder_7d493 : Cond.instanceMethod yJ0_coder_7d493 ∈ xgw := List.mem_filter.mpr ⟨by decide +kernel, by decide +kernel⟩
set_option maxRecDepth 20000 in
theorem js_coder_7d493 : Cond.selects RJ0 yJ0_coder_7d493 yJ0_coder_7d493 ∈ xgw := List.mem_filter.mpr ⟨by decide +kernel, by decide +kernel⟩
set_option maxRecDepth 20000 in
theorem ji_isLatin1_aae02 : Cond.instanceMethod yJ0_isLatin1_aae02 ∈ xgw := List.mem_filter.mpr ⟨by decide +kernel, by decide +kernel⟩
set_option maxRecDepth 20000 in
theorem js_isLatin1_aae02 : Cond.selects RJ0 yJ0_isLatin1_aae02 yJ0_isLatin1_aae02 ∈ xgw := List.mem_filter.mpr ⟨by decide +kernel, by decide +kernel⟩
set_option maxRecDepth 20000 in
theorem jf_38 : Cond.fieldLink RJ0 38 "java/lang/String" "COMPACT_STRINGS" "Z" ∈ xgw := List.mem_filter.mpr ⟨by decide +kernel, by decide +kernel⟩
set_option maxRecDepth 20000 in
theorem jf_15 : Cond.fieldLink RJ0 15 "java/lang/String" "coder" "B" ∈ xgw := List.mem_filter.mpr ⟨by decide +kernel, by decide +kernel⟩
set_option maxRecDepth 20000 in
theorem jf_9 : Cond.fieldLink RJ0 9 "java/lang/String" "value" "[B" ∈ xgw := List.mem_filter.mpr ⟨by decide +kernel, by decide +kernel⟩
set_option maxRecDepth 20000 in
theorem jf_1053 : Cond.fieldLink RJ0 1053 "jdk/internal/util/Preconditions" "SIOOBE_FORMATTER" "Ljava/util/function/BiFunction;" ∈ xgw := List.mem_filter.mpr ⟨by decide +kernel, by decide +kernel⟩
/-- the cells that may change: those made since the start -/
def jdA (s0 : State) : Nat → Prop := fun q => s0.heap.size ≤ q
def jdP (s0 U : State) : Prop := s0.WarmedH U.vm ∧ va_S (jdA s0) s0.heap U.heap []
/-- a member that answers r and changes nothing -/
def jdM (l : Launch) (s0 : State) (d : Nat) (y : MethodName) (cc : ByteArray) (nL : Nat) (ret : Option FieldType) (vs : List Value) (r : Option Value) : Prop :=
  Met l y [Cond.code y cc nL ret] (xrm d 0 0) (va_Pc vs (jdP s0)) (fun _ st oc u => oc = .returned r ∧ u.heap = st.heap) 0 0 (fun _ => False)
theorem jdP_blind (s0 : State) (vs : List Value) : FrameBlind (va_Pc vs (jdP s0)) := fun _ _ _ _ h => ⟨h.1, h.2⟩
theorem jd_met {l : Launch} {s0 : State} {d : Nat} {y : MethodName} {cc : ByteArray} {nL : Nat} {ret : Option FieldType} {vs : List Value} {r : Option Value} (hplain : plainName y.cls = true) (hle : (lg_sl vs).length ≤ nL)
    (body : ∀ (p : Program) (e : Env) (s : State) (m : MethodId) (args : Array Value) (below : List Frame) (meth : Method) (c : Code) (lr : Array Slot), xMx p s m meth c s0 y cc nL ret → lv_has lr nL (lv_args 0 vs) → va_S (jdA s0) s0.heap s.heap [] →
      W p l e (xrm d 0 0) s m args below meth c s.heap [] 0 0 (MQ below (fun _ st oc u => oc = .returned r ∧ u.heap = st.heap) args s 0 0 (fun _ => False)) (F0 m 0 lr [])) : jdM l s0 d y cc nL ret vs r := by
  refine Met.ofW (cc := cc) (maxL := nL) (ret := ret) hplain rfl ?_
  intro p e s m args below meth c s₁ B hml hv
  obtain ⟨rfl, hW, hS⟩ := hv
  have hM : xMx p s m meth c s0 y cc nL ret := ⟨B.exec, B.bytes, hml, B.returns, B.notSynchronized, findClass_of_methodNamed B.named, (name_of_methodNamed B.named B.method).1, hW⟩
  have hl := lv_entry vs (n := nL) hle
  rw [lg_entry_eq]
  generalize (lg_sl vs ++ List.replicate (nL - (lg_sl vs).length) Slot.unset).toArray = lr at hl ⊢
  exact body p e s m vs.toArray below meth c lr hM hl hS
section JG
variable {p : Program} {l : Launch} {e : Env} {R : Room} {s : State} {m : MethodId} {args : Array Value} {below : List Frame} {meth : Method} {c : Code} {H : Heap} {locs : List Loc} {cells slots : Nat} {Q : State → Prop}
theorem jd_go {mc pc : Nat} {lr : Array Slot} {st0 rest : List Value} {r : Option Value} (hmc : mc = 0)
    (hr : va_Run p l e R s m args below meth c H locs cells slots mc mc (F0 m pc lr st0) rest (fun st oc u => oc = .returned r ∧ u.heap = st.heap) (fun _ => False))
    (kk : W p l e R s m args below meth c H locs cells slots Q (F0 m (pc + 3) lr (r.toList ++ rest))) : W p l e R s m args below meth c H locs cells slots Q (F0 m pc lr st0) := by
  subst hmc
  intro T hT X
  obtain ⟨v, st₀, u, T', L, h0, X', hL, e1, e2, ⟨hv, hu⟩, st⟩ := hr T hT X
  have hv : v = r := Outcome.returned.inj hv
  subst hv
  have hL0 : L = [] := by
    cases L with
    | nil => rfl
    | cons q L => exact (hL q List.mem_cons_self).elim
  subst hL0
  rw [List.append_nil] at X'
  obtain ⟨t2, a1, b1⟩ := kk T' (by rw [e1, hu, h0]) X'
  exact ⟨t2, st t2 a1, b1⟩
/-- a static member called -/
theorem jd_S {s0 : State} {a0 : Array Value} {D : va_G} {t : Nat → ClassId} (C : xC s0 a0 D t) {y y2 : MethodName} {cc cc2 : ByteArray} {nL nL2 : Nat} {ret ret2 : Option FieldType} (M : xMx p s m meth c s0 y cc nL ret) {d : Nat} {vs : List Value} {r : Option Value} (hM : jdM l s0 d y2 cc2 nL2 ret2 vs r) (hcode : Cond.code y2 cc2 nL2 ret2 ∈ xgw) (hnl : nL2 ≤ 40) {idx n : Nat} (hl : Cond.methodLink y.cls idx y2 ∈ xgw) (hst : Cond.static y2 ∈ xgw) (hb2 : xMb y2 n) (hn : vs.length = n) {pc : Nat} {lr : Array Slot} {rest : List Value} (hz : lr.size = nL) (hd : decode cc pc = .ok (.invokestatic idx, 3)) (hcat : (rest.map fun v => v.category).sum ≤ 8) (hR : d + 1 ≤ R.frames ∧ 80 * (d + 1) ≤ R.locals) (hc : cells ≤ R.cells ∧ slots ≤ R.slots) (hS : va_S (jdA s0) s0.heap H []) {st : List Value} (hst0 : st = vs.reverse ++ rest)
    (kk : W p l e R s m args below meth c H locs cells slots Q (F0 m (pc + 3) lr (r.toList ++ rest))) : W p l e R s m args below meth c H locs cells slots Q (F0 m pc lr st) := by
  obtain ⟨hx, hb, hml, hr, hlk, hown, hnm, hW⟩ := M
  have hts := C.w hW (args := args)
  subst hst0
  exact jd_go rfl (va_runS (l := l) (e := e) (R := R) (below := below) (meth := meth) (H := H) (locs := locs) (cells := cells) (slots := slots) (Ts := xgw) (As := vs) (rest := rest) (g := F0 m pc lr (vs.reverse ++ rest)) ⟨hx, hb, hml, hown, hts⟩ hM ⟨callB_of n hts (xG1 hcode) rfl rfl rfl (hts _ hb2.1) (hts _ hl) hb2.2 ⟨hR.1, by show _ + 80 * d ≤ _; have := hR.2; omega⟩, hts _ hst⟩ ⟨jdP_blind s0 vs, fun U hU hWU => ⟨rfl, hW.trans hWU, by rw [hU]; exact hS⟩⟩ rfl hn hz rfl (lv_room hcat) hd ⟨hc.1, hc.2⟩) kk
/-- an own member called on an object of class K -/
theorem jd_V {s0 : State} {a0 : Array Value} {D : va_G} {t : Nat → ClassId} (C : xC s0 a0 D t) {y y2 : MethodName} {cc cc2 : ByteArray} {nL nL2 : Nat} {ret ret2 : Option FieldType} (M : xMx p s m meth c s0 y cc nL ret) {d : Nat} {b : Nat} {vs : List Value} {r : Option Value} (hM : jdM l s0 d y2 cc2 nL2 ret2 (.ref b :: vs) r) (hcode : Cond.code y2 cc2 nL2 ret2 ∈ xgw) (hnl : nL2 ≤ 40) {idx n : Nat} (hl : Cond.methodLink y.cls idx y2 ∈ xgw) (hi : Cond.instanceMethod y2 ∈ xgw) {K : String} (hsel : Cond.selects K y2 y2 ∈ xgw) (hO : va_O K b (jdA s0) s0 s0.heap) (hb2 : xMb y2 n) (hn : vs.length = n) {pc : Nat} {lr : Array Slot} {rest : List Value} (hz : lr.size = nL) (hd : decode cc pc = .ok (.invokevirtual idx, 3)) (hcat : (rest.map fun v => v.category).sum ≤ 8) (hR : d + 1 ≤ R.frames ∧ 80 * (d + 1) ≤ R.locals) (hc : cells ≤ R.cells ∧ slots ≤ R.slots) (hS : va_S (jdA s0) s0.heap H []) {st : List Value} (hst0 : st = vs.reverse ++ .ref b :: rest)
    (kk : W p l e R s m args below meth c H locs cells slots Q (F0 m (pc + 3) lr (r.toList ++ rest))) : W p l e R s m args below meth c H locs cells slots Q (F0 m pc lr st) := by
  obtain ⟨hx, hb, hml, hr, hlk, hown, hnm, hW⟩ := M
  have hts := C.w hW (args := args)
  subst hst0
  obtain ⟨cell, o1, o2, o3, -⟩ := (va_O.moved hW.alike hO).kept hS.2.1
  exact jd_go rfl (va_runV (l := l) (e := e) (R := R) (below := below) (meth := meth) (H := H) (locs := locs) (cells := cells) (slots := slots) (Ts := xgw) (As := vs) (rest := rest) (b := b) (g := F0 m pc lr (vs.reverse ++ .ref b :: rest)) ⟨hx, hb, hml, hown, hts⟩ hM ⟨callB_of n hts (xG1 hcode) rfl rfl rfl (hts _ hb2.1) (hts _ hl) hb2.2 ⟨hR.1, by show _ + 80 * d ≤ _; have := hR.2; omega⟩, hts _ hi, hts _ hsel⟩ ⟨jdP_blind s0 _, ⟨cell, o1, o2, o3⟩, fun U hU hWU => ⟨rfl, hW.trans hWU, by rw [hU]; exact hS⟩⟩ rfl hn hz rfl (lv_room hcat) hd ⟨hc.1, hc.2⟩) kk
end JG
