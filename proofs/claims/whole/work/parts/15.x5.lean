/-! steps that make cells, and calls -/
set_option maxRecDepth 20000 in
theorem xac {a : ArrayType} {j : Nat} (h : xat a = some j) : Cond.arrayClass (newarray.typeOf a) ∈ xgw ∧ ∃ ty, newarray.typeOf a = ty ∧ (∀ t : Nat → ClassId, (xtys t)[j]? = some (t j, ty)) ∧ componentBytes ty ≤ 8 ∧ j < 4 ∧ refKind ty = false := by
  cases a <;> first | cases h | skip
  · exact ⟨List.mem_filter.mpr ⟨by decide +kernel, rfl⟩, _, rfl, fun _ => rfl, by decide, by decide, rfl⟩
  · exact ⟨List.mem_filter.mpr ⟨by decide +kernel, rfl⟩, _, rfl, fun _ => rfl, by decide, by decide, rfl⟩
  · exact ⟨List.mem_filter.mpr ⟨by decide +kernel, rfl⟩, _, rfl, fun _ => rfl, by decide, by decide, rfl⟩
  · exact ⟨List.mem_filter.mpr ⟨by decide +kernel, rfl⟩, _, rfl, fun _ => rfl, by decide, by decide, rfl⟩
set_option maxRecDepth 20000 in
theorem xw_oi : Cond.instanceMethod objectInit ∈ xgw := List.mem_filter.mpr ⟨by decide +kernel, by decide +kernel⟩
set_option maxRecDepth 20000 in
theorem xw_oc : Cond.code objectInit ⟨#[0xb1]⟩ 1 none ∈ xgw := List.mem_filter.mpr ⟨by decide +kernel, by decide +kernel⟩
set_option maxRecDepth 20000 in
theorem xw_cn : Cond.native arraycopyName ∈ xgw := List.mem_filter.mpr ⟨by decide +kernel, by decide +kernel⟩
set_option maxRecDepth 20000 in
theorem xw_cs : Cond.static arraycopyName ∈ xgw := List.mem_filter.mpr ⟨by decide +kernel, by decide +kernel⟩
set_option maxRecDepth 20000 in
theorem xw_ci : Cond.initialized "java/lang/System" ∈ xgw := List.mem_filter.mpr ⟨by decide +kernel, by decide +kernel⟩
set_option maxRecDepth 20000 in
theorem xw_ao : Cond.arrayOver (.object RX0) ∈ lw_tbl := by decide +kernel
theorem pN_len (S : xS) (c : xK) (n : Nat) : (pN S c n).1.length - S.1.length = 1 := by simp [pN]
theorem pN_us (S : xS) (c : xK) (n : Nat) : xus (pN S c n) - xus S = n := by simp [pN, xus]
theorem pN_at (S : xS) (c : xK) (n : Nat) : (pN S c n).1[S.1.length]? = some (c, n) := by simp [pN]
theorem pN_H {s0 : State} {D : va_G} {t : Nat → ClassId} {b : Nat} {S : xS} {H H1 : Heap} {c : xK} {n : Nat} (hH : xH s0 D t b S H) (hz : H.size = s0.heap.size + S.1.length) (z1 : H1.size = H.size + 1) (o1 : ∀ q, q < H.size → H1[q]? = H[q]?) (hat : va_at D vwCl (s0.heap.size + S.1.length, xe t b s0.heap.size (pN S c n) S.1.length) H1) : xH s0 D t b (pN S c n) H1 := by
  refine ⟨?_, Nat.le_trans hH.2.1 (by omega), fun q h1 h2 => ?_, fun _ h => by cases h⟩
  · rw [xws_push]
    refine (hH.1.kept (fun k q hk => o1 q.1 ((hH.1 k q hk).lt))).app (fun k q hk => ?_)
    have hk0 : k < 1 := (List.getElem?_eq_some_iff.mp hk).1
    rw [show k = 0 by omega] at hk
    cases hk
    exact hat
  · rw [o1 q (Nat.lt_of_lt_of_le h1 hH.2.1)]
    exact hH.2.2.1 q h1 h2
section XD
variable {p : Program} {l : Launch} {e : Env} {R : Room} {s : State} {m : MethodId} {args : Array Value} {below : List Frame} {meth : Method} {c : Code} {Q : State → Prop} {s0 : State} {a0 : Array Value} {D : va_G} {t : Nat → ClassId} {b nL : Nat} {y : MethodName} {cc : ByteArray} {ret : Option FieldType} {ex : Bool} {X : Option (Nat × (Nat → Int32))} {call : xCl} {e1 : Nat}
def xD (i : Instr) : Bool := match i with
  | .new _ | .newarray _ | .anewarray _ => true
  | _ => false
set_option maxHeartbeats 4000000 in
theorem x_stepD (C : xC s0 a0 D t) (M : xMx p s m meth c s0 y cc nL ret) {cells slots pc len pc' : Nat} {ls ls' : List (Option Value)} {st st' : List Value} {S S' : xS} {i : Instr} (hd : decode cc pc = .ok (i, len)) (hi : xD i = true) (h : xSm call ex X y pc len ls st S pc' ls' st' S' i)
    (hex : ex = true → s.heap.size + cells = s0.heap.size + S.1.length) (hrc : cells + (S'.1.length - S.1.length) ≤ R.cells) (hrs : slots + (xus S' - xus S) ≤ R.slots)
    (kk : xG p l e R s m args below meth c Q s0 D t b nL (cells + (S'.1.length - S.1.length)) (slots + (xus S' - xus S)) pc' ls' st' S') : xG p l e R s m args below meth c Q s0 D t b nL cells slots pc ls st S := by
  obtain ⟨hx, hb, hml, hr, hlk, hown, hnm, hW⟩ := M
  have hts := C.w hW (args := args)
  have hK := C.k hW
  intro H locs lr hL hH hlo
  refine x_size fun hz => ?_
  have hlow := hH.size
  cases i with
  | new idx =>
    obtain ⟨rfl, rfl, rfl, hex1, ci, N, ⟨C', T, hc, hcl, hin, hini⟩, rfl, rfl⟩ := h
    have hsz : H.size = s0.heap.size + S.1.length := by have := hex hex1; omega
    rw [pN_len, pN_us] at kk
    rw [pN_len] at hrc
    rw [pN_us] at hrs
    obtain ⟨ty0, g1, g2, g3, g4⟩ := xcls hc
    have hKn := hK.1 ci _ hc
    refine W.newcK hx hb hown (hts _ hcl) (hts _ hin) (hts _ hini) rfl hd hrc hrs hKn.2.1 hsz fun H1 kC hkC e2 z1 o1 => ?_
    refine kk H1 locs lr hL (pN_H hH hsz (by omega) (fun q hq => o1 q (by omega)) ?_) hlo
    rw [xe_obj (pN_at S (.inl ci) N)]
    refine ⟨_, hc, (u_born ty0 hts g3 hKn hkC e2 g1).to (fun j hj => ?_)⟩
    rw [g4 j hj]
    simp only [vp_V, List.getD_eq_getElem?_getD, List.getElem?_map, List.getElem?_range hj, Option.map_some, Option.getD_some, xav]
    have i1 : gI (pN S (.inl ci) N) S.1.length j = 0 := by simp [gI, pN]
    have i2 : gJ (pN S (.inl ci) N) S.1.length j = 0 := by simp [gJ, pN]
    have i3 : gP (pN S (.inl ci) N) S.1.length j = 0 := by simp [gP, pN]
    rw [i1, i2, i3]
    match xfk ci j with
    | 0 => rfl
    | 1 => rfl
    | _ + 2 => rfl
  | newarray a =>
    obtain ⟨rfl, rfl, rfl, hex1, n, r, j, rfl, hn, hle, ha, rfl, rfl⟩ := h
    have hsz : H.size = s0.heap.size + S.1.length := by have := hex hex1; omega
    rw [pN_len, pN_us] at kk
    rw [pN_len] at hrc
    rw [pN_us] at hrs
    obtain ⟨w1, ty, w2, w3, w4, w5, w6⟩ := xac ha
    refine va_newaK hx hb (hts _ w1) rfl hd rfl hn rfl ?_ hrc hrs hsz fun H1 cA e2 z1 o1 hAr hNm => ?_
    · rw [w2]
      have := Nat.mul_le_mul hle w4
      omega
    refine kk H1 locs lr hL (pN_H hH hsz (by omega) (fun q hq => o1 q (by omega)) ?_) hlo
    have hcA : cA = t j := by
      have := (hK.2 j _ (w3 t)).2
      rw [w2] at hNm
      have h2 : s.vm.findClass ("[" ++ ty.toString) = some (t j) := by
        cases ty <;> first | exact this | cases w6
      exact Option.some.inj (hNm.symm.trans h2)
    subst hcA
    have z0 : ∀ q, (pN S (.inr j) n.toNatClampNeg).2.1 S.1.length q = 0 := fun q => by simp [pN]
    have z1 : ∀ q, (pN S (.inr j) n.toNatClampNeg).2.2.1 S.1.length q = 0 := fun q => by simp [pN]
    have hat := pN_at S (.inr j) n.toNatClampNeg
    cases a <;> first | cases ha | skip
    · rw [xe_2 hat]; show H1[_]? = some (vp_cell _ _); rw [e2, vp_cell_i]; congr 2; funext q; rw [z0]; rfl
    · rw [xe_1 hat]; show H1[_]? = some (vp_cell _ _); rw [e2, vp_cell_i]; congr 2; funext q; rw [z0]; rfl
    · rw [xe_0 hat]; show H1[_]? = some (vp_cell _ _); rw [e2, vp_cell_i]; congr 2; funext q; rw [z0]; rfl
    · rw [xe_3 hat]; show H1[_]? = some (vp_cell _ _); rw [e2, vp_cell_l]; congr 2; funext q; rw [z1]; rfl
  | anewarray idx =>
    obtain ⟨rfl, rfl, rfl, hex1, hcl, n, r, rfl, hn, hle, rfl, rfl⟩ := h
    have hsz : H.size = s0.heap.size + S.1.length := by have := hex hex1; omega
    rw [pN_len, pN_us] at kk
    rw [pN_len] at hrc
    rw [pN_us] at hrs
    refine W.anew hx hb hown (hts _ hcl) ((va_AO.of (C.1 _ xw_ao)).moved hW.alike).use rfl hd rfl hn (by omega) hrc hrs fun cA kA comp h1 h2 h3 h4 => ?_
    have hcA : cA = t 4 := by
      obtain ⟨kA', comp', -, -, -, h5⟩ := (hK.2 4 _ rfl).2
      exact Option.some.inj (h1.symm.trans h5)
    subst hcA
    have k1 := kk (H.push { cls := t 4, slots := Array.replicate n.toNatClampNeg .null, vm := .none }) locs lr hL (pN_H hH hsz (by simp) (fun q hq => by rw [Array.getElem?_push, if_neg (Nat.ne_of_lt hq)]) ?_) hlo
    · rw [hsz]
      exact k1
    · rw [xe_4 (pN_at S (.inr 4) n.toNatClampNeg)]
      show (H.push _)[_]? = some (vp_cell _ _)
      rw [← hsz, arrV_new, vp_cell_q]
      simp only [Array.getElem?_push_size]
      congr 2
      funext q
      simp [pN, xro, va_rf]
  | _ => exact absurd hi (by simp [xD])
end XD
