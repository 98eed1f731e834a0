/-! wordKind and standsAtPlace: over the String of all words -/
def wcat : List (List Nat) → List Nat
  | [] => []
  | w :: ws => w ++ 32 :: wcat ws
def WB : List Nat := wcat cWords
theorem cWords_ok : ∀ w ∈ cWords, ∀ c ∈ w, c ≠ 32 ∧ c < 128 := by decide +kernel
theorem WB_len : WB.length = 117 := by decide +kernel
section WK
variable {p : Program} {l : Launch} {e : Env} {R : Room} {s : State} {m : MethodId} {args : Array Value} {below : List Frame} {meth : Method} {c : Code} {Q : State → Prop} {s0 : State} {a0 : Array Value} {D : va_G} {t : Nat → ClassId} {b nL : Nat} {y : MethodName} {cc : ByteArray} {ret : Option FieldType} {a v L : Nat} {f : Nat → Int32} {tx : String}
theorem xG_len (C : xC s0 a0 D t) (M : xMx p s m meth c s0 y cc nL ret) (hy : y.cls = RX8) (w : jdW s0 a v L f) (hZ : vk_R RX8 63 tx a s0) {d : Nat} (hR : d + 3 ≤ R.frames ∧ 80 * (d + 3) ≤ R.locals) {cells slots pc : Nat} (hc : cells ≤ R.cells ∧ slots ≤ R.slots) {ls : List (Option Value)} {st : List Value} {S : xS} (h1 : decode cc pc = .ok (.ldc 63, 2)) (h2 : decode cc (pc + 2) = .ok (.invokevirtual 65, 3)) (hcat : (st.map fun v => v.category).sum ≤ 8) (kk : xG p l e R s m args below meth c Q s0 D t b nL cells slots (pc + 5) ls (.int (nI L) :: st) S) : xG p l e R s m args below meth c Q s0 D t b nL cells slots pc ls st S := by
  have M0 := M
  obtain ⟨hx, hb, hml, hr, hlk, hown, hnm, hW⟩ := M
  intro H locs lr hL hH hlo
  refine va_ldcS hx hb (by rw [← hy]; exact hown) (hZ.warm hW) h1 ?_
  exact jd_V C M0 (jd_len (l := l) C w d) coJ0_length_8abf5 (by decide) (by rw [hy]; exact jl_65) ji_length_8abf5 js_length_8abf5 w.2.1 mb_J0_length_8abf5 rfl hL.1.1 h2 (by rw [xcv_cats]; exact hcat) hR hc hH.2 rfl (kk H locs lr hL hH hlo)
theorem xG_char (C : xC s0 a0 D t) (M : xMx p s m meth c s0 y cc nL ret) (hy : y.cls = RX8) (w : jdW s0 a v L f) (hZ : vk_R RX8 63 tx a s0) {d : Nat} (hR : d + 5 ≤ R.frames ∧ 80 * (d + 5) ≤ R.locals) {cells slots pc : Nat} (hc : cells ≤ R.cells ∧ slots ≤ R.slots) {ls : List (Option Value)} {st : List Value} {S : xS} {i q k : Nat} (hi : i < L) (hq : ls[q]? = some (some (.int (nI i)))) (h1 : decode cc pc = .ok (.ldc 63, 2)) (hk : (∃ z : Fin 4, (z : Nat) = q ∧ decode cc (pc + 2) = .ok (.iload_n z, 1) ∧ k = 1) ∨ (decode cc (pc + 2) = .ok (.iload q, 2) ∧ k = 2)) (h2 : decode cc (pc + 2 + k) = .ok (.invokevirtual 70, 3)) (hcat : (st.map fun v => v.category).sum ≤ 8) {x : Int32} (hx0 : ((f i &&& 255).toUInt32 % 65536).toInt32 = x) (kk : xG p l e R s m args below meth c Q s0 D t b nL cells slots (pc + 2 + k + 3) ls (.int x :: st) S) : xG p l e R s m args below meth c Q s0 D t b nL cells slots pc ls st S := by
  subst hx0
  have M0 := M
  obtain ⟨hx, hb, hml, hr, hlk, hown, hnm, hW⟩ := M
  intro H locs lr hL hH hlo
  refine va_ldcS hx hb (by rw [← hy]; exact hown) (hZ.warm hW) h1 ?_
  have go : W p l e R s m args below meth c H locs cells slots Q (F0 m (pc + 2 + k) lr (.int (nI i) :: .ref a :: st.map (xcv b s0.heap.size))) :=
    jd_V C M0 (jd_char (l := l) C w hi d) coJ0_charAt_5068e (by decide) (by rw [hy]; exact jl_70) ji_charAt_5068e js_charAt_5068e w.2.1 mb_J0_charAt_5068e rfl hL.1.1 h2 (by rw [xcv_cats]; exact hcat) hR hc hH.2 rfl (kk H locs lr hL hH hlo)
  rcases hk with ⟨z, hz, hd, rfl⟩ | ⟨hd, rfl⟩
  · exact lv_iload_n hx hb hd hz (hL.at hq) go
  · exact lv_iload hx hb hd (hL.at hq) go
end WK
