/-! standsAtPlace -/
theorem drop_c {α : Type} {w u : List α} {x d : α} {j : Nat} (h : w.drop j = x :: u) : j < w.length ∧ w.getD j d = x ∧ w.drop (j + 1) = u := by
  have hl : j < w.length := by
    rcases Nat.lt_or_ge j w.length with z | z
    · exact z
    · rw [List.drop_eq_nil_of_le z] at h; cases h
  rw [List.drop_eq_getElem_cons hl] at h
  injection h with h1 h2
  exact ⟨hl, by rw [List.getD_eq_getElem?_getD, List.getElem?_eq_getElem hl, Option.getD_some]; exact h1, h2⟩
noncomputable def cEb (T : Nat → Int32) (s p : Nat) (w : List Nat) : Int32 := @ite _ (cEq T s p w) (Classical.propDecidable _) 1 0
theorem cEb_t {T : Nat → Int32} {s p : Nat} {w : List Nat} (h : cEq T s p w) : cEb T s p w = 1 := by unfold cEb; rw [if_pos h]
theorem cEb_f {T : Nat → Int32} {s p : Nat} {w : List Nat} (h : ¬ cEq T s p w) : cEb T s p w = 0 := by unfold cEb; rw [if_neg h]
theorem cEb_c {T : Nat → Int32} {s p x : Nat} {w : List Nat} (h1 : p < s) (h2 : T p = nI x) : cEb T s p (x :: w) = cEb T s (p + 1) w := by
  by_cases c : cEq T s (p + 1) w
  · rw [cEb_t c, cEb_t (show cEq T s p (x :: w) from ⟨h1, h2, c⟩)]
  · rw [cEb_f c, cEb_f (fun z : cEq T s p (x :: w) => c z.2.2)]
section SP
variable {l : Launch} {s0 : State} {a0 : Array Value} {D : va_G} {t : Nat → ClassId} {b : Nat} {a v : Nat} {f : Nat → Int32} {tx : String}
theorem k_stands (C : xC s0 a0 D t) (hw : jdW s0 a v 117 f) (hf : ∀ i, i < 117 → ((f i &&& 255).toUInt32 % 65536).toInt32 = nI (WB.getD i 0)) (hZ : vk_R RX8 63 tx a s0) {I : Nat → Nat → Int32} {J : Nat → Nat → Int64} {P : Nat → Nat → Nat} (hP : Pok P) {s p : Nat} (hs : s ≤ 700) (hp : p ≤ s) {i k v' : Int32} {w : List Nat} {o : Nat} (ho : o + w.length ≤ 117) (hwb : ∀ j, j < w.length → WB.getD (o + j) 0 = w.getD j 0) {ex : Bool} (d : Nat) : xM l s0 D t b ex (d + 6) yX8_standsAtPlace [.ref 28, .int (nI o), .int (nI (o + w.length))] (SH, wK I (nI s) i (nI p) k v', J, P) (some (.int (cEb (I 1) s p w))) (SH, wK I (nI s) i (nI p) k v', J, P) := by
  refine x_body cqX8_standsAtPlace (by simp [lg_sl, Value.category]) (fun h => by cases h) rfl [some (.ref 28), some (.int (nI o)), some (.int (nI (o + w.length))), none, none] rfl ?_
  intro pr e st m args below meth c M
  have hK := xG_W (p := pr) (l := l) (e := e) (R := xrm (d + 6) 0 0) (args := args) (below := below) (Q := MQ below (fun _ _ oc u => oc = .returned ((some (Value.int (cEb (I 1) s p w))).map (xcv b s0.heap.size)) ∧ xH s0 D t b (SH, wK I (nI s) i (nI p) k v', J, P) u.heap) args st 0 0 (fun q => s0.heap.size ≤ q)) (b := b) C M (X := none) (call := fun _ _ _ _ _ => False) (d := d) (fun L xs h => by cases h) (fun _ _ _ _ _ h => h.elim) ⟨by show d + 1 ≤ d + 6; omega, by show 80 * (d + 1) ≤ 80 * (d + 6); omega⟩ (cells := 0) (slots := 0) (Nat.zero_le _) (Nat.zero_le _)
  have e1 : ∀ q, wK I (nI s) i (nI p) k v' 1 q = I 1 q := fun q => wK_o _ _ _ _ _ _ (by decide) q
  have loop : ∀ (u : List Nat) (j : Nat) (y4 : Option Value), j ≤ w.length → w.drop j = u → cEb (I 1) s (p + j) u = cEb (I 1) s p w → xG pr l e (xrm (d + 6) 0 0) st m args below meth c (MQ below (fun _ _ oc u => oc = .returned ((some (Value.int (cEb (I 1) s p w))).map (xcv b s0.heap.size)) ∧ xH s0 D t b (SH, wK I (nI s) i (nI p) k v', J, P) u.heap) args st 0 0 (fun q => s0.heap.size ≤ q)) s0 D t b 5 0 0 2 [some (.ref 28), some (.int (nI o)), some (.int (nI (o + w.length))), some (.int (nI (o + j))), y4] [] (SH, wK I (nI s) i (nI p) k v', J, P) := by
    intro u
    induction u with
    | nil =>
      intro j y4 hjl hd hv
      have hj : w.length ≤ j := List.drop_eq_nil_iff.mp hd
      refine g_iload_n hK dX8_standsAtPlace_2 rfl ?_
      refine g_iload_n hK dX8_standsAtPlace_3 rfl ?_
      refine g_ic_ge hK 55 dX8_standsAtPlace_4 (by decide) (fun _ => ?_) (fun h => absurd (nI_le (by omega) (by omega)) h)
      refine g_iconst hK (v := 1) dX8_standsAtPlace_55 (by decide) ?_
      rw [← hv, cEb_t (show cEq (I 1) s (p + j) [] from trivial)]
      exact xG_iret M dX8_standsAtPlace_56 rfl (by decide)
    | cons x u ih =>
      intro j y4 hjl hd hv
      obtain ⟨z1, z2, z3⟩ := drop_c (d := 0) hd
      refine g_iload_n hK dX8_standsAtPlace_2 rfl ?_
      refine g_iload_n hK dX8_standsAtPlace_3 rfl ?_
      refine g_ic_ge hK 55 dX8_standsAtPlace_4 (by decide) (fun h => absurd h (nI_ge (by omega) (by omega))) (fun _ => ?_)
      refine g_aload_n hK dX8_standsAtPlace_7 rfl ?_
      refine g_getI hK dX8_standsAtPlace_8 flX8_34 sh_28 (by decide) rfl ?_
      rw [wK_3]
      refine g_iload_n hK dX8_standsAtPlace_11 rfl ?_
      refine g_iadd hK dX8_standsAtPlace_12 ?_
      refine g_iload_n hK dX8_standsAtPlace_13 rfl ?_
      refine g_isub hK dX8_standsAtPlace_14 ?_
      rw [nI_add, pk_sub (by omega), show p + (o + j) - o = p + j by omega]
      refine g_istore4 hK dX8_standsAtPlace_15 rfl ?_
      refine g_iload hK dX8_standsAtPlace_17 rfl ?_
      refine g_if_lt hK 47 dX8_standsAtPlace_19 (by decide) (fun h => absurd h (nI_pos (by omega))) (fun _ => ?_)
      refine g_iload hK dX8_standsAtPlace_22 rfl ?_
      refine g_aload_n hK dX8_standsAtPlace_24 rfl ?_
      refine g_getI hK dX8_standsAtPlace_25 flX8_24 sh_28 (by decide) rfl ?_
      rw [wK_1]
      refine g_ic_ge hK 47 dX8_standsAtPlace_28 (by decide) (fun h => ?_) (fun h => ?_)
      · refine g_iconst hK (v := 0) dX8_standsAtPlace_47 (by decide) ?_
        have hn : ¬ cEq (I 1) s (p + j) (x :: u) := fun z => absurd h (nI_ge z.1 (by omega))
        rw [← hv, cEb_f hn]
        exact xG_iret M dX8_standsAtPlace_48 rfl (by decide)
      · have hlt : p + j < s := Classical.byContradiction fun z => h (nI_le (by omega) (by omega))
        refine g_aload_n hK dX8_standsAtPlace_31 rfl ?_
        refine g_getR hK dX8_standsAtPlace_32 flX8_9 sh_28 (by decide) rfl (pf_28_0 hP) ?_
        refine g_iload hK dX8_standsAtPlace_35 rfl ?_
        refine g_bal hK dX8_standsAtPlace_37 sh_1 (vp_in_nI (by omega) (by omega)) ?_
        rw [nI_clamp (by omega), e1]
        refine xG_char C M rfl hw hZ (d := d) ⟨by show d + 5 ≤ d + 6; omega, by show 80 * (d + 5) ≤ 80 * (d + 6); omega⟩ ⟨Nat.zero_le _, Nat.zero_le _⟩ (i := o + j) (q := 3) (k := 1) (by omega) rfl dX8_standsAtPlace_38 (Or.inl ⟨3, rfl, dX8_standsAtPlace_40, rfl⟩) dX8_standsAtPlace_41 (by simp [Value.category]) (x := nI x) (by rw [hf _ (by omega), hwb j z1, z2]) ?_
        refine g_ic_eq hK 49 dX8_standsAtPlace_44 (by decide) (fun h2 => ?_) (fun h2 => ?_)
        · refine g_iinc3 hK (v := 1) dX8_standsAtPlace_49 (by decide) rfl ?_
          refine g_goto hK 2 dX8_standsAtPlace_52 (by decide) ?_
          rw [nI_1, Nat.add_assoc]
          exact ih (j + 1) _ z1 z3 (by rw [← hv, cEb_c hlt h2, Nat.add_assoc])
        · refine g_iconst hK (v := 0) dX8_standsAtPlace_47 (by decide) ?_
          have hn : ¬ cEq (I 1) s (p + j) (x :: u) := fun z => h2 z.2.1
          rw [← hv, cEb_f hn]
          exact xG_iret M dX8_standsAtPlace_48 rfl (by decide)
  refine g_iload_n hK dX8_standsAtPlace_0 rfl ?_
  refine g_istore_n3 hK dX8_standsAtPlace_1 rfl ?_
  exact loop w 0 none (Nat.zero_le _) (List.drop_zero) rfl
end SP
