/-! wordKind -/
section WK
variable {l : Launch} {s0 : State} {a0 : Array Value} {D : va_G} {t : Nat → ClassId} {b : Nat} {a v : Nat} {f : Nat → Int32} {tx : String}
theorem cWk_t {T : Nat → Int32} {s p n m : Nat} {w : List Nat} {ws : List (List Nat)} (h : w.length = n ∧ cEq T s p w) : cWk T s p n (w :: ws) m = nI m := by rw [cWk, if_pos h]
theorem cWk_f {T : Nat → Int32} {s p n m : Nat} {w : List Nat} {ws : List (List Nat)} (h : ¬ (w.length = n ∧ cEq T s p w)) : cWk T s p n (w :: ws) m = cWk T s p n ws (m + 1) := by rw [cWk, if_neg h]
set_option maxHeartbeats 2000000 in
theorem k_wordKind (C : xC s0 a0 D t) (hw : jdW s0 a v 117 f) (hf : ∀ i, i < 117 → ((f i &&& 255).toUInt32 % 65536).toInt32 = nI (WB.getD i 0)) (hZ : vk_R RX8 63 tx a s0) {I : Nat → Nat → Int32} {J : Nat → Nat → Int64} {P : Nat → Nat → Nat} (hP : Pok P) {s p n : Nat} (hs : s ≤ 700) (hp : p ≤ s) (hn : n ≤ 700) {i k v' : Int32} {ex : Bool} (d : Nat) : xM l s0 D t b ex (d + 7) yX8_wordKind [.ref 28, .int (nI n)] (SH, wK I (nI s) i (nI p) k v', J, P) (some (.int (cWk (I 1) s p n cWords 0))) (SH, wK I (nI s) i (nI p) k v', J, P) := by
  refine x_body cqX8_wordKind (by simp [lg_sl, Value.category]) (fun h => by cases h) rfl [some (.ref 28), some (.int (nI n)), none, none, none, none, none] rfl ?_
  intro pr e st m args below meth c M
  have hK := xG_W (p := pr) (l := l) (e := e) (R := xrm (d + 7) 0 0) (args := args) (below := below) (Q := (MQ below (fun _ _ oc u => oc = .returned ((some (Value.int (cWk (I 1) s p n cWords 0))).map (xcv b s0.heap.size)) ∧ xH s0 D t b (SH, wK I (nI s) i (nI p) k v', J, P) u.heap) args st 0 0 (fun q => s0.heap.size ≤ q))) (b := b) C M (X := none) (call := fun _ _ _ _ _ => False) (d := d) (fun L xs h => by cases h) (fun _ _ _ _ _ h => h.elim) ⟨by show d + 1 ≤ d + 7; omega, by show 80 * (d + 1) ≤ 80 * (d + 7); omega⟩ (cells := 0) (slots := 0) (Nat.zero_le _) (Nat.zero_le _)
  have e1 : ∀ q, wK I (nI s) i (nI p) k v' 1 q = I 1 q := fun q => wK_o _ _ _ _ _ _ (by decide) q
  have outer : ∀ (ws : List (List Nat)) (mm o : Nat) (y6 : Option Value), (∀ w ∈ ws, ∀ c ∈ w, c ≠ 32 ∧ c < 128) → o ≤ 117 → mm ≤ 100 → mm + ws.length ≤ 100 → WB.drop o = wcat ws → cWk (I 1) s p n ws mm = cWk (I 1) s p n cWords 0 → xG pr l e (xrm (d + 7) 0 0) st m args below meth c (MQ below (fun _ _ oc u => oc = .returned ((some (Value.int (cWk (I 1) s p n cWords 0))).map (xcv b s0.heap.size)) ∧ xH s0 D t b (SH, wK I (nI s) i (nI p) k v', J, P) u.heap) args st 0 0 (fun q => s0.heap.size ≤ q)) s0 D t b 7 0 0 10 [some (.ref 28), some (.int (nI n)), some (.int (nI mm)), some (.int (0)), some (.int (1)), some (.int (nI o)), y6] [] (SH, wK I (nI s) i (nI p) k v', J, P) := by
    intro ws
    induction ws with
    | nil =>
      intro mm o y6 hws ho hmm hml hd hv
      have hj : WB.length ≤ o := List.drop_eq_nil_iff.mp hd
      rw [WB_len] at hj
      refine g_iload hK dX8_wordKind_10 rfl ?_
      refine xG_len C M rfl hw hZ (d := d) ⟨by show d + 3 ≤ d + 7; omega, by show 80 * (d + 3) ≤ 80 * (d + 7); omega⟩ ⟨Nat.zero_le _, Nat.zero_le _⟩ dX8_wordKind_12 dX8_wordKind_14 (by simp [Value.category]) ?_
      refine g_ic_ge hK 114 dX8_wordKind_17 (by decide) (fun _ => ?_) (fun h => absurd (nI_le (by omega) (by omega)) h)
      refine g_iconst hK (v := -1) dX8_wordKind_114 (by decide) ?_
      rw [← hv, cWk]
      exact xG_iret M dX8_wordKind_115 rfl rfl
    | cons w ws ih =>
      intro mm o y6 hws ho hmm hml hd hv
      have hlen : o + w.length + 1 + (wcat ws).length = 117 := by
        have := congrArg List.length hd
        rw [List.length_drop, WB_len, wcat, List.length_append, List.length_cons] at this
        omega
      have hall : ∀ j, WB.getD (o + j) 0 = (w ++ 32 :: wcat ws).getD j 0 := fun j => by
        rw [← wcat, ← hd, List.getD_eq_getElem?_getD, List.getD_eq_getElem?_getD, List.getElem?_drop]
      have hwb : ∀ j, j < w.length → WB.getD (o + j) 0 = w.getD j 0 := fun j hj => by
        rw [hall, List.getD_eq_getElem?_getD, List.getD_eq_getElem?_getD, List.getElem?_append_left hj]
      have hsp : WB.getD (o + w.length) 0 = 32 := by
        rw [hall, List.getD_eq_getElem?_getD, List.getElem?_append_right (Nat.le_refl _), Nat.sub_self]; rfl
      have hnext : WB.drop (o + w.length + 1) = wcat ws := by
        rw [Nat.add_assoc, ← List.drop_drop, hd, wcat, ← List.drop_drop, List.drop_left]; rfl
      have atEnd : ∀ (jj vv : Int32) (y7 : Option Value), cWk (I 1) s p n (w :: ws) mm = cWk (I 1) s p n ws (mm + 1) → xG pr l e (xrm (d + 7) 0 0) st m args below meth c (MQ below (fun _ _ oc u => oc = .returned ((some (Value.int (cWk (I 1) s p n cWords 0))).map (xcv b s0.heap.size)) ∧ xH s0 D t b (SH, wK I (nI s) i (nI p) k v', J, P) u.heap) args st 0 0 (fun q => s0.heap.size ≤ q)) s0 D t b 7 0 0 100 [some (.ref 28), some (.int (nI n)), some (.int (nI mm)), some (.int (jj)), some (.int (vv)), some (.int (nI (o + w.length))), y7] [] (SH, wK I (nI s) i (nI p) k v', J, P) := by
        intro jj vv y7 hc
        refine g_iinc2 hK (v := 1) dX8_wordKind_100 (by decide) rfl ?_
        refine g_iconst hK (v := 0) dX8_wordKind_103 (by decide) ?_
        refine g_istore_n3 hK dX8_wordKind_104 rfl ?_
        refine g_iconst hK (v := 1) dX8_wordKind_105 (by decide) ?_
        refine g_istore4 hK dX8_wordKind_106 rfl ?_
        refine g_iinc5 hK (v := 1) dX8_wordKind_108 (by decide) rfl ?_
        refine g_goto hK 10 dX8_wordKind_111 (by decide) ?_
        rw [nI_1, nI_1]
        exact ih (mm + 1) (o + w.length + 1) _ (fun w' h => hws w' (List.mem_cons_of_mem _ h)) (by omega) (by rw [List.length_cons] at hml; omega) (by rw [List.length_cons] at hml; omega) hnext (hc.symm.trans hv)
      have inner : ∀ (u : List Nat) (j : Nat) (vv : Int32) (y7 : Option Value), w.drop j = u → j ≤ w.length → ((vv = 1 ∧ j ≤ n ∧ (cEq (I 1) s p w ↔ cEq (I 1) s (p + j) u)) ∨ (vv = 0 ∧ ¬ (w.length = n ∧ cEq (I 1) s p w))) → xG pr l e (xrm (d + 7) 0 0) st m args below meth c (MQ below (fun _ _ oc u => oc = .returned ((some (Value.int (cWk (I 1) s p n cWords 0))).map (xcv b s0.heap.size)) ∧ xH s0 D t b (SH, wK I (nI s) i (nI p) k v', J, P) u.heap) args st 0 0 (fun q => s0.heap.size ≤ q)) s0 D t b 7 0 0 10 [some (.ref 28), some (.int (nI n)), some (.int (nI mm)), some (.int (nI j)), some (.int (vv)), some (.int (nI (o + j))), y7] [] (SH, wK I (nI s) i (nI p) k v', J, P) := by
        intro u
        induction u with
        | nil =>
          intro j vv y7 hdj hj hcase
          have hj2 : w.length ≤ j := List.drop_eq_nil_iff.mp hdj
          have hj3 : j = w.length := by omega
          subst hj3
          refine g_iload hK dX8_wordKind_10 rfl ?_
          refine xG_len C M rfl hw hZ (d := d) ⟨by show d + 3 ≤ d + 7; omega, by show 80 * (d + 3) ≤ 80 * (d + 7); omega⟩ ⟨Nat.zero_le _, Nat.zero_le _⟩ dX8_wordKind_12 dX8_wordKind_14 (by simp [Value.category]) ?_
          refine g_ic_ge hK 114 dX8_wordKind_17 (by decide) (fun h => absurd h (nI_ge (by omega) (by omega))) (fun _ => ?_)
          refine xG_char C M rfl hw hZ (d := d) ⟨by show d + 5 ≤ d + 7; omega, by show 80 * (d + 5) ≤ 80 * (d + 7); omega⟩ ⟨Nat.zero_le _, Nat.zero_le _⟩ (i := o + w.length) (q := 5) (k := 2) (by omega) rfl dX8_wordKind_20 (Or.inr ⟨dX8_wordKind_22, rfl⟩) dX8_wordKind_24 (by simp) (x := nI 32) (by rw [hf _ (by omega), hsp]) ?_
          refine g_istore6 hK dX8_wordKind_27 rfl ?_
          refine g_iload hK dX8_wordKind_29 rfl ?_
          refine g_bipush hK (v := 32) dX8_wordKind_31 (by decide) ?_
          refine g_ic_eq hK 88 dX8_wordKind_33 (by decide) (fun _ => ?_) (fun h => absurd rfl h)
          refine g_iload hK dX8_wordKind_88 rfl ?_
          rcases hcase with ⟨rfl, hjn, hiff⟩ | ⟨rfl, hno⟩
          · refine g_if_eq hK 100 dX8_wordKind_90 (by decide) (fun z => absurd z (by decide)) (fun _ => ?_)
            refine g_iload_n hK dX8_wordKind_93 rfl ?_
            refine g_iload_n hK dX8_wordKind_94 rfl ?_
            refine g_ic_ne hK 100 dX8_wordKind_95 (by decide) (fun h => ?_) (fun h => ?_)
            · exact atEnd _ _ _ (cWk_f (fun z => h (by rw [z.1])))
            · have hwn : w.length = n := (nI_eq (by omega) (by omega)).mp h
              refine g_iload_n hK dX8_wordKind_98 rfl ?_
              rw [← hv, cWk_t ⟨hwn, hiff.mpr (show cEq (I 1) s (p + w.length) [] from trivial)⟩]
              exact xG_iret M dX8_wordKind_99 rfl rfl
          · refine g_if_eq hK 100 dX8_wordKind_90 (by decide) (fun _ => ?_) (fun z => absurd rfl z)
            exact atEnd _ _ _ (cWk_f hno)
        | cons x u ihu =>
          intro j vv y7 hdj hj hcase
          obtain ⟨z1, z2, z3⟩ := drop_c (d := 0) hdj
          have hx := hws w List.mem_cons_self x (by
            have : x ∈ w.drop j := by rw [hdj]; exact List.mem_cons_self
            exact List.mem_of_mem_drop this)
          have no : ∀ (w4 : Int32) (y8 : Option Value), ¬ (w.length = n ∧ cEq (I 1) s p w) → xG pr l e (xrm (d + 7) 0 0) st m args below meth c (MQ below (fun _ _ oc u => oc = .returned ((some (Value.int (cWk (I 1) s p n cWords 0))).map (xcv b s0.heap.size)) ∧ xH s0 D t b (SH, wK I (nI s) i (nI p) k v', J, P) u.heap) args st 0 0 (fun q => s0.heap.size ≤ q)) s0 D t b 7 0 0 79 [some (.ref 28), some (.int (nI n)), some (.int (nI mm)), some (.int (nI j)), some (.int (w4)), some (.int (nI (o + j))), y8] [] (SH, wK I (nI s) i (nI p) k v', J, P) := by
            intro w4 y8 hno
            refine g_iconst hK (v := 0) dX8_wordKind_79 (by decide) ?_
            refine g_istore4 hK dX8_wordKind_80 rfl ?_
            refine g_iinc3 hK (v := 1) dX8_wordKind_82 (by decide) rfl ?_
            refine g_goto hK 108 dX8_wordKind_85 (by decide) ?_
            refine g_iinc5 hK (v := 1) dX8_wordKind_108 (by decide) rfl ?_
            refine g_goto hK 10 dX8_wordKind_111 (by decide) ?_
            rw [nI_1, nI_1, Nat.add_assoc]
            exact ihu (j + 1) 0 _ z3 z1 (Or.inr ⟨rfl, hno⟩)
          refine g_iload hK dX8_wordKind_10 rfl ?_
          refine xG_len C M rfl hw hZ (d := d) ⟨by show d + 3 ≤ d + 7; omega, by show 80 * (d + 3) ≤ 80 * (d + 7); omega⟩ ⟨Nat.zero_le _, Nat.zero_le _⟩ dX8_wordKind_12 dX8_wordKind_14 (by simp [Value.category]) ?_
          refine g_ic_ge hK 114 dX8_wordKind_17 (by decide) (fun h => absurd h (nI_ge (by omega) (by omega))) (fun _ => ?_)
          refine xG_char C M rfl hw hZ (d := d) ⟨by show d + 5 ≤ d + 7; omega, by show 80 * (d + 5) ≤ 80 * (d + 7); omega⟩ ⟨Nat.zero_le _, Nat.zero_le _⟩ (i := o + j) (q := 5) (k := 2) (by omega) rfl dX8_wordKind_20 (Or.inr ⟨dX8_wordKind_22, rfl⟩) dX8_wordKind_24 (by simp) (x := nI x) (by rw [hf _ (by omega), hwb j z1, z2]) ?_
          refine g_istore6 hK dX8_wordKind_27 rfl ?_
          refine g_iload hK dX8_wordKind_29 rfl ?_
          refine g_bipush hK (v := 32) dX8_wordKind_31 (by decide) ?_
          refine g_ic_eq hK 88 dX8_wordKind_33 (by decide) (fun h => absurd ((nI_eq (by omega) (by omega)).mp (show nI x = nI 32 from h)) hx.1) (fun _ => ?_)
          refine g_iload hK dX8_wordKind_36 rfl ?_
          rcases hcase with ⟨rfl, hjn, hiff⟩ | ⟨rfl, hno⟩
          · refine g_if_eq hK 79 dX8_wordKind_38 (by decide) (fun z => absurd z (by decide)) (fun _ => ?_)
            refine g_iload_n hK dX8_wordKind_41 rfl ?_
            refine g_iload_n hK dX8_wordKind_42 rfl ?_
            refine g_ic_ge hK 79 dX8_wordKind_43 (by decide) (fun h => ?_) (fun h => ?_)
            · have hjn2 : ¬ j < n := fun z => absurd h (nI_ge z (by omega))
              exact no _ _ (fun z => by have := z.1; omega)
            · have hjn2 : j < n := Classical.byContradiction fun z => h (nI_le (by omega) (by omega))
              refine g_aload_n hK dX8_wordKind_46 rfl ?_
              refine g_getI hK dX8_wordKind_47 flX8_34 sh_28 (by decide) rfl ?_
              rw [wK_3]
              refine g_iload_n hK dX8_wordKind_50 rfl ?_
              refine g_iadd hK dX8_wordKind_51 ?_
              refine g_aload_n hK dX8_wordKind_52 rfl ?_
              refine g_getI hK dX8_wordKind_53 flX8_24 sh_28 (by decide) rfl ?_
              rw [wK_1, nI_add]
              refine g_ic_ge hK 79 dX8_wordKind_56 (by decide) (fun h => ?_) (fun h => ?_)
              · exact no _ _ (fun z => absurd h (nI_ge (hiff.mp z.2).1 (by omega)))
              · have hlt : p + j < s := Classical.byContradiction fun z => h (nI_le (by omega) (by omega))
                refine g_aload_n hK dX8_wordKind_59 rfl ?_
                refine g_getR hK dX8_wordKind_60 flX8_9 sh_28 (by decide) rfl (pf_28_0 hP) ?_
                refine g_aload_n hK dX8_wordKind_63 rfl ?_
                refine g_getI hK dX8_wordKind_64 flX8_34 sh_28 (by decide) rfl ?_
                rw [wK_3]
                refine g_iload_n hK dX8_wordKind_67 rfl ?_
                refine g_iadd hK dX8_wordKind_68 ?_
                rw [nI_add]
                refine g_bal hK dX8_wordKind_69 sh_1 (vp_in_nI (by omega) (by omega)) ?_
                rw [nI_clamp (by omega), e1]
                refine g_iload hK dX8_wordKind_70 rfl ?_
                refine g_ic_ne hK 79 dX8_wordKind_72 (by decide) (fun h2 => ?_) (fun h2 => ?_)
                · exact no _ _ (fun z => h2 (hiff.mp z.2).2.1)
                · refine g_iconst hK (v := 1) dX8_wordKind_75 (by decide) ?_
                  refine g_goto hK 80 dX8_wordKind_76 (by decide) ?_
                  refine g_istore4 hK dX8_wordKind_80 rfl ?_
                  refine g_iinc3 hK (v := 1) dX8_wordKind_82 (by decide) rfl ?_
                  refine g_goto hK 108 dX8_wordKind_85 (by decide) ?_
                  refine g_iinc5 hK (v := 1) dX8_wordKind_108 (by decide) rfl ?_
                  refine g_goto hK 10 dX8_wordKind_111 (by decide) ?_
                  rw [nI_1, nI_1, Nat.add_assoc]
                  exact ihu (j + 1) 1 _ z3 z1 (Or.inl ⟨rfl, by omega, ⟨fun z => by have := (hiff.mp z).2.2; rwa [Nat.add_assoc] at this, fun z => hiff.mpr ⟨hlt, h2, by rw [Nat.add_assoc]; exact z⟩⟩⟩)
          · refine g_if_eq hK 79 dX8_wordKind_38 (by decide) (fun _ => ?_) (fun z => absurd rfl z)
            exact no _ _ hno
      exact inner w 0 1 _ (List.drop_zero) (Nat.zero_le _) (Or.inl ⟨rfl, Nat.zero_le _, Iff.rfl⟩)
  refine g_iconst hK (v := 0) dX8_wordKind_0 (by decide) ?_
  refine g_istore_n2 hK dX8_wordKind_1 rfl ?_
  refine g_iconst hK (v := 0) dX8_wordKind_2 (by decide) ?_
  refine g_istore_n3 hK dX8_wordKind_3 rfl ?_
  refine g_iconst hK (v := 1) dX8_wordKind_4 (by decide) ?_
  refine g_istore4 hK dX8_wordKind_5 rfl ?_
  refine g_iconst hK (v := 0) dX8_wordKind_7 (by decide) ?_
  refine g_istore5 hK dX8_wordKind_8 rfl ?_
  exact outer cWords 0 0 none cWords_ok (by omega) (by omega) (by decide) rfl rfl
end WK
/-- what runs outside the abstract machine: wordKind -/
def EWd : xCl := fun y vs S r S' => ∃ (I : Nat → Nat → Int32) (J : Nat → Nat → Int64) (P : Nat → Nat → Nat) (s p n : Nat) (i k v : Int32), Pok P ∧ s ≤ 700 ∧ p ≤ s ∧ n ≤ 700 ∧ y = yX8_wordKind ∧ vs = [.ref 28, .int (nI n)] ∧ S = (SH, wK I (nI s) i (nI p) k v, J, P) ∧ r = some (.int (cWk (I 1) s p n cWords 0)) ∧ S' = (SH, wK I (nI s) i (nI p) k v, J, P)
theorem EWd_E : EW EWd := fun I J P s p n i k v hP hs hp hn => ⟨I, J, P, s, p, n, i, k, v, hP, hs, hp, hn, rfl, rfl, rfl, rfl, rfl⟩
theorem EWd_s : ∀ y vs S r S', EWd y vs S r S' → S.1 <+: S'.1 := by
  rintro y vs S r S' ⟨I, J, P, s, p, n, i, k, v, -, -, -, -, -, -, rfl, -, rfl⟩
  exact List.prefix_refl _
