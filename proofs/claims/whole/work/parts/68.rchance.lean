/-! the reference: years by chance -/
theorem vR_pl (I : Nat → Nat → Int32) (b : Nat) : vR (rPl I) b = vR I b := by
  funext f k
  simp only [vR, rPl_o (I := I) (show (376 : Nat) ≠ 347 by decide), rPl_o (I := I) (show (377 : Nat) ≠ 347 by decide), rPl_o (I := I) (show (378 : Nat) ≠ 347 by decide), rPl_o (I := I) (show (379 : Nat) ≠ 347 by decide), rPl_o (I := I) (show (380 : Nat) ≠ 347 by decide), rPl_o (I := I) (show (381 : Nat) ≠ 347 by decide), rPl_o (I := I) (show (382 : Nat) ≠ 347 by decide), rPl_o (I := I) (show (383 : Nat) ≠ 347 by decide), rPl_o (I := I) (show (384 : Nat) ≠ 347 by decide), rPl_o (I := I) (show (385 : Nat) ≠ 347 by decide), rPl_o (I := I) (show (386 : Nat) ≠ 347 by decide), rPl_o (I := I) (show (387 : Nat) ≠ 347 by decide), rPl_o (I := I) (show (388 : Nat) ≠ 347 by decide), rPl_o (I := I) (show (389 : Nat) ≠ 347 by decide), rPl_o (I := I) (show (390 : Nat) ≠ 347 by decide)]
theorem rPl_pl (I : Nat → Nat → Int32) : rPl (rPl I) = rPl I := by
  funext a k
  by_cases h : a = 347
  · subst h
    by_cases h1 : k = 69
    · subst h1; rw [rPl_69, rPl_69]
    · by_cases h2 : k = 70
      · subst h2; rw [rPl_70, rPl_70]
      · by_cases h3 : k = 71
        · subst h3; rw [rPl_71, rPl_71]
        · rw [rPl_k h1 h2 h3]
  · rw [rPl_o h]
/-- laid anew, behind whatever was tried before -/
theorem k_lay3 {E : xCl} {ex : Bool} {I I1 W : Nat → Nat → Int32} {e : Int32} {J : Nat → Nat → Int64} {P : Nat → Nat → Nat} (hP : Pok P) (hp : Pt I) (hI1 : I1 = I ∨ I1 = rPl I) (hfx : FX (vR I 0) W) (d : Nat) : xEx E ex (d + 2) yX11_layTried [.ref 347] (SH, wR (wE I1 e) 1 W, J, P) none (SH, wR (wE (rPl I) e) 1 (vR I 0), J, P) := by
  have hW : ∀ k, k < 12 → W 3 k = I 379 k ∧ W 4 k = I 380 k ∧ W 7 k = I 382 k ∧ W 8 k = I 381 k := fun k _ => ⟨hfx 3 k (by simp), hfx 4 k (by simp), hfx 7 k (by simp), hfx 8 k (by simp)⟩
  rcases hI1 with rfl | rfl
  · have h := k_lay (E := E) (ex := ex) (I := I1) (W := W) (e := e) (J := J) hP (fun j hj => hp j (by omega)) d
    rw [wR_ext (wE (rPl I1) e) 1 (lT_v W I1 (fun j hj => hp j (by omega)) hW)] at h
    exact h
  · have h := k_lay (E := E) (ex := ex) (I := rPl I) (W := W) (e := e) (J := J) hP (fun j hj => by rw [rPl_o (by decide)]; exact hp j (by omega)) d
    rw [wR_ext (wE (rPl (rPl I)) e) 1 (lT_v W (rPl I) (fun j hj => by rw [rPl_o (by decide)]; exact hp j (by omega)) (fun k hk => by simp only [rPl_o (I := I) (show (379 : Nat) ≠ 347 by decide), rPl_o (I := I) (show (380 : Nat) ≠ 347 by decide), rPl_o (I := I) (show (381 : Nat) ≠ 347 by decide), rPl_o (I := I) (show (382 : Nat) ≠ 347 by decide)]; exact hW k hk)), vR_pl, rPl_pl] at h
    exact h
theorem raw1 {I : Nat → Nat → Int32} (hp : Pt I) (e : Int32) : wR (wE I e) 1 (vR I 1) = wE I e := by
  have h := wR_vR (wE I e) 1 (fun j hj => by rw [wE_o _ _ (by decide)]; exact hp _ (by omega))
  rw [vR_E] at h; exact h
theorem FX.v1 (I : Nat → Nat → Int32) : FX (vR I 0) (vR I 1) := fun f k h => by
  rcases h with rfl | rfl | rfl | rfl <;> rfl
def JX (J J' : Nat → Nat → Int64) : Prop := ∀ a k, a ≠ 374 → a ≠ 375 → ¬ (a = 347 ∧ k = 68) → J' a k = J a k
theorem JX.rf (J : Nat → Nat → Int64) : JX J J := fun _ _ _ _ _ => rfl
theorem JX.tr {J J1 J2 : Nat → Nat → Int64} (h1 : JX J J1) (h2 : JokR J1 J2) : JX J J2 := fun a k h h' h'' => (h2 a k h h').trans (h1 a k h h' h'')
theorem JX.xu {J J1 : Nat → Nat → Int64} (h1 : JX J J1) (v : Int64) : JX J (xu J1 347 68 v) := fun a k h h' h'' => by
  show (if a = 347 ∧ k = 68 then v else J1 a k) = J a k
  rw [if_neg h'']; exact h1 a k h h' h''
def rNb (x : Int64) (z : Int32) : Int32 := (sDn x / 65536 - sDn x / 65536 / z.toInt64 * z.toInt64).toInt32
theorem sDn_n (x : Int64) : ∃ a : Nat, a < 2 ^ 31 ∧ sDn x = lN a := by
  refine ⟨(x * 1103515245 + 12345).toBitVec.toNat % 2 ^ 31, Nat.mod_lt _ (by decide), ?_⟩
  unfold sDn
  apply Int64.toBitVec_inj.mp
  rw [Int64.toBitVec_and]
  apply BitVec.eq_of_toNat_eq
  rw [BitVec.toNat_and]
  generalize (x * 1103515245 + 12345).toBitVec.toNat = y
  rw [show (Int64.toBitVec 2147483647).toNat = 2 ^ 31 - 1 from by decide, Nat.and_two_pow_sub_one_eq_mod]
  show _ = (BitVec.ofNat 64 (y % 2 ^ 31)).toNat
  rw [BitVec.toNat_ofNat, Nat.mod_eq_of_lt (Nat.lt_of_lt_of_le (Nat.mod_lt y (by decide)) (by decide))]
theorem rNb_in (x : Int64) {n : Nat} (h0 : 0 < n) (hn : n ≤ 12) : ∃ q, q < n ∧ rNb x (nI n) = nI q := by
  obtain ⟨a, ha, e⟩ := sDn_n x
  refine ⟨a / 65536 % n, Nat.mod_lt _ h0, ?_⟩
  have ha' : a < 2 ^ 63 := Nat.lt_of_lt_of_le ha (by decide)
  rw [rNb, e, nI_l (by omega), show (65536 : Int64) = lN 65536 from rfl, pk_lDiv ha' (by decide) (by decide), pk_lRem (Nat.lt_of_le_of_lt (Nat.div_le_self _ _) ha') h0 (by omega), lN_i]
theorem rNb_10 (x : Int64) : rNb x 10 = sNb x := rfl
section RJ
variable {call : xCl} {ex : Bool} {X : Option (Nat × (Nat → Int32))} {y : MethodName} {cc : ByteArray} {ret : Option FieldType} {pc : Nat} {ls : List (Option Value)} {st : List Value} {Q : Option Value → xS → Prop} {sh : List (xK × Nat)} {I : Nat → Nat → Int32} {J : Nat → Nat → Int64} {P : Nat → Nat → Nat}
theorem r_getJv {idx ci k : Nat} {ty : FieldType} {N a : Nat} {v : Int64} (hd : decode cc pc = .ok (.getfield idx, 3)) (hf : xFl y.cls idx ci k ty) (hs : sh[a]? = some (.inl ci, N)) (hk : k < N) (hz : xfk ci k = 1) (hv : J a k = v) (kk : xR call ex X y cc ret (pc + 3) ls (.long v :: st) (sh, I, J, P) Q) : xR call ex X y cc ret pc ls (.ref a :: st) (sh, I, J, P) Q := by subst hv; exact r_getJ hd hf hs hk hz kk
end RJ
set_option maxHeartbeats 1000000 in
theorem k_number1 {E : xCl} {ex : Bool} {I : Nat → Nat → Int32} {J : Nat → Nat → Int64} {P : Nat → Nat → Nat} {z : Int32} (hz : ¬ z.toInt64 = 0) (d : Nat) : xEx E ex (d + 1) yX11_number1 [.ref 347, .int z] (SH, I, J, P) (some (.int (rNb (J 347 68) z))) (SH, I, xu J 347 68 (sDn (J 347 68)), P) := by
  refine x_enter cqX11_number1 [some (.ref 347), some (.int z)] rfl (by simp [lg_sl, Value.category]) ?_
  refine r_aload_n dX11_number1_0 rfl ?_
  refine r_aload_n dX11_number1_1 rfl ?_
  refine r_getJ dX11_number1_2 flX11_393 sh_347 (by decide) rfl ?_
  refine r_ldc2_w dX11_number1_5 kcX11_537 ?_
  refine r_lmul dX11_number1_8 ?_
  refine r_ldc2_w dX11_number1_9 kcX11_539 ?_
  refine r_ladd dX11_number1_12 ?_
  refine r_ldc2_w dX11_number1_13 kcX11_541 ?_
  refine r_land dX11_number1_16 ?_
  refine r_putJ dX11_number1_17 flX11_393 ⟨_, _, _, rfl, Or.inl rfl⟩ sh_347 (by decide) rfl rfl ?_
  refine r_aload_n dX11_number1_20 rfl ?_
  refine r_getJv dX11_number1_21 flX11_393 sh_347 (by decide) rfl (xu_s _ _ _ _) ?_
  refine r_ldc2_w dX11_number1_24 kcX11_543 ?_
  refine r_ldiv dX11_number1_27 (by decide) ?_
  refine r_iload_n dX11_number1_28 rfl ?_
  refine r_i2l dX11_number1_29 ?_
  refine r_lrem dX11_number1_30 hz ?_
  refine r_l2i dX11_number1_31 ?_
  exact r_iret dX11_number1_32 rfl rfl rfl rfl
theorem Tok.bf {V : Nat → Nat → Int32} {n : Nat} (h : Tok V n) (x : Int64) : Tok (sBfV V x) n := by
  unfold sBfV; split
  · exact h.xu (by decide)
  · split
    · split
      · exact h
      · exact h.fr _ _
    · exact h
theorem FX.bf {V W : Nat → Nat → Int32} (h : FX V W) (x : Int64) : FX V (sBfV W x) := by
  unfold sBfV; split
  · exact h.xu (by decide)
  · split
    · split
      · exact h
      · exact h.fr _ _
    · exact h
theorem Tok.cy {V : Nat → Nat → Int32} {n : Nat} (h : Tok V n) (L : Nat → (Nat → Int64) → Int64) (T : Nat → Nat → Int32) (m : Nat) (x : Int64) : ∀ j, Tok (sChY V L n T m x j).2 n
  | 0 => h
  | j + 1 => ((Tok.cy h L T m x j).bf _).go L T m (-1)
theorem FX.cy {V W : Nat → Nat → Int32} (h : FX V W) (L : Nat → (Nat → Int64) → Int64) (n : Nat) (T : Nat → Nat → Int32) (m : Nat) (x : Int64) : ∀ j, FX V (sChY W L n T m x j).2
  | 0 => h
  | j + 1 => ((FX.cy h L n T m x j).bf _).go L n T m (-1)
theorem sFr_f {V : Nat → Nat → Int32} {i w : Int32} (h : ¬ sTh V i) : sFr V i w = V := if_neg h
set_option maxHeartbeats 1000000 in
theorem t_chgo {E : xCl} {ex : Bool} {I U : Nat → Nat → Int32} {e1 : Int32} {J1 : Nat → Nat → Int64} {P : Nat → Nat → Nat} (hP : Pok P) {n : Nat} (hvU : Vok U n) (hkU : Tok U n) {L : Nat → (Nat → Int64) → Int64} (hL : LwR I L) (h7 : L7 L) {m : Nat} (hm : m ≤ 8) (hc : I 347 14 = nI m) (hg : ∀ k, vp_in (I 363 k) 6) {x1 u r ii : Int32} {hd : Int64} {kn j : Nat} {y9 y10 : Option Value} (d : Nat) {Q : Option Value → xS → Prop} (k : ∀ e2 J2, JokR J1 J2 → xR (xEx E ex (d + 8)) ex none yX11_chance cX11_chance (some .int) 64 [some (.ref 347), some (.int x1), some (.int (nI kn)), some (.int u), some (.long hd), none, some (.int r), some (.int ii), some (.int (nI (j + 1))), y9, y10] [] (SH, wR (wE (rPl I) e2) 1 (sGo U L n (rT I) m (-1)), J2, P) Q) : xR (xEx E ex (d + 8)) ex none yX11_chance cX11_chance (some .int) 143 [some (.ref 347), some (.int x1), some (.int (nI kn)), some (.int u), some (.long hd), none, some (.int r), some (.int ii), some (.int (nI j)), y9, y10] [] (SH, wR (wE (rPl I) e1) 1 U, J1, P) Q := by
  refine r_aload_n dX11_chance_143 rfl ?_
  refine r_iconst (v := 1) dX11_chance_144 (by decide) ?_
  obtain ⟨e145, J145, hx145, hj145⟩ := k_goOn (E := E) (ex := ex) (I := rPl I) (V := U) (e := e1) (J := J1) hP (b := 1) (by decide) hvU hkU hL.pl h7 hm ((rPl_k (by decide) (by decide) (by decide)).trans hc) (fun k => by rw [rPl_o (by decide)]; exact hg k) (lo := -1) ⟨fun _ => by decide, fun _ => rPl_69 I⟩ ⟨fun _ => by decide, fun _ => rPl_71 I⟩ ⟨fun _ => by decide, fun _ => rPl_70 I⟩ d
  rw [rPl_T] at hx145
  have hj145 := (JokR.rf J1).tr hj145
  refine r_cV1v dX11_chance_145 vlX11_479 sh_347 (Nat.le_of_ble_eq_true rfl) hx145 ?_
  refine r_iinc8 (v := 1) dX11_chance_148 (by decide) rfl ?_
  refine r_goto 64 dX11_chance_151 (by decide) ?_
  rw [nI_1]; exact k _ _ hj145
set_option maxHeartbeats 4000000 in
theorem t_chturn {E : xCl} {ex : Bool} {I V : Nat → Nat → Int32} {e1 : Int32} {J1 : Nat → Nat → Int64} {P : Nat → Nat → Nat} (hP : Pok P) {n : Nat} (hv : Vok V n) (hk : Tok V n) {L : Nat → (Nat → Int64) → Int64} (hL : LwR I L) (h7 : L7 L) {m : Nat} (hm : m ≤ 8) (hc : I 347 14 = nI m) (hg : ∀ k, vp_in (I 363 k) 6) {x1 u r ii : Int32} {hd x : Int64} (hx68 : J1 347 68 = x) {kn j : Nat} (hj : j < kn) (hkn : kn ≤ 30) {y9 y10 : Option Value} (d : Nat) {Q : Option Value → xS → Prop} (k : ∀ e2 J2 y9 y10, JX J1 J2 → J2 347 68 = sBfL V x → xR (xEx E ex (d + 8)) ex none yX11_chance cX11_chance (some .int) 64 [some (.ref 347), some (.int x1), some (.int (nI kn)), some (.int u), some (.long hd), none, some (.int r), some (.int ii), some (.int (nI (j + 1))), y9, y10] [] (SH, wR (wE (rPl I) e2) 1 (sGo (sBfV V x) L n (rT I) m (-1)), J2, P) Q) : xR (xEx E ex (d + 8)) ex none yX11_chance cX11_chance (some .int) 64 [some (.ref 347), some (.int x1), some (.int (nI kn)), some (.int u), some (.long hd), none, some (.int r), some (.int ii), some (.int (nI j)), y9, y10] [] (SH, wR (wE (rPl I) e1) 1 V, J1, P) Q := by
  refine r_iload dX11_chance_64 rfl ?_
  refine r_iload_n dX11_chance_66 rfl ?_
  refine r_ic_ge 154 dX11_chance_67 (by decide) (fun c67 => ?_) (fun c67 => ?_)
  · exact absurd c67 (nI_ge hj (by omega))
  · refine r_aload_n dX11_chance_70 rfl ?_
    refine r_bipush (v := 10) dX11_chance_71 (by decide) ?_
    have z73 := k_number1 (E := E) (ex := ex) (I := wR (wE (rPl I) e1) 1 V) (J := J1) (P := P) (z := 10) (by decide) (d + 7)
    rw [hx68, rNb_10] at z73
    refine r_cV1i dX11_chance_73 vlX11_545 sh_347 (Nat.le_of_ble_eq_true rfl) z73 ?_
    refine r_istore9 dX11_chance_76 rfl ?_
    refine r_aload_n dX11_chance_78 rfl ?_
    refine r_getR dX11_chance_79 flX11_142 sh_347 (by decide) rfl (pf_347_67 hP) ?_
    refine r_iconst (v := 1) dX11_chance_82 (by decide) ?_
    refine r_dup2 dX11_chance_83 rfl rfl ?_
    refine r_ialv dX11_chance_84 sh_390 ix2_1 (rS14_1 _ _) ?_
    refine r_iload dX11_chance_85 rfl ?_
    refine r_if_ne 94 dX11_chance_87 (by decide) (fun c87 => ?_) (fun c87 => ?_)
    · refine r_iconst (v := 0) dX11_chance_94 (by decide) ?_
      refine r_iadd dX11_chance_95 ?_
      refine r_iasv dX11_chance_96 sh_390 ix2_1 (show _ = wR (wE (rPl I) e1) 1 V from (rU14_1 _ _ _).trans (by rw [Int32.add_zero, xu_sf])) ?_
      refine r_iload dX11_chance_97 rfl ?_
      refine r_iconst (v := 1) dX11_chance_99 (by decide) ?_
      refine r_ic_ne 143 dX11_chance_100 (by decide) (fun c100 => ?_) (fun c100 => ?_)
      · have eV : sBfV V x = V := by rw [sBfV, if_neg c87, if_neg c100]
        have eL : sBfL V x = sDn x := by rw [sBfL, if_neg c87, if_neg c100]
        refine t_chgo (U := V) hP (by rw [← eV]; exact hv.bf x) (by rw [← eV]; exact hk.bf x) hL h7 hm hc hg d (fun e2 J2 h2 => ?_)
        rw [← eV]; exact k _ _ _ _ (JX.tr ((JX.rf J1).xu _) h2) ((h2 347 68 (by decide) (by decide)).trans ((xu_s _ _ _ _).trans eL.symm))
      · refine r_aload_n dX11_chance_103 rfl ?_
        refine r_getR dX11_chance_104 flX11_106 sh_347 (by decide) rfl (pf_347_55 hP) ?_
        refine r_iconst (v := 1) dX11_chance_107 (by decide) ?_
        refine r_ialv dX11_chance_108 sh_378 ix2_1 (rS13_1 _ _) ?_
        refine r_if_le 143 dX11_chance_109 (by decide) (fun c109 => ?_) (fun c109 => ?_)
        · have eV : sBfV V x = V := by rw [sBfV, if_neg c87, if_pos c100, if_pos c109]
          have eL : sBfL V x = sDn x := by rw [sBfL, if_neg c87, if_pos c100, if_pos c109]
          refine t_chgo (U := V) hP (by rw [← eV]; exact hv.bf x) (by rw [← eV]; exact hk.bf x) hL h7 hm hc hg d (fun e2 J2 h2 => ?_)
          rw [← eV]; exact k _ _ _ _ (JX.tr ((JX.rf J1).xu _) h2) ((h2 347 68 (by decide) (by decide)).trans ((xu_s _ _ _ _).trans eL.symm))
        · refine r_aload_n dX11_chance_112 rfl ?_
          refine r_aload_n dX11_chance_113 rfl ?_
          refine r_getR dX11_chance_114 flX11_106 sh_347 (by decide) rfl (pf_347_55 hP) ?_
          refine r_iconst (v := 1) dX11_chance_117 (by decide) ?_
          refine r_ialv dX11_chance_118 sh_378 ix2_1 (rS13_1 _ _) ?_
          have z119 := k_number1 (E := E) (ex := ex) (I := wR (wE (rPl I) e1) 1 V) (J := xu J1 347 68 (sDn x)) (P := P) (z := V 13 0) (by rw [hv.2.1, nI_l (by have := hv.1; omega)]; exact fun z => c109 (by rw [hv.2.1, (lN_eq (a := n) (b := 0) (by have := hv.1; omega) (by decide)).mp z]; decide)) (d + 7)
          rw [xu_s] at z119
          have hq : ∃ q, q < n ∧ sIx V x = nI q := by rw [show sIx V x = rNb (sDn x) (nI n) from by rw [← hv.2.1]; rfl]; exact rNb_in (sDn x) (Nat.pos_of_ne_zero (fun z => c109 (by rw [hv.2.1, z]; decide))) hv.1
          have hin : vp_in (sIx V x) 12 := by obtain ⟨q, h1, h2⟩ := hq; rw [h2]; exact hv.i h1
          have hth : sTh V (sIx V x) ↔ V 9 (sIx V x).toNatClampNeg = 0 := by obtain ⟨q, h1, h2⟩ := hq; rw [h2, hv.c h1]; exact hv.t h1
          refine r_cV1i dX11_chance_119 vlX11_545 sh_347 (Nat.le_of_ble_eq_true rfl) (show xEx E ex (d + 8) _ _ _ (some (.int (sIx V x))) _ from z119) ?_
          refine r_istore10 dX11_chance_122 rfl ?_
          refine r_aload_n dX11_chance_124 rfl ?_
          refine r_iconst (v := 1) dX11_chance_125 (by decide) ?_
          refine r_iload dX11_chance_126 rfl ?_
          by_cases h128 : V 9 (sIx V x).toNatClampNeg = 0
          · refine r_cV2i dX11_chance_128 vlX11_418 sh_347 (Nat.le_of_ble_eq_true rfl) (k_rTh_t (b := 1) hP (by decide) hin h128 (d + 7)) ?_
            refine r_if_eq 143 dX11_chance_131 (by decide) (fun c131 => ?_) (fun c131 => ?_)
            · exact absurd c131 (by decide)
            · refine r_aload_n dX11_chance_134 rfl ?_
              refine r_iconst (v := 1) dX11_chance_135 (by decide) ?_
              refine r_iload dX11_chance_136 rfl ?_
              refine r_bipush (v := 30) dX11_chance_138 (by decide) ?_
              refine r_cV3v dX11_chance_140 vlX11_449 sh_347 (Nat.le_of_ble_eq_true rfl) (k_fraysBy (b := 1) hP (by decide) hin 30 (hth.mpr h128) (d + 7)) ?_
              have eV : sBfV V x = sFr V (sIx V x) 30 := by rw [sBfV, if_neg c87, if_pos c100, if_neg c109]
              have eL : sBfL V x = sDn (sDn x) := by rw [sBfL, if_neg c87, if_pos c100, if_neg c109]
              refine t_chgo (U := sFr V (sIx V x) 30) hP (by rw [← eV]; exact hv.bf x) (by rw [← eV]; exact hk.bf x) hL h7 hm hc hg d (fun e2 J2 h2 => ?_)
              rw [← eV]; exact k _ _ _ _ (JX.tr (((JX.rf J1).xu _).xu _) h2) ((h2 347 68 (by decide) (by decide)).trans ((xu_s _ _ _ _).trans eL.symm))
          · refine r_cV2i dX11_chance_128 vlX11_418 sh_347 (Nat.le_of_ble_eq_true rfl) (k_rTh_f (b := 1) hP (by decide) hin h128 (d + 7)) ?_
            refine r_if_eq 143 dX11_chance_131 (by decide) (fun c131 => ?_) (fun c131 => ?_)
            · have eV : sBfV V x = V := by rw [sBfV, if_neg c87, if_pos c100, if_neg c109, sFr_f (fun z => h128 (hth.mp z))]
              have eL : sBfL V x = sDn (sDn x) := by rw [sBfL, if_neg c87, if_pos c100, if_neg c109]
              refine t_chgo (U := V) hP (by rw [← eV]; exact hv.bf x) (by rw [← eV]; exact hk.bf x) hL h7 hm hc hg d (fun e2 J2 h2 => ?_)
              rw [← eV]; exact k _ _ _ _ (JX.tr (((JX.rf J1).xu _).xu _) h2) ((h2 347 68 (by decide) (by decide)).trans ((xu_s _ _ _ _).trans eL.symm))
            · exact absurd c131 (by decide)
    · refine r_iconst (v := 5) dX11_chance_90 (by decide) ?_
      refine r_goto 95 dX11_chance_91 (by decide) ?_
      refine r_iadd dX11_chance_95 ?_
      refine r_iasv dX11_chance_96 sh_390 ix2_1 (show _ = wR (wE (rPl I) e1) 1 (xu V 14 0 (V 14 0 + 5)) from (rU14_1 _ _ _).trans (by rw [])) ?_
      refine r_iload dX11_chance_97 rfl ?_
      refine r_iconst (v := 1) dX11_chance_99 (by decide) ?_
      refine r_ic_ne 143 dX11_chance_100 (by decide) (fun c100 => ?_) (fun c100 => ?_)
      · have eV : sBfV V x = xu V 14 0 (V 14 0 + 5) := by rw [sBfV, if_pos c87]
        have eL : sBfL V x = sDn x := by rw [sBfL, if_pos c87]
        refine t_chgo (U := xu V 14 0 (V 14 0 + 5)) hP (by rw [← eV]; exact hv.bf x) (by rw [← eV]; exact hk.bf x) hL h7 hm hc hg d (fun e2 J2 h2 => ?_)
        rw [← eV]; exact k _ _ _ _ (JX.tr ((JX.rf J1).xu _) h2) ((h2 347 68 (by decide) (by decide)).trans ((xu_s _ _ _ _).trans eL.symm))
      · exact absurd (c87.symm.trans c100) (by decide)
