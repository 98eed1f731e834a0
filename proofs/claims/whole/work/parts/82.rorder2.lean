/-! the reference: from which sets all can be paid -/
def wO (I : Nat → Nat → Int32) (c : Nat → Int32) : Nat → Nat → Int32 := fun a k => if a = 391 ∧ k < 4096 then c k else I a k
theorem wO_o (I : Nat → Nat → Int32) (c : Nat → Int32) {a : Nat} (h : a ≠ 391) (k : Nat) : wO I c a k = I a k := by simp [wO, h]
theorem wO_c (I : Nat → Nat → Int32) (c : Nat → Int32) {k : Nat} (h : k < 4096) : wO I c 391 k = c k := by simp [wO, h]
theorem wO_x (I : Nat → Nat → Int32) (c : Nat → Int32) {k : Nat} (h : k < 4096) (v : Int32) : xu (wO I c) 391 k v = wO I (up c k v) := by
  funext a q
  simp only [xu, wO, up]
  by_cases ha : a = 391
  · subst ha
    by_cases hq : q = k
    · subst hq; simp [h]
    · simp [hq]
  · simp [ha]
theorem wO_id (I : Nat → Nat → Int32) : wO I (I 391) = I := by
  funext a k
  simp only [wO]
  split
  · rename_i h; rw [h.1]
  · rfl
abbrev oI (I : Nat → Nat → Int32) (c : Nat → Int32) (I1 : Nat → Nat → Int32) : Prop := I1 = wO I c ∨ I1 = rPl (wO I c)
theorem oI.x {I I1 : Nat → Nat → Int32} {c : Nat → Int32} (h : oI I c I1) {k : Nat} (hk : k < 4096) (v : Int32) : oI I (up c k v) (xu I1 391 k v) := by
  rcases h with rfl | rfl
  · exact Or.inl (wO_x I c hk v)
  · exact Or.inr (by rw [rPl_x _ (by decide), wO_x I c hk v])
theorem oI.rd {I I1 : Nat → Nat → Int32} {c : Nat → Int32} (h : oI I c I1) {k : Nat} (hk : k < 4096) (e : Int32) (W : Nat → Nat → Int32) : wR (wE I1 e) 1 W 391 k = c k := by
  rw [wR_o _ _ _ (by decide), wE_o _ _ (by decide)]
  rcases h with rfl | rfl
  · exact wO_c I c hk
  · rw [rPl_o (by decide)]; exact wO_c I c hk
theorem oI.n {I I1 : Nat → Nat → Int32} {c : Nat → Int32} (h : oI I c I1) (e : Int32) (W : Nat → Nat → Int32) : wR (wE I1 e) 1 W 378 0 = I 378 0 := (fr378 h e W).trans (wO_o I c (by decide) 0)
theorem vR_O (I : Nat → Nat → Int32) (c : Nat → Int32) (b : Nat) : vR (wO I c) b = vR I b := vR_of (fun a k h1 h2 => wO_o I c (by omega) k) b
theorem oI.l {I I1 : Nat → Nat → Int32} {c : Nat → Int32} (h : oI I c I1) {L : Nat → (Nat → Int64) → Int64} (hL : LwR I L) : LwR (wO I c) L := hL.of (fun a h1 h2 => funext (fun k => wO_o I c (by omega) k))
theorem k_cpO {E : xCl} {ex : Bool} {I I1 W : Nat → Nat → Int32} {c : Nat → Int32} {e : Int32} {J : Nat → Nat → Int64} {P : Nat → Nat → Nat} (hP : Pok P) {n : Nat} (hv : Vok (vR I 0) n) (hk : Tok (vR I 0) n) {S : Nat} (hS31 : S < 2 ^ 31) (hp : Pt I) (hI1 : oI I c I1) (hfx : FX (vR I 0) W) {L : Nat → (Nat → Int64) → Int64} (hL : LwR I L) (h7 : L7 L) {i : Nat} (hi : i < n) (w r : Int32) (h1 : rCP (vR I 0) L n w S i → r = 1) (h0 : ¬ rCP (vR I 0) L n w S i → r = 0) (d : Nat) : ∃ I2 e' J' W', oI I c I2 ∧ xEx E ex (d + 7) yX11_canPay [.ref 347, .int (nI S), .int (nI i), .int w] (SH, wR (wE I1 e) 1 W, J, P) (some (.int r)) (SH, wR (wE I2 e') 1 W', J', P) ∧ JokR J J' ∧ FX (vR I 0) W' := by
  have hw := vR_O I c 0
  obtain ⟨e9, J9, W9, g1, g2, g3⟩ := k_rcanPay (E := E) (ex := ex) (I := wO I c) (e := e) (J := J) hP (n := n) (by rw [hw]; exact hv) hS31 (fun j hj => by rw [wO_o _ _ (by decide)]; exact hp j hj) hI1 (by rw [hw]; exact hfx) (by rw [hw]; exact hk) (hI1.l hL) h7 hi w r (by rw [hw]; exact h1) (by rw [hw]; exact h0) d
  rw [hw] at g3
  exact ⟨_, e9, J9, W9, Or.inr rfl, g1, g2, g3⟩
theorem or2_gt {S i : Nat} (h : S.testBit i = false) : S < S ||| 2 ^ i := by
  have h1 : S ≤ S ||| 2 ^ i := Nat.left_le_or
  rcases Nat.lt_or_ge S (S ||| 2 ^ i) with h2 | h2
  · exact h2
  · have e : S ||| 2 ^ i = S := Nat.le_antisymm h2 h1
    have := or2_at S i
    rw [e, h] at this; exact absurd this (by decide)
set_option maxHeartbeats 1000000 in
theorem e_ord {E : xCl} {ex : Bool} {I I1 W : Nat → Nat → Int32} {c : Nat → Int32} {e1 : Int32} {J1 : Nat → Nat → Int64} {P : Nat → Nat → Nat} (hP : Pok P) {n : Nat} (hv : Vok (vR I 0) n) {S : Nat} (hS : S < 4096) (hI1 : oI I c I1) (h1 : c S = 1) {A : Nat} {w : Int32} {x : Int32} (d : Nat) {Q : Option Value → xS → Prop} (K : ∀ y, xR (xEx E ex (d + 7)) ex none yX11_layOrder cX11_layOrder none 110 [some (.ref 347), some (.int (nI A)), some (.int w), some (.int (nI S)), y] [] (SH, wR (wE I1 e1) 1 W, J1, P) Q) : xR (xEx E ex (d + 7)) ex none yX11_layOrder cX11_layOrder none 38 [some (.ref 347), some (.int (nI A)), some (.int w), some (.int (nI S)), some (.int x)] [] (SH, wR (wE I1 e1) 1 W, J1, P) Q := by
  have h378 : I 378 0 = nI n := hv.2.1
  refine r_iload dX11_layOrder_38 rfl ?_
  refine r_aload_n dX11_layOrder_40 rfl ?_
  refine r_getR dX11_layOrder_41 flX11_106 sh_347 (by decide) rfl (pf_347_55 hP) ?_
  refine r_iconst (v := 0) dX11_layOrder_44 (by decide) ?_
  refine r_ialv dX11_layOrder_45 sh_378 ix2_0 ((congrArg (wR (wE I1 e1) 1 W 378) (show (0 : Int32).toNatClampNeg = 0 from rfl)).trans ((hI1.n e1 W).trans h378)) ?_
  refine r_ic_ge 110 dX11_layOrder_46 (by decide) (fun c46 => ?_) (fun c46 => ?_)
  · exact K _
  · refine r_aload_n dX11_layOrder_49 rfl ?_
    refine r_getR dX11_layOrder_50 flX11_145 sh_347 (by decide) rfl (pf_347_72 hP) ?_
    refine r_iload_n dX11_layOrder_53 rfl ?_
    refine r_zalv dX11_layOrder_54 sh_391 (vp_in_nI (by omega) (by omega)) ((congrArg (wR (wE I1 e1) 1 W 391) (nI_clamp (n := S) (by omega))).trans (hI1.rd hS e1 W)) ?_
    refine r_if_ne 110 dX11_layOrder_55 (by decide) (fun c55 => ?_) (fun c55 => ?_)
    · exact K _
    · exact absurd (h1.symm.trans c55) (by decide)
set_option maxHeartbeats 4000000 in
theorem l_ord1 {E : xCl} {ex : Bool} {I : Nat → Nat → Int32} {J : Nat → Nat → Int64} {P : Nat → Nat → Nat} (hP : Pok P) {n : Nat} (hv : Vok (vR I 0) n) (hk : Tok (vR I 0) n) (hp : Pt I) {L : Nat → (Nat → Int64) → Int64} (hL : LwR I L) (h7 : L7 L) {A : Nat} (hA : A < 2 ^ n) {w : Int32} {S : Nat} (hS : S < 4096) (hSA : ∀ k, S.testBit k = true → A.testBit k = true) {c : Nat → Int32} (hcS : c S = 0) (h01 : ∀ k, S < k → k < 4096 → (∀ q, k.testBit q = true → A.testBit q = true) → c k = 0 ∨ c k = 1) (d : Nat) {Q : Option Value → xS → Prop} (K : ∀ c2 I2 e2 J2 W2 y, oI I c2 I2 → FX (vR I 0) W2 → JokR J J2 → (∀ k, k ≠ S → c2 k = c k) → ((c2 S = 1 ∧ ∃ i, i < n ∧ (A.testBit i = true ∧ S.testBit i = false ∧ c (S ||| 2 ^ i) = 1 ∧ rCP (vR I 0) L n w S i)) ∨ (c2 S = 0 ∧ ∀ i, i < n → ¬ (A.testBit i = true ∧ S.testBit i = false ∧ c (S ||| 2 ^ i) = 1 ∧ rCP (vR I 0) L n w S i))) → xR (xEx E ex (d + 7)) ex none yX11_layOrder cX11_layOrder none 110 [some (.ref 347), some (.int (nI A)), some (.int w), some (.int (nI S)), y] [] (SH, wR (wE I2 e2) 1 W2, J2, P) Q) : ∀ cc j I1 e1 J1 W, j + cc = n → oI I c I1 → FX (vR I 0) W → JokR J J1 → (∀ i, i < j → ¬ (A.testBit i = true ∧ S.testBit i = false ∧ c (S ||| 2 ^ i) = 1 ∧ rCP (vR I 0) L n w S i)) → xR (xEx E ex (d + 7)) ex none yX11_layOrder cX11_layOrder none 38 [some (.ref 347), some (.int (nI A)), some (.int w), some (.int (nI S)), some (.int (nI j))] [] (SH, wR (wE I1 e1) 1 W, J1, P) Q := by
  have hn12 := hv.1
  have h378 : I 378 0 = nI n := hv.2.1
  have hA12 : A < 4096 := Nat.lt_of_lt_of_le hA (pow12 hn12)
  intro cc
  induction cc with
  | zero =>
    intro j I1 e1 J1 W hj hI1 hfx hJ hng
    refine r_iload dX11_layOrder_38 rfl ?_
    refine r_aload_n dX11_layOrder_40 rfl ?_
    refine r_getR dX11_layOrder_41 flX11_106 sh_347 (by decide) rfl (pf_347_55 hP) ?_
    refine r_iconst (v := 0) dX11_layOrder_44 (by decide) ?_
    refine r_ialv dX11_layOrder_45 sh_378 ix2_0 ((congrArg (wR (wE I1 e1) 1 W 378) (show (0 : Int32).toNatClampNeg = 0 from rfl)).trans ((hI1.n e1 W).trans h378)) ?_
    refine r_ic_ge 110 dX11_layOrder_46 (by decide) (fun c46 => ?_) (fun c46 => ?_)
    · exact K c I1 e1 J1 W _ hI1 hfx hJ (fun k _ => rfl) (Or.inr ⟨hcS, fun i hi => hng i (by omega)⟩)
    · exact absurd (nI_le (by omega) (by omega)) c46
  | succ cc ih =>
    intro j I1 e1 J1 W hj hI1 hfx hJ hng
    have hSj : S ||| 2 ^ j < 4096 := or_lt (n := 12) hS (Nat.pow_lt_pow_right (by decide) (by omega))
    refine r_iload dX11_layOrder_38 rfl ?_
    refine r_aload_n dX11_layOrder_40 rfl ?_
    refine r_getR dX11_layOrder_41 flX11_106 sh_347 (by decide) rfl (pf_347_55 hP) ?_
    refine r_iconst (v := 0) dX11_layOrder_44 (by decide) ?_
    refine r_ialv dX11_layOrder_45 sh_378 ix2_0 ((congrArg (wR (wE I1 e1) 1 W 378) (show (0 : Int32).toNatClampNeg = 0 from rfl)).trans ((hI1.n e1 W).trans h378)) ?_
    refine r_ic_ge 110 dX11_layOrder_46 (by decide) (fun c46 => ?_) (fun c46 => ?_)
    · exact absurd c46 (nI_ge (by omega) (by omega))
    · refine r_aload_n dX11_layOrder_49 rfl ?_
      refine r_getR dX11_layOrder_50 flX11_145 sh_347 (by decide) rfl (pf_347_72 hP) ?_
      refine r_iload_n dX11_layOrder_53 rfl ?_
      refine r_zalv dX11_layOrder_54 sh_391 (vp_in_nI (by omega) (by omega)) ((congrArg (wR (wE I1 e1) 1 W 391) (nI_clamp (n := S) (by omega))).trans (hI1.rd hS e1 W)) ?_
      refine r_if_ne 110 dX11_layOrder_55 (by decide) (fun c55 => ?_) (fun c55 => ?_)
      · exact absurd hcS c55
      · refine r_iload_n dX11_layOrder_58 rfl ?_
        refine r_iload dX11_layOrder_59 rfl ?_
        by_cases h61 : (nI A >>> (nI j &&& 31)) &&& 1 = 1
        · refine r_cS2i dX11_layOrder_61 slX11_485 (Nat.le_of_ble_eq_true rfl) (k_isOf_t h61 (d + 6)) ?_
          have b61 := (bz_1 (by omega) (by omega)).mp h61
          refine r_if_eq 104 dX11_layOrder_64 (by decide) (fun c64 => ?_) (fun c64 => ?_)
          · exact absurd c64 (by decide)
          · refine r_iload_n dX11_layOrder_67 rfl ?_
            refine r_iload dX11_layOrder_68 rfl ?_
            by_cases h70 : (nI S >>> (nI j &&& 31)) &&& 1 = 1
            · refine r_cS2i dX11_layOrder_70 slX11_485 (Nat.le_of_ble_eq_true rfl) (k_isOf_t h70 (d + 6)) ?_
              have b70 := (bz_1 (by omega) (by omega)).mp h70
              refine r_if_ne 104 dX11_layOrder_73 (by decide) (fun c73 => ?_) (fun c73 => ?_)
              · refine r_iinc4 (v := 1) dX11_layOrder_104 (by decide) rfl ?_
                refine r_goto 38 dX11_layOrder_107 (by decide) ?_
                rw [nI_1]; exact ih (j + 1) I1 e1 J1 W (by omega) hI1 hfx hJ (fun i hi => if e : i = j then (by subst e; exact fun z => absurd b70 (by rw [z.2.1]; decide)) else hng i (by omega))
              · exact absurd c73 (by decide)
            · refine r_cS2i dX11_layOrder_70 slX11_485 (Nat.le_of_ble_eq_true rfl) (k_isOf_f h70 (d + 6)) ?_
              have b70 : ¬ S.testBit j = true := fun z => h70 ((bz_1 (by omega) (by omega)).mpr z)
              refine r_if_ne 104 dX11_layOrder_73 (by decide) (fun c73 => ?_) (fun c73 => ?_)
              · exact absurd c73 (by decide)
              · refine r_aload_n dX11_layOrder_76 rfl ?_
                refine r_getR dX11_layOrder_77 flX11_145 sh_347 (by decide) rfl (pf_347_72 hP) ?_
                refine r_iload_n dX11_layOrder_80 rfl ?_
                refine r_iconst (v := 1) dX11_layOrder_81 (by decide) ?_
                refine r_iload dX11_layOrder_82 rfl ?_
                refine r_ishl dX11_layOrder_84 ?_
                refine r_ior dX11_layOrder_85 ?_
                refine r_zalv dX11_layOrder_86 sh_391 (show vp_in (nI S ||| (1 <<< (nI j &&& 31))) 4096 from by rw [bz_shl j (by omega), bz_or]; exact vp_in_nI hSj (by decide)) ((congrArg (wR (wE I1 e1) 1 W 391) (show (nI S ||| (1 <<< (nI j &&& 31))).toNatClampNeg = S ||| 2 ^ j from by rw [bz_shl j (by omega), bz_or]; exact nI_clamp (by omega))).trans (hI1.rd hSj e1 W)) ?_
                refine r_if_eq 104 dX11_layOrder_87 (by decide) (fun c87 => ?_) (fun c87 => ?_)
                · refine r_iinc4 (v := 1) dX11_layOrder_104 (by decide) rfl ?_
                  refine r_goto 38 dX11_layOrder_107 (by decide) ?_
                  rw [nI_1]; exact ih (j + 1) I1 e1 J1 W (by omega) hI1 hfx hJ (fun i hi => if e : i = j then (by subst e; exact fun z => absurd c87 (by rw [z.2.2.1]; decide)) else hng i (by omega))
                · refine r_aload_n dX11_layOrder_90 rfl ?_
                  refine r_getR dX11_layOrder_91 flX11_145 sh_347 (by decide) rfl (pf_347_72 hP) ?_
                  refine r_iload_n dX11_layOrder_94 rfl ?_
                  refine r_aload_n dX11_layOrder_95 rfl ?_
                  refine r_iload_n dX11_layOrder_96 rfl ?_
                  refine r_iload dX11_layOrder_97 rfl ?_
                  refine r_iload_n dX11_layOrder_99 rfl ?_
                  have hcj : c (S ||| 2 ^ j) = 1 := (h01 (S ||| 2 ^ j) (by have := or2_gt (S := S) (i := j) (by cases hz : S.testBit j <;> simp_all); omega) hSj (fun k hk => by rw [or2_bit] at hk; cases hz : S.testBit k <;> simp_all)).resolve_left c87
                  by_cases hc : rCP (vR I 0) L n w S j
                  · obtain ⟨I9, e9, J9, W9, h9, hx9, hj9, hf9⟩ := k_cpO (E := E) (ex := ex) (e := e1) (J := J1) hP hv hk (S := S) (by omega) hp hI1 hfx hL h7 (i := j) (by omega) w 1 (fun _ => rfl) (fun z => absurd hc z) d
                    refine r_cV3i dX11_layOrder_100 vlX11_491 sh_347 (Nat.le_of_ble_eq_true rfl) hx9 ?_
                    refine r_zasv dX11_layOrder_103 sh_391 (vp_in_nI (by omega) (by omega)) (show _ = wR (wE (xu I9 391 S 1) e9) 1 W9 from (wR_xo _ _ _ (by decide) _ _).trans (congrArg (fun z => wR z _ _) ((wE_c _ _ _ (fun z => absurd z.1 (by decide))).trans (by rw [nI_clamp (n := S) (by omega)]; rfl)))) ?_
                    refine r_iinc4 (v := 1) dX11_layOrder_104 (by decide) rfl ?_
                    refine r_goto 38 dX11_layOrder_107 (by decide) ?_
                    rw [nI_1]; exact e_ord hP hv hS (c := up c S 1) (h9.x hS 1) (up_s _ _ _) d (fun y => K _ _ _ _ _ y (h9.x hS 1) hf9 (hJ.tr hj9) (fun k hk => by simp [up, hk]) (Or.inl ⟨up_s _ _ _, j, by omega, b61, by cases hz : S.testBit j <;> simp_all, hcj, hc⟩))
                  · obtain ⟨I9, e9, J9, W9, h9, hx9, hj9, hf9⟩ := k_cpO (E := E) (ex := ex) (e := e1) (J := J1) hP hv hk (S := S) (by omega) hp hI1 hfx hL h7 (i := j) (by omega) w 0 (fun z => absurd z hc) (fun _ => rfl) d
                    refine r_cV3i dX11_layOrder_100 vlX11_491 sh_347 (Nat.le_of_ble_eq_true rfl) hx9 ?_
                    refine r_zasv dX11_layOrder_103 sh_391 (vp_in_nI (by omega) (by omega)) (show _ = wR (wE (xu I9 391 S 0) e9) 1 W9 from (wR_xo _ _ _ (by decide) _ _).trans (congrArg (fun z => wR z _ _) ((wE_c _ _ _ (fun z => absurd z.1 (by decide))).trans (by rw [nI_clamp (n := S) (by omega)]; rfl)))) ?_
                    refine r_iinc4 (v := 1) dX11_layOrder_104 (by decide) rfl ?_
                    refine r_goto 38 dX11_layOrder_107 (by decide) ?_
                    rw [nI_1]; have h9x := h9.x hS 0
                    rw [show up c S 0 = c from by funext k; simp only [up]; split; (rename_i e; rw [e]; exact hcS.symm); rfl] at h9x
                    exact ih (j + 1) _ _ _ _ (by omega) h9x hf9 (hJ.tr hj9) (fun i hi => if e : i = j then (by subst e; exact fun z => hc z.2.2.2) else hng i (by omega))
        · refine r_cS2i dX11_layOrder_61 slX11_485 (Nat.le_of_ble_eq_true rfl) (k_isOf_f h61 (d + 6)) ?_
          have b61 : ¬ A.testBit j = true := fun z => h61 ((bz_1 (by omega) (by omega)).mpr z)
          refine r_if_eq 104 dX11_layOrder_64 (by decide) (fun c64 => ?_) (fun c64 => ?_)
          · refine r_iinc4 (v := 1) dX11_layOrder_104 (by decide) rfl ?_
            refine r_goto 38 dX11_layOrder_107 (by decide) ?_
            rw [nI_1]; exact ih (j + 1) I1 e1 J1 W (by omega) hI1 hfx hJ (fun i hi => if e : i = j then (by subst e; exact fun z => b61 z.1) else hng i (by omega))
          · exact absurd c64 (by decide)
