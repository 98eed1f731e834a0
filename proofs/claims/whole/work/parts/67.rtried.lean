/-! the reference: tried otherwise, and years by chance -/
/-- the flags of what is left out -/
def rFl (I : Nat → Nat → Int32) (w : Int32) : Nat → Nat → Int32 := xu (xu (xu (rPl I) 347 69 (if w = 0 then 1 else 0)) 347 70 (if w = 1 then 1 else 0)) 347 71 (if w = 4 then 1 else 0)
theorem rFl_o {I : Nat → Nat → Int32} {w : Int32} {a : Nat} (h : a ≠ 347) (k : Nat) : rFl I w a k = I a k := by rw [rFl, xu_f _ _ h, xu_f _ _ h, xu_f _ _ h, rPl_o h]
theorem rFl_k {I : Nat → Nat → Int32} {w : Int32} {k : Nat} (h1 : k ≠ 69) (h2 : k ≠ 70) (h3 : k ≠ 71) : rFl I w 347 k = I 347 k := by rw [rFl, xu_k _ _ _ _ h3, xu_k _ _ _ _ h2, xu_k _ _ _ _ h1, rPl_k h1 h2 h3]
theorem rFl_69 (I : Nat → Nat → Int32) (w : Int32) : rFl I w 347 69 = 0 ↔ ¬ w = 0 := by
  rw [rFl, xu_k _ _ _ _ (by decide), xu_k _ _ _ _ (by decide), xu_s]
  split <;> simp_all
theorem rFl_70 (I : Nat → Nat → Int32) (w : Int32) : rFl I w 347 70 = 0 ↔ ¬ w = 1 := by
  rw [rFl, xu_k _ _ _ _ (by decide), xu_s]
  split <;> simp_all
theorem rFl_71 (I : Nat → Nat → Int32) (w : Int32) : rFl I w 347 71 = 0 ↔ ¬ w = 4 := by
  rw [rFl, xu_s]
  split <;> simp_all
theorem rFl_T (I : Nat → Nat → Int32) (w : Int32) : rT (rFl I w) = rT I := by
  funext q k
  unfold rT
  rw [rFl_o (by decide), rFl_o (by decide), rFl_o (by decide), rFl_o (by decide)]
theorem LwR.fl {I : Nat → Nat → Int32} {L : Nat → (Nat → Int64) → Int64} (h : LwR I L) (w : Int32) : LwR (rFl I w) L := h.of (fun a h1 h2 => funext (fun k => rFl_o (by omega) k))
theorem rPl_Fl (I : Nat → Nat → Int32) (w : Int32) : rPl (rFl I w) = rPl I := by
  funext a k
  by_cases h : a = 347
  · subst h
    by_cases h1 : k = 69
    · subst h1; rw [rPl_69, rPl_69]
    · by_cases h2 : k = 70
      · subst h2; rw [rPl_70, rPl_70]
      · by_cases h3 : k = 71
        · subst h3; rw [rPl_71, rPl_71]
        · rw [rPl_k h1 h2 h3, rPl_k h1 h2 h3, rFl_k h1 h2 h3]
  · rw [rPl_o h, rPl_o h, rFl_o h]
theorem Tok.t0 {V : Nat → Nat → Int32} {n : Nat} (h : Tok V n) (w i : Int32) : Tok (sT0 V w i) n := by
  unfold sT0; split
  · split
    · exact h.xu (by decide)
    · exact h
  · split
    · exact h.xu (by decide)
    · exact h
theorem FX.t0 (V : Nat → Nat → Int32) (w i : Int32) : FX V (sT0 V w i) := by
  unfold sT0; split
  · split
    · exact (FX.rf V).xu (by decide)
    · exact FX.rf V
  · split
    · exact (FX.rf V).xu (by decide)
    · exact FX.rf V
set_option maxHeartbeats 2000000 in
theorem l_rtried {E : xCl} {ex : Bool} {I : Nat → Nat → Int32} {J : Nat → Nat → Int64} {P : Nat → Nat → Nat} (hP : Pok P) {n : Nat} {V U : Nat → Nat → Int32} (hv : Vok U n) (hk : Tok U n) (hfx : FX V U) {L : Nat → (Nat → Int64) → Int64} (hL : LwR I L) (h7 : L7 L) {m : Nat} (hm : m ≤ 8) (hc : I 347 14 = nI m) (hg : ∀ k, vp_in (I 363 k) 6) {k : Nat} (hk50 : k ≤ 50) (w i : Int32) (d : Nat) : ∀ j, j ≤ k → ∀ e1 J1, JokR J J1 → xR (xEx E ex (d + 8)) ex none yX11_tried cX11_tried (some .int) 128 [some (.ref 347), some (.int w), some (.int i), some (.int (nI k)), some (.int (nI j))] [] (SH, wR (wE (rFl I w) e1) 1 (sYl U L n (rT I) m w j), J1, P) (QT (rPl I) V J P (some (.int (sBr (sYl U L n (rT I) m w k) L n)))) := by
  refine r_for (fun j => ∀ e1 J1, JokR J J1 → xR (xEx E ex (d + 8)) ex none yX11_tried cX11_tried (some .int) 128 [some (.ref 347), some (.int w), some (.int i), some (.int (nI k)), some (.int (nI j))] [] (SH, wR (wE (rFl I w) e1) 1 (sYl U L n (rT I) m w j), J1, P) (QT (rPl I) V J P (some (.int (sBr (sYl U L n (rT I) m w k) L n))))) _ ?_ ?_
  · intro j hj ih e1 J1 hJ
    refine r_iload dX11_tried_128 rfl ?_
    refine r_iload_n dX11_tried_130 rfl ?_
    refine r_ic_ge 145 dX11_tried_131 (by decide) (fun c131 => ?_) (fun c131 => ?_)
    · exact absurd c131 (nI_ge hj (by omega))
    · refine r_aload_n dX11_tried_134 rfl ?_
      refine r_iconst (v := 1) dX11_tried_135 (by decide) ?_
      obtain ⟨e9, J9, hx9, hj9⟩ := k_goOn (E := E) (ex := ex) (I := rFl I w) (V := (sYl U L n (rT I) m w j)) (e := e1) (J := J1) hP (b := 1) (by decide) (hv.yl L (rT I) m w j) (hk.yl L (rT I) m w j) (hL.fl w) h7 hm ((rFl_k (by decide) (by decide) (by decide)).trans hc) (fun k => by rw [rFl_o (by decide)]; exact hg k) (lo := w) (rFl_69 I w) (rFl_71 I w) (rFl_70 I w) d
      rw [rFl_T] at hx9
      have hj9 := hJ.tr hj9
      refine r_cV1v dX11_tried_136 vlX11_479 sh_347 (Nat.le_of_ble_eq_true rfl) hx9 ?_
      refine r_iinc4 (v := 1) dX11_tried_139 (by decide) rfl ?_
      refine r_goto 128 dX11_tried_142 (by decide) ?_
      rw [nI_1]; exact ih _ _ hj9
  · intro e1 J1 hJ
    refine r_iload dX11_tried_128 rfl ?_
    refine r_iload_n dX11_tried_130 rfl ?_
    refine r_ic_ge 145 dX11_tried_131 (by decide) (fun c131 => ?_) (fun c131 => ?_)
    · refine r_aload_n dX11_tried_145 rfl ?_
      refine r_cV0v dX11_tried_146 vlX11_397 sh_347 (Nat.le_of_ble_eq_true rfl) (by have z := k_plainTried (E := E) (ex := ex) (I := rFl I w) (V := (sYl U L n (rT I) m w k)) (e := e1) (J := J1) (P := P) (b := 1) (d + 7); rw [rPl_Fl] at z; exact z) ?_
      refine r_aload_n dX11_tried_149 rfl ?_
      refine r_iconst (v := 1) dX11_tried_150 (by decide) ?_
      obtain ⟨e8, J8, hx8, hj8⟩ := k_rbridge (E := E) (ex := ex) (I := rPl (rFl I w)) (V := (sYl U L n (rT I) m w k)) (e := e1) (J := J1) hP (b := 1) (by decide) (hv.yl L (rT I) m w k) (hk.yl L (rT I) m w k) (hL.fl w).pl h7 (d + 2)
      rw [rPl_Fl] at hx8
      refine r_cV1i dX11_tried_151 vlX11_443 sh_347 (Nat.le_of_ble_eq_true rfl) hx8 ?_
      exact r_iretq dX11_tried_154 rfl rfl (QT.mk (hJ.tr hj8) (hfx.yl L n (rT I) m w k))
    · exact absurd (nI_le (Nat.le_refl _) (by omega)) c131
set_option maxHeartbeats 4000000 in
theorem l_rtried2 {E : xCl} {ex : Bool} {I : Nat → Nat → Int32} {e : Int32} {J : Nat → Nat → Int64} {P : Nat → Nat → Nat} (hP : Pok P) {n : Nat} {V : Nat → Nat → Int32} (hv : Vok V n) (hk : Tok V n) {L : Nat → (Nat → Int64) → Int64} (hL : LwR I L) (h7 : L7 L) {m : Nat} (hm : m ≤ 8) (hc : I 347 14 = nI m) (hg : ∀ k, vp_in (I 363 k) 6) {k : Nat} (hk50 : k ≤ 50) {w i : Int32} (hi : if w = 2 then sSt V i else i = 0) (d : Nat) : xR (xEx E ex (d + 8)) ex none yX11_tried cX11_tried (some .int) 50 [some (.ref 347), some (.int w), some (.int i), some (.int (nI k)), none] [] (SH, wR (wE (rPl I) e) 1 V, J, P) (QT (rPl I) V J P (some (.int (sBr (sYl (sT0 V w i) L n (rT I) m w k) L n)))) := by
  refine r_aload_n dX11_tried_50 rfl ?_
  refine r_iload_n dX11_tried_51 rfl ?_
  refine r_if_ne 59 dX11_tried_52 (by decide) (fun c52 => ?_) (fun c52 => ?_)
  · refine r_iconst (v := 0) dX11_tried_59 (by decide) ?_
    refine r_putIv dX11_tried_60 flX11_409 ⟨_, _, _, rfl, Or.inl rfl⟩ sh_347 (by decide) rfl rfl rfl ((wR_xo _ _ _ (by decide) _ _).trans (congrArg (fun z => wR z _ _) (wE_c _ _ _ (by decide)))) ?_
    refine r_aload_n dX11_tried_63 rfl ?_
    refine r_iload_n dX11_tried_64 rfl ?_
    refine r_iconst (v := 1) dX11_tried_65 (by decide) ?_
    refine r_ic_ne 73 dX11_tried_66 (by decide) (fun c66 => ?_) (fun c66 => ?_)
    · refine r_iconst (v := 0) dX11_tried_73 (by decide) ?_
      refine r_putIv dX11_tried_74 flX11_412 ⟨_, _, _, rfl, Or.inl rfl⟩ sh_347 (by decide) rfl rfl rfl ((wR_xo _ _ _ (by decide) _ _).trans (congrArg (fun z => wR z _ _) (wE_c _ _ _ (by decide)))) ?_
      refine r_aload_n dX11_tried_77 rfl ?_
      refine r_iload_n dX11_tried_78 rfl ?_
      refine r_iconst (v := 4) dX11_tried_79 (by decide) ?_
      refine r_ic_ne 87 dX11_tried_80 (by decide) (fun c80 => ?_) (fun c80 => ?_)
      · refine r_iconst (v := 0) dX11_tried_87 (by decide) ?_
        refine r_putIv dX11_tried_88 flX11_415 ⟨_, _, _, rfl, Or.inl rfl⟩ sh_347 (by decide) rfl rfl rfl ((wR_xo _ _ _ (by decide) _ _).trans (congrArg (fun z => wR z _ _) (wE_c _ _ _ (by decide)))) ?_
        refine r_iload_n dX11_tried_91 rfl ?_
        refine r_iconst (v := 2) dX11_tried_92 (by decide) ?_
        refine r_ic_ne 115 dX11_tried_93 (by decide) (fun c93 => ?_) (fun c93 => ?_)
        · refine r_iload_n dX11_tried_115 rfl ?_
          refine r_iconst (v := 3) dX11_tried_116 (by decide) ?_
          refine r_ic_ne 125 dX11_tried_117 (by decide) (fun c117 => ?_) (fun c117 => ?_)
          · refine r_iconst (v := 0) dX11_tried_125 (by decide) ?_
            refine r_istore4 dX11_tried_126 rfl ?_
            have eF : rFl I w = xu (xu (xu (rPl I) 347 69 0) 347 70 0) 347 71 0 := by rw [rFl, if_neg c52, if_neg c66, if_neg c80]
            have eU : sT0 V w i = V := by rw [sT0, if_neg c93, if_neg c117]
            have z := l_rtried (E := E) (ex := ex) (I := I) (J := J) hP (hv.t0 w i) (hk.t0 w i) (FX.t0 V w i) hL h7 hm hc hg hk50 w i d 0 (Nat.zero_le k) e J (JokR.rf J)
            rw [eF, sYl, eU] at z; rw [eU]; exact z
          · refine r_aload_n dX11_tried_120 rfl ?_
            refine r_iconst (v := (-1)) dX11_tried_121 (by decide) ?_
            refine r_cV1v dX11_tried_122 vlX11_522 sh_347 (Nat.le_of_ble_eq_true rfl) (k_paintsOne hP (-1) 0 (fun q hq => by rw [bI_0 hq, if_neg (fun z => nI_nm1 (by omega) z)]) (d + 7)) ?_
            refine r_iconst (v := 0) dX11_tried_125 (by decide) ?_
            refine r_istore4 dX11_tried_126 rfl ?_
            have eF : rFl I w = xu (xu (xu (rPl I) 347 69 0) 347 70 0) 347 71 0 := by rw [rFl, if_neg c52, if_neg c66, if_neg c80]
            have eU : sT0 V w i = xu V 12 0 0 := by rw [sT0, if_neg c93, if_pos c117]
            have z := l_rtried (E := E) (ex := ex) (I := I) (J := J) hP (hv.t0 w i) (hk.t0 w i) (FX.t0 V w i) hL h7 hm hc hg hk50 w i d 0 (Nat.zero_le k) e J (JokR.rf J)
            rw [eF, sYl, eU] at z; rw [eU]; exact z
        · obtain ⟨hin, hth⟩ : vp_in i 12 ∧ (sTh V i ↔ V 9 i.toNatClampNeg = 0) := by have z := hi; rw [if_pos c93] at z; exact ⟨vin12 z.1 z.2.2, hv.th z.1 z.2.1⟩
          refine r_aload_n dX11_tried_96 rfl ?_
          refine r_iconst (v := 1) dX11_tried_97 (by decide) ?_
          refine r_iload_n dX11_tried_98 rfl ?_
          by_cases h99 : V 9 i.toNatClampNeg = 0
          · refine r_cV2i dX11_tried_99 vlX11_418 sh_347 (Nat.le_of_ble_eq_true rfl) (k_rTh_t (b := 1) hP (by decide) hin h99 (d + 7)) ?_
            have q99 := hth.mpr h99
            refine r_if_eq 115 dX11_tried_102 (by decide) (fun c102 => ?_) (fun c102 => ?_)
            · exact absurd c102 (by decide)
            · refine r_aload_n dX11_tried_105 rfl ?_
              refine r_getR dX11_tried_106 flX11_127 sh_347 (by decide) rfl (pf_347_62 hP) ?_
              refine r_bipush (v := 12) dX11_tried_109 (by decide) ?_
              refine r_iload_n dX11_tried_111 rfl ?_
              refine r_iadd dX11_tried_112 ?_
              refine r_iconst (v := 2) dX11_tried_113 (by decide) ?_
              refine r_iasv dX11_tried_114 sh_385 (io12 hin) (rP9 _ _ hin _) ?_
              refine r_iload_n dX11_tried_115 rfl ?_
              refine r_iconst (v := 3) dX11_tried_116 (by decide) ?_
              refine r_ic_ne 125 dX11_tried_117 (by decide) (fun c117 => ?_) (fun c117 => ?_)
              · refine r_iconst (v := 0) dX11_tried_125 (by decide) ?_
                refine r_istore4 dX11_tried_126 rfl ?_
                have eF : rFl I w = xu (xu (xu (rPl I) 347 69 0) 347 70 0) 347 71 0 := by rw [rFl, if_neg c52, if_neg c66, if_neg c80]
                have eU : sT0 V w i = xu V 9 i.toNatClampNeg 2 := by rw [sT0, if_pos c93, if_pos q99]
                have z := l_rtried (E := E) (ex := ex) (I := I) (J := J) hP (hv.t0 w i) (hk.t0 w i) (FX.t0 V w i) hL h7 hm hc hg hk50 w i d 0 (Nat.zero_le k) e J (JokR.rf J)
                rw [eF, sYl, eU] at z; rw [eU]; exact z
              · exact absurd (c93.symm.trans c117) (by decide)
          · refine r_cV2i dX11_tried_99 vlX11_418 sh_347 (Nat.le_of_ble_eq_true rfl) (k_rTh_f (b := 1) hP (by decide) hin h99 (d + 7)) ?_
            have q99 := fun z => h99 (hth.mp z)
            refine r_if_eq 115 dX11_tried_102 (by decide) (fun c102 => ?_) (fun c102 => ?_)
            · refine r_iload_n dX11_tried_115 rfl ?_
              refine r_iconst (v := 3) dX11_tried_116 (by decide) ?_
              refine r_ic_ne 125 dX11_tried_117 (by decide) (fun c117 => ?_) (fun c117 => ?_)
              · refine r_iconst (v := 0) dX11_tried_125 (by decide) ?_
                refine r_istore4 dX11_tried_126 rfl ?_
                have eF : rFl I w = xu (xu (xu (rPl I) 347 69 0) 347 70 0) 347 71 0 := by rw [rFl, if_neg c52, if_neg c66, if_neg c80]
                have eU : sT0 V w i = V := by rw [sT0, if_pos c93, if_neg q99]
                have z := l_rtried (E := E) (ex := ex) (I := I) (J := J) hP (hv.t0 w i) (hk.t0 w i) (FX.t0 V w i) hL h7 hm hc hg hk50 w i d 0 (Nat.zero_le k) e J (JokR.rf J)
                rw [eF, sYl, eU] at z; rw [eU]; exact z
              · exact absurd (c93.symm.trans c117) (by decide)
            · exact absurd c102 (by decide)
      · refine r_iconst (v := 1) dX11_tried_83 (by decide) ?_
        refine r_goto 88 dX11_tried_84 (by decide) ?_
        refine r_putIv dX11_tried_88 flX11_415 ⟨_, _, _, rfl, Or.inl rfl⟩ sh_347 (by decide) rfl rfl rfl ((wR_xo _ _ _ (by decide) _ _).trans (congrArg (fun z => wR z _ _) (wE_c _ _ _ (by decide)))) ?_
        refine r_iload_n dX11_tried_91 rfl ?_
        refine r_iconst (v := 2) dX11_tried_92 (by decide) ?_
        refine r_ic_ne 115 dX11_tried_93 (by decide) (fun c93 => ?_) (fun c93 => ?_)
        · refine r_iload_n dX11_tried_115 rfl ?_
          refine r_iconst (v := 3) dX11_tried_116 (by decide) ?_
          refine r_ic_ne 125 dX11_tried_117 (by decide) (fun c117 => ?_) (fun c117 => ?_)
          · refine r_iconst (v := 0) dX11_tried_125 (by decide) ?_
            refine r_istore4 dX11_tried_126 rfl ?_
            have eF : rFl I w = xu (xu (xu (rPl I) 347 69 0) 347 70 0) 347 71 1 := by rw [rFl, if_neg c52, if_neg c66, if_pos c80]
            have eU : sT0 V w i = V := by rw [sT0, if_neg c93, if_neg c117]
            have z := l_rtried (E := E) (ex := ex) (I := I) (J := J) hP (hv.t0 w i) (hk.t0 w i) (FX.t0 V w i) hL h7 hm hc hg hk50 w i d 0 (Nat.zero_le k) e J (JokR.rf J)
            rw [eF, sYl, eU] at z; rw [eU]; exact z
          · exact absurd (c80.symm.trans c117) (by decide)
        · exact absurd (c80.symm.trans c93) (by decide)
    · refine r_iconst (v := 1) dX11_tried_69 (by decide) ?_
      refine r_goto 74 dX11_tried_70 (by decide) ?_
      refine r_putIv dX11_tried_74 flX11_412 ⟨_, _, _, rfl, Or.inl rfl⟩ sh_347 (by decide) rfl rfl rfl ((wR_xo _ _ _ (by decide) _ _).trans (congrArg (fun z => wR z _ _) (wE_c _ _ _ (by decide)))) ?_
      refine r_aload_n dX11_tried_77 rfl ?_
      refine r_iload_n dX11_tried_78 rfl ?_
      refine r_iconst (v := 4) dX11_tried_79 (by decide) ?_
      refine r_ic_ne 87 dX11_tried_80 (by decide) (fun c80 => ?_) (fun c80 => ?_)
      · refine r_iconst (v := 0) dX11_tried_87 (by decide) ?_
        refine r_putIv dX11_tried_88 flX11_415 ⟨_, _, _, rfl, Or.inl rfl⟩ sh_347 (by decide) rfl rfl rfl ((wR_xo _ _ _ (by decide) _ _).trans (congrArg (fun z => wR z _ _) (wE_c _ _ _ (by decide)))) ?_
        refine r_iload_n dX11_tried_91 rfl ?_
        refine r_iconst (v := 2) dX11_tried_92 (by decide) ?_
        refine r_ic_ne 115 dX11_tried_93 (by decide) (fun c93 => ?_) (fun c93 => ?_)
        · refine r_iload_n dX11_tried_115 rfl ?_
          refine r_iconst (v := 3) dX11_tried_116 (by decide) ?_
          refine r_ic_ne 125 dX11_tried_117 (by decide) (fun c117 => ?_) (fun c117 => ?_)
          · refine r_iconst (v := 0) dX11_tried_125 (by decide) ?_
            refine r_istore4 dX11_tried_126 rfl ?_
            have eF : rFl I w = xu (xu (xu (rPl I) 347 69 0) 347 70 1) 347 71 0 := by rw [rFl, if_neg c52, if_pos c66, if_neg c80]
            have eU : sT0 V w i = V := by rw [sT0, if_neg c93, if_neg c117]
            have z := l_rtried (E := E) (ex := ex) (I := I) (J := J) hP (hv.t0 w i) (hk.t0 w i) (FX.t0 V w i) hL h7 hm hc hg hk50 w i d 0 (Nat.zero_le k) e J (JokR.rf J)
            rw [eF, sYl, eU] at z; rw [eU]; exact z
          · exact absurd (c66.symm.trans c117) (by decide)
        · exact absurd (c66.symm.trans c93) (by decide)
      · exact absurd (c66.symm.trans c80) (by decide)
  · refine r_iconst (v := 1) dX11_tried_55 (by decide) ?_
    refine r_goto 60 dX11_tried_56 (by decide) ?_
    refine r_putIv dX11_tried_60 flX11_409 ⟨_, _, _, rfl, Or.inl rfl⟩ sh_347 (by decide) rfl rfl rfl ((wR_xo _ _ _ (by decide) _ _).trans (congrArg (fun z => wR z _ _) (wE_c _ _ _ (by decide)))) ?_
    refine r_aload_n dX11_tried_63 rfl ?_
    refine r_iload_n dX11_tried_64 rfl ?_
    refine r_iconst (v := 1) dX11_tried_65 (by decide) ?_
    refine r_ic_ne 73 dX11_tried_66 (by decide) (fun c66 => ?_) (fun c66 => ?_)
    · refine r_iconst (v := 0) dX11_tried_73 (by decide) ?_
      refine r_putIv dX11_tried_74 flX11_412 ⟨_, _, _, rfl, Or.inl rfl⟩ sh_347 (by decide) rfl rfl rfl ((wR_xo _ _ _ (by decide) _ _).trans (congrArg (fun z => wR z _ _) (wE_c _ _ _ (by decide)))) ?_
      refine r_aload_n dX11_tried_77 rfl ?_
      refine r_iload_n dX11_tried_78 rfl ?_
      refine r_iconst (v := 4) dX11_tried_79 (by decide) ?_
      refine r_ic_ne 87 dX11_tried_80 (by decide) (fun c80 => ?_) (fun c80 => ?_)
      · refine r_iconst (v := 0) dX11_tried_87 (by decide) ?_
        refine r_putIv dX11_tried_88 flX11_415 ⟨_, _, _, rfl, Or.inl rfl⟩ sh_347 (by decide) rfl rfl rfl ((wR_xo _ _ _ (by decide) _ _).trans (congrArg (fun z => wR z _ _) (wE_c _ _ _ (by decide)))) ?_
        refine r_iload_n dX11_tried_91 rfl ?_
        refine r_iconst (v := 2) dX11_tried_92 (by decide) ?_
        refine r_ic_ne 115 dX11_tried_93 (by decide) (fun c93 => ?_) (fun c93 => ?_)
        · refine r_iload_n dX11_tried_115 rfl ?_
          refine r_iconst (v := 3) dX11_tried_116 (by decide) ?_
          refine r_ic_ne 125 dX11_tried_117 (by decide) (fun c117 => ?_) (fun c117 => ?_)
          · refine r_iconst (v := 0) dX11_tried_125 (by decide) ?_
            refine r_istore4 dX11_tried_126 rfl ?_
            have eF : rFl I w = xu (xu (xu (rPl I) 347 69 1) 347 70 0) 347 71 0 := by rw [rFl, if_pos c52, if_neg c66, if_neg c80]
            have eU : sT0 V w i = V := by rw [sT0, if_neg c93, if_neg c117]
            have z := l_rtried (E := E) (ex := ex) (I := I) (J := J) hP (hv.t0 w i) (hk.t0 w i) (FX.t0 V w i) hL h7 hm hc hg hk50 w i d 0 (Nat.zero_le k) e J (JokR.rf J)
            rw [eF, sYl, eU] at z; rw [eU]; exact z
          · exact absurd (c52.symm.trans c117) (by decide)
        · exact absurd (c52.symm.trans c93) (by decide)
      · exact absurd (c52.symm.trans c80) (by decide)
    · exact absurd (c52.symm.trans c66) (by decide)
set_option maxHeartbeats 2000000 in
theorem k_rtried {E : xCl} {ex : Bool} {I I0 : Nat → Nat → Int32} {e : Int32} {J : Nat → Nat → Int64} {P : Nat → Nat → Nat} (hP : Pok P) (hI : xu I 347 2 0 = I0)  (hp : Pt I0) {n : Nat} (hv : Vok (vR I0 0) n) (hk : Tok (vR I0 0) n) {L : Nat → (Nat → Int64) → Int64} (hL : LwR I0 L) (h7 : L7 L) {m : Nat} (hm : m ≤ 8) (hc : I0 347 14 = nI m) (hg : ∀ k, vp_in (I0 363 k) 6) {k : Nat} (hk50 : k ≤ 50) {w i : Int32} (h : okR (vR I0 0) w i (nI k)) (d : Nat) : ∃ e' J' W', xEx E ex (d + 9) yX11_tried [.ref 347, .int w, .int i, .int (nI k)] (SH, wE I e, J, P) (some (.int (sBr (sYl (sT0 (vR I0 0) w i) L n (rT I0) m w k) L n))) (SH, wR (wE (rPl I0) e') 1 W', J', P) ∧ JokR J J' ∧ FX (vR I0 0) W' := by
  refine QT.use (x_enterq (d := d + 8) cqX11_tried [some (.ref 347), some (.int w), some (.int i), some (.int (nI k)), none] rfl (by simp [lg_sl, Value.category]) ?_)
  refine r_aload_n dX11_tried_0 rfl ?_
  refine r_iconst (v := 0) dX11_tried_1 (by decide) ?_
  refine r_putIv dX11_tried_2 flX11_193 ⟨_, _, _, rfl, Or.inl rfl⟩ sh_347 (by decide) rfl rfl rfl ((wE_c _ _ _ (by decide)).trans (congrArg (fun z => wE z _) hI)) ?_
  refine r_iload_n dX11_tried_5 rfl ?_
  refine r_iconst (v := 0) dX11_tried_6 (by decide) ?_
  refine r_iconst (v := 4) dX11_tried_7 (by decide) ?_
  refine r_cS3i dX11_tried_8 slX11_238 (Nat.le_of_ble_eq_true rfl) (k_isIn_t ⟨h.2.1, h.2.2.1⟩ (d + 7)) ?_
  refine r_if_eq 44 dX11_tried_11 (by decide) (fun c11 => ?_) (fun c11 => ?_)
  · exact absurd c11 (by decide)
  · refine r_iload_n dX11_tried_14 rfl ?_
    refine r_iconst (v := 0) dX11_tried_15 (by decide) ?_
    refine r_bipush (v := 50) dX11_tried_16 (by decide) ?_
    refine r_cS3i dX11_tried_18 slX11_238 (Nat.le_of_ble_eq_true rfl) (k_isIn_t ⟨h.2.2.2.1, Int32.not_lt.mpr h.2.2.2.2⟩ (d + 7)) ?_
    refine r_if_eq 44 dX11_tried_21 (by decide) (fun c21 => ?_) (fun c21 => ?_)
    · exact absurd c21 (by decide)
    · refine r_iload_n dX11_tried_24 rfl ?_
      refine r_iconst (v := 2) dX11_tried_25 (by decide) ?_
      refine r_ic_ne 40 dX11_tried_26 (by decide) (fun c26 => ?_) (fun c26 => ?_)
      · refine r_iload_n dX11_tried_40 rfl ?_
        refine r_if_eq 46 dX11_tried_41 (by decide) (fun c41 => ?_) (fun c41 => ?_)
        · refine r_aload_n dX11_tried_46 rfl ?_
          refine r_cV0v dX11_tried_47 vlX11_482 sh_347 (Nat.le_of_ble_eq_true rfl) (k_layTried hP hp (d + 6)) ?_
          exact l_rtried2 hP hv hk hL h7 hm hc hg hk50 h.1 d
        · exact absurd (by have z := h.1; rw [if_neg c26] at z; exact z) c41
      · refine r_aload_n dX11_tried_29 rfl ?_
        refine r_iload_n dX11_tried_30 rfl ?_
        refine r_cV1i dX11_tried_31 vlX11_465 sh_347 (Nat.le_of_ble_eq_true rfl) (k_eStr_t hP hp hv (by have z := h.1; rw [if_pos c26] at z; exact z) (d + 7)) ?_
        refine r_if_ne 46 dX11_tried_34 (by decide) (fun c34 => ?_) (fun c34 => ?_)
        · refine r_aload_n dX11_tried_46 rfl ?_
          refine r_cV0v dX11_tried_47 vlX11_482 sh_347 (Nat.le_of_ble_eq_true rfl) (k_layTried hP hp (d + 6)) ?_
          exact l_rtried2 hP hv hk hL h7 hm hc hg hk50 h.1 d
        · exact absurd c34 (by decide)
set_option maxHeartbeats 1000000 in
theorem k_rtried_n {E : xCl} {ex : Bool} {I I0 : Nat → Nat → Int32} {e : Int32} {J : Nat → Nat → Int64} {P : Nat → Nat → Nat} (hP : Pok P) (hI : xu I 347 2 0 = I0) (hp : Pt I0) {n : Nat} (hv : Vok (vR I0 0) n) {w i x : Int32} (h : ¬ okR (vR I0 0) w i x) (d : Nat) : xEx E ex (d + 2) yX11_tried [.ref 347, .int w, .int i, .int x] (SH, wE I e, J, P) (some (.int (-1))) (SH, wE I0 e, J, P) := by
  refine x_enter cqX11_tried [some (.ref 347), some (.int w), some (.int i), some (.int x), none] rfl (by simp [lg_sl, Value.category]) ?_
  refine r_aload_n dX11_tried_0 rfl ?_
  refine r_iconst (v := 0) dX11_tried_1 (by decide) ?_
  refine r_putIv dX11_tried_2 flX11_193 ⟨_, _, _, rfl, Or.inl rfl⟩ sh_347 (by decide) rfl rfl rfl ((wE_c _ _ _ (by decide)).trans (congrArg (fun z => wE z _) hI)) ?_
  refine r_iload_n dX11_tried_5 rfl ?_
  refine r_iconst (v := 0) dX11_tried_6 (by decide) ?_
  refine r_iconst (v := 4) dX11_tried_7 (by decide) ?_
  by_cases h8 : ¬ w < 0 ∧ ¬ 4 < w
  · refine r_cS3i dX11_tried_8 slX11_238 (Nat.le_of_ble_eq_true rfl) (k_isIn_t h8 d) ?_
    refine r_if_eq 44 dX11_tried_11 (by decide) (fun c11 => ?_) (fun c11 => ?_)
    · exact absurd c11 (by decide)
    · refine r_iload_n dX11_tried_14 rfl ?_
      refine r_iconst (v := 0) dX11_tried_15 (by decide) ?_
      refine r_bipush (v := 50) dX11_tried_16 (by decide) ?_
      by_cases h18 : ¬ x < 0 ∧ ¬ 50 < x
      · refine r_cS3i dX11_tried_18 slX11_238 (Nat.le_of_ble_eq_true rfl) (k_isIn_t h18 d) ?_
        refine r_if_eq 44 dX11_tried_21 (by decide) (fun c21 => ?_) (fun c21 => ?_)
        · exact absurd c21 (by decide)
        · refine r_iload_n dX11_tried_24 rfl ?_
          refine r_iconst (v := 2) dX11_tried_25 (by decide) ?_
          refine r_ic_ne 40 dX11_tried_26 (by decide) (fun c26 => ?_) (fun c26 => ?_)
          · refine r_iload_n dX11_tried_40 rfl ?_
            refine r_if_eq 46 dX11_tried_41 (by decide) (fun c41 => ?_) (fun c41 => ?_)
            · exact absurd ⟨by rw [if_neg c26]; exact c41, h8.1, h8.2, h18.1, Int32.not_lt.mp h18.2⟩ h
            · refine r_iconst (v := (-1)) dX11_tried_44 (by decide) ?_
              exact r_iret dX11_tried_45 rfl rfl rfl rfl
          · refine r_aload_n dX11_tried_29 rfl ?_
            refine r_iload_n dX11_tried_30 rfl ?_
            by_cases h31 : sSt (vR I0 0) i
            · refine r_cV1i dX11_tried_31 vlX11_465 sh_347 (Nat.le_of_ble_eq_true rfl) (k_eStr_t hP hp hv h31 d) ?_
              refine r_if_ne 46 dX11_tried_34 (by decide) (fun c34 => ?_) (fun c34 => ?_)
              · exact absurd ⟨by rw [if_pos c26]; exact h31, h8.1, h8.2, h18.1, Int32.not_lt.mp h18.2⟩ h
              · exact absurd c34 (by decide)
            · refine r_cV1i dX11_tried_31 vlX11_465 sh_347 (Nat.le_of_ble_eq_true rfl) (k_eStr_f hP hp hv h31 d) ?_
              refine r_if_ne 46 dX11_tried_34 (by decide) (fun c34 => ?_) (fun c34 => ?_)
              · exact absurd c34 (by decide)
              · refine r_goto 44 dX11_tried_37 (by decide) ?_
                refine r_iconst (v := (-1)) dX11_tried_44 (by decide) ?_
                exact r_iret dX11_tried_45 rfl rfl rfl rfl
      · refine r_cS3i dX11_tried_18 slX11_238 (Nat.le_of_ble_eq_true rfl) (k_isIn_f h18 d) ?_
        refine r_if_eq 44 dX11_tried_21 (by decide) (fun c21 => ?_) (fun c21 => ?_)
        · refine r_iconst (v := (-1)) dX11_tried_44 (by decide) ?_
          exact r_iret dX11_tried_45 rfl rfl rfl rfl
        · exact absurd c21 (by decide)
  · refine r_cS3i dX11_tried_8 slX11_238 (Nat.le_of_ble_eq_true rfl) (k_isIn_f h8 d) ?_
    refine r_if_eq 44 dX11_tried_11 (by decide) (fun c11 => ?_) (fun c11 => ?_)
    · refine r_iconst (v := (-1)) dX11_tried_44 (by decide) ?_
      exact r_iret dX11_tried_45 rfl rfl rfl rfl
    · exact absurd c11 (by decide)
