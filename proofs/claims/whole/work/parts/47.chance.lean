/-! tried otherwise, and years by chance -/
def sYl (V : Nat → Nat → Int32) (Lw : Nat → (Nat → Int64) → Int64) (n : Nat) (T : Nat → Nat → Int32) (m : Nat) (lo : Int32) : Nat → Nat → Nat → Int32
  | 0 => V
  | j + 1 => sGo (sYl V Lw n T m lo j) Lw n T m lo
theorem Vok.yl {V : Nat → Nat → Int32} {n : Nat} (h : Vok V n) (Lw : Nat → (Nat → Int64) → Int64) (T : Nat → Nat → Int32) (m : Nat) (lo : Int32) : ∀ j, Vok (sYl V Lw n T m lo j) n
  | 0 => h
  | j + 1 => (Vok.yl h Lw T m lo j).go Lw T m lo
def sT0 (V : Nat → Nat → Int32) (w i : Int32) : Nat → Nat → Int32 := if w = 2 then (if sTh V i then xu V 9 i.toNatClampNeg 2 else V) else if w = 3 then xu V 12 0 0 else V
theorem Vok.t0 {V : Nat → Nat → Int32} {n : Nat} (h : Vok V n) (w i : Int32) : Vok (sT0 V w i) n := by
  unfold sT0
  split
  · split
    · exact h.xu (by decide) (by decide) (by decide)
    · exact h
  · split
    · exact h.xu (by decide) (by decide) (by decide)
    · exact h
abbrev okR (V : Nat → Nat → Int32) (w i x : Int32) : Prop := (if w = 2 then sSt V i else i = 0) ∧ ¬ w < 0 ∧ ¬ 4 < w ∧ ¬ x < 0 ∧ x ≤ 50
set_option maxHeartbeats 1000000 in
theorem k_tried_n {E : xCl} {ex : Bool} {I W : Nat → Nat → Int32} {J : Nat → Nat → Int64} {P : Nat → Nat → Nat} (hP : Pok P) {t : Nat} (ht : t ∈ TL) (hx5 : P 0 5 = t + 1) (hbt : P 56 0 = t + 1) {w i x : Int32} (h : ¬ okR (vB I 56) w i x) (d : Nat) : xEx E ex (d + 2) yX10_tried [.ref 0, .int w, .int i, .int x] (SH, wB I 80 W, J, P) (some (.int (-1))) (SH, wB I 80 W, J, P) := by
  refine x_enter cqX10_tried [some (.ref 0), some (.int w), some (.int i), some (.int x), none, none, none] rfl (by simp [lg_sl, Value.category]) ?_
  refine r_iload_n dX10_tried_0 rfl ?_
  refine r_iconst (v := 2) dX10_tried_1 (by decide) ?_
  refine r_ic_ne 9 dX10_tried_2 (by decide) (fun c2 => ?_) (fun c2 => ?_)
  · refine r_iconst (v := 0) dX10_tried_9 (by decide) ?_
    refine r_istore4 dX10_tried_10 rfl ?_
    refine r_iload dX10_tried_12 rfl ?_
    refine r_if_eq 28 dX10_tried_14 (by decide) (fun c14 => ?_) (fun c14 => ?_)
    · refine r_iload_n dX10_tried_28 rfl ?_
      refine r_if_ne 36 dX10_tried_29 (by decide) (fun c29 => ?_) (fun c29 => ?_)
      · refine r_iconst (v := 0) dX10_tried_36 (by decide) ?_
        refine r_istore5 dX10_tried_37 rfl ?_
        refine r_iload dX10_tried_39 rfl ?_
        refine r_if_eq 63 dX10_tried_41 (by decide) (fun c41 => ?_) (fun c41 => ?_)
        · refine r_iconst (v := (-1)) dX10_tried_63 (by decide) ?_
          exact r_iret dX10_tried_64 rfl rfl rfl rfl
        · exact absurd c41 (by decide)
      · refine r_iconst (v := 1) dX10_tried_32 (by decide) ?_
        refine r_goto 37 dX10_tried_33 (by decide) ?_
        refine r_istore5 dX10_tried_37 rfl ?_
        refine r_iload dX10_tried_39 rfl ?_
        refine r_if_eq 63 dX10_tried_41 (by decide) (fun c41 => ?_) (fun c41 => ?_)
        · exact absurd c41 (by decide)
        · refine r_iload_n dX10_tried_44 rfl ?_
          refine r_if_lt 63 dX10_tried_45 (by decide) (fun c45 => ?_) (fun c45 => ?_)
          · refine r_iconst (v := (-1)) dX10_tried_63 (by decide) ?_
            exact r_iret dX10_tried_64 rfl rfl rfl rfl
          · refine r_iload_n dX10_tried_48 rfl ?_
            refine r_iconst (v := 4) dX10_tried_49 (by decide) ?_
            refine r_ic_gt 63 dX10_tried_50 (by decide) (fun c50 => ?_) (fun c50 => ?_)
            · refine r_iconst (v := (-1)) dX10_tried_63 (by decide) ?_
              exact r_iret dX10_tried_64 rfl rfl rfl rfl
            · refine r_iload_n dX10_tried_53 rfl ?_
              refine r_if_lt 63 dX10_tried_54 (by decide) (fun c54 => ?_) (fun c54 => ?_)
              · refine r_iconst (v := (-1)) dX10_tried_63 (by decide) ?_
                exact r_iret dX10_tried_64 rfl rfl rfl rfl
              · refine r_iload_n dX10_tried_57 rfl ?_
                refine r_bipush (v := 50) dX10_tried_58 (by decide) ?_
                refine r_ic_le 65 dX10_tried_60 (by decide) (fun c60 => ?_) (fun c60 => ?_)
                · exact absurd ⟨(by rw [if_neg c2]; exact c29), c45, c50, c54, c60⟩ h
                · refine r_iconst (v := (-1)) dX10_tried_63 (by decide) ?_
                  exact r_iret dX10_tried_64 rfl rfl rfl rfl
    · exact absurd c14 (by decide)
  · refine r_iconst (v := 1) dX10_tried_5 (by decide) ?_
    refine r_goto 10 dX10_tried_6 (by decide) ?_
    refine r_istore4 dX10_tried_10 rfl ?_
    refine r_iload dX10_tried_12 rfl ?_
    refine r_if_eq 28 dX10_tried_14 (by decide) (fun c14 => ?_) (fun c14 => ?_)
    · exact absurd c14 (by decide)
    · refine r_aload_n dX10_tried_17 rfl ?_
      refine r_getR dX10_tried_18 flX10_42 sh_0 (by decide) rfl (pf_0_7 hP) ?_
      refine r_iload_n dX10_tried_21 rfl ?_
      by_cases h22 : sSt (vB I 56) i
      · refine r_cV1i dX10_tried_22 vlX10_172 (br_s _ hb56) (Nat.le_of_ble_eq_true rfl) (by have z := k_isStrand_t (E := E) (ex := ex) (I := wB I 80 W) (J := J) (P := P) hb56 h22 (d + 0); rw [st80] at z; exact z) ?_
        refine r_goto 37 dX10_tried_25 (by decide) ?_
        refine r_istore5 dX10_tried_37 rfl ?_
        refine r_iload dX10_tried_39 rfl ?_
        refine r_if_eq 63 dX10_tried_41 (by decide) (fun c41 => ?_) (fun c41 => ?_)
        · exact absurd c41 (by decide)
        · refine r_iload_n dX10_tried_44 rfl ?_
          refine r_if_lt 63 dX10_tried_45 (by decide) (fun c45 => ?_) (fun c45 => ?_)
          · refine r_iconst (v := (-1)) dX10_tried_63 (by decide) ?_
            exact r_iret dX10_tried_64 rfl rfl rfl rfl
          · refine r_iload_n dX10_tried_48 rfl ?_
            refine r_iconst (v := 4) dX10_tried_49 (by decide) ?_
            refine r_ic_gt 63 dX10_tried_50 (by decide) (fun c50 => ?_) (fun c50 => ?_)
            · refine r_iconst (v := (-1)) dX10_tried_63 (by decide) ?_
              exact r_iret dX10_tried_64 rfl rfl rfl rfl
            · refine r_iload_n dX10_tried_53 rfl ?_
              refine r_if_lt 63 dX10_tried_54 (by decide) (fun c54 => ?_) (fun c54 => ?_)
              · refine r_iconst (v := (-1)) dX10_tried_63 (by decide) ?_
                exact r_iret dX10_tried_64 rfl rfl rfl rfl
              · refine r_iload_n dX10_tried_57 rfl ?_
                refine r_bipush (v := 50) dX10_tried_58 (by decide) ?_
                refine r_ic_le 65 dX10_tried_60 (by decide) (fun c60 => ?_) (fun c60 => ?_)
                · exact absurd ⟨(by rw [if_pos c2]; exact h22), c45, c50, c54, c60⟩ h
                · refine r_iconst (v := (-1)) dX10_tried_63 (by decide) ?_
                  exact r_iret dX10_tried_64 rfl rfl rfl rfl
      · refine r_cV1i dX10_tried_22 vlX10_172 (br_s _ hb56) (Nat.le_of_ble_eq_true rfl) (by have z := k_isStrand_f (E := E) (ex := ex) (I := wB I 80 W) (J := J) (P := P) hb56 h22 (d + 0); rw [st80] at z; exact z) ?_
        refine r_goto 37 dX10_tried_25 (by decide) ?_
        refine r_istore5 dX10_tried_37 rfl ?_
        refine r_iload dX10_tried_39 rfl ?_
        refine r_if_eq 63 dX10_tried_41 (by decide) (fun c41 => ?_) (fun c41 => ?_)
        · refine r_iconst (v := (-1)) dX10_tried_63 (by decide) ?_
          exact r_iret dX10_tried_64 rfl rfl rfl rfl
        · exact absurd c41 (by decide)
set_option maxHeartbeats 2000000 in
theorem l_tried {E : xCl} {ex : Bool} {I : Nat → Nat → Int32} {J : Nat → Nat → Int64} {P : Nat → Nat → Nat} (hP : Pok P) {t : Nat} (ht : t ∈ TL) (hx5 : P 0 5 = t + 1) (hb8 : P 80 0 = t + 1) {V0 : Nat → Nat → Int32} {n : Nat} (hv : Vok V0 n) (hL : Lok I t) {m : Nat} (hm : m ≤ 8) (hc : I t 7 = nI m) (hg : ∀ k, vp_in (I (t + 4) k) 6) {k : Nat} (hk : k ≤ 50) (w i y4 y5 : Int32) (d : Nat) : ∀ c j J1, j + c = k → Jok J J1 t → xR (xEx E ex (d + 8)) ex none yX10_tried cX10_tried (some .int) 118 [some (.ref 0), some (.int w), some (.int i), some (.int (nI k)), some (.int y4), some (.int y5), some (.int (nI j))] [] (SH, wB I 80 (sYl V0 (Lv I t) n (fun o => I (t + o)) m w j), J1, P) (Qt I J P t (some (.int (sBr (sYl V0 (Lv I t) n (fun o => I (t + o)) m w k) (Lv I t) n)))) := by
  intro c
  induction c with
  | zero =>
    intro j J1 hj hJ
    refine r_iload dX10_tried_118 rfl ?_
    refine r_iload_n dX10_tried_120 rfl ?_
    refine r_ic_ge 139 dX10_tried_121 (by decide) (fun c121 => ?_) (fun c121 => ?_)
    · refine r_aload_n dX10_tried_139 rfl ?_
      refine r_getR dX10_tried_140 flX10_48 sh_0 (by decide) rfl (pf_0_10 hP) ?_
      obtain ⟨J143, hx143, hj143⟩ := k_bridgeBears (E := E) (ex := ex) (J := J1) hP hb80 ht hb8 (hv.yl (Lv I t) (fun o => I (t + o)) m w j) hL (d + 2)
      refine r_cV0i dX10_tried_143 vlX10_239 (br_s _ hb80) (Nat.le_of_ble_eq_true rfl) hx143 ?_
      exact r_iretq dX10_tried_146 rfl rfl (by rw [show k = j by omega]; exact Qt.mk (hJ.tr hj143))
    · exact absurd (nI_le (by omega) (by omega)) c121
  | succ c ih =>
    intro j J1 hj hJ
    refine r_iload dX10_tried_118 rfl ?_
    refine r_iload_n dX10_tried_120 rfl ?_
    refine r_ic_ge 139 dX10_tried_121 (by decide) (fun c121 => ?_) (fun c121 => ?_)
    · exact absurd c121 (nI_ge (by omega) (by omega))
    · refine r_aload_n dX10_tried_124 rfl ?_
      refine r_getR dX10_tried_125 flX10_48 sh_0 (by decide) rfl (pf_0_10 hP) ?_
      refine r_iload_n dX10_tried_128 rfl ?_
      obtain ⟨J129, hx129, hj129⟩ := k_goYear (E := E) (ex := ex) (V := sYl V0 (Lv I t) n (fun o => I (t + o)) m w j) (J := J1) hP hb80 ht hb8 (hv.yl (Lv I t) (fun o => I (t + o)) m w j) hL hm hc hg w (d)
      refine r_cV1i dX10_tried_129 vlX10_276 (br_s _ hb80) (Nat.le_of_ble_eq_true rfl) hx129 ?_
      refine r_pop dX10_tried_132 rfl ?_
      refine r_iinc6 (v := 1) dX10_tried_133 (by decide) rfl ?_
      refine r_goto 118 dX10_tried_136 (by decide) ?_
      rw [nI_1]; exact ih (j + 1) _ (by omega) (hJ.tr hj129)
set_option maxHeartbeats 2000000 in
theorem k_tried {E : xCl} {ex : Bool} {I W : Nat → Nat → Int32} {J : Nat → Nat → Int64} {P : Nat → Nat → Nat} (hP : Pok P) {t : Nat} (ht : t ∈ TL) (hx5 : P 0 5 = t + 1) (hbt : P 56 0 = t + 1) {n : Nat} (hv : Vok (vB I 56) n) (hL : Lok I t) {m : Nat} (hm : m ≤ 8) (hc : I t 7 = nI m) (hg : ∀ k, vp_in (I (t + 4) k) 6) {k : Nat} (hk : k ≤ 50) {w i : Int32} (h : okR (vB I 56) w i (nI k)) (d : Nat) : ∃ J' W', xEx E ex (d + 9) yX10_tried [.ref 0, .int w, .int i, .int (nI k)] (SH, wB I 80 W, J, P) (some (.int (sBr (sYl (sT0 (vB I 56) w i) (Lv I t) n (fun o => I (t + o)) m w k) (Lv I t) n))) (SH, wB I 80 W', J', (xu P 80 0 (t + 1))) ∧ Jok J J' t := by
  refine Qt.use (x_enterq (d := d + 8) cqX10_tried [some (.ref 0), some (.int w), some (.int i), some (.int (nI k)), none, none, none] rfl (by simp [lg_sl, Value.category]) ?_)
  refine r_iload_n dX10_tried_0 rfl ?_
  refine r_iconst (v := 2) dX10_tried_1 (by decide) ?_
  refine r_ic_ne 9 dX10_tried_2 (by decide) (fun c2 => ?_) (fun c2 => ?_)
  · refine r_iconst (v := 0) dX10_tried_9 (by decide) ?_
    refine r_istore4 dX10_tried_10 rfl ?_
    refine r_iload dX10_tried_12 rfl ?_
    refine r_if_eq 28 dX10_tried_14 (by decide) (fun c14 => ?_) (fun c14 => ?_)
    · refine r_iload_n dX10_tried_28 rfl ?_
      refine r_if_ne 36 dX10_tried_29 (by decide) (fun c29 => ?_) (fun c29 => ?_)
      · exact absurd (by have z := h.1; rw [if_neg c2] at z; exact z) c29
      · refine r_iconst (v := 1) dX10_tried_32 (by decide) ?_
        refine r_goto 37 dX10_tried_33 (by decide) ?_
        refine r_istore5 dX10_tried_37 rfl ?_
        refine r_iload dX10_tried_39 rfl ?_
        refine r_if_eq 63 dX10_tried_41 (by decide) (fun c41 => ?_) (fun c41 => ?_)
        · exact absurd c41 (by decide)
        · refine r_iload_n dX10_tried_44 rfl ?_
          refine r_if_lt 63 dX10_tried_45 (by decide) (fun c45 => ?_) (fun c45 => ?_)
          · exact absurd c45 h.2.1
          · refine r_iload_n dX10_tried_48 rfl ?_
            refine r_iconst (v := 4) dX10_tried_49 (by decide) ?_
            refine r_ic_gt 63 dX10_tried_50 (by decide) (fun c50 => ?_) (fun c50 => ?_)
            · exact absurd c50 h.2.2.1
            · refine r_iload_n dX10_tried_53 rfl ?_
              refine r_if_lt 63 dX10_tried_54 (by decide) (fun c54 => ?_) (fun c54 => ?_)
              · exact absurd c54 h.2.2.2.1
              · refine r_iload_n dX10_tried_57 rfl ?_
                refine r_bipush (v := 50) dX10_tried_58 (by decide) ?_
                refine r_ic_le 65 dX10_tried_60 (by decide) (fun c60 => ?_) (fun c60 => ?_)
                · refine r_aload_n dX10_tried_65 rfl ?_
                  refine r_getR dX10_tried_66 flX10_48 sh_0 (by decide) rfl (pf_0_10 hP) ?_
                  refine r_aload_n dX10_tried_69 rfl ?_
                  refine r_getR dX10_tried_70 flX10_42 sh_0 (by decide) rfl (pf_0_7 hP) ?_
                  refine r_cV1v dX10_tried_73 vlX10_119 (br_s _ hb80) (Nat.le_of_ble_eq_true rfl) (k_become (V := W) hP hb80 hb56 (by decide) ht hbt (d + 7)) ?_
                  have hP := hP.xb hb80 (t + 1); have hb8 : xu P 80 0 (t + 1) 80 0 = t + 1 := xu_s _ _ _ _; have hx5 : xu P 80 0 (t + 1) 0 5 = t + 1 := (xu_f _ _ (by decide)).trans hx5
                  refine r_iload dX10_tried_76 rfl ?_
                  refine r_if_eq 102 dX10_tried_78 (by decide) (fun c78 => ?_) (fun c78 => ?_)
                  · refine r_iload_n dX10_tried_102 rfl ?_
                    refine r_iconst (v := 3) dX10_tried_103 (by decide) ?_
                    refine r_ic_ne 115 dX10_tried_104 (by decide) (fun c104 => ?_) (fun c104 => ?_)
                    · refine r_iconst (v := 0) dX10_tried_115 (by decide) ?_
                      refine r_istore6 dX10_tried_116 rfl ?_
                      have hv := hv.t0 w i; rw [sT0, if_neg c2, if_neg c104] at hv ⊢; exact l_tried hP ht hx5 hb8 hv hL hm hc hg hk w i _ _ d k 0 J (by omega) (Jok.rf J t)
                    · refine r_aload_n dX10_tried_107 rfl ?_
                      refine r_getR dX10_tried_108 flX10_48 sh_0 (by decide) rfl (pf_0_10 hP) ?_
                      refine r_iconst (v := 0) dX10_tried_111 (by decide) ?_
                      refine r_putIv dX10_tried_112 flX10_394 ⟨_, _, _, rfl, Or.inl rfl⟩ (br_s _ hb80) (by decide) rfl rfl rfl (wB_xi _ _ _ (by decide) _) ?_
                      refine r_iconst (v := 0) dX10_tried_115 (by decide) ?_
                      refine r_istore6 dX10_tried_116 rfl ?_
                      have hv := hv.t0 w i; rw [sT0, if_neg c2, if_pos c104] at hv ⊢; exact l_tried hP ht hx5 hb8 hv hL hm hc hg hk w i _ _ d k 0 J (by omega) (Jok.rf J t)
                  · exact absurd c78 (by decide)
                · exact absurd h.2.2.2.2 c60
    · exact absurd c14 (by decide)
  · refine r_iconst (v := 1) dX10_tried_5 (by decide) ?_
    refine r_goto 10 dX10_tried_6 (by decide) ?_
    refine r_istore4 dX10_tried_10 rfl ?_
    refine r_iload dX10_tried_12 rfl ?_
    refine r_if_eq 28 dX10_tried_14 (by decide) (fun c14 => ?_) (fun c14 => ?_)
    · exact absurd c14 (by decide)
    · refine r_aload_n dX10_tried_17 rfl ?_
      refine r_getR dX10_tried_18 flX10_42 sh_0 (by decide) rfl (pf_0_7 hP) ?_
      refine r_iload_n dX10_tried_21 rfl ?_
      refine r_cV1i dX10_tried_22 vlX10_172 (br_s _ hb56) (Nat.le_of_ble_eq_true rfl) (by have z := k_isStrand_t (E := E) (ex := ex) (I := wB I 80 W) (J := J) (P := P) hb56 (by have z := h.1; rw [if_pos c2] at z; exact z) (d + 7); rw [st80] at z; exact z) ?_
      refine r_goto 37 dX10_tried_25 (by decide) ?_
      refine r_istore5 dX10_tried_37 rfl ?_
      refine r_iload dX10_tried_39 rfl ?_
      refine r_if_eq 63 dX10_tried_41 (by decide) (fun c41 => ?_) (fun c41 => ?_)
      · exact absurd c41 (by decide)
      · refine r_iload_n dX10_tried_44 rfl ?_
        refine r_if_lt 63 dX10_tried_45 (by decide) (fun c45 => ?_) (fun c45 => ?_)
        · exact absurd c45 h.2.1
        · refine r_iload_n dX10_tried_48 rfl ?_
          refine r_iconst (v := 4) dX10_tried_49 (by decide) ?_
          refine r_ic_gt 63 dX10_tried_50 (by decide) (fun c50 => ?_) (fun c50 => ?_)
          · exact absurd c50 h.2.2.1
          · refine r_iload_n dX10_tried_53 rfl ?_
            refine r_if_lt 63 dX10_tried_54 (by decide) (fun c54 => ?_) (fun c54 => ?_)
            · exact absurd c54 h.2.2.2.1
            · refine r_iload_n dX10_tried_57 rfl ?_
              refine r_bipush (v := 50) dX10_tried_58 (by decide) ?_
              refine r_ic_le 65 dX10_tried_60 (by decide) (fun c60 => ?_) (fun c60 => ?_)
              · refine r_aload_n dX10_tried_65 rfl ?_
                refine r_getR dX10_tried_66 flX10_48 sh_0 (by decide) rfl (pf_0_10 hP) ?_
                refine r_aload_n dX10_tried_69 rfl ?_
                refine r_getR dX10_tried_70 flX10_42 sh_0 (by decide) rfl (pf_0_7 hP) ?_
                refine r_cV1v dX10_tried_73 vlX10_119 (br_s _ hb80) (Nat.le_of_ble_eq_true rfl) (k_become (V := W) hP hb80 hb56 (by decide) ht hbt (d + 7)) ?_
                have hP := hP.xb hb80 (t + 1); have hb8 : xu P 80 0 (t + 1) 80 0 = t + 1 := xu_s _ _ _ _; have hx5 : xu P 80 0 (t + 1) 0 5 = t + 1 := (xu_f _ _ (by decide)).trans hx5
                refine r_iload dX10_tried_76 rfl ?_
                refine r_if_eq 102 dX10_tried_78 (by decide) (fun c78 => ?_) (fun c78 => ?_)
                · exact absurd c78 (by decide)
                · refine r_aload_n dX10_tried_81 rfl ?_
                  refine r_getR dX10_tried_82 flX10_48 sh_0 (by decide) rfl (pf_0_10 hP) ?_
                  refine r_iload_n dX10_tried_85 rfl ?_
                  by_cases h86 : sTh (vB I 56) i
                  · refine r_cV1i dX10_tried_86 vlX10_220 (br_s _ hb80) (Nat.le_of_ble_eq_true rfl) (k_isThere_t hP hb80 h86 (d + 6)) ?_
                    refine r_if_eq 102 dX10_tried_89 (by decide) (fun c89 => ?_) (fun c89 => ?_)
                    · exact absurd c89 (by decide)
                    · refine r_aload_n dX10_tried_92 rfl ?_
                      refine r_getR dX10_tried_93 flX10_48 sh_0 (by decide) rfl (pf_0_10 hP) ?_
                      refine r_getR dX10_tried_96 flX10_190 (br_s _ hb80) (by decide) rfl (br_p9 hP _ hb80) ?_
                      refine r_iload_n dX10_tried_99 rfl ?_
                      refine r_iconst (v := 2) dX10_tried_100 (by decide) ?_
                      refine r_iasv dX10_tried_101 (br_a9 _ hb80) h86.in (wB_xa _ _ _ (by decide) (by decide) (vlt h86.in) _) ?_
                      refine r_iload_n dX10_tried_102 rfl ?_
                      refine r_iconst (v := 3) dX10_tried_103 (by decide) ?_
                      refine r_ic_ne 115 dX10_tried_104 (by decide) (fun c104 => ?_) (fun c104 => ?_)
                      · refine r_iconst (v := 0) dX10_tried_115 (by decide) ?_
                        refine r_istore6 dX10_tried_116 rfl ?_
                        have hv := hv.t0 w i; rw [sT0, if_pos c2, if_pos h86] at hv ⊢; exact l_tried hP ht hx5 hb8 hv hL hm hc hg hk w i _ _ d k 0 J (by omega) (Jok.rf J t)
                      · refine r_aload_n dX10_tried_107 rfl ?_
                        refine r_getR dX10_tried_108 flX10_48 sh_0 (by decide) rfl (pf_0_10 hP) ?_
                        refine r_iconst (v := 0) dX10_tried_111 (by decide) ?_
                        refine r_putIv dX10_tried_112 flX10_394 ⟨_, _, _, rfl, Or.inl rfl⟩ (br_s _ hb80) (by decide) rfl rfl rfl (wB_xi _ _ _ (by decide) _) ?_
                        refine r_iconst (v := 0) dX10_tried_115 (by decide) ?_
                        refine r_istore6 dX10_tried_116 rfl ?_
                        exact absurd (c2.symm.trans c104) (by decide)
                  · refine r_cV1i dX10_tried_86 vlX10_220 (br_s _ hb80) (Nat.le_of_ble_eq_true rfl) (k_isThere_f hP hb80 h86 (d + 6)) ?_
                    refine r_if_eq 102 dX10_tried_89 (by decide) (fun c89 => ?_) (fun c89 => ?_)
                    · refine r_iload_n dX10_tried_102 rfl ?_
                      refine r_iconst (v := 3) dX10_tried_103 (by decide) ?_
                      refine r_ic_ne 115 dX10_tried_104 (by decide) (fun c104 => ?_) (fun c104 => ?_)
                      · refine r_iconst (v := 0) dX10_tried_115 (by decide) ?_
                        refine r_istore6 dX10_tried_116 rfl ?_
                        have hv := hv.t0 w i; rw [sT0, if_pos c2, if_neg h86] at hv ⊢; exact l_tried hP ht hx5 hb8 hv hL hm hc hg hk w i _ _ d k 0 J (by omega) (Jok.rf J t)
                      · refine r_aload_n dX10_tried_107 rfl ?_
                        refine r_getR dX10_tried_108 flX10_48 sh_0 (by decide) rfl (pf_0_10 hP) ?_
                        refine r_iconst (v := 0) dX10_tried_111 (by decide) ?_
                        refine r_putIv dX10_tried_112 flX10_394 ⟨_, _, _, rfl, Or.inl rfl⟩ (br_s _ hb80) (by decide) rfl rfl rfl (wB_xi _ _ _ (by decide) _) ?_
                        refine r_iconst (v := 0) dX10_tried_115 (by decide) ?_
                        refine r_istore6 dX10_tried_116 rfl ?_
                        exact absurd (c2.symm.trans c104) (by decide)
                    · exact absurd c89 (by decide)
              · exact absurd h.2.2.2.2 c60
def sDn (x : Int64) : Int64 := (x * 1103515245 + 12345) &&& 2147483647
def sNb (x : Int64) : Int32 := (sDn x / 65536 - sDn x / 65536 / 10 * 10).toInt32
set_option maxHeartbeats 1000000 in
theorem k_drawNext {E : xCl} {ex : Bool} {I : Nat → Nat → Int32} {J : Nat → Nat → Int64} {P : Nat → Nat → Nat} (x : Int64) (d : Nat) : xEx E ex (d + 1) yX10_drawNext [.long x] (SH, I, J, P) (some (.long (sDn x))) (SH, I, J, P) := by
  refine x_enter cqX10_drawNext [some (.long x), none] rfl (by simp [lg_sl, Value.category]) ?_
  refine r_lload_n dX10_drawNext_0 rfl ?_
  refine r_ldc2_w dX10_drawNext_1 kcX10_388 ?_
  refine r_lmul dX10_drawNext_4 ?_
  refine r_ldc2_w dX10_drawNext_5 kcX10_390 ?_
  refine r_ladd dX10_drawNext_8 ?_
  refine r_ldc2_w dX10_drawNext_9 kcX10_392 ?_
  refine r_land dX10_drawNext_12 ?_
  exact r_lret dX10_drawNext_13 rfl rfl rfl
def sIx (V : Nat → Nat → Int32) (x : Int64) : Int32 := (sDn (sDn x) / 65536 - sDn (sDn x) / 65536 / (V 13 0).toInt64 * (V 13 0).toInt64).toInt32
def sBfL (V : Nat → Nat → Int32) (x : Int64) : Int64 := if sNb x = 0 then sDn x else if sNb x = 1 then (if V 13 0 ≤ 0 then sDn x else sDn (sDn x)) else sDn x
def sBfV (V : Nat → Nat → Int32) (x : Int64) : Nat → Nat → Int32 := if sNb x = 0 then xu V 14 0 (V 14 0 + 5) else if sNb x = 1 then (if V 13 0 ≤ 0 then V else sFr V (sIx V x) 30) else V
theorem Vok.bf {V : Nat → Nat → Int32} {n : Nat} (h : Vok V n) (x : Int64) : Vok (sBfV V x) n := by
  unfold sBfV
  split
  · exact h.xu (by decide) (by decide) (by decide)
  · split
    · split
      · exact h
      · exact h.fr _ _
    · exact h
theorem i64nz {x : Int32} (h : ¬ x = 0) : ¬ x.toInt64 = 0 := fun q => h (by have := congrArg Int64.toInt q; rw [Int32.toInt_toInt64] at this; exact Int32.toInt_inj.mp this)
set_option maxHeartbeats 1000000 in
theorem k_befall {E : xCl} {ex : Bool} {I W : Nat → Nat → Int32} {J : Nat → Nat → Int64} {P : Nat → Nat → Nat} (hP : Pok P) (x : Int64) (d : Nat) : xEx E ex (d + 4) yX10_befall [.ref 0, .long x] (SH, wB I 80 W, J, P) (some (.long (sBfL W x))) (SH, wB I 80 (sBfV W x), J, P) := by
  refine x_enter cqX10_befall [some (.ref 0), some (.long x), none, none, none, none] rfl (by simp [lg_sl, Value.category]) ?_
  refine r_lload_n dX10_befall_0 rfl ?_
  refine r_cS1l dX10_befall_1 slX10_378 (Nat.le_of_ble_eq_true rfl) (k_drawNext x (d + 2)) ?_
  refine r_lstore_n3 dX10_befall_4 rfl ?_
  refine r_lload_n dX10_befall_5 rfl ?_
  refine r_ldc2_w dX10_befall_6 kcX10_381 ?_
  refine r_ldiv dX10_befall_9 (by decide) ?_
  refine r_ldc2_w dX10_befall_10 kcX10_383 ?_
  refine r_lrem dX10_befall_13 (by decide) ?_
  refine r_l2i dX10_befall_14 ?_
  refine r_istore5 dX10_befall_15 rfl ?_
  refine r_iload dX10_befall_17 rfl ?_
  refine r_if_ne 35 dX10_befall_19 (by decide) (fun c19 => ?_) (fun c19 => ?_)
  · refine r_iload dX10_befall_35 rfl ?_
    refine r_iconst (v := 1) dX10_befall_37 (by decide) ?_
    refine r_ic_ne 80 dX10_befall_38 (by decide) (fun c38 => ?_) (fun c38 => ?_)
    · refine r_lload_n dX10_befall_80 rfl ?_
      exact r_lret dX10_befall_81 rfl (by show _ = some (Value.long _); rw [sBfL, if_neg (show ¬ sNb x = 0 from c19), if_neg (show ¬ sNb x = 1 from c38)]) (by rw [sBfV, if_neg (show ¬ sNb x = 0 from c19), if_neg (show ¬ sNb x = 1 from c38)]; try rfl)
    · refine r_aload_n dX10_befall_41 rfl ?_
      refine r_getR dX10_befall_42 flX10_48 sh_0 (by decide) rfl (pf_0_10 hP) ?_
      refine r_getIv dX10_befall_45 flX10_251 (br_s _ hb80) (by decide) rfl (wB_i _ _ _ (by decide)) ?_
      refine r_if_le 80 dX10_befall_48 (by decide) (fun c48 => ?_) (fun c48 => ?_)
      · refine r_lload_n dX10_befall_80 rfl ?_
        exact r_lret dX10_befall_81 rfl (by show _ = some (Value.long _); rw [sBfL, if_neg (show ¬ sNb x = 0 from c19), if_pos (show sNb x = 1 from c38), if_pos c48]) (by rw [sBfV, if_neg (show ¬ sNb x = 0 from c19), if_pos (show sNb x = 1 from c38), if_pos c48]; try rfl)
      · refine r_lload_n dX10_befall_51 rfl ?_
        refine r_cS1l dX10_befall_52 slX10_378 (Nat.le_of_ble_eq_true rfl) (k_drawNext _ (d + 2)) ?_
        refine r_lstore_n3 dX10_befall_55 rfl ?_
        refine r_aload_n dX10_befall_56 rfl ?_
        refine r_getR dX10_befall_57 flX10_48 sh_0 (by decide) rfl (pf_0_10 hP) ?_
        refine r_lload_n dX10_befall_60 rfl ?_
        refine r_ldc2_w dX10_befall_61 kcX10_381 ?_
        refine r_ldiv dX10_befall_64 (by decide) ?_
        refine r_aload_n dX10_befall_65 rfl ?_
        refine r_getR dX10_befall_66 flX10_48 sh_0 (by decide) rfl (pf_0_10 hP) ?_
        refine r_getIv dX10_befall_69 flX10_251 (br_s _ hb80) (by decide) rfl (wB_i _ _ _ (by decide)) ?_
        refine r_i2l dX10_befall_72 ?_
        refine r_lrem dX10_befall_73 (i64nz (fun q => c48 (by rw [q]; decide))) ?_
        refine r_l2i dX10_befall_74 ?_
        refine r_bipush (v := 30) dX10_befall_75 (by decide) ?_
        refine r_cV2v dX10_befall_77 vlX10_385 (br_s _ hb80) (Nat.le_of_ble_eq_true rfl) (k_fray hP hb80 _ _ d) ?_
        refine r_lload_n dX10_befall_80 rfl ?_
        exact r_lret dX10_befall_81 rfl (by show _ = some (Value.long _); rw [sBfL, if_neg (show ¬ sNb x = 0 from c19), if_pos (show sNb x = 1 from c38), if_neg c48]) (by rw [sBfV, if_neg (show ¬ sNb x = 0 from c19), if_pos (show sNb x = 1 from c38), if_neg c48]; try rfl)
  · refine r_aload_n dX10_befall_22 rfl ?_
    refine r_getR dX10_befall_23 flX10_48 sh_0 (by decide) rfl (pf_0_10 hP) ?_
    refine r_dup dX10_befall_26 rfl ?_
    refine r_getIv dX10_befall_27 flX10_301 (br_s _ hb80) (by decide) rfl (wB_i _ _ _ (by decide)) ?_
    refine r_iconst (v := 5) dX10_befall_30 (by decide) ?_
    refine r_iadd dX10_befall_31 ?_
    refine r_putIv dX10_befall_32 flX10_301 ⟨_, _, _, rfl, Or.inl rfl⟩ (br_s _ hb80) (by decide) rfl rfl rfl (wB_xi _ _ _ (by decide) _) ?_
    refine r_iload dX10_befall_35 rfl ?_
    refine r_iconst (v := 1) dX10_befall_37 (by decide) ?_
    refine r_ic_ne 80 dX10_befall_38 (by decide) (fun c38 => ?_) (fun c38 => ?_)
    · refine r_lload_n dX10_befall_80 rfl ?_
      exact r_lret dX10_befall_81 rfl (by show _ = some (Value.long _); rw [sBfL, if_pos (show sNb x = 0 from c19)]) (by rw [sBfV, if_pos (show sNb x = 0 from c19)]; try rfl)
    · refine r_aload_n dX10_befall_41 rfl ?_
      refine r_getR dX10_befall_42 flX10_48 sh_0 (by decide) rfl (pf_0_10 hP) ?_
      refine r_getIv dX10_befall_45 flX10_251 (br_s _ hb80) (by decide) rfl (wB_i _ _ _ (by decide)) ?_
      refine r_if_le 80 dX10_befall_48 (by decide) (fun c48 => ?_) (fun c48 => ?_)
      · refine r_lload_n dX10_befall_80 rfl ?_
        exact absurd (c19.symm.trans c38) (by decide)
      · refine r_lload_n dX10_befall_51 rfl ?_
        refine r_cS1l dX10_befall_52 slX10_378 (Nat.le_of_ble_eq_true rfl) (k_drawNext _ (d + 2)) ?_
        refine r_lstore_n3 dX10_befall_55 rfl ?_
        refine r_aload_n dX10_befall_56 rfl ?_
        refine r_getR dX10_befall_57 flX10_48 sh_0 (by decide) rfl (pf_0_10 hP) ?_
        refine r_lload_n dX10_befall_60 rfl ?_
        refine r_ldc2_w dX10_befall_61 kcX10_381 ?_
        refine r_ldiv dX10_befall_64 (by decide) ?_
        refine r_aload_n dX10_befall_65 rfl ?_
        refine r_getR dX10_befall_66 flX10_48 sh_0 (by decide) rfl (pf_0_10 hP) ?_
        refine r_getIv dX10_befall_69 flX10_251 (br_s _ hb80) (by decide) rfl (wB_i _ _ _ (by decide)) ?_
        refine r_i2l dX10_befall_72 ?_
        refine r_lrem dX10_befall_73 (i64nz (fun q => c48 (by rw [q]; decide))) ?_
        refine r_l2i dX10_befall_74 ?_
        refine r_bipush (v := 30) dX10_befall_75 (by decide) ?_
        refine r_cV2v dX10_befall_77 vlX10_385 (br_s _ hb80) (Nat.le_of_ble_eq_true rfl) (k_fray hP hb80 _ _ d) ?_
        refine r_lload_n dX10_befall_80 rfl ?_
        exact absurd (c19.symm.trans c38) (by decide)
def sChY (V : Nat → Nat → Int32) (Lw : Nat → (Nat → Int64) → Int64) (n : Nat) (T : Nat → Nat → Int32) (m : Nat) (x : Int64) : Nat → Int64 × (Nat → Nat → Int32)
  | 0 => (x, V)
  | j + 1 => (sBfL (sChY V Lw n T m x j).2 (sChY V Lw n T m x j).1, sGo (sBfV (sChY V Lw n T m x j).2 (sChY V Lw n T m x j).1) Lw n T m (-1))
theorem Vok.cy {V : Nat → Nat → Int32} {n : Nat} (h : Vok V n) (Lw : Nat → (Nat → Int64) → Int64) (T : Nat → Nat → Int32) (m : Nat) (x : Int64) : ∀ j, Vok (sChY V Lw n T m x j).2 n
  | 0 => h
  | j + 1 => ((Vok.cy h Lw T m x j).bf _).go Lw T m (-1)
def sChD (V : Nat → Nat → Int32) (Lw : Nat → (Nat → Int64) → Int64) (n : Nat) (T : Nat → Nat → Int32) (m k : Nat) (u : Int32) (x : Int64) : Nat → Int64 × Int32
  | 0 => (x, 0)
  | i + 1 => ((sChY V Lw n T m (sChD V Lw n T m k u x i).1 k).1, if sBr (sChY V Lw n T m (sChD V Lw n T m k u x i).1 k).2 Lw n < u then (sChD V Lw n T m k u x i).2 else (sChD V Lw n T m k u x i).2 + 1)
theorem sChD_lt {V : Nat → Nat → Int32} {Lw : Nat → (Nat → Int64) → Int64} {n : Nat} {T : Nat → Nat → Int32} {m k : Nat} {u : Int32} {x : Int64} {i : Nat} (h : sBr (sChY V Lw n T m (sChD V Lw n T m k u x i).1 k).2 Lw n < u) : sChD V Lw n T m k u x (i + 1) = ((sChY V Lw n T m (sChD V Lw n T m k u x i).1 k).1, (sChD V Lw n T m k u x i).2) := by rw [sChD, if_pos h]
theorem sChD_ge {V : Nat → Nat → Int32} {Lw : Nat → (Nat → Int64) → Int64} {n : Nat} {T : Nat → Nat → Int32} {m k : Nat} {u : Int32} {x : Int64} {i : Nat} (h : ¬ sBr (sChY V Lw n T m (sChD V Lw n T m k u x i).1 k).2 Lw n < u) : sChD V Lw n T m k u x (i + 1) = ((sChY V Lw n T m (sChD V Lw n T m k u x i).1 k).1, (sChD V Lw n T m k u x i).2 + 1) := by rw [sChD, if_neg h]
set_option maxHeartbeats 2000000 in
theorem t_chance {E : xCl} {ex : Bool} {I : Nat → Nat → Int32} {J : Nat → Nat → Int64} {P : Nat → Nat → Nat} (hP : Pok P) {t : Nat} (ht : t ∈ TL) (hx5 : P 0 5 = t + 1) (hb8 : P 80 0 = t + 1) {V0 : Nat → Nat → Int32} {n : Nat} (hv : Vok V0 n) (hL : Lok I t) {m : Nat} (hm : m ≤ 8) (hc : I t 7 = nI m) (hg : ∀ k, vp_in (I (t + 4) k) 6) {k : Nat} (hk : k ≤ 30) (s u r i : Int32) (x : Int64) (d : Nat) {Q : Option Value → xS → Prop} (kk : ∀ J2, Jok J J2 t → xR (xEx E ex (d + 8)) ex none yX10_chance cX10_chance (some .int) 88 [some (.ref 0), some (.int s), some (.int (nI k)), some (.int u), some (.long (sChY V0 (Lv I t) n (fun o => I (t + o)) m x k).1), none, some (.int r), some (.int i), some (.int (nI k))] [] (SH, wB I 80 (sChY V0 (Lv I t) n (fun o => I (t + o)) m x k).2, J2, P) Q) : ∀ c j J1, j + c = k → Jok J J1 t → xR (xEx E ex (d + 8)) ex none yX10_chance cX10_chance (some .int) 59 [some (.ref 0), some (.int s), some (.int (nI k)), some (.int u), some (.long (sChY V0 (Lv I t) n (fun o => I (t + o)) m x j).1), none, some (.int r), some (.int i), some (.int (nI j))] [] (SH, wB I 80 (sChY V0 (Lv I t) n (fun o => I (t + o)) m x j).2, J1, P) Q := by
  intro c
  induction c with
  | zero =>
    intro j J1 hj hJ
    refine r_iload dX10_chance_59 rfl ?_
    refine r_iload_n dX10_chance_61 rfl ?_
    refine r_ic_ge 88 dX10_chance_62 (by decide) (fun c62 => ?_) (fun c62 => ?_)
    · have e : k = j := (by omega); have z := kk J1 hJ; rw [e] at z ⊢; exact z
    · exact absurd (nI_le (by omega) (by omega)) c62
  | succ c ih =>
    intro j J1 hj hJ
    refine r_iload dX10_chance_59 rfl ?_
    refine r_iload_n dX10_chance_61 rfl ?_
    refine r_ic_ge 88 dX10_chance_62 (by decide) (fun c62 => ?_) (fun c62 => ?_)
    · exact absurd c62 (nI_ge (by omega) (by omega))
    · refine r_aload_n dX10_chance_65 rfl ?_
      refine r_lload dX10_chance_66 rfl ?_
      refine r_cV1l dX10_chance_68 vlX10_374 sh_0 (Nat.le_of_ble_eq_true rfl) (k_befall hP _ (d + 4)) ?_
      refine r_lstore4 dX10_chance_71 rfl ?_
      refine r_aload_n dX10_chance_73 rfl ?_
      refine r_getR dX10_chance_74 flX10_48 sh_0 (by decide) rfl (pf_0_10 hP) ?_
      refine r_iconst (v := (-1)) dX10_chance_77 (by decide) ?_
      obtain ⟨J78, hx78, hj78⟩ := k_goYear (E := E) (ex := ex) (V := sBfV (sChY V0 (Lv I t) n (fun o => I (t + o)) m x j).2 (sChY V0 (Lv I t) n (fun o => I (t + o)) m x j).1) (J := J1) hP hb80 ht hb8 ((hv.cy (Lv I t) (fun o => I (t + o)) m x j).bf _) hL hm hc hg (-1) (d)
      refine r_cV1i dX10_chance_78 vlX10_276 (br_s _ hb80) (Nat.le_of_ble_eq_true rfl) hx78 ?_
      refine r_pop dX10_chance_81 rfl ?_
      refine r_iinc8 (v := 1) dX10_chance_82 (by decide) rfl ?_
      refine r_goto 59 dX10_chance_85 (by decide) ?_
      rw [nI_1]; exact ih (j + 1) _ (by omega) (hJ.tr hj78)
set_option maxHeartbeats 2000000 in
theorem l_chance {E : xCl} {ex : Bool} {I : Nat → Nat → Int32} {J : Nat → Nat → Int64} {P : Nat → Nat → Nat} (hP : Pok P) {t : Nat} (ht : t ∈ TL) (hx5 : P 0 5 = t + 1) (hbt : P 56 0 = t + 1) (hb8 : P 80 0 = t + 1) {n : Nat} (hv : Vok (vB I 56) n) (hL : Lok I t) {m : Nat} (hm : m ≤ 8) (hc : I t 7 = nI m) (hg : ∀ k, vp_in (I (t + 4) k) 6) {k : Nat} (hk : k ≤ 30) (s u : Int32) (x : Int64) (d : Nat) : ∀ c j J1 W1 y, j + c = 10 → Jok J J1 t → xR (xEx E ex (d + 8)) ex none yX10_chance cX10_chance (some .int) 38 [some (.ref 0), some (.int s), some (.int (nI k)), some (.int u), some (.long (sChD (vB I 56) (Lv I t) n (fun o => I (t + o)) m k u x j).1), none, some (.int (sChD (vB I 56) (Lv I t) n (fun o => I (t + o)) m k u x j).2), some (.int (nI j)), y] [] (SH, wB I 80 W1, J1, P) (Qt I J P t (some (.int (sChD (vB I 56) (Lv I t) n (fun o => I (t + o)) m k u x 10).2))) := by
  intro c
  induction c with
  | zero =>
    intro j J1 W1 y hj hJ
    refine r_iload dX10_chance_38 rfl ?_
    refine r_bipush (v := 10) dX10_chance_40 (by decide) ?_
    refine r_ic_ge 108 dX10_chance_42 (by decide) (fun c42 => ?_) (fun c42 => ?_)
    · refine r_iload dX10_chance_108 rfl ?_
      exact r_iretq dX10_chance_110 rfl rfl (by rw [show j = 10 by omega]; exact Qt.mk hJ)
    · exact absurd (nI_le (a := 10) (b := j) (by omega) (by omega)) c42
  | succ c ih =>
    intro j J1 W1 y hj hJ
    refine r_iload dX10_chance_38 rfl ?_
    refine r_bipush (v := 10) dX10_chance_40 (by decide) ?_
    refine r_ic_ge 108 dX10_chance_42 (by decide) (fun c42 => ?_) (fun c42 => ?_)
    · exact absurd c42 (nI_ge (a := j) (b := 10) (by omega) (by omega))
    · refine r_aload_n dX10_chance_45 rfl ?_
      refine r_getR dX10_chance_46 flX10_48 sh_0 (by decide) rfl (pf_0_10 hP) ?_
      refine r_aload_n dX10_chance_49 rfl ?_
      refine r_getR dX10_chance_50 flX10_42 sh_0 (by decide) rfl (pf_0_7 hP) ?_
      refine r_cV1v dX10_chance_53 vlX10_119 (br_s _ hb80) (Nat.le_of_ble_eq_true rfl) (by have z := k_become (E := E) (ex := ex) (I := I) (V := W1) (J := J1) hP hb80 hb56 (by decide) ht hbt (d + 7); rw [xu_id P hb8] at z; exact z) ?_
      refine r_iconst (v := 0) dX10_chance_56 (by decide) ?_
      refine r_istore8 dX10_chance_57 rfl ?_
      refine t_chance (J := J1) hP ht hx5 hb8 hv hL hm hc hg hk s u _ _ _ d (fun J2 h2 => ?_) k 0 J1 (by omega) (Jok.rf _ t)
      refine r_aload_n dX10_chance_88 rfl ?_
      refine r_getR dX10_chance_89 flX10_48 sh_0 (by decide) rfl (pf_0_10 hP) ?_
      obtain ⟨J92, hx92, hj92⟩ := k_bridgeBears (E := E) (ex := ex) (J := J2) hP hb80 ht hb8 (hv.cy (Lv I t) (fun o => I (t + o)) m _ k) hL (d + 2)
      refine r_cV0i dX10_chance_92 vlX10_239 (br_s _ hb80) (Nat.le_of_ble_eq_true rfl) hx92 ?_
      refine r_iload_n dX10_chance_95 rfl ?_
      refine r_ic_lt 102 dX10_chance_96 (by decide) (fun c96 => ?_) (fun c96 => ?_)
      · refine r_iinc7 (v := 1) dX10_chance_102 (by decide) rfl ?_
        refine r_goto 38 dX10_chance_105 (by decide) ?_
        rw [nI_1]; have z := ih (j + 1) J92 (sChY (vB I 56) (Lv I t) n (fun o => I (t + o)) m (sChD (vB I 56) (Lv I t) n (fun o => I (t + o)) m k u x j).1 k).2 (some (.int (nI k))) (by omega) ((hJ.tr h2).tr hj92); rw [sChD_lt c96] at z; exact z
      · refine r_iinc6 (v := 1) dX10_chance_99 (by decide) rfl ?_
        refine r_iinc7 (v := 1) dX10_chance_102 (by decide) rfl ?_
        refine r_goto 38 dX10_chance_105 (by decide) ?_
        rw [nI_1]; have z := ih (j + 1) J92 (sChY (vB I 56) (Lv I t) n (fun o => I (t + o)) m (sChD (vB I 56) (Lv I t) n (fun o => I (t + o)) m k u x j).1 k).2 (some (.int (nI k))) (by omega) ((hJ.tr h2).tr hj92); rw [sChD_ge c96] at z; exact z
abbrev okC (s k u : Int32) : Prop := ¬ s < 0 ∧ ¬ k < 1 ∧ ¬ 30 < k ∧ ¬ u < 0 ∧ u ≤ 9999
set_option maxHeartbeats 1000000 in
theorem k_chance_n {E : xCl} {ex : Bool} {I W : Nat → Nat → Int32} {J : Nat → Nat → Int64} {P : Nat → Nat → Nat} {s k u : Int32} (h : ¬ okC s k u) (d : Nat) : xEx E ex (d + 1) yX10_chance [.ref 0, .int s, .int k, .int u] (SH, wB I 80 W, J, P) (some (.int (-1))) (SH, wB I 80 W, J, P) := by
  refine x_enter cqX10_chance [some (.ref 0), some (.int s), some (.int k), some (.int u), none, none, none, none, none] rfl (by simp [lg_sl, Value.category]) ?_
  refine r_iload_n dX10_chance_0 rfl ?_
  refine r_if_lt 26 dX10_chance_1 (by decide) (fun c1 => ?_) (fun c1 => ?_)
  · refine r_iconst (v := (-1)) dX10_chance_26 (by decide) ?_
    exact r_iret dX10_chance_27 rfl rfl rfl rfl
  · refine r_iload_n dX10_chance_4 rfl ?_
    refine r_iconst (v := 1) dX10_chance_5 (by decide) ?_
    refine r_ic_lt 26 dX10_chance_6 (by decide) (fun c6 => ?_) (fun c6 => ?_)
    · refine r_iconst (v := (-1)) dX10_chance_26 (by decide) ?_
      exact r_iret dX10_chance_27 rfl rfl rfl rfl
    · refine r_iload_n dX10_chance_9 rfl ?_
      refine r_bipush (v := 30) dX10_chance_10 (by decide) ?_
      refine r_ic_gt 26 dX10_chance_12 (by decide) (fun c12 => ?_) (fun c12 => ?_)
      · refine r_iconst (v := (-1)) dX10_chance_26 (by decide) ?_
        exact r_iret dX10_chance_27 rfl rfl rfl rfl
      · refine r_iload_n dX10_chance_15 rfl ?_
        refine r_if_lt 26 dX10_chance_16 (by decide) (fun c16 => ?_) (fun c16 => ?_)
        · refine r_iconst (v := (-1)) dX10_chance_26 (by decide) ?_
          exact r_iret dX10_chance_27 rfl rfl rfl rfl
        · refine r_iload_n dX10_chance_19 rfl ?_
          refine r_sipush (v := 9999) dX10_chance_20 (by decide) ?_
          refine r_ic_le 28 dX10_chance_23 (by decide) (fun c23 => ?_) (fun c23 => ?_)
          · exact absurd ⟨c1, c6, c12, c16, c23⟩ h
          · refine r_iconst (v := (-1)) dX10_chance_26 (by decide) ?_
            exact r_iret dX10_chance_27 rfl rfl rfl rfl
set_option maxHeartbeats 2000000 in
theorem k_chance {E : xCl} {ex : Bool} {I W : Nat → Nat → Int32} {J : Nat → Nat → Int64} {P : Nat → Nat → Nat} (hP : Pok P) {t : Nat} (ht : t ∈ TL) (hx5 : P 0 5 = t + 1) (hbt : P 56 0 = t + 1) {n : Nat} (hv : Vok (vB I 56) n) (hL : Lok I t) {m : Nat} (hm : m ≤ 8) (hc : I t 7 = nI m) (hg : ∀ k, vp_in (I (t + 4) k) 6) {k : Nat} (hk : k ≤ 30) {s u : Int32} (h : okC s (nI k) u) (d : Nat) : ∃ J' W', xEx E ex (d + 9) yX10_chance [.ref 0, .int s, .int (nI k), .int u] (SH, wB I 80 W, J, P) (some (.int (sChD (vB I 56) (Lv I t) n (fun o => I (t + o)) m k u s.toInt64 10).2)) (SH, wB I 80 W', J', (xu P 80 0 (t + 1))) ∧ Jok J J' t := by
  refine Qt.use (x_enterq (d := d + 8) cqX10_chance [some (.ref 0), some (.int s), some (.int (nI k)), some (.int u), none, none, none, none, none] rfl (by simp [lg_sl, Value.category]) ?_)
  refine r_iload_n dX10_chance_0 rfl ?_
  refine r_if_lt 26 dX10_chance_1 (by decide) (fun c1 => ?_) (fun c1 => ?_)
  · exact absurd c1 h.1
  · refine r_iload_n dX10_chance_4 rfl ?_
    refine r_iconst (v := 1) dX10_chance_5 (by decide) ?_
    refine r_ic_lt 26 dX10_chance_6 (by decide) (fun c6 => ?_) (fun c6 => ?_)
    · exact absurd c6 h.2.1
    · refine r_iload_n dX10_chance_9 rfl ?_
      refine r_bipush (v := 30) dX10_chance_10 (by decide) ?_
      refine r_ic_gt 26 dX10_chance_12 (by decide) (fun c12 => ?_) (fun c12 => ?_)
      · exact absurd c12 h.2.2.1
      · refine r_iload_n dX10_chance_15 rfl ?_
        refine r_if_lt 26 dX10_chance_16 (by decide) (fun c16 => ?_) (fun c16 => ?_)
        · exact absurd c16 h.2.2.2.1
        · refine r_iload_n dX10_chance_19 rfl ?_
          refine r_sipush (v := 9999) dX10_chance_20 (by decide) ?_
          refine r_ic_le 28 dX10_chance_23 (by decide) (fun c23 => ?_) (fun c23 => ?_)
          · refine r_iload_n dX10_chance_28 rfl ?_
            refine r_i2l dX10_chance_29 ?_
            refine r_lstore4 dX10_chance_30 rfl ?_
            refine r_iconst (v := 0) dX10_chance_32 (by decide) ?_
            refine r_istore6 dX10_chance_33 rfl ?_
            refine r_iconst (v := 0) dX10_chance_35 (by decide) ?_
            refine r_istore7 dX10_chance_36 rfl ?_
            refine r_iload dX10_chance_38 rfl ?_
            refine r_bipush (v := 10) dX10_chance_40 (by decide) ?_
            refine r_ic_ge 108 dX10_chance_42 (by decide) (fun c42 => ?_) (fun c42 => ?_)
            · exact absurd c42 (by decide)
            · refine r_aload_n dX10_chance_45 rfl ?_
              refine r_getR dX10_chance_46 flX10_48 sh_0 (by decide) rfl (pf_0_10 hP) ?_
              refine r_aload_n dX10_chance_49 rfl ?_
              refine r_getR dX10_chance_50 flX10_42 sh_0 (by decide) rfl (pf_0_7 hP) ?_
              refine r_cV1v dX10_chance_53 vlX10_119 (br_s _ hb80) (Nat.le_of_ble_eq_true rfl) (k_become (V := W) hP hb80 hb56 (by decide) ht hbt (d + 7)) ?_
              have hP := hP.xb hb80 (t + 1); have hb8 : xu P 80 0 (t + 1) 80 0 = t + 1 := xu_s _ _ _ _; have hx5 : xu P 80 0 (t + 1) 0 5 = t + 1 := (xu_f _ _ (by decide)).trans hx5; have hbt : xu P 80 0 (t + 1) 56 0 = t + 1 := (xu_f _ _ (by decide)).trans hbt
              refine r_iconst (v := 0) dX10_chance_56 (by decide) ?_
              refine r_istore8 dX10_chance_57 rfl ?_
              refine t_chance (J := J) hP ht hx5 hb8 hv hL hm hc hg hk s u _ _ _ d (fun J2 h2 => ?_) k 0 J (by omega) (Jok.rf _ t)
              refine r_aload_n dX10_chance_88 rfl ?_
              refine r_getR dX10_chance_89 flX10_48 sh_0 (by decide) rfl (pf_0_10 hP) ?_
              obtain ⟨J92, hx92, hj92⟩ := k_bridgeBears (E := E) (ex := ex) (J := J2) hP hb80 ht hb8 (hv.cy (Lv I t) (fun o => I (t + o)) m _ k) hL (d + 2)
              refine r_cV0i dX10_chance_92 vlX10_239 (br_s _ hb80) (Nat.le_of_ble_eq_true rfl) hx92 ?_
              refine r_iload_n dX10_chance_95 rfl ?_
              refine r_ic_lt 102 dX10_chance_96 (by decide) (fun c96 => ?_) (fun c96 => ?_)
              · refine r_iinc7 (v := 1) dX10_chance_102 (by decide) rfl ?_
                refine r_goto 38 dX10_chance_105 (by decide) ?_
                have z := l_chance (E := E) (ex := ex) (J := J) hP ht hx5 hbt hb8 hv hL hm hc hg hk s u s.toInt64 d 9 (0 + 1) J92 (sChY (vB I 56) (Lv I t) n (fun o => I (t + o)) m s.toInt64 k).2 (some (.int (nI k))) rfl (h2.tr hj92); rw [sChD_lt (i := 0) (x := s.toInt64) c96] at z; exact z
              · refine r_iinc6 (v := 1) dX10_chance_99 (by decide) rfl ?_
                refine r_iinc7 (v := 1) dX10_chance_102 (by decide) rfl ?_
                refine r_goto 38 dX10_chance_105 (by decide) ?_
                have z := l_chance (E := E) (ex := ex) (J := J) hP ht hx5 hbt hb8 hv hL hm hc hg hk s u s.toInt64 d 9 (0 + 1) J92 (sChY (vB I 56) (Lv I t) n (fun o => I (t + o)) m s.toInt64 k).2 (some (.int (nI k))) rfl (h2.tr hj92); rw [sChD_ge (i := 0) (x := s.toInt64) c96] at z; exact z
          · exact absurd h.2.2.2.2 c23
