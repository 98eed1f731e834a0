/-! the reference: two cliffs at war -/
/-- the side of him who owes by a strand -/
def rSd (I : Nat → Nat → Int32) : Nat → Int32 := fun k => I 353 (I 379 k).toNatClampNeg
def wH (I : Nat → Nat → Int32) (A B : Nat → Int32) : Nat → Nat → Int32 := fun a k => if a = 398 ∧ k < 4 then A k else if a = 399 ∧ k < 4 then B k else I a k
theorem wH_o (I : Nat → Nat → Int32) (A B : Nat → Int32) {a : Nat} (h : a ≠ 398) (h' : a ≠ 399) (k : Nat) : wH I A B a k = I a k := by simp [wH, h, h']
theorem wH_a (I : Nat → Nat → Int32) (A B : Nat → Int32) {k : Nat} (h : k < 4) : wH I A B 398 k = A k := by simp [wH, h]
theorem wH_b (I : Nat → Nat → Int32) (A B : Nat → Int32) {k : Nat} (h : k < 4) : wH I A B 399 k = B k := by simp [wH, h]
theorem wH_xa (I : Nat → Nat → Int32) (A B : Nat → Int32) {k : Nat} (h : k < 4) (v : Int32) : xu (wH I A B) 398 k v = wH I (up A k v) B := by
  funext a q
  simp only [xu, wH, up]
  by_cases ha : a = 398
  · subst ha
    by_cases hq : q = k
    · subst hq; simp [h]
    · simp [hq]
  · simp [ha]
theorem wH_xb (I : Nat → Nat → Int32) (A B : Nat → Int32) {k : Nat} (h : k < 4) (v : Int32) : xu (wH I A B) 399 k v = wH I A (up B k v) := by
  funext a q
  simp only [xu, wH, up]
  by_cases ha : a = 399
  · subst ha
    by_cases hq : q = k
    · subst hq; simp [h]
    · simp [hq]
  · simp [ha]
theorem wH_id (I : Nat → Nat → Int32) : wH I (I 398) (I 399) = I := by
  funext a k
  simp only [wH]
  split
  · rename_i h; rw [h.1]
  · split
    · rename_i h; rw [h.1]
    · rfl
theorem up_s (p : Nat → Int32) (k : Nat) (v : Int32) : up p k v k = v := by simp [up]
theorem up_up (p : Nat → Int32) (k : Nat) (v w : Int32) : up (up p k v) k w = up p k w := by funext q; simp only [up]; split <;> rfl
/-- what the cliffs do at g: does the strand j go -/
abbrev gC (h9 sd : Nat → Int32) (g j : Nat) : Prop := h9 j = 0 ∧ ¬ (if sd j = 0 then nI g / 2 else nI g - nI g / 2 * 2) = 0
def gV (V : Nat → Nat → Int32) (h9 sd : Nat → Int32) (g : Nat) : Nat → Nat → Nat → Int32
  | 0 => V
  | j + 1 => if gC h9 sd g j then xu (gV V h9 sd g j) 9 j 2 else gV V h9 sd g j
def gA (h9 sd ow : Nat → Int32) (g : Nat) : Nat → Int32
  | 0 => 0
  | j + 1 => if gC h9 sd g j then gA h9 sd ow g j + (if sd j = 0 then ow j else 0) else gA h9 sd ow g j
def gB (h9 sd ow : Nat → Int32) (g : Nat) : Nat → Int32
  | 0 => 0
  | j + 1 => if gC h9 sd g j then gB h9 sd ow g j + (if sd j = 0 then 0 else ow j) else gB h9 sd ow g j
theorem Vok.gv {V : Nat → Nat → Int32} {n : Nat} (h : Vok V n) (h9 sd : Nat → Int32) (g : Nat) : ∀ j, Vok (gV V h9 sd g j) n
  | 0 => h
  | j + 1 => by
    rw [gV]; split
    · exact (Vok.gv h h9 sd g j).xu (by decide) (by decide) (by decide)
    · exact Vok.gv h h9 sd g j
theorem Tok.gv {V : Nat → Nat → Int32} {n : Nat} (h : Tok V n) (h9 sd : Nat → Int32) (g : Nat) : ∀ j, Tok (gV V h9 sd g j) n
  | 0 => h
  | j + 1 => by
    rw [gV]; split
    · exact (Tok.gv h h9 sd g j).xu (by decide)
    · exact Tok.gv h h9 sd g j
theorem FX.gv {V W : Nat → Nat → Int32} (h : FX V W) (h9 sd : Nat → Int32) (g : Nat) : ∀ j, FX V (gV W h9 sd g j)
  | 0 => h
  | j + 1 => by
    rw [gV]; split
    · exact (FX.gv h h9 sd g j).xu (by decide)
    · exact FX.gv h h9 sd g j
theorem gV_3 (V : Nat → Nat → Int32) (h9 sd : Nat → Int32) (g : Nat) : ∀ j k, gV V h9 sd g j 3 k = V 3 k := fun j k => (FX.gv (FX.rf V) h9 sd g j) 3 k (by simp)
set_option maxHeartbeats 4000000 in
theorem l_rwar1 {E : xCl} {ex : Bool} {I : Nat → Nat → Int32} {e1 : Int32} {J1 : Nat → Nat → Int64} {P : Nat → Nat → Nat} (hP : Pok P) {n : Nat} (hv : Vok (vR I 0) n) (h3 : ∀ k, vp_in (I 379 k) 6) {A B : Nat → Int32} {w : Int32} {g : Nat} (hg : g < 4) (d : Nat) {Q : Option Value → xS → Prop} (K : ∀ y4, xR (xEx E ex (d + 7)) ex none yX11_layWar cX11_layWar none 151 [some (.ref 347), some (.int w), some (.int (nI g)), some (.int (nI n)), y4] [] (SH, wR (wE (rPl (wH I (up A g (gA (I 385) (rSd I) (I 383) g n)) (up B g (gB (I 385) (rSd I) (I 383) g n)))) e1) 1 (gV (vR I 0) (I 385) (rSd I) g n), J1, P) Q) : ∀ j, j ≤ n → ∀ y4, xR (xEx E ex (d + 7)) ex none yX11_layWar cX11_layWar none 27 [some (.ref 347), some (.int w), some (.int (nI g)), some (.int (nI j)), y4] [] (SH, wR (wE (rPl (wH I (up A g (gA (I 385) (rSd I) (I 383) g j)) (up B g (gB (I 385) (rSd I) (I 383) g j)))) e1) 1 (gV (vR I 0) (I 385) (rSd I) g j), J1, P) Q := by
  have hn := hv.1
  refine r_for (fun j => ∀ y4, xR (xEx E ex (d + 7)) ex none yX11_layWar cX11_layWar none 27 [some (.ref 347), some (.int w), some (.int (nI g)), some (.int (nI j)), y4] [] (SH, wR (wE (rPl (wH I (up A g (gA (I 385) (rSd I) (I 383) g j)) (up B g (gB (I 385) (rSd I) (I 383) g j)))) e1) 1 (gV (vR I 0) (I 385) (rSd I) g j), J1, P) Q) _ ?_ ?_
  · intro j hj ih y4
    have hvj := hv.gv (I 385) (rSd I) g j
    have rI9 : wR (wE (rPl (wH I (up A g (gA (I 385) (rSd I) (I 383) g j)) (up B g (gB (I 385) (rSd I) (I 383) g j)))) e1) 1 (gV (vR I 0) (I 385) (rSd I) g j) 385 j = I 385 j := by
      have h := rN9 (wE (rPl (wH I (up A g (gA (I 385) (rSd I) (I 383) g j)) (up B g (gB (I 385) (rSd I) (I 383) g j)))) e1) (gV (vR I 0) (I 385) (rSd I) g j) (j := j) (by omega)
      rw [nI_clamp (by omega)] at h
      rw [h, wE_o _ _ (by decide), rPl_o (by decide), wH_o _ _ _ (by decide) (by decide)]
    refine r_iload_n dX11_layWar_27 rfl ?_
    refine r_aload_n dX11_layWar_28 rfl ?_
    refine r_getR dX11_layWar_29 flX11_106 sh_347 (by decide) rfl (pf_347_55 hP) ?_
    refine r_iconst (v := 1) dX11_layWar_32 (by decide) ?_
    refine r_ialv dX11_layWar_33 sh_378 ix2_1 (rS13_1 _ _) ?_
    refine r_ic_ge 151 dX11_layWar_34 (by decide) (fun c34 => ?_) (fun c34 => ?_)
    · exact absurd c34 (hvj.g hj)
    · refine r_aload_n dX11_layWar_37 rfl ?_
      refine r_getR dX11_layWar_38 flX11_30 sh_347 (by decide) rfl (pf_347_23 hP) ?_
      refine r_aload_n dX11_layWar_41 rfl ?_
      refine r_getR dX11_layWar_42 flX11_109 sh_347 (by decide) rfl (pf_347_56 hP) ?_
      refine r_iload_n dX11_layWar_45 rfl ?_
      refine r_ialv dX11_layWar_46 sh_379 (hvj.i hj) ((rR3 _ _ (hvj.i hj)).trans ((congrArg ((gV (vR I 0) (I 385) (rSd I) g j) 3) (hvj.c hj)).trans (gV_3 _ _ _ _ _ _))) ?_
      refine r_ialv dX11_layWar_47 sh_353 (in6_12 (h3 _)) ((wR_o _ _ _ (by decide) _).trans ((wE_o _ _ (by decide) _).trans ((rPl_o (by decide) _).trans ((wH_o _ _ _ (by decide) (by decide) _).trans (show I 353 (vR I 0 3 j).toNatClampNeg = rSd I j from rfl))))) ?_
      refine r_if_ne 55 dX11_layWar_48 (by decide) (fun c48 => ?_) (fun c48 => ?_)
      · refine r_iconst (v := 0) dX11_layWar_55 (by decide) ?_
        refine r_istore4 dX11_layWar_56 rfl ?_
        refine r_aload_n dX11_layWar_58 rfl ?_
        refine r_iconst (v := 0) dX11_layWar_59 (by decide) ?_
        refine r_iload_n dX11_layWar_60 rfl ?_
        by_cases h61 : I 385 j = 0
        · refine r_cV2i dX11_layWar_61 vlX11_418 sh_347 (Nat.le_of_ble_eq_true rfl) (k_isTh0I_t hP (hvj.i hj) (by rw [hvj.c hj, rI9]; exact h61) (d + 6)) ?_
          refine r_if_eq 145 dX11_layWar_64 (by decide) (fun c64 => ?_) (fun c64 => ?_)
          · exact absurd c64 (by decide)
          · refine r_iload dX11_layWar_67 rfl ?_
            refine r_if_eq 78 dX11_layWar_69 (by decide) (fun c69 => ?_) (fun c69 => ?_)
            · refine r_iload_n dX11_layWar_78 rfl ?_
              refine r_iconst (v := 2) dX11_layWar_79 (by decide) ?_
              refine r_irem dX11_layWar_80 (by decide) ?_
              refine r_if_ne 87 dX11_layWar_81 (by decide) (fun c81 => ?_) (fun c81 => ?_)
              · refine r_aload_n dX11_layWar_87 rfl ?_
                refine r_getR dX11_layWar_88 flX11_127 sh_347 (by decide) rfl (pf_347_62 hP) ?_
                refine r_bipush (v := 12) dX11_layWar_91 (by decide) ?_
                refine r_iload_n dX11_layWar_93 rfl ?_
                refine r_iadd dX11_layWar_94 ?_
                refine r_iconst (v := 2) dX11_layWar_95 (by decide) ?_
                refine r_iasv dX11_layWar_96 sh_385 (io12 (hvj.i hj)) ((rP9 _ _ (hvj.i hj) _).trans (by rw [hvj.c hj])) ?_
                refine r_aload_n dX11_layWar_97 rfl ?_
                refine r_getR dX11_layWar_98 flX11_169 sh_347 (by decide) rfl (pf_347_81 hP) ?_
                refine r_iload_n dX11_layWar_101 rfl ?_
                refine r_dup2 dX11_layWar_102 rfl rfl ?_
                refine r_ialv dX11_layWar_103 sh_398 (vp_in_nI hg (by omega)) ((wR_o _ _ _ (by decide) _).trans ((wE_o _ _ (by decide) _).trans ((rPl_o (by decide) _).trans ((congrArg (wH I _ _ 398) (nI_clamp (n := g) (by omega))).trans ((wH_a _ _ _ hg).trans (up_s _ _ _)))))) ?_
                refine r_iload dX11_layWar_104 rfl ?_
                refine r_if_eq 118 dX11_layWar_106 (by decide) (fun c106 => ?_) (fun c106 => ?_)
                · refine r_iconst (v := 0) dX11_layWar_118 (by decide) ?_
                  refine r_iadd dX11_layWar_119 ?_
                  refine r_iasv dX11_layWar_120 sh_398 (vp_in_nI hg (by omega)) (show _ = wR (wE (rPl (wH I (up A g ((gA (I 385) (rSd I) (I 383) g j) + 0)) (up B g (gB (I 385) (rSd I) (I 383) g j)))) e1) 1 (xu (gV (vR I 0) (I 385) (rSd I) g j) 9 j 2) from (wR_xo _ _ _ (by decide) _ _).trans (congrArg (fun z => wR z _ _) ((wE_c _ _ _ (fun z => absurd z.1 (by decide))).trans (congrArg (fun z => wE z _) (by rw [rPl_x _ (by decide), nI_clamp (n := g) (by omega), wH_xa _ _ _ hg, up_up]))))) ?_
                  refine r_aload_n dX11_layWar_121 rfl ?_
                  refine r_getR dX11_layWar_122 flX11_172 sh_347 (by decide) rfl (pf_347_82 hP) ?_
                  refine r_iload_n dX11_layWar_125 rfl ?_
                  refine r_dup2 dX11_layWar_126 rfl rfl ?_
                  refine r_ialv dX11_layWar_127 sh_399 (vp_in_nI hg (by omega)) ((wR_o _ _ _ (by decide) _).trans ((wE_o _ _ (by decide) _).trans ((rPl_o (by decide) _).trans ((congrArg (wH I _ _ 399) (nI_clamp (n := g) (by omega))).trans ((wH_b _ _ _ hg).trans (up_s _ _ _)))))) ?_
                  refine r_iload dX11_layWar_128 rfl ?_
                  refine r_if_eq 137 dX11_layWar_130 (by decide) (fun c130 => ?_) (fun c130 => ?_)
                  · refine r_aload_n dX11_layWar_137 rfl ?_
                    refine r_getR dX11_layWar_138 flX11_121 sh_347 (by decide) rfl (pf_347_60 hP) ?_
                    refine r_iload_n dX11_layWar_141 rfl ?_
                    refine r_ialv dX11_layWar_142 sh_383 (vp_in_nI (by omega) (by omega)) ((rN5 _ _ (by omega)).trans ((wE_o _ _ (by decide) _).trans ((rPl_o (by decide) _).trans (wH_o _ _ _ (by decide) (by decide) _)))) ?_
                    refine r_iadd dX11_layWar_143 ?_
                    refine r_iasv dX11_layWar_144 sh_399 (vp_in_nI hg (by omega)) (show _ = wR (wE (rPl (wH I (up A g ((gA (I 385) (rSd I) (I 383) g j) + 0)) (up B g ((gB (I 385) (rSd I) (I 383) g j) + I 383 j)))) e1) 1 (xu (gV (vR I 0) (I 385) (rSd I) g j) 9 j 2) from (wR_xo _ _ _ (by decide) _ _).trans (congrArg (fun z => wR z _ _) ((wE_c _ _ _ (fun z => absurd z.1 (by decide))).trans (congrArg (fun z => wE z _) (by rw [rPl_x _ (by decide), nI_clamp (n := g) (by omega), wH_xb _ _ _ hg, up_up]))))) ?_
                    refine r_iinc3 (v := 1) dX11_layWar_145 (by decide) rfl ?_
                    refine r_goto 27 dX11_layWar_148 (by decide) ?_
                    rw [nI_1]; rw [gV, gA, gB, if_pos (show gC (I 385) (rSd I) g j from ⟨h61, by rw [if_neg c48]; exact c81⟩), if_pos (show gC (I 385) (rSd I) g j from ⟨h61, by rw [if_neg c48]; exact c81⟩), if_pos (show gC (I 385) (rSd I) g j from ⟨h61, by rw [if_neg c48]; exact c81⟩), if_neg c48, if_neg c48] at ih; exact ih _
                  · exact absurd c130 (by decide)
                · exact absurd c106 (by decide)
              · refine r_goto 145 dX11_layWar_84 (by decide) ?_
                refine r_iinc3 (v := 1) dX11_layWar_145 (by decide) rfl ?_
                refine r_goto 27 dX11_layWar_148 (by decide) ?_
                rw [nI_1]; rw [gV, gA, gB, if_neg (fun z => z.2 (by rw [if_neg c48]; exact c81)), if_neg (fun z => z.2 (by rw [if_neg c48]; exact c81)), if_neg (fun z => z.2 (by rw [if_neg c48]; exact c81))] at ih; exact ih _
            · exact absurd c69 (by decide)
        · refine r_cV2i dX11_layWar_61 vlX11_418 sh_347 (Nat.le_of_ble_eq_true rfl) (k_isTh0I_f hP (hvj.i hj) (by rw [hvj.c hj, rI9]; exact h61) (d + 6)) ?_
          refine r_if_eq 145 dX11_layWar_64 (by decide) (fun c64 => ?_) (fun c64 => ?_)
          · refine r_iinc3 (v := 1) dX11_layWar_145 (by decide) rfl ?_
            refine r_goto 27 dX11_layWar_148 (by decide) ?_
            rw [nI_1]; rw [gV, gA, gB, if_neg (fun z => h61 z.1), if_neg (fun z => h61 z.1), if_neg (fun z => h61 z.1)] at ih; exact ih _
          · exact absurd c64 (by decide)
      · refine r_iconst (v := 1) dX11_layWar_51 (by decide) ?_
        refine r_goto 56 dX11_layWar_52 (by decide) ?_
        refine r_istore4 dX11_layWar_56 rfl ?_
        refine r_aload_n dX11_layWar_58 rfl ?_
        refine r_iconst (v := 0) dX11_layWar_59 (by decide) ?_
        refine r_iload_n dX11_layWar_60 rfl ?_
        by_cases h61 : I 385 j = 0
        · refine r_cV2i dX11_layWar_61 vlX11_418 sh_347 (Nat.le_of_ble_eq_true rfl) (k_isTh0I_t hP (hvj.i hj) (by rw [hvj.c hj, rI9]; exact h61) (d + 6)) ?_
          refine r_if_eq 145 dX11_layWar_64 (by decide) (fun c64 => ?_) (fun c64 => ?_)
          · exact absurd c64 (by decide)
          · refine r_iload dX11_layWar_67 rfl ?_
            refine r_if_eq 78 dX11_layWar_69 (by decide) (fun c69 => ?_) (fun c69 => ?_)
            · exact absurd c69 (by decide)
            · refine r_iload_n dX11_layWar_72 rfl ?_
              refine r_iconst (v := 2) dX11_layWar_73 (by decide) ?_
              refine r_idiv dX11_layWar_74 (by decide) ?_
              refine r_goto 81 dX11_layWar_75 (by decide) ?_
              refine r_if_ne 87 dX11_layWar_81 (by decide) (fun c81 => ?_) (fun c81 => ?_)
              · refine r_aload_n dX11_layWar_87 rfl ?_
                refine r_getR dX11_layWar_88 flX11_127 sh_347 (by decide) rfl (pf_347_62 hP) ?_
                refine r_bipush (v := 12) dX11_layWar_91 (by decide) ?_
                refine r_iload_n dX11_layWar_93 rfl ?_
                refine r_iadd dX11_layWar_94 ?_
                refine r_iconst (v := 2) dX11_layWar_95 (by decide) ?_
                refine r_iasv dX11_layWar_96 sh_385 (io12 (hvj.i hj)) ((rP9 _ _ (hvj.i hj) _).trans (by rw [hvj.c hj])) ?_
                refine r_aload_n dX11_layWar_97 rfl ?_
                refine r_getR dX11_layWar_98 flX11_169 sh_347 (by decide) rfl (pf_347_81 hP) ?_
                refine r_iload_n dX11_layWar_101 rfl ?_
                refine r_dup2 dX11_layWar_102 rfl rfl ?_
                refine r_ialv dX11_layWar_103 sh_398 (vp_in_nI hg (by omega)) ((wR_o _ _ _ (by decide) _).trans ((wE_o _ _ (by decide) _).trans ((rPl_o (by decide) _).trans ((congrArg (wH I _ _ 398) (nI_clamp (n := g) (by omega))).trans ((wH_a _ _ _ hg).trans (up_s _ _ _)))))) ?_
                refine r_iload dX11_layWar_104 rfl ?_
                refine r_if_eq 118 dX11_layWar_106 (by decide) (fun c106 => ?_) (fun c106 => ?_)
                · exact absurd c106 (by decide)
                · refine r_aload_n dX11_layWar_109 rfl ?_
                  refine r_getR dX11_layWar_110 flX11_121 sh_347 (by decide) rfl (pf_347_60 hP) ?_
                  refine r_iload_n dX11_layWar_113 rfl ?_
                  refine r_ialv dX11_layWar_114 sh_383 (vp_in_nI (by omega) (by omega)) ((rN5 _ _ (by omega)).trans ((wE_o _ _ (by decide) _).trans ((rPl_o (by decide) _).trans (wH_o _ _ _ (by decide) (by decide) _)))) ?_
                  refine r_goto 119 dX11_layWar_115 (by decide) ?_
                  refine r_iadd dX11_layWar_119 ?_
                  refine r_iasv dX11_layWar_120 sh_398 (vp_in_nI hg (by omega)) (show _ = wR (wE (rPl (wH I (up A g ((gA (I 385) (rSd I) (I 383) g j) + I 383 j)) (up B g (gB (I 385) (rSd I) (I 383) g j)))) e1) 1 (xu (gV (vR I 0) (I 385) (rSd I) g j) 9 j 2) from (wR_xo _ _ _ (by decide) _ _).trans (congrArg (fun z => wR z _ _) ((wE_c _ _ _ (fun z => absurd z.1 (by decide))).trans (congrArg (fun z => wE z _) (by rw [rPl_x _ (by decide), nI_clamp (n := g) (by omega), wH_xa _ _ _ hg, up_up]))))) ?_
                  refine r_aload_n dX11_layWar_121 rfl ?_
                  refine r_getR dX11_layWar_122 flX11_172 sh_347 (by decide) rfl (pf_347_82 hP) ?_
                  refine r_iload_n dX11_layWar_125 rfl ?_
                  refine r_dup2 dX11_layWar_126 rfl rfl ?_
                  refine r_ialv dX11_layWar_127 sh_399 (vp_in_nI hg (by omega)) ((wR_o _ _ _ (by decide) _).trans ((wE_o _ _ (by decide) _).trans ((rPl_o (by decide) _).trans ((congrArg (wH I _ _ 399) (nI_clamp (n := g) (by omega))).trans ((wH_b _ _ _ hg).trans (up_s _ _ _)))))) ?_
                  refine r_iload dX11_layWar_128 rfl ?_
                  refine r_if_eq 137 dX11_layWar_130 (by decide) (fun c130 => ?_) (fun c130 => ?_)
                  · exact absurd c130 (by decide)
                  · refine r_iconst (v := 0) dX11_layWar_133 (by decide) ?_
                    refine r_goto 143 dX11_layWar_134 (by decide) ?_
                    refine r_iadd dX11_layWar_143 ?_
                    refine r_iasv dX11_layWar_144 sh_399 (vp_in_nI hg (by omega)) (show _ = wR (wE (rPl (wH I (up A g ((gA (I 385) (rSd I) (I 383) g j) + I 383 j)) (up B g ((gB (I 385) (rSd I) (I 383) g j) + 0)))) e1) 1 (xu (gV (vR I 0) (I 385) (rSd I) g j) 9 j 2) from (wR_xo _ _ _ (by decide) _ _).trans (congrArg (fun z => wR z _ _) ((wE_c _ _ _ (fun z => absurd z.1 (by decide))).trans (congrArg (fun z => wE z _) (by rw [rPl_x _ (by decide), nI_clamp (n := g) (by omega), wH_xb _ _ _ hg, up_up]))))) ?_
                    refine r_iinc3 (v := 1) dX11_layWar_145 (by decide) rfl ?_
                    refine r_goto 27 dX11_layWar_148 (by decide) ?_
                    rw [nI_1]; rw [gV, gA, gB, if_pos (show gC (I 385) (rSd I) g j from ⟨h61, by rw [if_pos c48]; exact c81⟩), if_pos (show gC (I 385) (rSd I) g j from ⟨h61, by rw [if_pos c48]; exact c81⟩), if_pos (show gC (I 385) (rSd I) g j from ⟨h61, by rw [if_pos c48]; exact c81⟩), if_pos c48, if_pos c48] at ih; exact ih _
              · refine r_goto 145 dX11_layWar_84 (by decide) ?_
                refine r_iinc3 (v := 1) dX11_layWar_145 (by decide) rfl ?_
                refine r_goto 27 dX11_layWar_148 (by decide) ?_
                rw [nI_1]; rw [gV, gA, gB, if_neg (fun z => z.2 (by rw [if_pos c48]; exact c81)), if_neg (fun z => z.2 (by rw [if_pos c48]; exact c81)), if_neg (fun z => z.2 (by rw [if_pos c48]; exact c81))] at ih; exact ih _
        · refine r_cV2i dX11_layWar_61 vlX11_418 sh_347 (Nat.le_of_ble_eq_true rfl) (k_isTh0I_f hP (hvj.i hj) (by rw [hvj.c hj, rI9]; exact h61) (d + 6)) ?_
          refine r_if_eq 145 dX11_layWar_64 (by decide) (fun c64 => ?_) (fun c64 => ?_)
          · refine r_iinc3 (v := 1) dX11_layWar_145 (by decide) rfl ?_
            refine r_goto 27 dX11_layWar_148 (by decide) ?_
            rw [nI_1]; rw [gV, gA, gB, if_neg (fun z => h61 z.1), if_neg (fun z => h61 z.1), if_neg (fun z => h61 z.1)] at ih; exact ih _
          · exact absurd c64 (by decide)
  · intro y4
    refine r_iload_n dX11_layWar_27 rfl ?_
    refine r_aload_n dX11_layWar_28 rfl ?_
    refine r_getR dX11_layWar_29 flX11_106 sh_347 (by decide) rfl (pf_347_55 hP) ?_
    refine r_iconst (v := 1) dX11_layWar_32 (by decide) ?_
    refine r_ialv dX11_layWar_33 sh_378 ix2_1 (rS13_1 _ _) ?_
    refine r_ic_ge 151 dX11_layWar_34 (by decide) (fun c34 => ?_) (fun c34 => ?_)
    · exact K _
    · exact absurd (hv.gv (I 385) (rSd I) g n).l c34
