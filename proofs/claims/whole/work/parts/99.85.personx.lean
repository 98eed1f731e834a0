/-! person of the program, whole -/
def cPs (I : Nat → Nat → Int32) (t n : Nat) (x w : Int32) : Int32 := if w = 0 then vB I 56 1 x.toNatClampNeg else if w = 1 then I (t + 3) x.toNatClampNeg else if w = 2 then I (t + 2) x.toNatClampNeg else if w = 3 then vB I 56 2 x.toNatClampNeg else if w = 4 then sOw (vB I 56) x (-1) n else sOw (vB I 56) (-1) x n
section PB
variable {l : Launch} {s0 : State} {a0 : Array Value} {D : va_G} {t : Nat → ClassId} {b : Nat} {sa1 sa2 : Nat} {tx1 tx2 : String}
set_option maxHeartbeats 1000000 in
theorem k_personX (C : xC s0 a0 D t) (hl : l.stackTraces = false) (pw : pW s0 sa1 sa2 tx1 tx2) {E : xCl} (hcall : ∀ y vs S r S', xEx E false 5 y vs S r S' → xM l s0 D t b false 15 y vs S r S') {I : Nat → Nat → Int32} {J : Nat → Nat → Int64} {P : Nat → Nat → Nat} (hP : Pok P) {t' : Nat} (ht : t' ∈ TL) (h5 : P 0 5 = t' + 1) (hbt : P 56 0 = t' + 1) {n np : Nat} (hv : Vok (vB I 56) n) (h3 : I t' 3 = nI np) (hnp : np ≤ 6) {x w v : Int32} {k : Nat} (hk : (k = 0 ∧ isP I t' x ∧ ¬ w < 0 ∧ w ≤ 5 ∧ v = cPs I t' n x w) ∨ (k = 1 ∧ ¬ isP I t' x) ∨ (k = 2 ∧ isP I t' x ∧ (w.toInt < 0 ∨ 5 < w.toInt))) :
    vx_Met l yX10_person [Cond.code yX10_person cX10_person 3 (some .int)] (xrm 20 1 6) (va_Pc ([Value.ref 0, .int x, .int w].map (xcv b s0.heap.size)) (fun U => s0.WarmedH U.vm ∧ xH s0 D t b (SH, I, J, P) U.heap)) (fun _ _ oc u => k = 0 ∧ oc = .returned (some (.int v)) ∧ xH s0 D t b (SH, I, J, P) u.heap) (fun E _ u => ((k = 1 ∧ E = xIO) ∨ (k = 2 ∧ E = xNE)) ∧ xH s0 D t b (SH, I, J, P) u.heap) 1 6 (fun q => s0.heap.size ≤ q) := by
  refine vx_ofW (cc := cX10_person) (maxL := 3) (ret := some .int) (by decide) rfl ?_
  intro pr e s m args below meth c s₁ B hml hT0 hvv
  obtain ⟨rfl, hW, hH⟩ := hvv
  have M : xMx pr s m meth c s0 yX10_person cX10_person 3 (some .int) := ⟨B.exec, B.bytes, hml, B.returns, B.notSynchronized, findClass_of_methodNamed B.named, (name_of_methodNamed B.named B.method).1, hW⟩
  have hlr := lv_entry ([Value.ref 0, .int x, .int w].map (xcv b s0.heap.size)) (n := 3) (by simp [lg_sl, Value.category, xcv])
  rw [lg_entry_eq]
  generalize (lg_sl ([Value.ref 0, .int x, .int w].map (xcv b s0.heap.size)) ++ List.replicate (3 - (lg_sl ([Value.ref 0, .int x, .int w].map (xcv b s0.heap.size))).length) Slot.unset).toArray = lr at hlr ⊢
  have hK := xG_W (p := pr) (l := l) (e := e) (R := xrm 20 1 6) (args := ([Value.ref 0, .int x, .int w].map (xcv b s0.heap.size)).toArray) (below := below) (Q := vx_MQ below (fun _ _ oc u => k = 0 ∧ oc = .returned (some (.int v)) ∧ xH s0 D t b (SH, I, J, P) u.heap) (fun E _ u => ((k = 1 ∧ E = xIO) ∨ (k = 2 ∧ E = xNE)) ∧ xH s0 D t b (SH, I, J, P) u.heap) ([Value.ref 0, .int x, .int w].map (xcv b s0.heap.size)).toArray s 1 6 (fun q => s0.heap.size ≤ q)) (b := b) C M (X := none) (call := xEx E false 5) (d := 15) (fun L xs h => by cases h) hcall ⟨by decide, by decide⟩ (cells := 0) (slots := 0) (by decide) (by decide)
  refine (?_ : xG pr l e (xrm 20 1 6) s m ([Value.ref 0, .int x, .int w].map (xcv b s0.heap.size)).toArray below meth c _ s0 D t b 3 0 0 0 [some (.ref 0), some (.int x), some (.int w)] [] (SH, I, J, P)) s.heap [] lr (xent_L (vs := [.ref 0, .int x, .int w]) (by simp [lg_sl, Value.category]) hlr) hH (fun _ h => by cases h)
  refine g_aload_n hK dX10_person_0 rfl ?_
  refine g_iload_n hK dX10_person_1 rfl ?_
  have ret0 : ∀ (pc : Nat) (z : Int32), k = 0 → z = v → decode cX10_person pc = .ok (.ireturn, 1) → xG pr l e (xrm 20 1 6) s m ([Value.ref 0, .int x, .int w].map (xcv b s0.heap.size)).toArray below meth c (vx_MQ below (fun _ _ oc u => k = 0 ∧ oc = .returned (some (.int v)) ∧ xH s0 D t b (SH, I, J, P) u.heap) (fun E _ u => ((k = 1 ∧ E = xIO) ∨ (k = 2 ∧ E = xNE)) ∧ xH s0 D t b (SH, I, J, P) u.heap) ([Value.ref 0, .int x, .int w].map (xcv b s0.heap.size)).toArray s 1 6 (fun q => s0.heap.size ≤ q)) s0 D t b 3 0 0 pc [some (.ref 0), some (.int x), some (.int w)] [.int z] (SH, I, J, P) := fun pc z hk0 hz hd => by
    subst hz
    exact xG_iretX M hd rfl rfl (fun _ _ u hu => ⟨hk0, rfl, hu⟩)
  by_cases hp : isP I t' x
  · have hc := k_isPerson_t (E := E) (ex := false) (I := I) (V := vB I 56) (J := J) hP ht h5 hbt hp 4
    rw [wB_vB] at hc
    refine g_cV1i hK dX10_person_2 vlX10_137 sh_0 (by simp) hc rfl ?_
    refine g_if_ne hK 18 dX10_person_5 (by decide) (fun _ => ?_) (fun h => absurd h (by decide))
    refine g_iload_n hK dX10_person_18 rfl ?_
    have hin : vp_in x 6 := by
      have := hp.2
      rw [h3] at this
      exact vin hp.1 (M := 6) (fun z => this (Int32.le_trans (show nI np ≤ nI 6 from nI_le hnp (by omega)) z)) rfl
    rcases hk with ⟨k0, -, w0, w5, hvv⟩ | ⟨-, z⟩ | ⟨k2, -, hw⟩
    · obtain ⟨j, hj, rfl⟩ := nI_of2 (M := 5) (n := 5) rfl w0 w5
      have hjt : (nI j).toInt = (j : Int) := nI_toInt (by omega)
      have cases6 : j = 0 ∨ j = 1 ∨ j = 2 ∨ j = 3 ∨ j = 4 ∨ j = 5 := by omega
      rcases cases6 with rfl | rfl | rfl | rfl | rfl | rfl
      · refine g_tsI hK 56 (off := 37) dX10_person_19 (by decide) (by decide) (by decide) (by decide) ?_
        refine g_aload_n hK dX10_person_56 rfl ?_
        refine g_getR hK dX10_person_57 flX10_42 sh_0 (by decide) rfl (pf_0_7 hP) ?_
        refine g_getR hK dX10_person_60 flX10_148 (br_s _ hb56) (by decide) rfl (br_p1 hP 56 hb56) ?_
        refine g_iload_n hK dX10_person_63 rfl ?_
        refine g_ial hK dX10_person_64 (br_a1 56 hb56) hin ?_
        exact ret0 _ _ k0 hvv.symm dX10_person_65
      · refine g_tsI hK 66 (off := 47) dX10_person_19 (by decide) (by decide) (by decide) (by decide) ?_
        refine g_aload_n hK dX10_person_66 rfl ?_
        refine g_getR hK dX10_person_67 flX10_29 sh_0 (by decide) rfl h5 ?_
        refine g_getR hK dX10_person_70 flX10_151 (tl_s _ ht) (by decide) rfl (tl_p2 hP t' ht) ?_
        refine g_iload_n hK dX10_person_73 rfl ?_
        refine g_ial hK dX10_person_74 (tl_a2 t' ht) hin ?_
        exact ret0 _ _ k0 hvv.symm dX10_person_75
      · refine g_tsI hK 76 (off := 57) dX10_person_19 (by decide) (by decide) (by decide) (by decide) ?_
        refine g_aload_n hK dX10_person_76 rfl ?_
        refine g_getR hK dX10_person_77 flX10_29 sh_0 (by decide) rfl h5 ?_
        refine g_getR hK dX10_person_80 flX10_154 (tl_s _ ht) (by decide) rfl (tl_p1 hP t' ht) ?_
        refine g_iload_n hK dX10_person_83 rfl ?_
        refine g_ial hK dX10_person_84 (tl_a1 t' ht) hin ?_
        exact ret0 _ _ k0 hvv.symm dX10_person_85
      · refine g_tsI hK 86 (off := 67) dX10_person_19 (by decide) (by decide) (by decide) (by decide) ?_
        refine g_aload_n hK dX10_person_86 rfl ?_
        refine g_getR hK dX10_person_87 flX10_42 sh_0 (by decide) rfl (pf_0_7 hP) ?_
        refine g_getR hK dX10_person_90 flX10_157 (br_s _ hb56) (by decide) rfl (br_p2 hP 56 hb56) ?_
        refine g_iload_n hK dX10_person_93 rfl ?_
        refine g_ial hK dX10_person_94 (br_a2 56 hb56) hin ?_
        exact ret0 _ _ k0 hvv.symm dX10_person_95
      · refine g_tsI hK 96 (off := 77) dX10_person_19 (by decide) (by decide) (by decide) (by decide) ?_
        refine g_aload_n hK dX10_person_96 rfl ?_
        refine g_getR hK dX10_person_97 flX10_42 sh_0 (by decide) rfl (pf_0_7 hP) ?_
        refine g_iload_n hK dX10_person_100 rfl ?_
        refine g_iconst hK (v := -1) dX10_person_101 (by decide) ?_
        have ho := k_owedBetween (E := E) (ex := false) (I := I) (V := vB I 56) (J := J) hP hb56 hv x (-1) 2
        rw [wB_vB] at ho
        refine g_cV2i hK dX10_person_102 vlX10_160 (br_s _ hb56) (by simp) ho rfl ?_
        exact ret0 _ _ k0 hvv.symm dX10_person_105
      · refine g_tsI hK 106 (off := 87) dX10_person_19 (by decide) (by decide) (by decide) (by decide) ?_
        refine g_aload_n hK dX10_person_106 rfl ?_
        refine g_getR hK dX10_person_107 flX10_42 sh_0 (by decide) rfl (pf_0_7 hP) ?_
        refine g_iconst hK (v := -1) dX10_person_110 (by decide) ?_
        refine g_iload_n hK dX10_person_111 rfl ?_
        have ho := k_owedBetween (E := E) (ex := false) (I := I) (V := vB I 56) (J := J) hP hb56 hv (-1) x 2
        rw [wB_vB] at ho
        refine g_cV2i hK dX10_person_112 vlX10_160 (br_s _ hb56) (by simp) ho rfl ?_
        exact ret0 _ _ k0 hvv.symm dX10_person_115
    · exact absurd hp z
    · refine g_tsO hK 116 dX10_person_19 hw (by decide) ?_
      exact xG_throw2 C hl pw M hT0 hH.2 (fun _ u hu => ⟨Or.inr ⟨k2, rfl⟩, hu⟩)
  · have hc := k_isPerson_f (E := E) (ex := false) (I := I) (V := vB I 56) (J := J) hP ht h5 hbt hp 4
    rw [wB_vB] at hc
    refine g_cV1i hK dX10_person_2 vlX10_137 sh_0 (by simp) hc rfl ?_
    refine g_if_ne hK 18 dX10_person_5 (by decide) (fun h => absurd rfl h) (fun _ => ?_)
    rcases hk with ⟨-, z, -⟩ | ⟨k1, -⟩ | ⟨-, z, -⟩
    · exact absurd z hp
    · exact xG_throw1 C hl pw M hT0 hH.2 (fun _ u hu => ⟨Or.inl ⟨k1, rfl⟩, hu⟩)
    · exact absurd z hp
end PB
