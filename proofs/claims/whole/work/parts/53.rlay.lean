/-! the cells of the reference -/
theorem sh_347 : SH[347]? = some (.inl 11, 91) := by decide +kernel
theorem pf_347_0 {P : Nat → Nat → Nat} (h : Pok P) : P 347 0 = 348 + 1 := h.at (by decide +kernel)
theorem pf_347_3 {P : Nat → Nat → Nat} (h : Pok P) : P 347 3 = 349 + 1 := h.at (by decide +kernel)
theorem pf_347_20 {P : Nat → Nat → Nat} (h : Pok P) : P 347 20 = 350 + 1 := h.at (by decide +kernel)
theorem pf_347_21 {P : Nat → Nat → Nat} (h : Pok P) : P 347 21 = 351 + 1 := h.at (by decide +kernel)
theorem pf_347_22 {P : Nat → Nat → Nat} (h : Pok P) : P 347 22 = 352 + 1 := h.at (by decide +kernel)
theorem pf_347_23 {P : Nat → Nat → Nat} (h : Pok P) : P 347 23 = 353 + 1 := h.at (by decide +kernel)
theorem pf_347_24 {P : Nat → Nat → Nat} (h : Pok P) : P 347 24 = 354 + 1 := h.at (by decide +kernel)
theorem pf_347_25 {P : Nat → Nat → Nat} (h : Pok P) : P 347 25 = 355 + 1 := h.at (by decide +kernel)
theorem pf_347_26 {P : Nat → Nat → Nat} (h : Pok P) : P 347 26 = 356 + 1 := h.at (by decide +kernel)
theorem pf_347_27 {P : Nat → Nat → Nat} (h : Pok P) : P 347 27 = 357 + 1 := h.at (by decide +kernel)
theorem pf_347_28 {P : Nat → Nat → Nat} (h : Pok P) : P 347 28 = 358 + 1 := h.at (by decide +kernel)
theorem pf_347_29 {P : Nat → Nat → Nat} (h : Pok P) : P 347 29 = 359 + 1 := h.at (by decide +kernel)
theorem pf_347_30 {P : Nat → Nat → Nat} (h : Pok P) : P 347 30 = 360 + 1 := h.at (by decide +kernel)
theorem pf_347_31 {P : Nat → Nat → Nat} (h : Pok P) : P 347 31 = 361 + 1 := h.at (by decide +kernel)
theorem pf_347_32 {P : Nat → Nat → Nat} (h : Pok P) : P 347 32 = 362 + 1 := h.at (by decide +kernel)
theorem pf_347_33 {P : Nat → Nat → Nat} (h : Pok P) : P 347 33 = 363 + 1 := h.at (by decide +kernel)
theorem pf_347_34 {P : Nat → Nat → Nat} (h : Pok P) : P 347 34 = 364 + 1 := h.at (by decide +kernel)
theorem pf_347_35 {P : Nat → Nat → Nat} (h : Pok P) : P 347 35 = 365 + 1 := h.at (by decide +kernel)
theorem pf_347_36 {P : Nat → Nat → Nat} (h : Pok P) : P 347 36 = 366 + 1 := h.at (by decide +kernel)
theorem pf_347_37 {P : Nat → Nat → Nat} (h : Pok P) : P 347 37 = 367 + 1 := h.at (by decide +kernel)
theorem pf_347_38 {P : Nat → Nat → Nat} (h : Pok P) : P 347 38 = 368 + 1 := h.at (by decide +kernel)
theorem pf_347_39 {P : Nat → Nat → Nat} (h : Pok P) : P 347 39 = 369 + 1 := h.at (by decide +kernel)
theorem pf_347_40 {P : Nat → Nat → Nat} (h : Pok P) : P 347 40 = 370 + 1 := h.at (by decide +kernel)
theorem pf_347_41 {P : Nat → Nat → Nat} (h : Pok P) : P 347 41 = 371 + 1 := h.at (by decide +kernel)
theorem pf_347_42 {P : Nat → Nat → Nat} (h : Pok P) : P 347 42 = 372 + 1 := h.at (by decide +kernel)
theorem pf_347_43 {P : Nat → Nat → Nat} (h : Pok P) : P 347 43 = 373 + 1 := h.at (by decide +kernel)
theorem pf_347_50 {P : Nat → Nat → Nat} (h : Pok P) : P 347 50 = 374 + 1 := h.at (by decide +kernel)
theorem pf_347_51 {P : Nat → Nat → Nat} (h : Pok P) : P 347 51 = 375 + 1 := h.at (by decide +kernel)
theorem pf_347_53 {P : Nat → Nat → Nat} (h : Pok P) : P 347 53 = 376 + 1 := h.at (by decide +kernel)
theorem pf_347_54 {P : Nat → Nat → Nat} (h : Pok P) : P 347 54 = 377 + 1 := h.at (by decide +kernel)
theorem pf_347_55 {P : Nat → Nat → Nat} (h : Pok P) : P 347 55 = 378 + 1 := h.at (by decide +kernel)
theorem pf_347_56 {P : Nat → Nat → Nat} (h : Pok P) : P 347 56 = 379 + 1 := h.at (by decide +kernel)
theorem pf_347_57 {P : Nat → Nat → Nat} (h : Pok P) : P 347 57 = 380 + 1 := h.at (by decide +kernel)
theorem pf_347_58 {P : Nat → Nat → Nat} (h : Pok P) : P 347 58 = 381 + 1 := h.at (by decide +kernel)
theorem pf_347_59 {P : Nat → Nat → Nat} (h : Pok P) : P 347 59 = 382 + 1 := h.at (by decide +kernel)
theorem pf_347_60 {P : Nat → Nat → Nat} (h : Pok P) : P 347 60 = 383 + 1 := h.at (by decide +kernel)
theorem pf_347_61 {P : Nat → Nat → Nat} (h : Pok P) : P 347 61 = 384 + 1 := h.at (by decide +kernel)
theorem pf_347_62 {P : Nat → Nat → Nat} (h : Pok P) : P 347 62 = 385 + 1 := h.at (by decide +kernel)
theorem pf_347_63 {P : Nat → Nat → Nat} (h : Pok P) : P 347 63 = 386 + 1 := h.at (by decide +kernel)
theorem pf_347_64 {P : Nat → Nat → Nat} (h : Pok P) : P 347 64 = 387 + 1 := h.at (by decide +kernel)
theorem pf_347_65 {P : Nat → Nat → Nat} (h : Pok P) : P 347 65 = 388 + 1 := h.at (by decide +kernel)
theorem pf_347_66 {P : Nat → Nat → Nat} (h : Pok P) : P 347 66 = 389 + 1 := h.at (by decide +kernel)
theorem pf_347_67 {P : Nat → Nat → Nat} (h : Pok P) : P 347 67 = 390 + 1 := h.at (by decide +kernel)
theorem pf_347_72 {P : Nat → Nat → Nat} (h : Pok P) : P 347 72 = 391 + 1 := h.at (by decide +kernel)
theorem pf_347_73 {P : Nat → Nat → Nat} (h : Pok P) : P 347 73 = 392 + 1 := h.at (by decide +kernel)
theorem pf_347_74 {P : Nat → Nat → Nat} (h : Pok P) : P 347 74 = 393 + 1 := h.at (by decide +kernel)
theorem pf_347_75 {P : Nat → Nat → Nat} (h : Pok P) : P 347 75 = 394 + 1 := h.at (by decide +kernel)
theorem pf_347_78 {P : Nat → Nat → Nat} (h : Pok P) : P 347 78 = 395 + 1 := h.at (by decide +kernel)
theorem pf_347_79 {P : Nat → Nat → Nat} (h : Pok P) : P 347 79 = 396 + 1 := h.at (by decide +kernel)
theorem pf_347_80 {P : Nat → Nat → Nat} (h : Pok P) : P 347 80 = 397 + 1 := h.at (by decide +kernel)
theorem pf_347_81 {P : Nat → Nat → Nat} (h : Pok P) : P 347 81 = 398 + 1 := h.at (by decide +kernel)
theorem pf_347_82 {P : Nat → Nat → Nat} (h : Pok P) : P 347 82 = 399 + 1 := h.at (by decide +kernel)
theorem pf_347_84 {P : Nat → Nat → Nat} (h : Pok P) : P 347 84 = 400 + 1 := h.at (by decide +kernel)
theorem pf_347_86 {P : Nat → Nat → Nat} (h : Pok P) : P 347 86 = 401 + 1 := h.at (by decide +kernel)
theorem pf_347_87 {P : Nat → Nat → Nat} (h : Pok P) : P 347 87 = 402 + 1 := h.at (by decide +kernel)
theorem pf_347_88 {P : Nat → Nat → Nat} (h : Pok P) : P 347 88 = 403 + 1 := h.at (by decide +kernel)
theorem sh_348 : SH[348]? = some (.inr 0, 700) := by decide +kernel
theorem sh_349 : SH[349]? = some (.inr 0, 117) := by decide +kernel
theorem sh_350 : SH[350]? = some (.inr 2, 2) := by decide +kernel
theorem sh_351 : SH[351]? = some (.inr 0, 4) := by decide +kernel
theorem sh_352 : SH[352]? = some (.inr 0, 12) := by decide +kernel
theorem sh_353 : SH[353]? = some (.inr 0, 12) := by decide +kernel
theorem sh_354 : SH[354]? = some (.inr 0, 12) := by decide +kernel
theorem sh_355 : SH[355]? = some (.inr 0, 12) := by decide +kernel
theorem sh_356 : SH[356]? = some (.inr 0, 20) := by decide +kernel
theorem sh_357 : SH[357]? = some (.inr 0, 20) := by decide +kernel
theorem sh_358 : SH[358]? = some (.inr 0, 20) := by decide +kernel
theorem sh_359 : SH[359]? = some (.inr 0, 20) := by decide +kernel
theorem sh_360 : SH[360]? = some (.inr 0, 20) := by decide +kernel
theorem sh_361 : SH[361]? = some (.inr 0, 20) := by decide +kernel
theorem sh_362 : SH[362]? = some (.inr 0, 20) := by decide +kernel
theorem sh_363 : SH[363]? = some (.inr 0, 16) := by decide +kernel
theorem sh_364 : SH[364]? = some (.inr 0, 16) := by decide +kernel
theorem sh_365 : SH[365]? = some (.inr 0, 16) := by decide +kernel
theorem sh_366 : SH[366]? = some (.inr 2, 6) := by decide +kernel
theorem sh_367 : SH[367]? = some (.inr 0, 6) := by decide +kernel
theorem sh_368 : SH[368]? = some (.inr 0, 6) := by decide +kernel
theorem sh_369 : SH[369]? = some (.inr 0, 128) := by decide +kernel
theorem sh_370 : SH[370]? = some (.inr 0, 128) := by decide +kernel
theorem sh_371 : SH[371]? = some (.inr 0, 128) := by decide +kernel
theorem sh_372 : SH[372]? = some (.inr 0, 96) := by decide +kernel
theorem sh_373 : SH[373]? = some (.inr 0, 96) := by decide +kernel
theorem sh_374 : SH[374]? = some (.inr 3, 7) := by decide +kernel
theorem sh_375 : SH[375]? = some (.inr 3, 64) := by decide +kernel
theorem sh_376 : SH[376]? = some (.inr 0, 12) := by decide +kernel
theorem sh_377 : SH[377]? = some (.inr 0, 12) := by decide +kernel
theorem sh_378 : SH[378]? = some (.inr 0, 2) := by decide +kernel
theorem sh_379 : SH[379]? = some (.inr 0, 12) := by decide +kernel
theorem sh_380 : SH[380]? = some (.inr 0, 12) := by decide +kernel
theorem sh_381 : SH[381]? = some (.inr 0, 12) := by decide +kernel
theorem sh_382 : SH[382]? = some (.inr 0, 12) := by decide +kernel
theorem sh_383 : SH[383]? = some (.inr 0, 24) := by decide +kernel
theorem sh_384 : SH[384]? = some (.inr 0, 24) := by decide +kernel
theorem sh_385 : SH[385]? = some (.inr 0, 24) := by decide +kernel
theorem sh_386 : SH[386]? = some (.inr 0, 24) := by decide +kernel
theorem sh_387 : SH[387]? = some (.inr 0, 24) := by decide +kernel
theorem sh_388 : SH[388]? = some (.inr 0, 16) := by decide +kernel
theorem sh_389 : SH[389]? = some (.inr 0, 2) := by decide +kernel
theorem sh_390 : SH[390]? = some (.inr 0, 2) := by decide +kernel
theorem sh_391 : SH[391]? = some (.inr 2, 4096) := by decide +kernel
theorem sh_392 : SH[392]? = some (.inr 0, 12) := by decide +kernel
theorem sh_393 : SH[393]? = some (.inr 0, 24576) := by decide +kernel
theorem sh_394 : SH[394]? = some (.inr 0, 12) := by decide +kernel
theorem sh_395 : SH[395]? = some (.inr 0, 96) := by decide +kernel
theorem sh_396 : SH[396]? = some (.inr 2, 24) := by decide +kernel
theorem sh_397 : SH[397]? = some (.inr 0, 11) := by decide +kernel
theorem sh_398 : SH[398]? = some (.inr 0, 4) := by decide +kernel
theorem sh_399 : SH[399]? = some (.inr 0, 4) := by decide +kernel
theorem sh_400 : SH[400]? = some (.inr 0, 740) := by decide +kernel
theorem sh_401 : SH[401]? = some (.inr 0, 37) := by decide +kernel
theorem sh_402 : SH[402]? = some (.inr 0, 72) := by decide +kernel
theorem sh_403 : SH[403]? = some (.inr 0, 8) := by decide +kernel
theorem sh_404 : SH[404]? = some (.inr 3, 1) := by decide +kernel
section RZ
variable {call : xCl} {ex : Bool} {X : Option (Nat × (Nat → Int32))} {y : MethodName} {cc : ByteArray} {ret : Option FieldType} {pc : Nat} {ls : List (Option Value)} {st : List Value} {Q : Option Value → xS → Prop} {sh : List (xK × Nat)} {I : Nat → Nat → Int32} {J : Nat → Nat → Int64} {P : Nat → Nat → Nat}
theorem r_zalv {i v : Int32} {a n : Nat} (hd : decode cc pc = .ok (.baload, 1)) (hs : sh[a]? = some (.inr 2, n)) (hi : vp_in i n) (hv : I a i.toNatClampNeg = v) (kk : xR call ex X y cc ret (pc + 1) ls (.int v :: st) (sh, I, J, P) Q) : xR call ex X y cc ret pc ls (.int i :: .ref a :: st) (sh, I, J, P) Q := by subst hv; exact r_zal hd hs hi kk
theorem r_zasv {i x : Int32} {a n : Nat} {I' : Nat → Nat → Int32} (hd : decode cc pc = .ok (.bastore, 1)) (hs : sh[a]? = some (.inr 2, n)) (hi : vp_in i n) (hv : xu I a i.toNatClampNeg (vp_nar .boolean x) = I') (kk : xR call ex X y cc ret (pc + 1) ls st (sh, I', J, P) Q) : xR call ex X y cc ret pc ls (.int x :: .int i :: .ref a :: st) (sh, I, J, P) Q := by subst hv; exact r_zas hd hs hi kk
theorem r_balv {i v : Int32} {a n : Nat} (hd : decode cc pc = .ok (.baload, 1)) (hs : sh[a]? = some (.inr 1, n)) (hi : vp_in i n) (hv : I a i.toNatClampNeg = v) (kk : xR call ex X y cc ret (pc + 1) ls (.int v :: st) (sh, I, J, P) Q) : xR call ex X y cc ret pc ls (.int i :: .ref a :: st) (sh, I, J, P) Q := by subst hv; exact r_bal hd hs hi kk
theorem r_basv {i x : Int32} {a n : Nat} {I' : Nat → Nat → Int32} (hd : decode cc pc = .ok (.bastore, 1)) (hs : sh[a]? = some (.inr 1, n)) (hi : vp_in i n) (hv : xu I a i.toNatClampNeg (vp_nar .byte x) = I') (kk : xR call ex X y cc ret (pc + 1) ls st (sh, I', J, P) Q) : xR call ex X y cc ret pc ls (.int x :: .int i :: .ref a :: st) (sh, I, J, P) Q := by subst hv; exact r_bas hd hs hi kk
theorem r_putIv' {idx ci k : Nat} {ty : FieldType} {N a : Nat} {I' : Nat → Nat → Int32} (hd : decode cc pc = .ok (.putfield idx, 3)) (hf : xFl y.cls idx ci k ty) (hn : xFin y ci k) (hs : sh[a]? = some (.inl ci, N)) (hk : k < N) (hz : xfk ci k = 0) {x : Int32} (h1 : narrow ty (.int x) = .int x) (h2 : fits ty (.int x) = true) (hv : xu I a k x = I') (kk : xR call ex X y cc ret (pc + 3) ls st (sh, I', J, P) Q) : xR call ex X y cc ret pc ls (.int x :: .ref a :: st) (sh, I, J, P) Q := by subst hv; exact r_putI hd hf hn hs hk hz h1 h2 kk
end RZ
/-- the reference's flag of an error -/
def wE (I : Nat → Nat → Int32) (e : Int32) : Nat → Nat → Int32 := xu I 347 52 e
theorem wE_e (I : Nat → Nat → Int32) (e : Int32) : wE I e 347 52 = e := xu_s _ _ _ _
theorem wE_o (I : Nat → Nat → Int32) (e : Int32) {a : Nat} (h : a ≠ 347) (k : Nat) : wE I e a k = I a k := xu_f _ _ h
theorem wE_f (I : Nat → Nat → Int32) (e : Int32) {k : Nat} (h : k ≠ 52) : wE I e 347 k = I 347 k := by simp [wE, xu, h]
theorem xu_xu {α : Type} (f : Nat → Nat → α) (a k : Nat) (v w : α) : xu (xu f a k v) a k w = xu f a k w := by
  funext a' k'; simp only [xu]; split <;> rfl
theorem xu_sf {α : Type} (f : Nat → Nat → α) (a k : Nat) : xu f a k (f a k) = f := by
  funext a' k'
  simp only [xu]
  split
  · rename_i h; rw [h.1, h.2]
  · rfl
theorem xu_cm {α : Type} (f : Nat → Nat → α) {a k a' k' : Nat} (v w : α) (h : ¬ (a = a' ∧ k = k')) : xu (xu f a k v) a' k' w = xu (xu f a' k' w) a k v := by
  funext x y
  simp only [xu]
  by_cases h1 : x = a' ∧ y = k'
  · rw [if_pos h1, if_pos h1, if_neg (fun z => h ⟨z.1.symm.trans h1.1, z.2.symm.trans h1.2⟩)]
  · rw [if_neg h1, if_neg h1]
theorem wE_x (I : Nat → Nat → Int32) (e v : Int32) : xu (wE I e) 347 52 v = wE I v := xu_xu _ _ _ _ _
theorem wE_id (I : Nat → Nat → Int32) : wE I (I 347 52) = I := xu_sf _ _ _
theorem wE_c (I : Nat → Nat → Int32) (e v : Int32) {a k : Nat} (h : ¬ (a = 347 ∧ k = 52)) : xu (wE I e) a k v = wE (xu I a k v) e := xu_cm _ _ _ (fun z => h ⟨z.1.symm, z.2.symm⟩)
