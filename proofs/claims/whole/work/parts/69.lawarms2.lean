theorem gl_cofactor : GoodIn (cLw :: wU) (va_wsS RL 86 yL_cofactor wuL_cofactor) := goodSU (by decide +kernel)
theorem gm_cofactor : GoodIn (cLw :: wU) (wsV RL 89 RX4 yX4_cofactor wsX4_cofactor) := goodUP _ [681, 682, 683, 50, 684, 563, 554, 565, 685, 687, 36, 50, 688, 562, 616, 617, 618, 662, 664, 34, 665, 555, 571, 573, 575, 577, 579, 581, 583, 585, 587, 589, 591, 593, 595, 597, 599, 601, 603] (by decide +kernel) (by decide +kernel)
set_option maxHeartbeats 4000000 in
set_option maxRecDepth 100000 in
theorem a_cofactor (X : sMach) (G : sG) (ad : sAd) (M : sM) (Q : State → Prop) (b L : Nat) (xs : Nat → Int32) (hX : va_X b L xs (mS X) (mS X).heap) (hbl : b < (mS X).heap.size) (hbA : ¬ gA G b) (hL9 : L ≤ 2560) (kc ks : Nat) (hkc : kc + 5 ≤ 601024) (hks : ks + 100 ≤ 7293034) (α : sAl) (hI : lI G ad M α) (i : Nat) (hi : i + 5 ≤ L) (kont : ∀ (ad' : sAd) (M' : sM) (α' : sAl), lI G ad' M' α' → sW X G mL_law Q ad' M' (kc + 5) (ks + 100) (lvL ad' b i) 1011 []) : sW X G mL_law Q ad M kc ks (lvL ad b i) 396 [] := by
  obtain ⟨hA, hc, ⟨ρ, hm, hr⟩, w, hw⟩ := hI
  obtain ⟨κ, h, hC⟩ := id hc
  refine s_aload_n dL_law_396 rfl ?_
  refine s_aload_n dL_law_397 rfl ?_
  refine s_iload dL_law_398 rfl ?_
  refine s_iconst (v := 1) dL_law_400 (by decide) ?_
  refine s_iadd dL_law_401 ?_
  refine s_eqi (y := nI (i + 1)) (nI_add i 1) ?_
  refine s_sld hX hbl hbA hL9 (j := i + 1) rfl (by omega) dL_law_402 ?_
  refine s_aload_n dL_law_403 rfl ?_
  refine s_iload dL_law_404 rfl ?_
  refine s_iconst (v := 2) dL_law_406 (by decide) ?_
  refine s_iadd dL_law_407 ?_
  refine s_eqi (y := nI (i + 2)) (nI_add i 2) ?_
  refine s_sld hX hbl hbA hL9 (j := i + 2) rfl (by omega) dL_law_408 ?_
  refine s_callSW (As := [.ref (ad 0 0), .int (xs (i + 1)), .int (xs (i + 2))]) (rest := []) (n := 3) (fun l hl => c_L_cofactor G l hl ad M α hA hc w hw (xs (i + 1)) (xs (i + 2))) gl_cofactor rfl (by decide +kernel) rfl ⟨(Nat.le_of_ble_eq_true rfl), (Nat.le_of_ble_eq_true rfl)⟩ ⟨(by show kc + 1 ≤ 601024; omega), (by show ks + 6 ≤ 7293034; omega)⟩ (Nat.le_of_ble_eq_true rfl) dL_law_409 rfl (fun r1 ad1 M1 h1 => ?_)
  obtain ⟨hex, hsx, k, α', w', hrel, hA', hc', rfl, hk3, hw'⟩ := h1
  obtain ⟨d0, d1, d2, d3, d4, d5, d6, d7, d8, d9, d10, d11, d12, d13, d14, d15, d16⟩ := ρ
  have hm1 := hm.ext hex (fun k i h1 h2 => hsx k i (by simp [pLw]; omega))
  have z0 := hex 0 0 _ h.1
  have z12 := hex 12 0 _ hm.1
  have z26 := hex 26 0 _ hw
  refine s_lv (lv' := [some (.ref b), some (.ref (ad1 0 0)), some (.ref (ad1 12 0)), some (.ref (ad1 26 0)), some (.int (nI i)), none, none]) (by rw [z0, z12, z26]) ?_
  refine s_istore dL_law_412 rfl rfl ?_
  refine s_lv (lv' := [some (.ref b), some (.ref (ad1 0 0)), some (.ref (ad1 12 0)), some (.ref (ad1 26 0)), some (.int (nI i)), some (.int (nI k)), none]) rfl ?_
  refine s_aload_n dL_law_414 rfl ?_
  refine s_aload_n dL_law_415 rfl ?_
  refine s_iload dL_law_416 rfl ?_
  refine s_iconst (v := 1) dL_law_418 (by decide) ?_
  refine s_iadd dL_law_419 ?_
  refine s_eqi (y := nI (i + 1)) (nI_add i 1) ?_
  refine s_sld hX hbl hbA hL9 (j := i + 1) rfl (by omega) dL_law_420 ?_
  refine s_aload_n dL_law_421 rfl ?_
  refine s_iload dL_law_422 rfl ?_
  refine s_iconst (v := 2) dL_law_424 (by decide) ?_
  refine s_iadd dL_law_425 ?_
  refine s_eqi (y := nI (i + 2)) (nI_add i 2) ?_
  refine s_sld hX hbl hbA hL9 (j := i + 2) rfl (by omega) dL_law_426 ?_
  refine s_callV (As := [.int (xs (i + 1)), .int (xs (i + 2))]) (rest := []) (n := 2) (kd := 12) (ix := 0) (fun l hl => c_X4_cofactor G l hl ad1 M1 d0 d1 d2 d3 d4 d5 d6 d7 d8 d9 d10 d11 d12 d13 d14 d15 d16 hm1 α hA hr (xs (i + 1)) (xs (i + 2)) k α' hrel) gm_cofactor rfl (by decide +kernel) hm1.1 rfl rfl ⟨(Nat.le_of_ble_eq_true rfl), (Nat.le_of_ble_eq_true rfl)⟩ ⟨(by show kc + 1 + 0 ≤ 601024; omega), (by show ks + 6 + 0 ≤ 7293034; omega)⟩ (Nat.le_of_ble_eq_true rfl) dL_law_427 rfl (fun r2 ad2 M2 h2 => ?_)
  obtain ⟨rfl, hs2, ⟨⟨e0, e1, e2, e3, e4, e5, e6, e7, e8, e9, e10, e11, e12, e13, e14, e15, e16⟩, hm2, hc2, hr2⟩, rfl⟩ := h2
  have hc3 : e0 = nI k := hc2
  have hw2 : lOut G M2 w' := (hs2 26 0 (by simp [pMd])).trans hw'
  refine s_aload_n dL_law_430 rfl ?_
  refine s_callV (As := []) (rest := []) (n := 0) (kd := 12) (ix := 0) (fun l hl => c_X4_thrown G l hl ad1 M2 e0 e1 e2 e3 e4 e5 e6 e7 e8 e9 e10 e11 e12 e13 e14 e15 e16 hm2) gm_thrown rfl (by decide +kernel) hm2.1 rfl rfl ⟨(Nat.le_of_ble_eq_true rfl), (Nat.le_of_ble_eq_true rfl)⟩ ⟨(by show kc + 1 + 0 + 0 ≤ 601024; omega), (by show ks + 6 + 0 + 0 ≤ 7293034; omega)⟩ (Nat.le_of_ble_eq_true rfl) dL_law_431 rfl (fun r3 ad3 M3 h3 => ?_)
  obtain ⟨rfl, rfl, rfl⟩ := h3
  refine s_iload dL_law_434 rfl ?_
  refine s_icmp_eq 441 dL_law_436 (by decide) (fun c436 => ?_) (fun c436 => absurd (hc3) c436)
  refine s_goto 1011 dL_law_441 (by decide) ?_
  refine s_drop 5 ?_
  refine s_widen (kc' := kc + 5) (ks' := ks + 100) (by show kc + 1 + 0 + 0 ≤ kc + 5; omega) (by show ks + 6 + 0 + 0 ≤ ks + 100; omega) ?_
  exact kont ad1 M2 α' ⟨hA', hc'.keep (fun k i hk => hs2 k i (by simp [pMd]; omega)), ⟨(e0, e1, e2, e3, e4, e5, e6, e7, e8, e9, e10, e11, e12, e13, e14, e15, e16), hm2, hr2⟩, w', hw2⟩
theorem gl_sample : GoodIn (cLw :: wU) (va_wsS RL 90 yL_sample wuL_sample) := goodSU (by decide +kernel)
theorem gm_sample : GoodIn (cLw :: wU) (wsV RL 93 RX4 yX4_sample wsX4_sample) := goodUP _ [689, 690, 691, 50, 692, 615, 679, 680, 554, 566, 685, 687, 36, 50, 688, 562, 616, 617, 618, 571, 573, 575, 577, 579, 581, 583, 585, 587, 589, 591, 593, 595, 597, 599, 601, 603] (by decide +kernel) (by decide +kernel)
set_option maxHeartbeats 4000000 in
set_option maxRecDepth 100000 in
theorem a_sample (X : sMach) (G : sG) (ad : sAd) (M : sM) (Q : State → Prop) (b L : Nat) (xs : Nat → Int32) (hX : va_X b L xs (mS X) (mS X).heap) (hbl : b < (mS X).heap.size) (hbA : ¬ gA G b) (hL9 : L ≤ 2560) (kc ks : Nat) (hkc : kc + 5 ≤ 601024) (hks : ks + 100 ≤ 7293034) (α : sAl) (hI : lI G ad M α) (i : Nat) (hi : i + 5 ≤ L) (kont : ∀ (ad' : sAd) (M' : sM) (α' : sAl), lI G ad' M' α' → sW X G mL_law Q ad' M' (kc + 5) (ks + 100) (lvL ad' b i) 1011 []) : sW X G mL_law Q ad M kc ks (lvL ad b i) 444 [] := by
  obtain ⟨hA, hc, ⟨ρ, hm, hr⟩, w, hw⟩ := hI
  obtain ⟨κ, h, hC⟩ := id hc
  refine s_aload_n dL_law_444 rfl ?_
  refine s_aload_n dL_law_445 rfl ?_
  refine s_iload dL_law_446 rfl ?_
  refine s_iconst (v := 1) dL_law_448 (by decide) ?_
  refine s_iadd dL_law_449 ?_
  refine s_eqi (y := nI (i + 1)) (nI_add i 1) ?_
  refine s_sld hX hbl hbA hL9 (j := i + 1) rfl (by omega) dL_law_450 ?_
  refine s_aload_n dL_law_451 rfl ?_
  refine s_iload dL_law_452 rfl ?_
  refine s_iconst (v := 2) dL_law_454 (by decide) ?_
  refine s_iadd dL_law_455 ?_
  refine s_eqi (y := nI (i + 2)) (nI_add i 2) ?_
  refine s_sld hX hbl hbA hL9 (j := i + 2) rfl (by omega) dL_law_456 ?_
  refine s_aload_n dL_law_457 rfl ?_
  refine s_iload dL_law_458 rfl ?_
  refine s_iconst (v := 3) dL_law_460 (by decide) ?_
  refine s_iadd dL_law_461 ?_
  refine s_eqi (y := nI (i + 3)) (nI_add i 3) ?_
  refine s_sld hX hbl hbA hL9 (j := i + 3) rfl (by omega) dL_law_462 ?_
  refine s_callSW (As := [.ref (ad 0 0), .int (xs (i + 1)), .int (xs (i + 2)), .int (xs (i + 3))]) (rest := []) (n := 4) (fun l hl => c_L_sample G l hl ad M α hA hc w hw (xs (i + 1)) (xs (i + 2)) (xs (i + 3))) gl_sample rfl (by decide +kernel) rfl ⟨(Nat.le_of_ble_eq_true rfl), (Nat.le_of_ble_eq_true rfl)⟩ ⟨(by show kc + 1 ≤ 601024; omega), (by show ks + 6 ≤ 7293034; omega)⟩ (Nat.le_of_ble_eq_true rfl) dL_law_463 rfl (fun r1 ad1 M1 h1 => ?_)
  obtain ⟨hex, hsx, k, α', w', hrel, hA', hc', rfl, hk3, hw'⟩ := h1
  obtain ⟨d0, d1, d2, d3, d4, d5, d6, d7, d8, d9, d10, d11, d12, d13, d14, d15, d16⟩ := ρ
  have hm1 := hm.ext hex (fun k i h1 h2 => hsx k i (by simp [pLw]; omega))
  have z0 := hex 0 0 _ h.1
  have z12 := hex 12 0 _ hm.1
  have z26 := hex 26 0 _ hw
  refine s_lv (lv' := [some (.ref b), some (.ref (ad1 0 0)), some (.ref (ad1 12 0)), some (.ref (ad1 26 0)), some (.int (nI i)), none, none]) (by rw [z0, z12, z26]) ?_
  refine s_istore dL_law_466 rfl rfl ?_
  refine s_lv (lv' := [some (.ref b), some (.ref (ad1 0 0)), some (.ref (ad1 12 0)), some (.ref (ad1 26 0)), some (.int (nI i)), some (.int (nI k)), none]) rfl ?_
  refine s_aload_n dL_law_468 rfl ?_
  refine s_aload_n dL_law_469 rfl ?_
  refine s_iload dL_law_470 rfl ?_
  refine s_iconst (v := 1) dL_law_472 (by decide) ?_
  refine s_iadd dL_law_473 ?_
  refine s_eqi (y := nI (i + 1)) (nI_add i 1) ?_
  refine s_sld hX hbl hbA hL9 (j := i + 1) rfl (by omega) dL_law_474 ?_
  refine s_aload_n dL_law_475 rfl ?_
  refine s_iload dL_law_476 rfl ?_
  refine s_iconst (v := 2) dL_law_478 (by decide) ?_
  refine s_iadd dL_law_479 ?_
  refine s_eqi (y := nI (i + 2)) (nI_add i 2) ?_
  refine s_sld hX hbl hbA hL9 (j := i + 2) rfl (by omega) dL_law_480 ?_
  refine s_aload_n dL_law_481 rfl ?_
  refine s_iload dL_law_482 rfl ?_
  refine s_iconst (v := 3) dL_law_484 (by decide) ?_
  refine s_iadd dL_law_485 ?_
  refine s_eqi (y := nI (i + 3)) (nI_add i 3) ?_
  refine s_sld hX hbl hbA hL9 (j := i + 3) rfl (by omega) dL_law_486 ?_
  refine s_callV (As := [.int (xs (i + 1)), .int (xs (i + 2)), .int (xs (i + 3))]) (rest := []) (n := 3) (kd := 12) (ix := 0) (fun l hl => c_X4_sample G l hl ad1 M1 d0 d1 d2 d3 d4 d5 d6 d7 d8 d9 d10 d11 d12 d13 d14 d15 d16 hm1 α hA hr (xs (i + 1)) (xs (i + 2)) (xs (i + 3)) k α' hrel) gm_sample rfl (by decide +kernel) hm1.1 rfl rfl ⟨(Nat.le_of_ble_eq_true rfl), (Nat.le_of_ble_eq_true rfl)⟩ ⟨(by show kc + 1 + 0 ≤ 601024; omega), (by show ks + 6 + 0 ≤ 7293034; omega)⟩ (Nat.le_of_ble_eq_true rfl) dL_law_487 rfl (fun r2 ad2 M2 h2 => ?_)
  obtain ⟨rfl, hs2, ⟨⟨e0, e1, e2, e3, e4, e5, e6, e7, e8, e9, e10, e11, e12, e13, e14, e15, e16⟩, hm2, hc2, hr2⟩, rfl⟩ := h2
  have hc3 : e0 = nI k := hc2
  have hw2 : lOut G M2 w' := (hs2 26 0 (by simp [pMd])).trans hw'
  refine s_aload_n dL_law_490 rfl ?_
  refine s_callV (As := []) (rest := []) (n := 0) (kd := 12) (ix := 0) (fun l hl => c_X4_thrown G l hl ad1 M2 e0 e1 e2 e3 e4 e5 e6 e7 e8 e9 e10 e11 e12 e13 e14 e15 e16 hm2) gm_thrown rfl (by decide +kernel) hm2.1 rfl rfl ⟨(Nat.le_of_ble_eq_true rfl), (Nat.le_of_ble_eq_true rfl)⟩ ⟨(by show kc + 1 + 0 + 0 ≤ 601024; omega), (by show ks + 6 + 0 + 0 ≤ 7293034; omega)⟩ (Nat.le_of_ble_eq_true rfl) dL_law_491 rfl (fun r3 ad3 M3 h3 => ?_)
  obtain ⟨rfl, rfl, rfl⟩ := h3
  refine s_iload dL_law_494 rfl ?_
  refine s_icmp_eq 501 dL_law_496 (by decide) (fun c496 => ?_) (fun c496 => absurd (hc3) c496)
  refine s_goto 1011 dL_law_501 (by decide) ?_
  refine s_drop 5 ?_
  refine s_widen (kc' := kc + 5) (ks' := ks + 100) (by show kc + 1 + 0 + 0 ≤ kc + 5; omega) (by show ks + 6 + 0 + 0 ≤ ks + 100; omega) ?_
  exact kont ad1 M2 α' ⟨hA', hc'.keep (fun k i hk => hs2 k i (by simp [pMd]; omega)), ⟨(e0, e1, e2, e3, e4, e5, e6, e7, e8, e9, e10, e11, e12, e13, e14, e15, e16), hm2, hr2⟩, w', hw2⟩
theorem gl_check : GoodIn (cLw :: wU) (va_wsS RL 94 yL_check wuL_check) := goodSU (by decide +kernel)
theorem gm_check : GoodIn (cLw :: wU) (wsV RL 97 RX4 yX4_check wsX4_check) := goodUP _ [693, 694, 695, 50, 696, 562, 554, 697, 699, 37, 50, 700, 563, 564, 561, 565, 676, 677, 678, 701, 703, 38, 704, 567, 560, 705, 707, 39, 708, 709, 711, 40, 712, 627, 628, 629, 630, 631, 632, 633, 634, 635, 713, 715, 41, 716, 569, 636, 638, 30, 639, 640, 642, 31, 643, 644, 646, 32, 647, 717, 719, 42, 720, 568, 721, 722, 723, 724, 726, 43, 727, 566, 728, 730, 44, 731, 571, 573, 575, 577, 579, 581, 583, 585, 587, 589, 591, 593, 595, 597, 599, 601, 603] (by decide +kernel) (by decide +kernel)
set_option maxHeartbeats 4000000 in
set_option maxRecDepth 100000 in
theorem a_check (X : sMach) (G : sG) (ad : sAd) (M : sM) (Q : State → Prop) (b L : Nat) (xs : Nat → Int32) (hX : va_X b L xs (mS X) (mS X).heap) (hbl : b < (mS X).heap.size) (hbA : ¬ gA G b) (hL9 : L ≤ 2560) (kc ks : Nat) (hkc : kc + 5 ≤ 601024) (hks : ks + 100 ≤ 7293034) (α : sAl) (hI : lI G ad M α) (i : Nat) (hi : i + 5 ≤ L) (kont : ∀ (ad' : sAd) (M' : sM) (α' : sAl), lI G ad' M' α' → sW X G mL_law Q ad' M' (kc + 5) (ks + 100) (lvL ad' b i) 1011 []) : sW X G mL_law Q ad M kc ks (lvL ad b i) 504 [] := by
  obtain ⟨hA, hc, ⟨ρ, hm, hr⟩, w, hw⟩ := hI
  obtain ⟨κ, h, hC⟩ := id hc
  refine s_aload_n dL_law_504 rfl ?_
  refine s_aload_n dL_law_505 rfl ?_
  refine s_iload dL_law_506 rfl ?_
  refine s_iconst (v := 1) dL_law_508 (by decide) ?_
  refine s_iadd dL_law_509 ?_
  refine s_eqi (y := nI (i + 1)) (nI_add i 1) ?_
  refine s_sld hX hbl hbA hL9 (j := i + 1) rfl (by omega) dL_law_510 ?_
  refine s_aload_n dL_law_511 rfl ?_
  refine s_iload dL_law_512 rfl ?_
  refine s_iconst (v := 2) dL_law_514 (by decide) ?_
  refine s_iadd dL_law_515 ?_
  refine s_eqi (y := nI (i + 2)) (nI_add i 2) ?_
  refine s_sld hX hbl hbA hL9 (j := i + 2) rfl (by omega) dL_law_516 ?_
  refine s_aload_n dL_law_517 rfl ?_
  refine s_callSW (As := [.ref (ad 0 0), .int (xs (i + 1)), .int (xs (i + 2)), .ref (ad 26 0)]) (rest := []) (n := 4) (fun l hl => c_L_check G l hl ad M α hA hc w hw (xs (i + 1)) (xs (i + 2))) gl_check rfl (by decide +kernel) rfl ⟨(Nat.le_of_ble_eq_true rfl), (Nat.le_of_ble_eq_true rfl)⟩ ⟨(by show kc + 1 ≤ 601024; omega), (by show ks + 6 ≤ 7293034; omega)⟩ (Nat.le_of_ble_eq_true rfl) dL_law_518 rfl (fun r1 ad1 M1 h1 => ?_)
  obtain ⟨hex, hsx, k, v, α', w', hrel, hA', hc', rfl, hk3, hw', hv0⟩ := h1
  obtain ⟨ea, hrel⟩ := hrel
  obtain rfl := ea.symm
  obtain ⟨d0, d1, d2, d3, d4, d5, d6, d7, d8, d9, d10, d11, d12, d13, d14, d15, d16⟩ := ρ
  have hm1 := hm.ext hex (fun k i h1 h2 => hsx k i (by simp [pLw]; omega))
  have z0 := hex 0 0 _ h.1
  have z12 := hex 12 0 _ hm.1
  have z26 := hex 26 0 _ hw
  refine s_lv (lv' := [some (.ref b), some (.ref (ad1 0 0)), some (.ref (ad1 12 0)), some (.ref (ad1 26 0)), some (.int (nI i)), none, none]) (by rw [z0, z12, z26]) ?_
  refine s_istore dL_law_521 rfl rfl ?_
  refine s_lv (lv' := [some (.ref b), some (.ref (ad1 0 0)), some (.ref (ad1 12 0)), some (.ref (ad1 26 0)), some (.int (nI i)), some (.int (nI k)), none]) rfl ?_
  refine s_aload_n dL_law_523 rfl ?_
  refine s_aload_n dL_law_524 rfl ?_
  refine s_iload dL_law_525 rfl ?_
  refine s_iconst (v := 1) dL_law_527 (by decide) ?_
  refine s_iadd dL_law_528 ?_
  refine s_eqi (y := nI (i + 1)) (nI_add i 1) ?_
  refine s_sld hX hbl hbA hL9 (j := i + 1) rfl (by omega) dL_law_529 ?_
  refine s_aload_n dL_law_530 rfl ?_
  refine s_iload dL_law_531 rfl ?_
  refine s_iconst (v := 2) dL_law_533 (by decide) ?_
  refine s_iadd dL_law_534 ?_
  refine s_eqi (y := nI (i + 2)) (nI_add i 2) ?_
  refine s_sld hX hbl hbA hL9 (j := i + 2) rfl (by omega) dL_law_535 ?_
  refine s_callV (As := [.int (xs (i + 1)), .int (xs (i + 2))]) (rest := []) (n := 2) (kd := 12) (ix := 0) (fun l hl => c_X4_check G l hl ad1 M1 d0 d1 d2 d3 d4 d5 d6 d7 d8 d9 d10 d11 d12 d13 d14 d15 d16 hm1 α hA hr (xs (i + 1)) (xs (i + 2)) v k hrel) gm_check rfl (by decide +kernel) hm1.1 rfl rfl ⟨(Nat.le_of_ble_eq_true rfl), (Nat.le_of_ble_eq_true rfl)⟩ ⟨(by show kc + 1 + 0 ≤ 601024; omega), (by show ks + 6 + 0 ≤ 7293034; omega)⟩ (Nat.le_of_ble_eq_true rfl) dL_law_536 rfl (fun r2 ad2 M2 h2 => ?_)
  obtain ⟨rfl, hs2, ⟨⟨e0, e1, e2, e3, e4, e5, e6, e7, e8, e9, e10, e11, e12, e13, e14, e15, e16⟩, hm2, hc2, hr2⟩, b2, rfl, hb2⟩ := h2
  have hc3 : e0 = nI k := hc2
  have hw2 : lOut G M2 w' := (hs2 26 0 (by simp [pMd])).trans hw'
  refine s_istore dL_law_539 rfl rfl ?_
  refine s_lv (lv' := [some (.ref b), some (.ref (ad1 0 0)), some (.ref (ad1 12 0)), some (.ref (ad1 26 0)), some (.int (nI i)), some (.int (nI k)), some (.int b2)]) rfl ?_
  refine s_aload_n dL_law_541 rfl ?_
  refine s_callV (As := []) (rest := []) (n := 0) (kd := 12) (ix := 0) (fun l hl => c_X4_thrown G l hl ad1 M2 e0 e1 e2 e3 e4 e5 e6 e7 e8 e9 e10 e11 e12 e13 e14 e15 e16 hm2) gm_thrown rfl (by decide +kernel) hm2.1 rfl rfl ⟨(Nat.le_of_ble_eq_true rfl), (Nat.le_of_ble_eq_true rfl)⟩ ⟨(by show kc + 1 + 0 + 0 ≤ 601024; omega), (by show ks + 6 + 0 + 0 ≤ 7293034; omega)⟩ (Nat.le_of_ble_eq_true rfl) dL_law_542 rfl (fun r3 ad3 M3 h3 => ?_)
  obtain ⟨rfl, rfl, rfl⟩ := h3
  refine s_iload dL_law_545 rfl ?_
  refine s_icmp_eq 552 dL_law_547 (by decide) (fun c547 => ?_) (fun c547 => absurd (hc3) c547)
  refine s_iload dL_law_552 rfl ?_
  refine s_if_ne 569 dL_law_554 (by decide) (fun c554 => ?_) (fun c554 => ?_)
  · refine s_goto 1011 dL_law_569 (by decide) ?_
    refine s_drop 5 ?_
    refine s_drop 6 ?_
    refine s_widen (kc' := kc + 5) (ks' := ks + 100) (by show kc + 1 + 0 + 0 ≤ kc + 5; omega) (by show ks + 6 + 0 + 0 ≤ ks + 100; omega) ?_
    exact kont ad1 M2 α ⟨hA', hc'.keep (fun k i hk => hs2 k i (by simp [pMd]; omega)), ⟨(e0, e1, e2, e3, e4, e5, e6, e7, e8, e9, e10, e11, e12, e13, e14, e15, e16), hm2, hr2⟩, w', hw2⟩
  · refine s_aload_n dL_law_557 rfl ?_
    refine s_iconst (v := 0) dL_law_558 (by decide) ?_
    have hk0 : k = 0 := (nI_eq (a := k) (b := 0) (by omega) (by omega)).mp c554
    refine s_lald (kd := 26) (ix := 0) (n := 1) (f := w') (j := 0) hw2 (rfl) (by decide) (by decide) dL_law_559 ?_
    refine s_iload dL_law_560 rfl ?_
    refine s_i2l dL_law_562 ?_
    refine s_lcmp dL_law_563 ?_
    refine s_if_eq 569 dL_law_564 (by decide) (fun c564 => ?_) (fun c564 => absurd ((lg_cmp_eq _ _).mpr (by rw [hv0 hk0, hb2 hk0])) c564)
    refine s_goto 1011 dL_law_569 (by decide) ?_
    refine s_drop 5 ?_
    refine s_drop 6 ?_
    refine s_widen (kc' := kc + 5) (ks' := ks + 100) (by show kc + 1 + 0 + 0 ≤ kc + 5; omega) (by show ks + 6 + 0 + 0 ≤ ks + 100; omega) ?_
    exact kont ad1 M2 α ⟨hA', hc'.keep (fun k i hk => hs2 k i (by simp [pMd]; omega)), ⟨(e0, e1, e2, e3, e4, e5, e6, e7, e8, e9, e10, e11, e12, e13, e14, e15, e16), hm2, hr2⟩, w', hw2⟩
theorem gl_rowAt : GoodIn (cLw :: wU) (va_wsS RL 98 yL_rowAt wuL_rowAt) := goodSU (by decide +kernel)
theorem gm_rowAt : GoodIn (cLw :: wU) (wsV RL 100 RX4 yX4_rowAt wsX4_rowAt) := goodUP _ [732, 733, 734, 50, 735, 736, 554, 563, 564, 565, 566, 685, 687, 36, 50, 688, 562, 616, 617, 618, 571, 573, 575, 577, 579, 581, 583, 585, 587, 589, 591, 593, 595, 597, 599, 601, 603] (by decide +kernel) (by decide +kernel)
set_option maxHeartbeats 4000000 in
set_option maxRecDepth 100000 in
theorem a_rowAt (X : sMach) (G : sG) (ad : sAd) (M : sM) (Q : State → Prop) (b L : Nat) (xs : Nat → Int32) (hX : va_X b L xs (mS X) (mS X).heap) (hbl : b < (mS X).heap.size) (hbA : ¬ gA G b) (hL9 : L ≤ 2560) (kc ks : Nat) (hkc : kc + 5 ≤ 601024) (hks : ks + 100 ≤ 7293034) (α : sAl) (hI : lI G ad M α) (i : Nat) (hi : i + 5 ≤ L) (kont : ∀ (ad' : sAd) (M' : sM) (α' : sAl), lI G ad' M' α' → sW X G mL_law Q ad' M' (kc + 5) (ks + 100) (lvL ad' b i) 1011 []) : sW X G mL_law Q ad M kc ks (lvL ad b i) 572 [] := by
  obtain ⟨hA, hc, ⟨ρ, hm, hr⟩, w, hw⟩ := hI
  obtain ⟨κ, h, hC⟩ := id hc
  refine s_aload_n dL_law_572 rfl ?_
  refine s_aload_n dL_law_573 rfl ?_
  refine s_iload dL_law_574 rfl ?_
  refine s_iconst (v := 1) dL_law_576 (by decide) ?_
  refine s_iadd dL_law_577 ?_
  refine s_eqi (y := nI (i + 1)) (nI_add i 1) ?_
  refine s_sld hX hbl hbA hL9 (j := i + 1) rfl (by omega) dL_law_578 ?_
  refine s_aload_n dL_law_579 rfl ?_
  refine s_iload dL_law_580 rfl ?_
  refine s_iconst (v := 2) dL_law_582 (by decide) ?_
  refine s_iadd dL_law_583 ?_
  refine s_eqi (y := nI (i + 2)) (nI_add i 2) ?_
  refine s_sld hX hbl hbA hL9 (j := i + 2) rfl (by omega) dL_law_584 ?_
  refine s_aload_n dL_law_585 rfl ?_
  refine s_callSW (As := [.ref (ad 0 0), .int (xs (i + 1)), .int (xs (i + 2)), .ref (ad 26 0)]) (rest := []) (n := 4) (fun l hl => c_L_rowAt G l hl ad M α hA hc w hw (xs (i + 1)) (xs (i + 2))) gl_rowAt rfl (by decide +kernel) rfl ⟨(Nat.le_of_ble_eq_true rfl), (Nat.le_of_ble_eq_true rfl)⟩ ⟨(by show kc + 1 ≤ 601024; omega), (by show ks + 6 ≤ 7293034; omega)⟩ (Nat.le_of_ble_eq_true rfl) dL_law_586 rfl (fun r1 ad1 M1 h1 => ?_)
  obtain ⟨hex, hsx, k, v, α', w', hrel, hA', hc', rfl, hk3, hw', hv0⟩ := h1
  obtain ⟨ea, hrel⟩ := hrel
  obtain rfl := ea.symm
  obtain ⟨d0, d1, d2, d3, d4, d5, d6, d7, d8, d9, d10, d11, d12, d13, d14, d15, d16⟩ := ρ
  have hm1 := hm.ext hex (fun k i h1 h2 => hsx k i (by simp [pLw]; omega))
  have z0 := hex 0 0 _ h.1
  have z12 := hex 12 0 _ hm.1
  have z26 := hex 26 0 _ hw
  refine s_lv (lv' := [some (.ref b), some (.ref (ad1 0 0)), some (.ref (ad1 12 0)), some (.ref (ad1 26 0)), some (.int (nI i)), none, none]) (by rw [z0, z12, z26]) ?_
  refine s_istore dL_law_589 rfl rfl ?_
  refine s_lv (lv' := [some (.ref b), some (.ref (ad1 0 0)), some (.ref (ad1 12 0)), some (.ref (ad1 26 0)), some (.int (nI i)), some (.int (nI k)), none]) rfl ?_
  refine s_aload_n dL_law_591 rfl ?_
  refine s_aload_n dL_law_592 rfl ?_
  refine s_iload dL_law_593 rfl ?_
  refine s_iconst (v := 1) dL_law_595 (by decide) ?_
  refine s_iadd dL_law_596 ?_
  refine s_eqi (y := nI (i + 1)) (nI_add i 1) ?_
  refine s_sld hX hbl hbA hL9 (j := i + 1) rfl (by omega) dL_law_597 ?_
  refine s_aload_n dL_law_598 rfl ?_
  refine s_iload dL_law_599 rfl ?_
  refine s_iconst (v := 2) dL_law_601 (by decide) ?_
  refine s_iadd dL_law_602 ?_
  refine s_eqi (y := nI (i + 2)) (nI_add i 2) ?_
  refine s_sld hX hbl hbA hL9 (j := i + 2) rfl (by omega) dL_law_603 ?_
  refine s_callV (As := [.int (xs (i + 1)), .int (xs (i + 2))]) (rest := []) (n := 2) (kd := 12) (ix := 0) (fun l hl => c_X4_rowAt G l hl ad1 M1 d0 d1 d2 d3 d4 d5 d6 d7 d8 d9 d10 d11 d12 d13 d14 d15 d16 hm1 α hA hr (xs (i + 1)) (xs (i + 2)) v k hrel) gm_rowAt rfl (by decide +kernel) hm1.1 rfl rfl ⟨(Nat.le_of_ble_eq_true rfl), (Nat.le_of_ble_eq_true rfl)⟩ ⟨(by show kc + 1 + 0 ≤ 601024; omega), (by show ks + 6 + 0 ≤ 7293034; omega)⟩ (Nat.le_of_ble_eq_true rfl) dL_law_604 rfl (fun r2 ad2 M2 h2 => ?_)
  obtain ⟨rfl, hs2, ⟨⟨e0, e1, e2, e3, e4, e5, e6, e7, e8, e9, e10, e11, e12, e13, e14, e15, e16⟩, hm2, hc2, hr2⟩, b2, rfl, hb2⟩ := h2
  have hc3 : e0 = nI k := hc2
  have hw2 : lOut G M2 w' := (hs2 26 0 (by simp [pMd])).trans hw'
  refine s_istore dL_law_607 rfl rfl ?_
  refine s_lv (lv' := [some (.ref b), some (.ref (ad1 0 0)), some (.ref (ad1 12 0)), some (.ref (ad1 26 0)), some (.int (nI i)), some (.int (nI k)), some (.int b2)]) rfl ?_
  refine s_aload_n dL_law_609 rfl ?_
  refine s_callV (As := []) (rest := []) (n := 0) (kd := 12) (ix := 0) (fun l hl => c_X4_thrown G l hl ad1 M2 e0 e1 e2 e3 e4 e5 e6 e7 e8 e9 e10 e11 e12 e13 e14 e15 e16 hm2) gm_thrown rfl (by decide +kernel) hm2.1 rfl rfl ⟨(Nat.le_of_ble_eq_true rfl), (Nat.le_of_ble_eq_true rfl)⟩ ⟨(by show kc + 1 + 0 + 0 ≤ 601024; omega), (by show ks + 6 + 0 + 0 ≤ 7293034; omega)⟩ (Nat.le_of_ble_eq_true rfl) dL_law_610 rfl (fun r3 ad3 M3 h3 => ?_)
  obtain ⟨rfl, rfl, rfl⟩ := h3
  refine s_iload dL_law_613 rfl ?_
  refine s_icmp_eq 620 dL_law_615 (by decide) (fun c615 => ?_) (fun c615 => absurd (hc3) c615)
  refine s_iload dL_law_620 rfl ?_
  refine s_if_ne 637 dL_law_622 (by decide) (fun c622 => ?_) (fun c622 => ?_)
  · refine s_goto 1011 dL_law_637 (by decide) ?_
    refine s_drop 5 ?_
    refine s_drop 6 ?_
    refine s_widen (kc' := kc + 5) (ks' := ks + 100) (by show kc + 1 + 0 + 0 ≤ kc + 5; omega) (by show ks + 6 + 0 + 0 ≤ ks + 100; omega) ?_
    exact kont ad1 M2 α ⟨hA', hc'.keep (fun k i hk => hs2 k i (by simp [pMd]; omega)), ⟨(e0, e1, e2, e3, e4, e5, e6, e7, e8, e9, e10, e11, e12, e13, e14, e15, e16), hm2, hr2⟩, w', hw2⟩
  · refine s_aload_n dL_law_625 rfl ?_
    refine s_iconst (v := 0) dL_law_626 (by decide) ?_
    have hk0 : k = 0 := (nI_eq (a := k) (b := 0) (by omega) (by omega)).mp c622
    refine s_lald (kd := 26) (ix := 0) (n := 1) (f := w') (j := 0) hw2 (rfl) (by decide) (by decide) dL_law_627 ?_
    refine s_iload dL_law_628 rfl ?_
    refine s_i2l dL_law_630 ?_
    refine s_lcmp dL_law_631 ?_
    refine s_if_eq 637 dL_law_632 (by decide) (fun c632 => ?_) (fun c632 => absurd ((lg_cmp_eq _ _).mpr (by rw [hv0 hk0, hb2 hk0])) c632)
    refine s_goto 1011 dL_law_637 (by decide) ?_
    refine s_drop 5 ?_
    refine s_drop 6 ?_
    refine s_widen (kc' := kc + 5) (ks' := ks + 100) (by show kc + 1 + 0 + 0 ≤ kc + 5; omega) (by show ks + 6 + 0 + 0 ≤ ks + 100; omega) ?_
    exact kont ad1 M2 α ⟨hA', hc'.keep (fun k i hk => hs2 k i (by simp [pMd]; omega)), ⟨(e0, e1, e2, e3, e4, e5, e6, e7, e8, e9, e10, e11, e12, e13, e14, e15, e16), hm2, hr2⟩, w', hw2⟩
theorem gl_counted : GoodIn (cLw :: wU) (va_wsS RL 101 yL_counted wuL_counted) := goodSU (by decide +kernel)
theorem gm_counted : GoodIn (cLw :: wU) (wsV RL 103 RX4 yX4_counted wsX4_counted) := goodUP _ [737, 738, 739, 50, 740, 554, 563, 564, 685, 687, 36, 50, 688, 562, 616, 617, 618, 676, 677, 678, 741, 743, 45, 744, 560, 571, 573, 575, 577, 579, 581, 583, 585, 587, 589, 591, 593, 595, 597, 599, 601, 603] (by decide +kernel) (by decide +kernel)
set_option maxHeartbeats 4000000 in
set_option maxRecDepth 100000 in
theorem a_counted (X : sMach) (G : sG) (ad : sAd) (M : sM) (Q : State → Prop) (b L : Nat) (xs : Nat → Int32) (hX : va_X b L xs (mS X) (mS X).heap) (hbl : b < (mS X).heap.size) (hbA : ¬ gA G b) (hL9 : L ≤ 2560) (kc ks : Nat) (hkc : kc + 5 ≤ 601024) (hks : ks + 100 ≤ 7293034) (α : sAl) (hI : lI G ad M α) (i : Nat) (hi : i + 5 ≤ L) (kont : ∀ (ad' : sAd) (M' : sM) (α' : sAl), lI G ad' M' α' → sW X G mL_law Q ad' M' (kc + 5) (ks + 100) (lvL ad' b i) 1011 []) : sW X G mL_law Q ad M kc ks (lvL ad b i) 640 [] := by
  obtain ⟨hA, hc, ⟨ρ, hm, hr⟩, w, hw⟩ := hI
  obtain ⟨κ, h, hC⟩ := id hc
  refine s_aload_n dL_law_640 rfl ?_
  refine s_aload_n dL_law_641 rfl ?_
  refine s_iload dL_law_642 rfl ?_
  refine s_iconst (v := 1) dL_law_644 (by decide) ?_
  refine s_iadd dL_law_645 ?_
  refine s_eqi (y := nI (i + 1)) (nI_add i 1) ?_
  refine s_sld hX hbl hbA hL9 (j := i + 1) rfl (by omega) dL_law_646 ?_
  refine s_aload_n dL_law_647 rfl ?_
  refine s_callSW (As := [.ref (ad 0 0), .int (xs (i + 1)), .ref (ad 26 0)]) (rest := []) (n := 3) (fun l hl => c_L_counted G l hl ad M α hA hc w hw (xs (i + 1))) gl_counted rfl (by decide +kernel) rfl ⟨(Nat.le_of_ble_eq_true rfl), (Nat.le_of_ble_eq_true rfl)⟩ ⟨(by show kc + 1 ≤ 601024; omega), (by show ks + 6 ≤ 7293034; omega)⟩ (Nat.le_of_ble_eq_true rfl) dL_law_648 rfl (fun r1 ad1 M1 h1 => ?_)
  obtain ⟨hex, hsx, k, v, α', w', hrel, hA', hc', rfl, hk3, hw', hv0⟩ := h1
  obtain ⟨ea, hrel⟩ := hrel
  obtain rfl := ea.symm
  obtain ⟨d0, d1, d2, d3, d4, d5, d6, d7, d8, d9, d10, d11, d12, d13, d14, d15, d16⟩ := ρ
  have hm1 := hm.ext hex (fun k i h1 h2 => hsx k i (by simp [pLw]; omega))
  have z0 := hex 0 0 _ h.1
  have z12 := hex 12 0 _ hm.1
  have z26 := hex 26 0 _ hw
  refine s_lv (lv' := [some (.ref b), some (.ref (ad1 0 0)), some (.ref (ad1 12 0)), some (.ref (ad1 26 0)), some (.int (nI i)), none, none]) (by rw [z0, z12, z26]) ?_
  refine s_istore dL_law_651 rfl rfl ?_
  refine s_lv (lv' := [some (.ref b), some (.ref (ad1 0 0)), some (.ref (ad1 12 0)), some (.ref (ad1 26 0)), some (.int (nI i)), some (.int (nI k)), none]) rfl ?_
  refine s_aload_n dL_law_653 rfl ?_
  refine s_aload_n dL_law_654 rfl ?_
  refine s_iload dL_law_655 rfl ?_
  refine s_iconst (v := 1) dL_law_657 (by decide) ?_
  refine s_iadd dL_law_658 ?_
  refine s_eqi (y := nI (i + 1)) (nI_add i 1) ?_
  refine s_sld hX hbl hbA hL9 (j := i + 1) rfl (by omega) dL_law_659 ?_
  refine s_callV (As := [.int (xs (i + 1))]) (rest := []) (n := 1) (kd := 12) (ix := 0) (fun l hl => c_X4_counted G l hl ad1 M1 d0 d1 d2 d3 d4 d5 d6 d7 d8 d9 d10 d11 d12 d13 d14 d15 d16 hm1 α hA hr (xs (i + 1)) v k hrel) gm_counted rfl (by decide +kernel) hm1.1 rfl rfl ⟨(Nat.le_of_ble_eq_true rfl), (Nat.le_of_ble_eq_true rfl)⟩ ⟨(by show kc + 1 + 0 ≤ 601024; omega), (by show ks + 6 + 0 ≤ 7293034; omega)⟩ (Nat.le_of_ble_eq_true rfl) dL_law_660 rfl (fun r2 ad2 M2 h2 => ?_)
  obtain ⟨rfl, hs2, ⟨⟨e0, e1, e2, e3, e4, e5, e6, e7, e8, e9, e10, e11, e12, e13, e14, e15, e16⟩, hm2, hc2, hr2⟩, b2, rfl, hb2⟩ := h2
  have hc3 : e0 = nI k := hc2
  have hw2 : lOut G M2 w' := (hs2 26 0 (by simp [pMd])).trans hw'
  refine s_istore dL_law_663 rfl rfl ?_
  refine s_lv (lv' := [some (.ref b), some (.ref (ad1 0 0)), some (.ref (ad1 12 0)), some (.ref (ad1 26 0)), some (.int (nI i)), some (.int (nI k)), some (.int b2)]) rfl ?_
  refine s_aload_n dL_law_665 rfl ?_
  refine s_callV (As := []) (rest := []) (n := 0) (kd := 12) (ix := 0) (fun l hl => c_X4_thrown G l hl ad1 M2 e0 e1 e2 e3 e4 e5 e6 e7 e8 e9 e10 e11 e12 e13 e14 e15 e16 hm2) gm_thrown rfl (by decide +kernel) hm2.1 rfl rfl ⟨(Nat.le_of_ble_eq_true rfl), (Nat.le_of_ble_eq_true rfl)⟩ ⟨(by show kc + 1 + 0 + 0 ≤ 601024; omega), (by show ks + 6 + 0 + 0 ≤ 7293034; omega)⟩ (Nat.le_of_ble_eq_true rfl) dL_law_666 rfl (fun r3 ad3 M3 h3 => ?_)
  obtain ⟨rfl, rfl, rfl⟩ := h3
  refine s_iload dL_law_669 rfl ?_
  refine s_icmp_eq 676 dL_law_671 (by decide) (fun c671 => ?_) (fun c671 => absurd (hc3) c671)
  refine s_iload dL_law_676 rfl ?_
  refine s_if_ne 693 dL_law_678 (by decide) (fun c678 => ?_) (fun c678 => ?_)
  · refine s_goto 1011 dL_law_693 (by decide) ?_
    refine s_drop 5 ?_
    refine s_drop 6 ?_
    refine s_widen (kc' := kc + 5) (ks' := ks + 100) (by show kc + 1 + 0 + 0 ≤ kc + 5; omega) (by show ks + 6 + 0 + 0 ≤ ks + 100; omega) ?_
    exact kont ad1 M2 α ⟨hA', hc'.keep (fun k i hk => hs2 k i (by simp [pMd]; omega)), ⟨(e0, e1, e2, e3, e4, e5, e6, e7, e8, e9, e10, e11, e12, e13, e14, e15, e16), hm2, hr2⟩, w', hw2⟩
  · refine s_aload_n dL_law_681 rfl ?_
    refine s_iconst (v := 0) dL_law_682 (by decide) ?_
    have hk0 : k = 0 := (nI_eq (a := k) (b := 0) (by omega) (by omega)).mp c678
    refine s_lald (kd := 26) (ix := 0) (n := 1) (f := w') (j := 0) hw2 (rfl) (by decide) (by decide) dL_law_683 ?_
    refine s_iload dL_law_684 rfl ?_
    refine s_i2l dL_law_686 ?_
    refine s_lcmp dL_law_687 ?_
    refine s_if_eq 693 dL_law_688 (by decide) (fun c688 => ?_) (fun c688 => absurd ((lg_cmp_eq _ _).mpr (by rw [hv0 hk0, hb2 hk0])) c688)
    refine s_goto 1011 dL_law_693 (by decide) ?_
    refine s_drop 5 ?_
    refine s_drop 6 ?_
    refine s_widen (kc' := kc + 5) (ks' := ks + 100) (by show kc + 1 + 0 + 0 ≤ kc + 5; omega) (by show ks + 6 + 0 + 0 ≤ ks + 100; omega) ?_
    exact kont ad1 M2 α ⟨hA', hc'.keep (fun k i hk => hs2 k i (by simp [pMd]; omega)), ⟨(e0, e1, e2, e3, e4, e5, e6, e7, e8, e9, e10, e11, e12, e13, e14, e15, e16), hm2, hr2⟩, w', hw2⟩
