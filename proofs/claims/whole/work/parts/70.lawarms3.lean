theorem gl_terms : GoodIn (cLw :: wU) (va_wsS RL 104 yL_terms wuL_terms) := goodSU (by decide +kernel)
theorem gm_terms : GoodIn (cLw :: wU) (wsV RL 106 RX4 yX4_terms wsX4_terms) := goodUP _ [745, 746, 747, 50, 748, 554, 561, 662, 664, 34, 50, 665, 555, 616, 617, 618, 741, 743, 45, 744, 560, 571, 573, 575, 577, 579, 581, 583, 585, 587, 589, 591, 593, 595, 597, 599, 601, 603] (by decide +kernel) (by decide +kernel)
set_option maxHeartbeats 4000000 in
set_option maxRecDepth 100000 in
theorem a_terms (X : sMach) (G : sG) (ad : sAd) (M : sM) (Q : State → Prop) (b L : Nat) (xs : Nat → Int32) (hX : va_X b L xs (mS X) (mS X).heap) (hbl : b < (mS X).heap.size) (hbA : ¬ gA G b) (hL9 : L ≤ 2560) (kc ks : Nat) (hkc : kc + 5 ≤ 601024) (hks : ks + 100 ≤ 7293034) (α : sAl) (hI : lI G ad M α) (i : Nat) (hi : i + 5 ≤ L) (kont : ∀ (ad' : sAd) (M' : sM) (α' : sAl), lI G ad' M' α' → sW X G mL_law Q ad' M' (kc + 5) (ks + 100) (lvL ad' b i) 1011 []) : sW X G mL_law Q ad M kc ks (lvL ad b i) 696 [] := by
  obtain ⟨hA, hc, ⟨ρ, hm, hr⟩, w, hw⟩ := hI
  obtain ⟨κ, h, hC⟩ := id hc
  refine s_aload_n dL_law_696 rfl ?_
  refine s_aload_n dL_law_697 rfl ?_
  refine s_iload dL_law_698 rfl ?_
  refine s_iconst (v := 1) dL_law_700 (by decide) ?_
  refine s_iadd dL_law_701 ?_
  refine s_eqi (y := nI (i + 1)) (nI_add i 1) ?_
  refine s_sld hX hbl hbA hL9 (j := i + 1) rfl (by omega) dL_law_702 ?_
  refine s_aload_n dL_law_703 rfl ?_
  refine s_callSW (As := [.ref (ad 0 0), .int (xs (i + 1)), .ref (ad 26 0)]) (rest := []) (n := 3) (fun l hl => c_L_terms G l hl ad M α hA hc w hw (xs (i + 1))) gl_terms rfl (by decide +kernel) rfl ⟨(Nat.le_of_ble_eq_true rfl), (Nat.le_of_ble_eq_true rfl)⟩ ⟨(by show kc + 1 ≤ 601024; omega), (by show ks + 6 ≤ 7293034; omega)⟩ (Nat.le_of_ble_eq_true rfl) dL_law_704 rfl (fun r1 ad1 M1 h1 => ?_)
  obtain ⟨hex, hsx, k, v, α', w', hrel, hA', hc', rfl, hk3, hw', hv0⟩ := h1
  obtain ⟨ea, hrel⟩ := hrel
  obtain rfl := ea.symm
  obtain ⟨d0, d1, d2, d3, d4, d5, d6, d7, d8, d9, d10, d11, d12, d13, d14, d15, d16⟩ := ρ
  have hm1 := hm.ext hex (fun k i h1 h2 => hsx k i (by simp [pLw]; omega))
  have z0 := hex 0 0 _ h.1
  have z12 := hex 12 0 _ hm.1
  have z26 := hex 26 0 _ hw
  refine s_lv (lv' := [some (.ref b), some (.ref (ad1 0 0)), some (.ref (ad1 12 0)), some (.ref (ad1 26 0)), some (.int (nI i)), none, none]) (by rw [z0, z12, z26]) ?_
  refine s_istore dL_law_707 rfl rfl ?_
  refine s_lv (lv' := [some (.ref b), some (.ref (ad1 0 0)), some (.ref (ad1 12 0)), some (.ref (ad1 26 0)), some (.int (nI i)), some (.int (nI k)), none]) rfl ?_
  refine s_aload_n dL_law_709 rfl ?_
  refine s_aload_n dL_law_710 rfl ?_
  refine s_iload dL_law_711 rfl ?_
  refine s_iconst (v := 1) dL_law_713 (by decide) ?_
  refine s_iadd dL_law_714 ?_
  refine s_eqi (y := nI (i + 1)) (nI_add i 1) ?_
  refine s_sld hX hbl hbA hL9 (j := i + 1) rfl (by omega) dL_law_715 ?_
  refine s_callV (As := [.int (xs (i + 1))]) (rest := []) (n := 1) (kd := 12) (ix := 0) (fun l hl => c_X4_terms G l hl ad1 M1 d0 d1 d2 d3 d4 d5 d6 d7 d8 d9 d10 d11 d12 d13 d14 d15 d16 hm1 α hA hr (xs (i + 1)) v k hrel) gm_terms rfl (by decide +kernel) hm1.1 rfl rfl ⟨(Nat.le_of_ble_eq_true rfl), (Nat.le_of_ble_eq_true rfl)⟩ ⟨(by show kc + 1 + 0 ≤ 601024; omega), (by show ks + 6 + 0 ≤ 7293034; omega)⟩ (Nat.le_of_ble_eq_true rfl) dL_law_716 rfl (fun r2 ad2 M2 h2 => ?_)
  obtain ⟨rfl, hs2, ⟨⟨e0, e1, e2, e3, e4, e5, e6, e7, e8, e9, e10, e11, e12, e13, e14, e15, e16⟩, hm2, hc2, hr2⟩, b2, rfl, hb2⟩ := h2
  have hc3 : e0 = nI k := hc2
  have hw2 : lOut G M2 w' := (hs2 26 0 (by simp [pMd])).trans hw'
  refine s_istore dL_law_719 rfl rfl ?_
  refine s_lv (lv' := [some (.ref b), some (.ref (ad1 0 0)), some (.ref (ad1 12 0)), some (.ref (ad1 26 0)), some (.int (nI i)), some (.int (nI k)), some (.int b2)]) rfl ?_
  refine s_aload_n dL_law_721 rfl ?_
  refine s_callV (As := []) (rest := []) (n := 0) (kd := 12) (ix := 0) (fun l hl => c_X4_thrown G l hl ad1 M2 e0 e1 e2 e3 e4 e5 e6 e7 e8 e9 e10 e11 e12 e13 e14 e15 e16 hm2) gm_thrown rfl (by decide +kernel) hm2.1 rfl rfl ⟨(Nat.le_of_ble_eq_true rfl), (Nat.le_of_ble_eq_true rfl)⟩ ⟨(by show kc + 1 + 0 + 0 ≤ 601024; omega), (by show ks + 6 + 0 + 0 ≤ 7293034; omega)⟩ (Nat.le_of_ble_eq_true rfl) dL_law_722 rfl (fun r3 ad3 M3 h3 => ?_)
  obtain ⟨rfl, rfl, rfl⟩ := h3
  refine s_iload dL_law_725 rfl ?_
  refine s_icmp_eq 732 dL_law_727 (by decide) (fun c727 => ?_) (fun c727 => absurd (hc3) c727)
  refine s_iload dL_law_732 rfl ?_
  refine s_if_ne 749 dL_law_734 (by decide) (fun c734 => ?_) (fun c734 => ?_)
  · refine s_goto 1011 dL_law_749 (by decide) ?_
    refine s_drop 5 ?_
    refine s_drop 6 ?_
    refine s_widen (kc' := kc + 5) (ks' := ks + 100) (by show kc + 1 + 0 + 0 ≤ kc + 5; omega) (by show ks + 6 + 0 + 0 ≤ ks + 100; omega) ?_
    exact kont ad1 M2 α ⟨hA', hc'.keep (fun k i hk => hs2 k i (by simp [pMd]; omega)), ⟨(e0, e1, e2, e3, e4, e5, e6, e7, e8, e9, e10, e11, e12, e13, e14, e15, e16), hm2, hr2⟩, w', hw2⟩
  · refine s_aload_n dL_law_737 rfl ?_
    refine s_iconst (v := 0) dL_law_738 (by decide) ?_
    have hk0 : k = 0 := (nI_eq (a := k) (b := 0) (by omega) (by omega)).mp c734
    refine s_lald (kd := 26) (ix := 0) (n := 1) (f := w') (j := 0) hw2 (rfl) (by decide) (by decide) dL_law_739 ?_
    refine s_iload dL_law_740 rfl ?_
    refine s_i2l dL_law_742 ?_
    refine s_lcmp dL_law_743 ?_
    refine s_if_eq 749 dL_law_744 (by decide) (fun c744 => ?_) (fun c744 => absurd ((lg_cmp_eq _ _).mpr (by rw [hv0 hk0, hb2 hk0])) c744)
    refine s_goto 1011 dL_law_749 (by decide) ?_
    refine s_drop 5 ?_
    refine s_drop 6 ?_
    refine s_widen (kc' := kc + 5) (ks' := ks + 100) (by show kc + 1 + 0 + 0 ≤ kc + 5; omega) (by show ks + 6 + 0 + 0 ≤ ks + 100; omega) ?_
    exact kont ad1 M2 α ⟨hA', hc'.keep (fun k i hk => hs2 k i (by simp [pMd]; omega)), ⟨(e0, e1, e2, e3, e4, e5, e6, e7, e8, e9, e10, e11, e12, e13, e14, e15, e16), hm2, hr2⟩, w', hw2⟩
theorem gl_term : GoodIn (cLw :: wU) (va_wsS RL 107 yL_term wuL_term) := goodSU (by decide +kernel)
theorem gm_term : GoodIn (cLw :: wU) (wsV RL 109 RX4 yX4_term wsX4_term) := goodUP _ [749, 750, 751, 50, 752, 561, 554, 753, 560, 662, 664, 34, 50, 665, 555, 616, 617, 618, 627, 628, 629, 630, 631, 632, 633, 634, 635, 571, 573, 575, 577, 579, 581, 583, 585, 587, 589, 591, 593, 595, 597, 599, 601, 603] (by decide +kernel) (by decide +kernel)
set_option maxHeartbeats 4000000 in
set_option maxRecDepth 100000 in
theorem a_term (X : sMach) (G : sG) (ad : sAd) (M : sM) (Q : State → Prop) (b L : Nat) (xs : Nat → Int32) (hX : va_X b L xs (mS X) (mS X).heap) (hbl : b < (mS X).heap.size) (hbA : ¬ gA G b) (hL9 : L ≤ 2560) (kc ks : Nat) (hkc : kc + 5 ≤ 601024) (hks : ks + 100 ≤ 7293034) (α : sAl) (hI : lI G ad M α) (i : Nat) (hi : i + 5 ≤ L) (kont : ∀ (ad' : sAd) (M' : sM) (α' : sAl), lI G ad' M' α' → sW X G mL_law Q ad' M' (kc + 5) (ks + 100) (lvL ad' b i) 1011 []) : sW X G mL_law Q ad M kc ks (lvL ad b i) 752 [] := by
  obtain ⟨hA, hc, ⟨ρ, hm, hr⟩, w, hw⟩ := hI
  obtain ⟨κ, h, hC⟩ := id hc
  refine s_aload_n dL_law_752 rfl ?_
  refine s_aload_n dL_law_753 rfl ?_
  refine s_iload dL_law_754 rfl ?_
  refine s_iconst (v := 1) dL_law_756 (by decide) ?_
  refine s_iadd dL_law_757 ?_
  refine s_eqi (y := nI (i + 1)) (nI_add i 1) ?_
  refine s_sld hX hbl hbA hL9 (j := i + 1) rfl (by omega) dL_law_758 ?_
  refine s_aload_n dL_law_759 rfl ?_
  refine s_iload dL_law_760 rfl ?_
  refine s_iconst (v := 2) dL_law_762 (by decide) ?_
  refine s_iadd dL_law_763 ?_
  refine s_eqi (y := nI (i + 2)) (nI_add i 2) ?_
  refine s_sld hX hbl hbA hL9 (j := i + 2) rfl (by omega) dL_law_764 ?_
  refine s_aload_n dL_law_765 rfl ?_
  refine s_iload dL_law_766 rfl ?_
  refine s_iconst (v := 3) dL_law_768 (by decide) ?_
  refine s_iadd dL_law_769 ?_
  refine s_eqi (y := nI (i + 3)) (nI_add i 3) ?_
  refine s_sld hX hbl hbA hL9 (j := i + 3) rfl (by omega) dL_law_770 ?_
  refine s_aload_n dL_law_771 rfl ?_
  refine s_iload dL_law_772 rfl ?_
  refine s_iconst (v := 4) dL_law_774 (by decide) ?_
  refine s_iadd dL_law_775 ?_
  refine s_eqi (y := nI (i + 4)) (nI_add i 4) ?_
  refine s_sld hX hbl hbA hL9 (j := i + 4) rfl (by omega) dL_law_776 ?_
  refine s_aload_n dL_law_777 rfl ?_
  refine s_callSW (As := [.ref (ad 0 0), .int (xs (i + 1)), .int (xs (i + 2)), .int (xs (i + 3)), .int (xs (i + 4)), .ref (ad 26 0)]) (rest := []) (n := 6) (fun l hl => c_L_term G l hl ad M α hA hc w hw (xs (i + 1)) (xs (i + 2)) (xs (i + 3)) (xs (i + 4))) gl_term rfl (by decide +kernel) rfl ⟨(Nat.le_of_ble_eq_true rfl), (Nat.le_of_ble_eq_true rfl)⟩ ⟨(by show kc + 2 ≤ 601024; omega), (by show ks + 12 ≤ 7293034; omega)⟩ (Nat.le_of_ble_eq_true rfl) dL_law_778 rfl (fun r1 ad1 M1 h1 => ?_)
  obtain ⟨hex, hsx, k, v, α', w', hrel, hA', hc', rfl, hk3, hw', hv0⟩ := h1
  obtain ⟨ea, hrel⟩ := hrel
  obtain rfl := ea.symm
  obtain ⟨d0, d1, d2, d3, d4, d5, d6, d7, d8, d9, d10, d11, d12, d13, d14, d15, d16⟩ := ρ
  have hm1 := hm.ext hex (fun k i h1 h2 => hsx k i (by simp [pLw]; omega))
  have z0 := hex 0 0 _ h.1
  have z12 := hex 12 0 _ hm.1
  have z26 := hex 26 0 _ hw
  refine s_lv (lv' := [some (.ref b), some (.ref (ad1 0 0)), some (.ref (ad1 12 0)), some (.ref (ad1 26 0)), some (.int (nI i)), none, none]) (by rw [z0, z12, z26]) ?_
  refine s_istore dL_law_781 rfl rfl ?_
  refine s_lv (lv' := [some (.ref b), some (.ref (ad1 0 0)), some (.ref (ad1 12 0)), some (.ref (ad1 26 0)), some (.int (nI i)), some (.int (nI k)), none]) rfl ?_
  refine s_aload_n dL_law_783 rfl ?_
  refine s_aload_n dL_law_784 rfl ?_
  refine s_iload dL_law_785 rfl ?_
  refine s_iconst (v := 1) dL_law_787 (by decide) ?_
  refine s_iadd dL_law_788 ?_
  refine s_eqi (y := nI (i + 1)) (nI_add i 1) ?_
  refine s_sld hX hbl hbA hL9 (j := i + 1) rfl (by omega) dL_law_789 ?_
  refine s_aload_n dL_law_790 rfl ?_
  refine s_iload dL_law_791 rfl ?_
  refine s_iconst (v := 2) dL_law_793 (by decide) ?_
  refine s_iadd dL_law_794 ?_
  refine s_eqi (y := nI (i + 2)) (nI_add i 2) ?_
  refine s_sld hX hbl hbA hL9 (j := i + 2) rfl (by omega) dL_law_795 ?_
  refine s_aload_n dL_law_796 rfl ?_
  refine s_iload dL_law_797 rfl ?_
  refine s_iconst (v := 3) dL_law_799 (by decide) ?_
  refine s_iadd dL_law_800 ?_
  refine s_eqi (y := nI (i + 3)) (nI_add i 3) ?_
  refine s_sld hX hbl hbA hL9 (j := i + 3) rfl (by omega) dL_law_801 ?_
  refine s_aload_n dL_law_802 rfl ?_
  refine s_iload dL_law_803 rfl ?_
  refine s_iconst (v := 4) dL_law_805 (by decide) ?_
  refine s_iadd dL_law_806 ?_
  refine s_eqi (y := nI (i + 4)) (nI_add i 4) ?_
  refine s_sld hX hbl hbA hL9 (j := i + 4) rfl (by omega) dL_law_807 ?_
  refine s_callV (As := [.int (xs (i + 1)), .int (xs (i + 2)), .int (xs (i + 3)), .int (xs (i + 4))]) (rest := []) (n := 4) (kd := 12) (ix := 0) (fun l hl => c_X4_term G l hl ad1 M1 d0 d1 d2 d3 d4 d5 d6 d7 d8 d9 d10 d11 d12 d13 d14 d15 d16 hm1 α hA hr (xs (i + 1)) (xs (i + 2)) (xs (i + 3)) (xs (i + 4)) v k hrel) gm_term rfl (by decide +kernel) hm1.1 rfl rfl ⟨(Nat.le_of_ble_eq_true rfl), (Nat.le_of_ble_eq_true rfl)⟩ ⟨(by show kc + 2 + 0 ≤ 601024; omega), (by show ks + 12 + 0 ≤ 7293034; omega)⟩ (Nat.le_of_ble_eq_true rfl) dL_law_808 rfl (fun r2 ad2 M2 h2 => ?_)
  obtain ⟨rfl, hs2, ⟨⟨e0, e1, e2, e3, e4, e5, e6, e7, e8, e9, e10, e11, e12, e13, e14, e15, e16⟩, hm2, hc2, hr2⟩, b2, rfl, hb2⟩ := h2
  have hc3 : e0 = nI k := hc2
  have hw2 : lOut G M2 w' := (hs2 26 0 (by simp [pMd])).trans hw'
  refine s_istore dL_law_811 rfl rfl ?_
  refine s_lv (lv' := [some (.ref b), some (.ref (ad1 0 0)), some (.ref (ad1 12 0)), some (.ref (ad1 26 0)), some (.int (nI i)), some (.int (nI k)), some (.int b2)]) rfl ?_
  refine s_aload_n dL_law_813 rfl ?_
  refine s_callV (As := []) (rest := []) (n := 0) (kd := 12) (ix := 0) (fun l hl => c_X4_thrown G l hl ad1 M2 e0 e1 e2 e3 e4 e5 e6 e7 e8 e9 e10 e11 e12 e13 e14 e15 e16 hm2) gm_thrown rfl (by decide +kernel) hm2.1 rfl rfl ⟨(Nat.le_of_ble_eq_true rfl), (Nat.le_of_ble_eq_true rfl)⟩ ⟨(by show kc + 2 + 0 + 0 ≤ 601024; omega), (by show ks + 12 + 0 + 0 ≤ 7293034; omega)⟩ (Nat.le_of_ble_eq_true rfl) dL_law_814 rfl (fun r3 ad3 M3 h3 => ?_)
  obtain ⟨rfl, rfl, rfl⟩ := h3
  refine s_iload dL_law_817 rfl ?_
  refine s_icmp_eq 824 dL_law_819 (by decide) (fun c819 => ?_) (fun c819 => absurd (hc3) c819)
  refine s_iload dL_law_824 rfl ?_
  refine s_if_ne 841 dL_law_826 (by decide) (fun c826 => ?_) (fun c826 => ?_)
  · refine s_goto 1011 dL_law_841 (by decide) ?_
    refine s_drop 5 ?_
    refine s_drop 6 ?_
    refine s_widen (kc' := kc + 5) (ks' := ks + 100) (by show kc + 2 + 0 + 0 ≤ kc + 5; omega) (by show ks + 12 + 0 + 0 ≤ ks + 100; omega) ?_
    exact kont ad1 M2 α ⟨hA', hc'.keep (fun k i hk => hs2 k i (by simp [pMd]; omega)), ⟨(e0, e1, e2, e3, e4, e5, e6, e7, e8, e9, e10, e11, e12, e13, e14, e15, e16), hm2, hr2⟩, w', hw2⟩
  · refine s_aload_n dL_law_829 rfl ?_
    refine s_iconst (v := 0) dL_law_830 (by decide) ?_
    have hk0 : k = 0 := (nI_eq (a := k) (b := 0) (by omega) (by omega)).mp c826
    refine s_lald (kd := 26) (ix := 0) (n := 1) (f := w') (j := 0) hw2 (rfl) (by decide) (by decide) dL_law_831 ?_
    refine s_iload dL_law_832 rfl ?_
    refine s_i2l dL_law_834 ?_
    refine s_lcmp dL_law_835 ?_
    refine s_if_eq 841 dL_law_836 (by decide) (fun c836 => ?_) (fun c836 => absurd ((lg_cmp_eq _ _).mpr (by rw [hv0 hk0, hb2 hk0])) c836)
    refine s_goto 1011 dL_law_841 (by decide) ?_
    refine s_drop 5 ?_
    refine s_drop 6 ?_
    refine s_widen (kc' := kc + 5) (ks' := ks + 100) (by show kc + 2 + 0 + 0 ≤ kc + 5; omega) (by show ks + 12 + 0 + 0 ≤ ks + 100; omega) ?_
    exact kont ad1 M2 α ⟨hA', hc'.keep (fun k i hk => hs2 k i (by simp [pMd]; omega)), ⟨(e0, e1, e2, e3, e4, e5, e6, e7, e8, e9, e10, e11, e12, e13, e14, e15, e16), hm2, hr2⟩, w', hw2⟩
theorem gl_deep : GoodIn (cLw :: wU) (va_wsS RL 110 yL_deep wuL_deep) := goodSU (by decide +kernel)
theorem gm_deep : GoodIn (cLw :: wU) (wsV RL 112 RX4 yX4_deep wsX4_deep) := goodUP _ [754, 755, 756, 50, 757, 554, 559, 662, 664, 34, 50, 665, 555, 616, 617, 618, 571, 573, 575, 577, 579, 581, 583, 585, 587, 589, 591, 593, 595, 597, 599, 601, 603] (by decide +kernel) (by decide +kernel)
set_option maxHeartbeats 4000000 in
set_option maxRecDepth 100000 in
theorem a_deep (X : sMach) (G : sG) (ad : sAd) (M : sM) (Q : State → Prop) (b L : Nat) (xs : Nat → Int32) (hX : va_X b L xs (mS X) (mS X).heap) (hbl : b < (mS X).heap.size) (hbA : ¬ gA G b) (hL9 : L ≤ 2560) (kc ks : Nat) (hkc : kc + 5 ≤ 601024) (hks : ks + 100 ≤ 7293034) (α : sAl) (hI : lI G ad M α) (i : Nat) (hi : i + 5 ≤ L) (kont : ∀ (ad' : sAd) (M' : sM) (α' : sAl), lI G ad' M' α' → sW X G mL_law Q ad' M' (kc + 5) (ks + 100) (lvL ad' b i) 1011 []) : sW X G mL_law Q ad M kc ks (lvL ad b i) 844 [] := by
  obtain ⟨hA, hc, ⟨ρ, hm, hr⟩, w, hw⟩ := hI
  obtain ⟨κ, h, hC⟩ := id hc
  refine s_aload_n dL_law_844 rfl ?_
  refine s_aload_n dL_law_845 rfl ?_
  refine s_iload dL_law_846 rfl ?_
  refine s_iconst (v := 1) dL_law_848 (by decide) ?_
  refine s_iadd dL_law_849 ?_
  refine s_eqi (y := nI (i + 1)) (nI_add i 1) ?_
  refine s_sld hX hbl hbA hL9 (j := i + 1) rfl (by omega) dL_law_850 ?_
  refine s_aload_n dL_law_851 rfl ?_
  refine s_callSW (As := [.ref (ad 0 0), .int (xs (i + 1)), .ref (ad 26 0)]) (rest := []) (n := 3) (fun l hl => c_L_deep G l hl ad M α hA hc w hw (xs (i + 1))) gl_deep rfl (by decide +kernel) rfl ⟨(Nat.le_of_ble_eq_true rfl), (Nat.le_of_ble_eq_true rfl)⟩ ⟨(by show kc + 1 ≤ 601024; omega), (by show ks + 6 ≤ 7293034; omega)⟩ (Nat.le_of_ble_eq_true rfl) dL_law_852 rfl (fun r1 ad1 M1 h1 => ?_)
  obtain ⟨hex, hsx, k, v, α', w', hrel, hA', hc', rfl, hk3, hw', hv0⟩ := h1
  obtain ⟨ea, hrel⟩ := hrel
  obtain rfl := ea.symm
  obtain ⟨d0, d1, d2, d3, d4, d5, d6, d7, d8, d9, d10, d11, d12, d13, d14, d15, d16⟩ := ρ
  have hm1 := hm.ext hex (fun k i h1 h2 => hsx k i (by simp [pLw]; omega))
  have z0 := hex 0 0 _ h.1
  have z12 := hex 12 0 _ hm.1
  have z26 := hex 26 0 _ hw
  refine s_lv (lv' := [some (.ref b), some (.ref (ad1 0 0)), some (.ref (ad1 12 0)), some (.ref (ad1 26 0)), some (.int (nI i)), none, none]) (by rw [z0, z12, z26]) ?_
  refine s_istore dL_law_855 rfl rfl ?_
  refine s_lv (lv' := [some (.ref b), some (.ref (ad1 0 0)), some (.ref (ad1 12 0)), some (.ref (ad1 26 0)), some (.int (nI i)), some (.int (nI k)), none]) rfl ?_
  refine s_aload_n dL_law_857 rfl ?_
  refine s_aload_n dL_law_858 rfl ?_
  refine s_iload dL_law_859 rfl ?_
  refine s_iconst (v := 1) dL_law_861 (by decide) ?_
  refine s_iadd dL_law_862 ?_
  refine s_eqi (y := nI (i + 1)) (nI_add i 1) ?_
  refine s_sld hX hbl hbA hL9 (j := i + 1) rfl (by omega) dL_law_863 ?_
  refine s_callV (As := [.int (xs (i + 1))]) (rest := []) (n := 1) (kd := 12) (ix := 0) (fun l hl => c_X4_deep G l hl ad1 M1 d0 d1 d2 d3 d4 d5 d6 d7 d8 d9 d10 d11 d12 d13 d14 d15 d16 hm1 α hA hr (xs (i + 1)) v k hrel) gm_deep rfl (by decide +kernel) hm1.1 rfl rfl ⟨(Nat.le_of_ble_eq_true rfl), (Nat.le_of_ble_eq_true rfl)⟩ ⟨(by show kc + 1 + 0 ≤ 601024; omega), (by show ks + 6 + 0 ≤ 7293034; omega)⟩ (Nat.le_of_ble_eq_true rfl) dL_law_864 rfl (fun r2 ad2 M2 h2 => ?_)
  obtain ⟨rfl, hs2, ⟨⟨e0, e1, e2, e3, e4, e5, e6, e7, e8, e9, e10, e11, e12, e13, e14, e15, e16⟩, hm2, hc2, hr2⟩, b2, rfl, hb2⟩ := h2
  have hc3 : e0 = nI k := hc2
  have hw2 : lOut G M2 w' := (hs2 26 0 (by simp [pMd])).trans hw'
  refine s_istore dL_law_867 rfl rfl ?_
  refine s_lv (lv' := [some (.ref b), some (.ref (ad1 0 0)), some (.ref (ad1 12 0)), some (.ref (ad1 26 0)), some (.int (nI i)), some (.int (nI k)), some (.int b2)]) rfl ?_
  refine s_aload_n dL_law_869 rfl ?_
  refine s_callV (As := []) (rest := []) (n := 0) (kd := 12) (ix := 0) (fun l hl => c_X4_thrown G l hl ad1 M2 e0 e1 e2 e3 e4 e5 e6 e7 e8 e9 e10 e11 e12 e13 e14 e15 e16 hm2) gm_thrown rfl (by decide +kernel) hm2.1 rfl rfl ⟨(Nat.le_of_ble_eq_true rfl), (Nat.le_of_ble_eq_true rfl)⟩ ⟨(by show kc + 1 + 0 + 0 ≤ 601024; omega), (by show ks + 6 + 0 + 0 ≤ 7293034; omega)⟩ (Nat.le_of_ble_eq_true rfl) dL_law_870 rfl (fun r3 ad3 M3 h3 => ?_)
  obtain ⟨rfl, rfl, rfl⟩ := h3
  refine s_iload dL_law_873 rfl ?_
  refine s_icmp_eq 880 dL_law_875 (by decide) (fun c875 => ?_) (fun c875 => absurd (hc3) c875)
  refine s_iload dL_law_880 rfl ?_
  refine s_if_ne 897 dL_law_882 (by decide) (fun c882 => ?_) (fun c882 => ?_)
  · refine s_goto 1011 dL_law_897 (by decide) ?_
    refine s_drop 5 ?_
    refine s_drop 6 ?_
    refine s_widen (kc' := kc + 5) (ks' := ks + 100) (by show kc + 1 + 0 + 0 ≤ kc + 5; omega) (by show ks + 6 + 0 + 0 ≤ ks + 100; omega) ?_
    exact kont ad1 M2 α ⟨hA', hc'.keep (fun k i hk => hs2 k i (by simp [pMd]; omega)), ⟨(e0, e1, e2, e3, e4, e5, e6, e7, e8, e9, e10, e11, e12, e13, e14, e15, e16), hm2, hr2⟩, w', hw2⟩
  · refine s_aload_n dL_law_885 rfl ?_
    refine s_iconst (v := 0) dL_law_886 (by decide) ?_
    have hk0 : k = 0 := (nI_eq (a := k) (b := 0) (by omega) (by omega)).mp c882
    refine s_lald (kd := 26) (ix := 0) (n := 1) (f := w') (j := 0) hw2 (rfl) (by decide) (by decide) dL_law_887 ?_
    refine s_iload dL_law_888 rfl ?_
    refine s_i2l dL_law_890 ?_
    refine s_lcmp dL_law_891 ?_
    refine s_if_eq 897 dL_law_892 (by decide) (fun c892 => ?_) (fun c892 => absurd ((lg_cmp_eq _ _).mpr (by rw [hv0 hk0, hb2 hk0])) c892)
    refine s_goto 1011 dL_law_897 (by decide) ?_
    refine s_drop 5 ?_
    refine s_drop 6 ?_
    refine s_widen (kc' := kc + 5) (ks' := ks + 100) (by show kc + 1 + 0 + 0 ≤ kc + 5; omega) (by show ks + 6 + 0 + 0 ≤ ks + 100; omega) ?_
    exact kont ad1 M2 α ⟨hA', hc'.keep (fun k i hk => hs2 k i (by simp [pMd]; omega)), ⟨(e0, e1, e2, e3, e4, e5, e6, e7, e8, e9, e10, e11, e12, e13, e14, e15, e16), hm2, hr2⟩, w', hw2⟩
theorem gl_alike : GoodIn (cLw :: wU) (va_wsS RL 113 yL_alike wuL_alike) := goodSU (by decide +kernel)
theorem gm_alike : GoodIn (cLw :: wU) (wsV RL 115 RX4 yX4_alike wsX4_alike) := goodUP _ [758, 759, 760, 50, 761, 554, 570, 556, 557, 558, 662, 664, 34, 50, 665, 555, 616, 617, 618, 571, 573, 575, 577, 579, 581, 583, 585, 587, 589, 591, 593, 595, 597, 599, 601, 603] (by decide +kernel) (by decide +kernel)
set_option maxHeartbeats 4000000 in
set_option maxRecDepth 100000 in
theorem a_alike (X : sMach) (G : sG) (ad : sAd) (M : sM) (Q : State → Prop) (b L : Nat) (xs : Nat → Int32) (hX : va_X b L xs (mS X) (mS X).heap) (hbl : b < (mS X).heap.size) (hbA : ¬ gA G b) (hL9 : L ≤ 2560) (kc ks : Nat) (hkc : kc + 5 ≤ 601024) (hks : ks + 100 ≤ 7293034) (α : sAl) (hI : lI G ad M α) (i : Nat) (hi : i + 5 ≤ L) (kont : ∀ (ad' : sAd) (M' : sM) (α' : sAl), lI G ad' M' α' → sW X G mL_law Q ad' M' (kc + 5) (ks + 100) (lvL ad' b i) 1011 []) : sW X G mL_law Q ad M kc ks (lvL ad b i) 900 [] := by
  obtain ⟨hA, hc, ⟨ρ, hm, hr⟩, w, hw⟩ := hI
  obtain ⟨κ, h, hC⟩ := id hc
  refine s_aload_n dL_law_900 rfl ?_
  refine s_aload_n dL_law_901 rfl ?_
  refine s_iload dL_law_902 rfl ?_
  refine s_iconst (v := 1) dL_law_904 (by decide) ?_
  refine s_iadd dL_law_905 ?_
  refine s_eqi (y := nI (i + 1)) (nI_add i 1) ?_
  refine s_sld hX hbl hbA hL9 (j := i + 1) rfl (by omega) dL_law_906 ?_
  refine s_aload_n dL_law_907 rfl ?_
  refine s_iload dL_law_908 rfl ?_
  refine s_iconst (v := 2) dL_law_910 (by decide) ?_
  refine s_iadd dL_law_911 ?_
  refine s_eqi (y := nI (i + 2)) (nI_add i 2) ?_
  refine s_sld hX hbl hbA hL9 (j := i + 2) rfl (by omega) dL_law_912 ?_
  refine s_aload_n dL_law_913 rfl ?_
  refine s_callSW (As := [.ref (ad 0 0), .int (xs (i + 1)), .int (xs (i + 2)), .ref (ad 26 0)]) (rest := []) (n := 4) (fun l hl => c_L_alike G l hl ad M α hA hc w hw (xs (i + 1)) (xs (i + 2))) gl_alike rfl (by decide +kernel) rfl ⟨(Nat.le_of_ble_eq_true rfl), (Nat.le_of_ble_eq_true rfl)⟩ ⟨(by show kc + 2 ≤ 601024; omega), (by show ks + 12 ≤ 7293034; omega)⟩ (Nat.le_of_ble_eq_true rfl) dL_law_914 rfl (fun r1 ad1 M1 h1 => ?_)
  obtain ⟨hex, hsx, k, v, α', w', hrel, hA', hc', rfl, hk3, hw', hv0⟩ := h1
  obtain ⟨ea, hrel⟩ := hrel
  obtain rfl := ea.symm
  obtain ⟨d0, d1, d2, d3, d4, d5, d6, d7, d8, d9, d10, d11, d12, d13, d14, d15, d16⟩ := ρ
  have hm1 := hm.ext hex (fun k i h1 h2 => hsx k i (by simp [pLw]; omega))
  have z0 := hex 0 0 _ h.1
  have z12 := hex 12 0 _ hm.1
  have z26 := hex 26 0 _ hw
  refine s_lv (lv' := [some (.ref b), some (.ref (ad1 0 0)), some (.ref (ad1 12 0)), some (.ref (ad1 26 0)), some (.int (nI i)), none, none]) (by rw [z0, z12, z26]) ?_
  refine s_istore dL_law_917 rfl rfl ?_
  refine s_lv (lv' := [some (.ref b), some (.ref (ad1 0 0)), some (.ref (ad1 12 0)), some (.ref (ad1 26 0)), some (.int (nI i)), some (.int (nI k)), none]) rfl ?_
  refine s_aload_n dL_law_919 rfl ?_
  refine s_aload_n dL_law_920 rfl ?_
  refine s_iload dL_law_921 rfl ?_
  refine s_iconst (v := 1) dL_law_923 (by decide) ?_
  refine s_iadd dL_law_924 ?_
  refine s_eqi (y := nI (i + 1)) (nI_add i 1) ?_
  refine s_sld hX hbl hbA hL9 (j := i + 1) rfl (by omega) dL_law_925 ?_
  refine s_aload_n dL_law_926 rfl ?_
  refine s_iload dL_law_927 rfl ?_
  refine s_iconst (v := 2) dL_law_929 (by decide) ?_
  refine s_iadd dL_law_930 ?_
  refine s_eqi (y := nI (i + 2)) (nI_add i 2) ?_
  refine s_sld hX hbl hbA hL9 (j := i + 2) rfl (by omega) dL_law_931 ?_
  refine s_callV (As := [.int (xs (i + 1)), .int (xs (i + 2))]) (rest := []) (n := 2) (kd := 12) (ix := 0) (fun l hl => c_X4_alike G l hl ad1 M1 d0 d1 d2 d3 d4 d5 d6 d7 d8 d9 d10 d11 d12 d13 d14 d15 d16 hm1 α hA hr (xs (i + 1)) (xs (i + 2)) v k hrel) gm_alike rfl (by decide +kernel) hm1.1 rfl rfl ⟨(Nat.le_of_ble_eq_true rfl), (Nat.le_of_ble_eq_true rfl)⟩ ⟨(by show kc + 2 + 0 ≤ 601024; omega), (by show ks + 12 + 0 ≤ 7293034; omega)⟩ (Nat.le_of_ble_eq_true rfl) dL_law_932 rfl (fun r2 ad2 M2 h2 => ?_)
  obtain ⟨rfl, hs2, ⟨⟨e0, e1, e2, e3, e4, e5, e6, e7, e8, e9, e10, e11, e12, e13, e14, e15, e16⟩, hm2, hc2, hr2⟩, b2, rfl, hb2⟩ := h2
  have hc3 : e0 = nI k := hc2
  have hw2 : lOut G M2 w' := (hs2 26 0 (by simp [pMd])).trans hw'
  refine s_istore dL_law_935 rfl rfl ?_
  refine s_lv (lv' := [some (.ref b), some (.ref (ad1 0 0)), some (.ref (ad1 12 0)), some (.ref (ad1 26 0)), some (.int (nI i)), some (.int (nI k)), some (.int b2)]) rfl ?_
  refine s_aload_n dL_law_937 rfl ?_
  refine s_callV (As := []) (rest := []) (n := 0) (kd := 12) (ix := 0) (fun l hl => c_X4_thrown G l hl ad1 M2 e0 e1 e2 e3 e4 e5 e6 e7 e8 e9 e10 e11 e12 e13 e14 e15 e16 hm2) gm_thrown rfl (by decide +kernel) hm2.1 rfl rfl ⟨(Nat.le_of_ble_eq_true rfl), (Nat.le_of_ble_eq_true rfl)⟩ ⟨(by show kc + 2 + 0 + 0 ≤ 601024; omega), (by show ks + 12 + 0 + 0 ≤ 7293034; omega)⟩ (Nat.le_of_ble_eq_true rfl) dL_law_938 rfl (fun r3 ad3 M3 h3 => ?_)
  obtain ⟨rfl, rfl, rfl⟩ := h3
  refine s_iload dL_law_941 rfl ?_
  refine s_icmp_eq 948 dL_law_943 (by decide) (fun c943 => ?_) (fun c943 => absurd (hc3) c943)
  refine s_iload dL_law_948 rfl ?_
  refine s_if_ne 972 dL_law_950 (by decide) (fun c950 => ?_) (fun c950 => ?_)
  · refine s_goto 1011 dL_law_972 (by decide) ?_
    refine s_drop 5 ?_
    refine s_drop 6 ?_
    refine s_widen (kc' := kc + 5) (ks' := ks + 100) (by show kc + 2 + 0 + 0 ≤ kc + 5; omega) (by show ks + 12 + 0 + 0 ≤ ks + 100; omega) ?_
    exact kont ad1 M2 α ⟨hA', hc'.keep (fun k i hk => hs2 k i (by simp [pMd]; omega)), ⟨(e0, e1, e2, e3, e4, e5, e6, e7, e8, e9, e10, e11, e12, e13, e14, e15, e16), hm2, hr2⟩, w', hw2⟩
  · refine s_aload_n dL_law_953 rfl ?_
    refine s_iconst (v := 0) dL_law_954 (by decide) ?_
    have hk0 : k = 0 := (nI_eq (a := k) (b := 0) (by omega) (by omega)).mp c950
    refine s_lald (kd := 26) (ix := 0) (n := 1) (f := w') (j := 0) hw2 (rfl) (by decide) (by decide) dL_law_955 ?_
    refine s_iload dL_law_956 rfl ?_
    refine s_if_eq 965 dL_law_958 (by decide) (fun c958 => ?_) (fun c958 => ?_)
    · refine s_lconst (v := 0) dL_law_965 (by decide) ?_
      refine s_lcmp dL_law_966 ?_
      refine s_if_eq 972 dL_law_967 (by decide) (fun c967 => ?_) (fun c967 => absurd ((lg_cmp_eq _ _).mpr (by rw [hv0 hk0, ← hb2 hk0, c958]; rfl)) c967)
      refine s_goto 1011 dL_law_972 (by decide) ?_
      refine s_drop 5 ?_
      refine s_drop 6 ?_
      refine s_widen (kc' := kc + 5) (ks' := ks + 100) (by show kc + 2 + 0 + 0 ≤ kc + 5; omega) (by show ks + 12 + 0 + 0 ≤ ks + 100; omega) ?_
      exact kont ad1 M2 α ⟨hA', hc'.keep (fun k i hk => hs2 k i (by simp [pMd]; omega)), ⟨(e0, e1, e2, e3, e4, e5, e6, e7, e8, e9, e10, e11, e12, e13, e14, e15, e16), hm2, hr2⟩, w', hw2⟩
    · refine s_lconst (v := 1) dL_law_961 (by decide) ?_
      refine s_goto 966 dL_law_962 (by decide) ?_
      refine s_lcmp dL_law_966 ?_
      refine s_if_eq 972 dL_law_967 (by decide) (fun c967 => ?_) (fun c967 => absurd ((lg_cmp_eq _ _).mpr (by rw [hv0 hk0]; rcases hrel.v hk0 with q | q; exact absurd ((hb2 hk0).trans q) c958; rw [q]; rfl)) c967)
      refine s_goto 1011 dL_law_972 (by decide) ?_
      refine s_drop 5 ?_
      refine s_drop 6 ?_
      refine s_widen (kc' := kc + 5) (ks' := ks + 100) (by show kc + 2 + 0 + 0 ≤ kc + 5; omega) (by show ks + 12 + 0 + 0 ≤ ks + 100; omega) ?_
      exact kont ad1 M2 α ⟨hA', hc'.keep (fun k i hk => hs2 k i (by simp [pMd]; omega)), ⟨(e0, e1, e2, e3, e4, e5, e6, e7, e8, e9, e10, e11, e12, e13, e14, e15, e16), hm2, hr2⟩, w', hw2⟩
theorem gx_count : GoodIn (cLw :: wU) (wsV RL 116 RX3 yX3_count wuX3_count) := goodVU (by decide +kernel)
theorem gm_count : GoodIn (cLw :: wU) (wsV RL 119 RX4 yX4_count wsX4_count) := goodUP _ [762, 763, 764, 50, 765, 554, 555, 562, 571, 573, 575, 577, 579, 581, 583, 585, 587, 589, 591, 593, 595, 597, 599, 601, 603] (by decide +kernel) (by decide +kernel)
theorem gx_clear : GoodIn (cLw :: wU) (wsV RL 120 RX3 yX3_clear wuX3_clear) := goodVU (by decide +kernel)
theorem gm_clear : GoodIn (cLw :: wU) (wsV RL 123 RX4 yX4_clear wsX4_clear) := goodUP _ [766, 767, 768, 50, 769, 554, 555, 562, 571, 573, 575, 577, 579, 581, 583, 585, 587, 589, 591, 593, 595, 597, 599, 601, 603] (by decide +kernel) (by decide +kernel)
set_option maxHeartbeats 4000000 in
set_option maxRecDepth 100000 in
theorem a_count (X : sMach) (G : sG) (ad : sAd) (M : sM) (Q : State → Prop) (b L : Nat) (xs : Nat → Int32) (hX : va_X b L xs (mS X) (mS X).heap) (hbl : b < (mS X).heap.size) (hbA : ¬ gA G b) (hL9 : L ≤ 2560) (kc ks : Nat) (hkc : kc + 5 ≤ 601024) (hks : ks + 100 ≤ 7293034) (α : sAl) (hI : lI G ad M α) (i : Nat) (hi : i + 5 ≤ L) (kont : ∀ (ad' : sAd) (M' : sM) (α' : sAl), lI G ad' M' α' → sW X G mL_law Q ad' M' (kc + 5) (ks + 100) (lvL ad' b i) 1011 []) : sW X G mL_law Q ad M kc ks (lvL ad b i) 975 [] := by
  obtain ⟨hA, hc, ⟨ρ, hm, hr⟩, w, hw⟩ := hI
  obtain ⟨κ, h, hC⟩ := id hc
  obtain ⟨d0, d1, d2, d3, d4, d5, d6, d7, d8, d9, d10, d11, d12, d13, d14, d15, d16⟩ := ρ
  refine s_aload_n dL_law_975 rfl ?_
  refine s_aload_n dL_law_976 rfl ?_
  refine s_iload dL_law_977 rfl ?_
  refine s_iconst (v := 1) dL_law_979 (by decide) ?_
  refine s_iadd dL_law_980 ?_
  refine s_eqi (y := nI (i + 1)) (nI_add i 1) ?_
  refine s_sld hX hbl hbA hL9 (j := i + 1) rfl (by omega) dL_law_981 ?_
  refine s_callV (As := [.int (xs (i + 1))]) (rest := []) (n := 1) (kd := 0) (ix := 0) (fun l hl => c_X3_count G l hl ad M α hA κ h hC (xs (i + 1))) gx_count rfl (by decide +kernel) h.1 rfl rfl ⟨(Nat.le_of_ble_eq_true rfl), (Nat.le_of_ble_eq_true rfl)⟩ ⟨(by show kc + 0 ≤ 601024; omega), (by show ks + 0 ≤ 7293034; omega)⟩ (Nat.le_of_ble_eq_true rfl) dL_law_982 rfl (fun r1 ad1 M1 h1 => ?_)
  obtain ⟨rfl, rfl, rfl⟩ := h1
  refine s_st (st' := [.int (cnV α (xs (i + 1)))]) rfl ?_
  refine s_aload_n dL_law_985 rfl ?_
  refine s_aload_n dL_law_986 rfl ?_
  refine s_iload dL_law_987 rfl ?_
  refine s_iconst (v := 1) dL_law_989 (by decide) ?_
  refine s_iadd dL_law_990 ?_
  refine s_eqi (y := nI (i + 1)) (nI_add i 1) ?_
  refine s_sld hX hbl hbA hL9 (j := i + 1) rfl (by omega) dL_law_991 ?_
  refine s_callV (As := [.int (xs (i + 1))]) (rest := [.int (cnV α (xs (i + 1)))]) (n := 1) (kd := 12) (ix := 0) (fun l hl => c_X4_count G l hl ad M d0 d1 d2 d3 d4 d5 d6 d7 d8 d9 d10 d11 d12 d13 d14 d15 d16 hm α hA hr (xs (i + 1))) gm_count rfl (by decide +kernel) hm.1 rfl rfl ⟨(Nat.le_of_ble_eq_true rfl), (Nat.le_of_ble_eq_true rfl)⟩ ⟨(by show kc + 0 + 0 ≤ 601024; omega), (by show ks + 0 + 0 ≤ 7293034; omega)⟩ (Nat.le_of_ble_eq_true rfl) dL_law_992 rfl (fun r2 ad2 M2 h2 => ?_)
  obtain ⟨rfl, hs2, ⟨⟨e0, e1, e2, e3, e4, e5, e6, e7, e8, e9, e10, e11, e12, e13, e14, e15, e16⟩, hm2, hc2, hr2⟩, b2, rfl, hb2⟩ := h2
  refine s_icmp_eq 1011 dL_law_995 (by decide) (fun c995 => ?_) (fun c995 => absurd ((hb2 rfl).symm) c995)
  refine s_widen (kc' := kc + 5) (ks' := ks + 100) (by show kc + 0 + 0 ≤ kc + 5; omega) (by show ks + 0 + 0 ≤ ks + 100; omega) ?_
  exact kont ad M2 α ⟨hA, hc.keep (fun k i hk => hs2 k i (by simp [pMd]; omega)), ⟨(e0, e1, e2, e3, e4, e5, e6, e7, e8, e9, e10, e11, e12, e13, e14, e15, e16), hm2, hr2⟩, w, (hs2 26 0 (by simp [pMd])).trans hw⟩
set_option maxHeartbeats 4000000 in
set_option maxRecDepth 100000 in
theorem a_clear (X : sMach) (G : sG) (ad : sAd) (M : sM) (Q : State → Prop) (b L : Nat) (xs : Nat → Int32) (hX : va_X b L xs (mS X) (mS X).heap) (hbl : b < (mS X).heap.size) (hbA : ¬ gA G b) (hL9 : L ≤ 2560) (kc ks : Nat) (hkc : kc + 5 ≤ 601024) (hks : ks + 100 ≤ 7293034) (α : sAl) (hI : lI G ad M α) (i : Nat) (hi : i + 5 ≤ L) (kont : ∀ (ad' : sAd) (M' : sM) (α' : sAl), lI G ad' M' α' → sW X G mL_law Q ad' M' (kc + 5) (ks + 100) (lvL ad' b i) 1011 []) : sW X G mL_law Q ad M kc ks (lvL ad b i) 1000 [] := by
  obtain ⟨hA, hc, ⟨ρ, hm, hr⟩, w, hw⟩ := hI
  obtain ⟨κ, h, hC⟩ := id hc
  obtain ⟨d0, d1, d2, d3, d4, d5, d6, d7, d8, d9, d10, d11, d12, d13, d14, d15, d16⟩ := ρ
  refine s_aload_n dL_law_1000 rfl ?_
  refine s_callV (As := []) (rest := []) (n := 0) (kd := 0) (ix := 0) (fun l hl => c_X3_clear G l hl ad M α hA κ h hC) gx_clear rfl (by decide +kernel) h.1 rfl rfl ⟨(Nat.le_of_ble_eq_true rfl), (Nat.le_of_ble_eq_true rfl)⟩ ⟨(by show kc + 0 ≤ 601024; omega), (by show ks + 0 ≤ 7293034; omega)⟩ (Nat.le_of_ble_eq_true rfl) dL_law_1001 rfl (fun r1 ad1 M1 h1 => ?_)
  obtain ⟨rfl, rfl, hs1, hc1⟩ := h1
  have hm1 := hm.ext (ad' := ad) (fun _ _ _ _ => rfl) (fun k i h1 h2 => hs1 k i (by simp [pCk]; omega))
  refine s_aload_n dL_law_1004 rfl ?_
  refine s_callV (As := []) (rest := []) (n := 0) (kd := 12) (ix := 0) (fun l hl => c_X4_clear G l hl ad M1 d0 d1 d2 d3 d4 d5 d6 d7 d8 d9 d10 d11 d12 d13 d14 d15 d16 hm1 α hA hr) gm_clear rfl (by decide +kernel) hm1.1 rfl rfl ⟨(Nat.le_of_ble_eq_true rfl), (Nat.le_of_ble_eq_true rfl)⟩ ⟨(by show kc + 0 + 0 ≤ 601024; omega), (by show ks + 0 + 0 ≤ 7293034; omega)⟩ (Nat.le_of_ble_eq_true rfl) dL_law_1005 rfl (fun r2 ad2 M2 h2 => ?_)
  obtain ⟨rfl, hs2, ⟨⟨e0, e1, e2, e3, e4, e5, e6, e7, e8, e9, e10, e11, e12, e13, e14, e15, e16⟩, hm2, hc2, hr2⟩, rfl⟩ := h2
  refine s_goto 1011 dL_law_1008 (by decide) ?_
  refine s_widen (kc' := kc + 5) (ks' := ks + 100) (by show kc + 0 + 0 ≤ kc + 5; omega) (by show ks + 0 + 0 ≤ ks + 100; omega) ?_
  exact kont ad M2 (clrA α) ⟨hA.clr, hc1.keep (fun k i hk => hs2 k i (by simp [pMd]; omega)), ⟨(e0, e1, e2, e3, e4, e5, e6, e7, e8, e9, e10, e11, e12, e13, e14, e15, e16), hm2, hr2⟩, w, (hs2 26 0 (by simp [pMd])).trans ((hs1 26 0 (by simp [pCk])).trans hw)⟩
