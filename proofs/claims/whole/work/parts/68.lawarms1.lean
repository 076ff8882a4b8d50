theorem gm_thrown : GoodIn (cLw :: wU) (wsV RL 71 RX4 yX4_thrown wsX4_thrown) := goodUP _ [607, 608, 609, 50, 610, 554, 571, 573, 575, 577, 579, 581, 583, 585, 587, 589, 591, 593, 595, 597, 599, 601, 603] (by decide +kernel) (by decide +kernel)
theorem gl_leaf : GoodIn (cLw :: wU) (va_wsS RL 65 yL_leaf wuL_leaf) := goodSU (by decide +kernel)
theorem gm_leaf : GoodIn (cLw :: wU) (wsV RL 70 RX4 yX4_leaf wsX4_leaf) := goodUP _ [611, 612, 613, 50, 614, 615, 555, 554, 616, 617, 50, 618, 619, 621, 28, 622, 556, 557, 558, 559, 623, 625, 29, 626, 567, 561, 569, 560, 627, 628, 629, 630, 631, 632, 633, 634, 635, 636, 638, 30, 639, 640, 642, 31, 643, 644, 646, 32, 647, 648, 650, 33, 651, 652, 653, 571, 573, 575, 577, 579, 581, 583, 585, 587, 589, 591, 593, 595, 597, 599, 601, 603] (by decide +kernel) (by decide +kernel)
set_option maxHeartbeats 4000000 in
set_option maxRecDepth 100000 in
theorem a_leaf (X : sMach) (G : sG) (ad : sAd) (M : sM) (Q : State → Prop) (b L : Nat) (xs : Nat → Int32) (hX : va_X b L xs (mS X) (mS X).heap) (hbl : b < (mS X).heap.size) (hbA : ¬ gA G b) (hL9 : L ≤ 2560) (kc ks : Nat) (hkc : kc + 5 ≤ 601024) (hks : ks + 100 ≤ 7293034) (α : sAl) (hI : lI G ad M α) (i : Nat) (hi : i + 5 ≤ L) (kont : ∀ (ad' : sAd) (M' : sM) (α' : sAl), lI G ad' M' α' → sW X G mL_law Q ad' M' (kc + 5) (ks + 100) (lvL ad' b i) 1011 []) : sW X G mL_law Q ad M kc ks (lvL ad b i) 112 [] := by
  obtain ⟨hA, hc, ⟨ρ, hm, hr⟩, w, hw⟩ := hI
  obtain ⟨κ, h, hC⟩ := id hc
  refine s_aload_n dL_law_112 rfl ?_
  refine s_aload_n dL_law_113 rfl ?_
  refine s_iload dL_law_114 rfl ?_
  refine s_iconst (v := 1) dL_law_116 (by decide) ?_
  refine s_iadd dL_law_117 ?_
  refine s_eqi (y := nI (i + 1)) (nI_add i 1) ?_
  refine s_sld hX hbl hbA hL9 (j := i + 1) rfl (by omega) dL_law_118 ?_
  refine s_aload_n dL_law_119 rfl ?_
  refine s_callSW (As := [.ref (ad 0 0), .int (xs (i + 1)), .ref (ad 26 0)]) (rest := []) (n := 3) (fun l hl => c_L_leaf G l hl ad M α hA hc w hw (xs (i + 1))) gl_leaf rfl (by decide +kernel) rfl ⟨(Nat.le_of_ble_eq_true rfl), (Nat.le_of_ble_eq_true rfl)⟩ ⟨(by show kc + 4 ≤ 601024; omega), (by show ks + 91 ≤ 7293034; omega)⟩ (Nat.le_of_ble_eq_true rfl) dL_law_120 rfl (fun r1 ad1 M1 h1 => ?_)
  obtain ⟨hex, hsx, k, v, α', w', hrel, hA', hc', rfl, hk3, hw', hv0⟩ := h1
  obtain ⟨d0, d1, d2, d3, d4, d5, d6, d7, d8, d9, d10, d11, d12, d13, d14, d15, d16⟩ := ρ
  have hm1 := hm.ext hex (fun k i h1 h2 => hsx k i (by simp [pLw]; omega))
  have z0 := hex 0 0 _ h.1
  have z12 := hex 12 0 _ hm.1
  have z26 := hex 26 0 _ hw
  refine s_lv (lv' := [some (.ref b), some (.ref (ad1 0 0)), some (.ref (ad1 12 0)), some (.ref (ad1 26 0)), some (.int (nI i)), none, none]) (by rw [z0, z12, z26]) ?_
  refine s_istore dL_law_123 rfl rfl ?_
  refine s_lv (lv' := [some (.ref b), some (.ref (ad1 0 0)), some (.ref (ad1 12 0)), some (.ref (ad1 26 0)), some (.int (nI i)), some (.int (nI k)), none]) rfl ?_
  refine s_aload_n dL_law_125 rfl ?_
  refine s_aload_n dL_law_126 rfl ?_
  refine s_iload dL_law_127 rfl ?_
  refine s_iconst (v := 1) dL_law_129 (by decide) ?_
  refine s_iadd dL_law_130 ?_
  refine s_eqi (y := nI (i + 1)) (nI_add i 1) ?_
  refine s_sld hX hbl hbA hL9 (j := i + 1) rfl (by omega) dL_law_131 ?_
  refine s_callV (As := [.int (xs (i + 1))]) (rest := []) (n := 1) (kd := 12) (ix := 0) (fun l hl => c_X4_leaf G l hl ad1 M1 d0 d1 d2 d3 d4 d5 d6 d7 d8 d9 d10 d11 d12 d13 d14 d15 d16 hm1 α hA hr (xs (i + 1)) v k α' hrel) gm_leaf rfl (by decide +kernel) hm1.1 rfl rfl ⟨(Nat.le_of_ble_eq_true rfl), (Nat.le_of_ble_eq_true rfl)⟩ ⟨(by show kc + 4 + 0 ≤ 601024; omega), (by show ks + 91 + 0 ≤ 7293034; omega)⟩ (Nat.le_of_ble_eq_true rfl) dL_law_132 rfl (fun r2 ad2 M2 h2 => ?_)
  obtain ⟨rfl, hs2, ⟨⟨e0, e1, e2, e3, e4, e5, e6, e7, e8, e9, e10, e11, e12, e13, e14, e15, e16⟩, hm2, hc2, hr2⟩, b2, rfl, hb2⟩ := h2
  have hc3 : e0 = nI k := hc2
  have hw2 : lOut G M2 w' := (hs2 26 0 (by simp [pMd])).trans hw'
  refine s_istore dL_law_135 rfl rfl ?_
  refine s_lv (lv' := [some (.ref b), some (.ref (ad1 0 0)), some (.ref (ad1 12 0)), some (.ref (ad1 26 0)), some (.int (nI i)), some (.int (nI k)), some (.int b2)]) rfl ?_
  refine s_aload_n dL_law_137 rfl ?_
  refine s_callV (As := []) (rest := []) (n := 0) (kd := 12) (ix := 0) (fun l hl => c_X4_thrown G l hl ad1 M2 e0 e1 e2 e3 e4 e5 e6 e7 e8 e9 e10 e11 e12 e13 e14 e15 e16 hm2) gm_thrown rfl (by decide +kernel) hm2.1 rfl rfl ⟨(Nat.le_of_ble_eq_true rfl), (Nat.le_of_ble_eq_true rfl)⟩ ⟨(by show kc + 4 + 0 + 0 ≤ 601024; omega), (by show ks + 91 + 0 + 0 ≤ 7293034; omega)⟩ (Nat.le_of_ble_eq_true rfl) dL_law_138 rfl (fun r3 ad3 M3 h3 => ?_)
  obtain ⟨rfl, rfl, rfl⟩ := h3
  refine s_iload dL_law_141 rfl ?_
  refine s_icmp_eq 148 dL_law_143 (by decide) (fun c143 => ?_) (fun c143 => absurd (hc3) c143)
  refine s_iload dL_law_148 rfl ?_
  refine s_if_ne 165 dL_law_150 (by decide) (fun c150 => ?_) (fun c150 => ?_)
  · refine s_goto 1011 dL_law_165 (by decide) ?_
    refine s_drop 5 ?_
    refine s_drop 6 ?_
    refine s_widen (kc' := kc + 5) (ks' := ks + 100) (by show kc + 4 + 0 + 0 ≤ kc + 5; omega) (by show ks + 91 + 0 + 0 ≤ ks + 100; omega) ?_
    exact kont ad1 M2 α' ⟨hA', hc'.keep (fun k i hk => hs2 k i (by simp [pMd]; omega)), ⟨(e0, e1, e2, e3, e4, e5, e6, e7, e8, e9, e10, e11, e12, e13, e14, e15, e16), hm2, hr2⟩, w', hw2⟩
  · refine s_aload_n dL_law_153 rfl ?_
    refine s_iconst (v := 0) dL_law_154 (by decide) ?_
    have hk0 : k = 0 := (nI_eq (a := k) (b := 0) (by omega) (by omega)).mp c150
    refine s_lald (kd := 26) (ix := 0) (n := 1) (f := w') (j := 0) hw2 (rfl) (by decide) (by decide) dL_law_155 ?_
    refine s_iload dL_law_156 rfl ?_
    refine s_i2l dL_law_158 ?_
    refine s_lcmp dL_law_159 ?_
    refine s_if_eq 165 dL_law_160 (by decide) (fun c160 => ?_) (fun c160 => absurd ((lg_cmp_eq _ _).mpr (by rw [hv0 hk0, hb2 hk0])) c160)
    refine s_goto 1011 dL_law_165 (by decide) ?_
    refine s_drop 5 ?_
    refine s_drop 6 ?_
    refine s_widen (kc' := kc + 5) (ks' := ks + 100) (by show kc + 4 + 0 + 0 ≤ kc + 5; omega) (by show ks + 91 + 0 + 0 ≤ ks + 100; omega) ?_
    exact kont ad1 M2 α' ⟨hA', hc'.keep (fun k i hk => hs2 k i (by simp [pMd]; omega)), ⟨(e0, e1, e2, e3, e4, e5, e6, e7, e8, e9, e10, e11, e12, e13, e14, e15, e16), hm2, hr2⟩, w', hw2⟩
theorem gl_number : GoodIn (cLw :: wU) (va_wsS RL 75 yL_number wuL_number) := goodSU (by decide +kernel)
theorem gm_number : GoodIn (cLw :: wU) (wsV RL 77 RX4 yX4_number wsX4_number) := goodUP _ [654, 655, 656, 50, 657, 652, 653, 555, 554, 616, 617, 50, 618, 619, 621, 28, 622, 556, 557, 558, 559, 623, 625, 29, 626, 567, 561, 569, 560, 627, 628, 629, 630, 631, 632, 633, 634, 635, 636, 638, 30, 639, 640, 642, 31, 643, 644, 646, 32, 647, 648, 650, 33, 651, 571, 573, 575, 577, 579, 581, 583, 585, 587, 589, 591, 593, 595, 597, 599, 601, 603] (by decide +kernel) (by decide +kernel)
set_option maxHeartbeats 4000000 in
set_option maxRecDepth 100000 in
theorem a_number (X : sMach) (G : sG) (ad : sAd) (M : sM) (Q : State → Prop) (b L : Nat) (xs : Nat → Int32) (hX : va_X b L xs (mS X) (mS X).heap) (hbl : b < (mS X).heap.size) (hbA : ¬ gA G b) (hL9 : L ≤ 2560) (kc ks : Nat) (hkc : kc + 5 ≤ 601024) (hks : ks + 100 ≤ 7293034) (α : sAl) (hI : lI G ad M α) (i : Nat) (hi : i + 5 ≤ L) (kont : ∀ (ad' : sAd) (M' : sM) (α' : sAl), lI G ad' M' α' → sW X G mL_law Q ad' M' (kc + 5) (ks + 100) (lvL ad' b i) 1011 []) : sW X G mL_law Q ad M kc ks (lvL ad b i) 168 [] := by
  obtain ⟨hA, hc, ⟨ρ, hm, hr⟩, w, hw⟩ := hI
  obtain ⟨κ, h, hC⟩ := id hc
  refine s_aload_n dL_law_168 rfl ?_
  refine s_aload_n dL_law_169 rfl ?_
  refine s_iload dL_law_170 rfl ?_
  refine s_iconst (v := 1) dL_law_172 (by decide) ?_
  refine s_iadd dL_law_173 ?_
  refine s_eqi (y := nI (i + 1)) (nI_add i 1) ?_
  refine s_sld hX hbl hbA hL9 (j := i + 1) rfl (by omega) dL_law_174 ?_
  refine s_aload_n dL_law_175 rfl ?_
  refine s_callSW (As := [.ref (ad 0 0), .int (xs (i + 1)), .ref (ad 26 0)]) (rest := []) (n := 3) (fun l hl => c_L_number G l hl ad M α hA hc w hw (xs (i + 1))) gl_number rfl (by decide +kernel) rfl ⟨(Nat.le_of_ble_eq_true rfl), (Nat.le_of_ble_eq_true rfl)⟩ ⟨(by show kc + 4 ≤ 601024; omega), (by show ks + 91 ≤ 7293034; omega)⟩ (Nat.le_of_ble_eq_true rfl) dL_law_176 rfl (fun r1 ad1 M1 h1 => ?_)
  obtain ⟨hex, hsx, k, v, α', w', hrel, hA', hc', rfl, hk3, hw', hv0⟩ := h1
  obtain ⟨d0, d1, d2, d3, d4, d5, d6, d7, d8, d9, d10, d11, d12, d13, d14, d15, d16⟩ := ρ
  have hm1 := hm.ext hex (fun k i h1 h2 => hsx k i (by simp [pLw]; omega))
  have z0 := hex 0 0 _ h.1
  have z12 := hex 12 0 _ hm.1
  have z26 := hex 26 0 _ hw
  refine s_lv (lv' := [some (.ref b), some (.ref (ad1 0 0)), some (.ref (ad1 12 0)), some (.ref (ad1 26 0)), some (.int (nI i)), none, none]) (by rw [z0, z12, z26]) ?_
  refine s_istore dL_law_179 rfl rfl ?_
  refine s_lv (lv' := [some (.ref b), some (.ref (ad1 0 0)), some (.ref (ad1 12 0)), some (.ref (ad1 26 0)), some (.int (nI i)), some (.int (nI k)), none]) rfl ?_
  refine s_aload_n dL_law_181 rfl ?_
  refine s_aload_n dL_law_182 rfl ?_
  refine s_iload dL_law_183 rfl ?_
  refine s_iconst (v := 1) dL_law_185 (by decide) ?_
  refine s_iadd dL_law_186 ?_
  refine s_eqi (y := nI (i + 1)) (nI_add i 1) ?_
  refine s_sld hX hbl hbA hL9 (j := i + 1) rfl (by omega) dL_law_187 ?_
  refine s_callV (As := [.int (xs (i + 1))]) (rest := []) (n := 1) (kd := 12) (ix := 0) (fun l hl => c_X4_number G l hl ad1 M1 d0 d1 d2 d3 d4 d5 d6 d7 d8 d9 d10 d11 d12 d13 d14 d15 d16 hm1 α hA hr (xs (i + 1)) v k α' hrel) gm_number rfl (by decide +kernel) hm1.1 rfl rfl ⟨(Nat.le_of_ble_eq_true rfl), (Nat.le_of_ble_eq_true rfl)⟩ ⟨(by show kc + 4 + 0 ≤ 601024; omega), (by show ks + 91 + 0 ≤ 7293034; omega)⟩ (Nat.le_of_ble_eq_true rfl) dL_law_188 rfl (fun r2 ad2 M2 h2 => ?_)
  obtain ⟨rfl, hs2, ⟨⟨e0, e1, e2, e3, e4, e5, e6, e7, e8, e9, e10, e11, e12, e13, e14, e15, e16⟩, hm2, hc2, hr2⟩, b2, rfl, hb2⟩ := h2
  have hc3 : e0 = nI k := hc2
  have hw2 : lOut G M2 w' := (hs2 26 0 (by simp [pMd])).trans hw'
  refine s_istore dL_law_191 rfl rfl ?_
  refine s_lv (lv' := [some (.ref b), some (.ref (ad1 0 0)), some (.ref (ad1 12 0)), some (.ref (ad1 26 0)), some (.int (nI i)), some (.int (nI k)), some (.int b2)]) rfl ?_
  refine s_aload_n dL_law_193 rfl ?_
  refine s_callV (As := []) (rest := []) (n := 0) (kd := 12) (ix := 0) (fun l hl => c_X4_thrown G l hl ad1 M2 e0 e1 e2 e3 e4 e5 e6 e7 e8 e9 e10 e11 e12 e13 e14 e15 e16 hm2) gm_thrown rfl (by decide +kernel) hm2.1 rfl rfl ⟨(Nat.le_of_ble_eq_true rfl), (Nat.le_of_ble_eq_true rfl)⟩ ⟨(by show kc + 4 + 0 + 0 ≤ 601024; omega), (by show ks + 91 + 0 + 0 ≤ 7293034; omega)⟩ (Nat.le_of_ble_eq_true rfl) dL_law_194 rfl (fun r3 ad3 M3 h3 => ?_)
  obtain ⟨rfl, rfl, rfl⟩ := h3
  refine s_iload dL_law_197 rfl ?_
  refine s_icmp_eq 204 dL_law_199 (by decide) (fun c199 => ?_) (fun c199 => absurd (hc3) c199)
  refine s_iload dL_law_204 rfl ?_
  refine s_if_ne 221 dL_law_206 (by decide) (fun c206 => ?_) (fun c206 => ?_)
  · refine s_goto 1011 dL_law_221 (by decide) ?_
    refine s_drop 5 ?_
    refine s_drop 6 ?_
    refine s_widen (kc' := kc + 5) (ks' := ks + 100) (by show kc + 4 + 0 + 0 ≤ kc + 5; omega) (by show ks + 91 + 0 + 0 ≤ ks + 100; omega) ?_
    exact kont ad1 M2 α' ⟨hA', hc'.keep (fun k i hk => hs2 k i (by simp [pMd]; omega)), ⟨(e0, e1, e2, e3, e4, e5, e6, e7, e8, e9, e10, e11, e12, e13, e14, e15, e16), hm2, hr2⟩, w', hw2⟩
  · refine s_aload_n dL_law_209 rfl ?_
    refine s_iconst (v := 0) dL_law_210 (by decide) ?_
    have hk0 : k = 0 := (nI_eq (a := k) (b := 0) (by omega) (by omega)).mp c206
    refine s_lald (kd := 26) (ix := 0) (n := 1) (f := w') (j := 0) hw2 (rfl) (by decide) (by decide) dL_law_211 ?_
    refine s_iload dL_law_212 rfl ?_
    refine s_i2l dL_law_214 ?_
    refine s_lcmp dL_law_215 ?_
    refine s_if_eq 221 dL_law_216 (by decide) (fun c216 => ?_) (fun c216 => absurd ((lg_cmp_eq _ _).mpr (by rw [hv0 hk0, hb2 hk0])) c216)
    refine s_goto 1011 dL_law_221 (by decide) ?_
    refine s_drop 5 ?_
    refine s_drop 6 ?_
    refine s_widen (kc' := kc + 5) (ks' := ks + 100) (by show kc + 4 + 0 + 0 ≤ kc + 5; omega) (by show ks + 91 + 0 + 0 ≤ ks + 100; omega) ?_
    exact kont ad1 M2 α' ⟨hA', hc'.keep (fun k i hk => hs2 k i (by simp [pMd]; omega)), ⟨(e0, e1, e2, e3, e4, e5, e6, e7, e8, e9, e10, e11, e12, e13, e14, e15, e16), hm2, hr2⟩, w', hw2⟩
theorem gl_node : GoodIn (cLw :: wU) (va_wsS RL 78 yL_node wuL_node) := goodSU (by decide +kernel)
theorem gm_node : GoodIn (cLw :: wU) (wsV RL 81 RX4 yX4_node wsX4_node) := goodUP _ [658, 659, 660, 50, 661, 559, 670, 555, 554, 662, 664, 34, 50, 665, 616, 617, 618, 666, 668, 35, 669, 619, 621, 28, 622, 556, 557, 558, 623, 625, 29, 626, 567, 561, 569, 560, 627, 628, 629, 630, 631, 632, 633, 634, 635, 636, 638, 30, 639, 640, 642, 31, 643, 644, 646, 32, 647, 648, 650, 33, 651, 652, 653, 571, 573, 575, 577, 579, 581, 583, 585, 587, 589, 591, 593, 595, 597, 599, 601, 603] (by decide +kernel) (by decide +kernel)
set_option maxHeartbeats 4000000 in
set_option maxRecDepth 100000 in
theorem a_node (X : sMach) (G : sG) (ad : sAd) (M : sM) (Q : State → Prop) (b L : Nat) (xs : Nat → Int32) (hX : va_X b L xs (mS X) (mS X).heap) (hbl : b < (mS X).heap.size) (hbA : ¬ gA G b) (hL9 : L ≤ 2560) (kc ks : Nat) (hkc : kc + 5 ≤ 601024) (hks : ks + 100 ≤ 7293034) (α : sAl) (hI : lI G ad M α) (i : Nat) (hi : i + 5 ≤ L) (kont : ∀ (ad' : sAd) (M' : sM) (α' : sAl), lI G ad' M' α' → sW X G mL_law Q ad' M' (kc + 5) (ks + 100) (lvL ad' b i) 1011 []) : sW X G mL_law Q ad M kc ks (lvL ad b i) 224 [] := by
  obtain ⟨hA, hc, ⟨ρ, hm, hr⟩, w, hw⟩ := hI
  obtain ⟨κ, h, hC⟩ := id hc
  refine s_aload_n dL_law_224 rfl ?_
  refine s_aload_n dL_law_225 rfl ?_
  refine s_iload dL_law_226 rfl ?_
  refine s_iconst (v := 1) dL_law_228 (by decide) ?_
  refine s_iadd dL_law_229 ?_
  refine s_eqi (y := nI (i + 1)) (nI_add i 1) ?_
  refine s_sld hX hbl hbA hL9 (j := i + 1) rfl (by omega) dL_law_230 ?_
  refine s_aload_n dL_law_231 rfl ?_
  refine s_iload dL_law_232 rfl ?_
  refine s_iconst (v := 2) dL_law_234 (by decide) ?_
  refine s_iadd dL_law_235 ?_
  refine s_eqi (y := nI (i + 2)) (nI_add i 2) ?_
  refine s_sld hX hbl hbA hL9 (j := i + 2) rfl (by omega) dL_law_236 ?_
  refine s_aload_n dL_law_237 rfl ?_
  refine s_iload dL_law_238 rfl ?_
  refine s_iconst (v := 3) dL_law_240 (by decide) ?_
  refine s_iadd dL_law_241 ?_
  refine s_eqi (y := nI (i + 3)) (nI_add i 3) ?_
  refine s_sld hX hbl hbA hL9 (j := i + 3) rfl (by omega) dL_law_242 ?_
  refine s_aload_n dL_law_243 rfl ?_
  refine s_callSW (As := [.ref (ad 0 0), .int (xs (i + 1)), .int (xs (i + 2)), .int (xs (i + 3)), .ref (ad 26 0)]) (rest := []) (n := 5) (fun l hl => c_L_node G l hl ad M α hA hc w hw (xs (i + 1)) (xs (i + 2)) (xs (i + 3))) gl_node rfl (by decide +kernel) rfl ⟨(Nat.le_of_ble_eq_true rfl), (Nat.le_of_ble_eq_true rfl)⟩ ⟨(by show kc + 4 ≤ 601024; omega), (by show ks + 91 ≤ 7293034; omega)⟩ (Nat.le_of_ble_eq_true rfl) dL_law_244 rfl (fun r1 ad1 M1 h1 => ?_)
  obtain ⟨hex, hsx, k, v, α', w', hrel, hA', hc', rfl, hk3, hw', hv0⟩ := h1
  obtain ⟨d0, d1, d2, d3, d4, d5, d6, d7, d8, d9, d10, d11, d12, d13, d14, d15, d16⟩ := ρ
  have hm1 := hm.ext hex (fun k i h1 h2 => hsx k i (by simp [pLw]; omega))
  have z0 := hex 0 0 _ h.1
  have z12 := hex 12 0 _ hm.1
  have z26 := hex 26 0 _ hw
  refine s_lv (lv' := [some (.ref b), some (.ref (ad1 0 0)), some (.ref (ad1 12 0)), some (.ref (ad1 26 0)), some (.int (nI i)), none, none]) (by rw [z0, z12, z26]) ?_
  refine s_istore dL_law_247 rfl rfl ?_
  refine s_lv (lv' := [some (.ref b), some (.ref (ad1 0 0)), some (.ref (ad1 12 0)), some (.ref (ad1 26 0)), some (.int (nI i)), some (.int (nI k)), none]) rfl ?_
  refine s_aload_n dL_law_249 rfl ?_
  refine s_aload_n dL_law_250 rfl ?_
  refine s_iload dL_law_251 rfl ?_
  refine s_iconst (v := 1) dL_law_253 (by decide) ?_
  refine s_iadd dL_law_254 ?_
  refine s_eqi (y := nI (i + 1)) (nI_add i 1) ?_
  refine s_sld hX hbl hbA hL9 (j := i + 1) rfl (by omega) dL_law_255 ?_
  refine s_aload_n dL_law_256 rfl ?_
  refine s_iload dL_law_257 rfl ?_
  refine s_iconst (v := 2) dL_law_259 (by decide) ?_
  refine s_iadd dL_law_260 ?_
  refine s_eqi (y := nI (i + 2)) (nI_add i 2) ?_
  refine s_sld hX hbl hbA hL9 (j := i + 2) rfl (by omega) dL_law_261 ?_
  refine s_aload_n dL_law_262 rfl ?_
  refine s_iload dL_law_263 rfl ?_
  refine s_iconst (v := 3) dL_law_265 (by decide) ?_
  refine s_iadd dL_law_266 ?_
  refine s_eqi (y := nI (i + 3)) (nI_add i 3) ?_
  refine s_sld hX hbl hbA hL9 (j := i + 3) rfl (by omega) dL_law_267 ?_
  refine s_callV (As := [.int (xs (i + 1)), .int (xs (i + 2)), .int (xs (i + 3))]) (rest := []) (n := 3) (kd := 12) (ix := 0) (fun l hl => c_X4_node G l hl ad1 M1 d0 d1 d2 d3 d4 d5 d6 d7 d8 d9 d10 d11 d12 d13 d14 d15 d16 hm1 α hA hr (xs (i + 1)) (xs (i + 2)) (xs (i + 3)) v k α' hrel) gm_node rfl (by decide +kernel) hm1.1 rfl rfl ⟨(Nat.le_of_ble_eq_true rfl), (Nat.le_of_ble_eq_true rfl)⟩ ⟨(by show kc + 4 + 0 ≤ 601024; omega), (by show ks + 91 + 0 ≤ 7293034; omega)⟩ (Nat.le_of_ble_eq_true rfl) dL_law_268 rfl (fun r2 ad2 M2 h2 => ?_)
  obtain ⟨rfl, hs2, ⟨⟨e0, e1, e2, e3, e4, e5, e6, e7, e8, e9, e10, e11, e12, e13, e14, e15, e16⟩, hm2, hc2, hr2⟩, b2, rfl, hb2⟩ := h2
  have hc3 : e0 = nI k := hc2
  have hw2 : lOut G M2 w' := (hs2 26 0 (by simp [pMd])).trans hw'
  refine s_istore dL_law_271 rfl rfl ?_
  refine s_lv (lv' := [some (.ref b), some (.ref (ad1 0 0)), some (.ref (ad1 12 0)), some (.ref (ad1 26 0)), some (.int (nI i)), some (.int (nI k)), some (.int b2)]) rfl ?_
  refine s_aload_n dL_law_273 rfl ?_
  refine s_callV (As := []) (rest := []) (n := 0) (kd := 12) (ix := 0) (fun l hl => c_X4_thrown G l hl ad1 M2 e0 e1 e2 e3 e4 e5 e6 e7 e8 e9 e10 e11 e12 e13 e14 e15 e16 hm2) gm_thrown rfl (by decide +kernel) hm2.1 rfl rfl ⟨(Nat.le_of_ble_eq_true rfl), (Nat.le_of_ble_eq_true rfl)⟩ ⟨(by show kc + 4 + 0 + 0 ≤ 601024; omega), (by show ks + 91 + 0 + 0 ≤ 7293034; omega)⟩ (Nat.le_of_ble_eq_true rfl) dL_law_274 rfl (fun r3 ad3 M3 h3 => ?_)
  obtain ⟨rfl, rfl, rfl⟩ := h3
  refine s_iload dL_law_277 rfl ?_
  refine s_icmp_eq 284 dL_law_279 (by decide) (fun c279 => ?_) (fun c279 => absurd (hc3) c279)
  refine s_iload dL_law_284 rfl ?_
  refine s_if_ne 301 dL_law_286 (by decide) (fun c286 => ?_) (fun c286 => ?_)
  · refine s_goto 1011 dL_law_301 (by decide) ?_
    refine s_drop 5 ?_
    refine s_drop 6 ?_
    refine s_widen (kc' := kc + 5) (ks' := ks + 100) (by show kc + 4 + 0 + 0 ≤ kc + 5; omega) (by show ks + 91 + 0 + 0 ≤ ks + 100; omega) ?_
    exact kont ad1 M2 α' ⟨hA', hc'.keep (fun k i hk => hs2 k i (by simp [pMd]; omega)), ⟨(e0, e1, e2, e3, e4, e5, e6, e7, e8, e9, e10, e11, e12, e13, e14, e15, e16), hm2, hr2⟩, w', hw2⟩
  · refine s_aload_n dL_law_289 rfl ?_
    refine s_iconst (v := 0) dL_law_290 (by decide) ?_
    have hk0 : k = 0 := (nI_eq (a := k) (b := 0) (by omega) (by omega)).mp c286
    refine s_lald (kd := 26) (ix := 0) (n := 1) (f := w') (j := 0) hw2 (rfl) (by decide) (by decide) dL_law_291 ?_
    refine s_iload dL_law_292 rfl ?_
    refine s_i2l dL_law_294 ?_
    refine s_lcmp dL_law_295 ?_
    refine s_if_eq 301 dL_law_296 (by decide) (fun c296 => ?_) (fun c296 => absurd ((lg_cmp_eq _ _).mpr (by rw [hv0 hk0, hb2 hk0])) c296)
    refine s_goto 1011 dL_law_301 (by decide) ?_
    refine s_drop 5 ?_
    refine s_drop 6 ?_
    refine s_widen (kc' := kc + 5) (ks' := ks + 100) (by show kc + 4 + 0 + 0 ≤ kc + 5; omega) (by show ks + 91 + 0 + 0 ≤ ks + 100; omega) ?_
    exact kont ad1 M2 α' ⟨hA', hc'.keep (fun k i hk => hs2 k i (by simp [pMd]; omega)), ⟨(e0, e1, e2, e3, e4, e5, e6, e7, e8, e9, e10, e11, e12, e13, e14, e15, e16), hm2, hr2⟩, w', hw2⟩
theorem gl_load : GoodIn (cLw :: wU) (va_wsS RL 82 yL_load wuL_load) := goodSU (by decide +kernel)
theorem gm_load : GoodIn (cLw :: wU) (wsV RL 85 RX4 yX4_load wsX4_load) := goodUP _ [671, 672, 673, 50, 674, 675, 615, 679, 680, 562, 554, 563, 564, 565, 566, 616, 617, 50, 618, 676, 677, 678, 662, 664, 34, 665, 555, 666, 668, 35, 669, 571, 573, 575, 577, 579, 581, 583, 585, 587, 589, 591, 593, 595, 597, 599, 601, 603] (by decide +kernel) (by decide +kernel)
set_option maxHeartbeats 4000000 in
set_option maxRecDepth 100000 in
theorem a_load (X : sMach) (G : sG) (ad : sAd) (M : sM) (Q : State → Prop) (b L : Nat) (xs : Nat → Int32) (hX : va_X b L xs (mS X) (mS X).heap) (hbl : b < (mS X).heap.size) (hbA : ¬ gA G b) (hL9 : L ≤ 2560) (kc ks : Nat) (hkc : kc + 5 ≤ 601024) (hks : ks + 100 ≤ 7293034) (α : sAl) (hI : lI G ad M α) (i : Nat) (hi : i + 5 ≤ L) (kont : ∀ (ad' : sAd) (M' : sM) (α' : sAl), lI G ad' M' α' → sW X G mL_law Q ad' M' (kc + 5) (ks + 100) (lvL ad' b i) 1011 []) : sW X G mL_law Q ad M kc ks (lvL ad b i) 304 [] := by
  obtain ⟨hA, hc, ⟨ρ, hm, hr⟩, w, hw⟩ := hI
  obtain ⟨κ, h, hC⟩ := id hc
  refine s_aload_n dL_law_304 rfl ?_
  refine s_aload_n dL_law_305 rfl ?_
  refine s_iload dL_law_306 rfl ?_
  refine s_iconst (v := 1) dL_law_308 (by decide) ?_
  refine s_iadd dL_law_309 ?_
  refine s_eqi (y := nI (i + 1)) (nI_add i 1) ?_
  refine s_sld hX hbl hbA hL9 (j := i + 1) rfl (by omega) dL_law_310 ?_
  refine s_aload_n dL_law_311 rfl ?_
  refine s_iload dL_law_312 rfl ?_
  refine s_iconst (v := 2) dL_law_314 (by decide) ?_
  refine s_iadd dL_law_315 ?_
  refine s_eqi (y := nI (i + 2)) (nI_add i 2) ?_
  refine s_sld hX hbl hbA hL9 (j := i + 2) rfl (by omega) dL_law_316 ?_
  refine s_aload_n dL_law_317 rfl ?_
  refine s_iload dL_law_318 rfl ?_
  refine s_iconst (v := 3) dL_law_320 (by decide) ?_
  refine s_iadd dL_law_321 ?_
  refine s_eqi (y := nI (i + 3)) (nI_add i 3) ?_
  refine s_sld hX hbl hbA hL9 (j := i + 3) rfl (by omega) dL_law_322 ?_
  refine s_aload_n dL_law_323 rfl ?_
  refine s_iload dL_law_324 rfl ?_
  refine s_iconst (v := 4) dL_law_326 (by decide) ?_
  refine s_iadd dL_law_327 ?_
  refine s_eqi (y := nI (i + 4)) (nI_add i 4) ?_
  refine s_sld hX hbl hbA hL9 (j := i + 4) rfl (by omega) dL_law_328 ?_
  refine s_aload_n dL_law_329 rfl ?_
  refine s_callSW (As := [.ref (ad 0 0), .int (xs (i + 1)), .int (xs (i + 2)), .int (xs (i + 3)), .int (xs (i + 4)), .ref (ad 26 0)]) (rest := []) (n := 6) (fun l hl => c_L_load G l hl ad M α hA hc w hw (xs (i + 1)) (xs (i + 2)) (xs (i + 3)) (xs (i + 4))) gl_load rfl (by decide +kernel) rfl ⟨(Nat.le_of_ble_eq_true rfl), (Nat.le_of_ble_eq_true rfl)⟩ ⟨(by show kc + 1 ≤ 601024; omega), (by show ks + 6 ≤ 7293034; omega)⟩ (Nat.le_of_ble_eq_true rfl) dL_law_330 rfl (fun r1 ad1 M1 h1 => ?_)
  obtain ⟨hex, hsx, k, v, α', w', hrel, hA', hc', rfl, hk3, hw', hv0⟩ := h1
  obtain ⟨d0, d1, d2, d3, d4, d5, d6, d7, d8, d9, d10, d11, d12, d13, d14, d15, d16⟩ := ρ
  have hm1 := hm.ext hex (fun k i h1 h2 => hsx k i (by simp [pLw]; omega))
  have z0 := hex 0 0 _ h.1
  have z12 := hex 12 0 _ hm.1
  have z26 := hex 26 0 _ hw
  refine s_lv (lv' := [some (.ref b), some (.ref (ad1 0 0)), some (.ref (ad1 12 0)), some (.ref (ad1 26 0)), some (.int (nI i)), none, none]) (by rw [z0, z12, z26]) ?_
  refine s_istore dL_law_333 rfl rfl ?_
  refine s_lv (lv' := [some (.ref b), some (.ref (ad1 0 0)), some (.ref (ad1 12 0)), some (.ref (ad1 26 0)), some (.int (nI i)), some (.int (nI k)), none]) rfl ?_
  refine s_aload_n dL_law_335 rfl ?_
  refine s_aload_n dL_law_336 rfl ?_
  refine s_iload dL_law_337 rfl ?_
  refine s_iconst (v := 1) dL_law_339 (by decide) ?_
  refine s_iadd dL_law_340 ?_
  refine s_eqi (y := nI (i + 1)) (nI_add i 1) ?_
  refine s_sld hX hbl hbA hL9 (j := i + 1) rfl (by omega) dL_law_341 ?_
  refine s_aload_n dL_law_342 rfl ?_
  refine s_iload dL_law_343 rfl ?_
  refine s_iconst (v := 2) dL_law_345 (by decide) ?_
  refine s_iadd dL_law_346 ?_
  refine s_eqi (y := nI (i + 2)) (nI_add i 2) ?_
  refine s_sld hX hbl hbA hL9 (j := i + 2) rfl (by omega) dL_law_347 ?_
  refine s_aload_n dL_law_348 rfl ?_
  refine s_iload dL_law_349 rfl ?_
  refine s_iconst (v := 3) dL_law_351 (by decide) ?_
  refine s_iadd dL_law_352 ?_
  refine s_eqi (y := nI (i + 3)) (nI_add i 3) ?_
  refine s_sld hX hbl hbA hL9 (j := i + 3) rfl (by omega) dL_law_353 ?_
  refine s_aload_n dL_law_354 rfl ?_
  refine s_iload dL_law_355 rfl ?_
  refine s_iconst (v := 4) dL_law_357 (by decide) ?_
  refine s_iadd dL_law_358 ?_
  refine s_eqi (y := nI (i + 4)) (nI_add i 4) ?_
  refine s_sld hX hbl hbA hL9 (j := i + 4) rfl (by omega) dL_law_359 ?_
  refine s_callV (As := [.int (xs (i + 1)), .int (xs (i + 2)), .int (xs (i + 3)), .int (xs (i + 4))]) (rest := []) (n := 4) (kd := 12) (ix := 0) (fun l hl => c_X4_load G l hl ad1 M1 d0 d1 d2 d3 d4 d5 d6 d7 d8 d9 d10 d11 d12 d13 d14 d15 d16 hm1 α hA hr (xs (i + 1)) (xs (i + 2)) (xs (i + 3)) (xs (i + 4)) v k α' hrel) gm_load rfl (by decide +kernel) hm1.1 rfl rfl ⟨(Nat.le_of_ble_eq_true rfl), (Nat.le_of_ble_eq_true rfl)⟩ ⟨(by show kc + 1 + 0 ≤ 601024; omega), (by show ks + 6 + 0 ≤ 7293034; omega)⟩ (Nat.le_of_ble_eq_true rfl) dL_law_360 rfl (fun r2 ad2 M2 h2 => ?_)
  obtain ⟨rfl, hs2, ⟨⟨e0, e1, e2, e3, e4, e5, e6, e7, e8, e9, e10, e11, e12, e13, e14, e15, e16⟩, hm2, hc2, hr2⟩, b2, rfl, hb2⟩ := h2
  have hc3 : e0 = nI k := hc2
  have hw2 : lOut G M2 w' := (hs2 26 0 (by simp [pMd])).trans hw'
  refine s_istore dL_law_363 rfl rfl ?_
  refine s_lv (lv' := [some (.ref b), some (.ref (ad1 0 0)), some (.ref (ad1 12 0)), some (.ref (ad1 26 0)), some (.int (nI i)), some (.int (nI k)), some (.int b2)]) rfl ?_
  refine s_aload_n dL_law_365 rfl ?_
  refine s_callV (As := []) (rest := []) (n := 0) (kd := 12) (ix := 0) (fun l hl => c_X4_thrown G l hl ad1 M2 e0 e1 e2 e3 e4 e5 e6 e7 e8 e9 e10 e11 e12 e13 e14 e15 e16 hm2) gm_thrown rfl (by decide +kernel) hm2.1 rfl rfl ⟨(Nat.le_of_ble_eq_true rfl), (Nat.le_of_ble_eq_true rfl)⟩ ⟨(by show kc + 1 + 0 + 0 ≤ 601024; omega), (by show ks + 6 + 0 + 0 ≤ 7293034; omega)⟩ (Nat.le_of_ble_eq_true rfl) dL_law_366 rfl (fun r3 ad3 M3 h3 => ?_)
  obtain ⟨rfl, rfl, rfl⟩ := h3
  refine s_iload dL_law_369 rfl ?_
  refine s_icmp_eq 376 dL_law_371 (by decide) (fun c371 => ?_) (fun c371 => absurd (hc3) c371)
  refine s_iload dL_law_376 rfl ?_
  refine s_if_ne 393 dL_law_378 (by decide) (fun c378 => ?_) (fun c378 => ?_)
  · refine s_goto 1011 dL_law_393 (by decide) ?_
    refine s_drop 5 ?_
    refine s_drop 6 ?_
    refine s_widen (kc' := kc + 5) (ks' := ks + 100) (by show kc + 1 + 0 + 0 ≤ kc + 5; omega) (by show ks + 6 + 0 + 0 ≤ ks + 100; omega) ?_
    exact kont ad1 M2 α' ⟨hA', hc'.keep (fun k i hk => hs2 k i (by simp [pMd]; omega)), ⟨(e0, e1, e2, e3, e4, e5, e6, e7, e8, e9, e10, e11, e12, e13, e14, e15, e16), hm2, hr2⟩, w', hw2⟩
  · refine s_aload_n dL_law_381 rfl ?_
    refine s_iconst (v := 0) dL_law_382 (by decide) ?_
    have hk0 : k = 0 := (nI_eq (a := k) (b := 0) (by omega) (by omega)).mp c378
    refine s_lald (kd := 26) (ix := 0) (n := 1) (f := w') (j := 0) hw2 (rfl) (by decide) (by decide) dL_law_383 ?_
    refine s_iload dL_law_384 rfl ?_
    refine s_i2l dL_law_386 ?_
    refine s_lcmp dL_law_387 ?_
    refine s_if_eq 393 dL_law_388 (by decide) (fun c388 => ?_) (fun c388 => absurd ((lg_cmp_eq _ _).mpr (by rw [hv0 hk0, hb2 hk0])) c388)
    refine s_goto 1011 dL_law_393 (by decide) ?_
    refine s_drop 5 ?_
    refine s_drop 6 ?_
    refine s_widen (kc' := kc + 5) (ks' := ks + 100) (by show kc + 1 + 0 + 0 ≤ kc + 5; omega) (by show ks + 6 + 0 + 0 ≤ ks + 100; omega) ?_
    exact kont ad1 M2 α' ⟨hA', hc'.keep (fun k i hk => hs2 k i (by simp [pMd]; omega)), ⟨(e0, e1, e2, e3, e4, e5, e6, e7, e8, e9, e10, e11, e12, e13, e14, e15, e16), hm2, hr2⟩, w', hw2⟩
