/-! load, cofactor, sample, rowAt, count, clear -/
theorem r8 {f g : Nat → Int32} (h0 : f 0 = g 0) (h1 : f 1 = g 1) (h2 : f 2 = g 2) (h3 : f 3 = g 3) (h4 : f 4 = g 4) (h5 : f 5 = g 5) (h6 : f 6 = g 6) (h7 : f 7 = g 7) (i : Nat) (hi : i < 8) : f i = g i := by
  rcases (show i = 0 ∨ i = 1 ∨ i = 2 ∨ i = 3 ∨ i = 4 ∨ i = 5 ∨ i = 6 ∨ i = 7 by omega) with rfl | rfl | rfl | rfl | rfl | rfl | rfl | rfl <;> assumption
def wuX3_load : List Cond := .code yX3_load cX3_load 6 (some .int) :: wU
abbrev mX3_load : sMeth := (cX3_load, 6, RX3, wuX3_load, { frames := 7, cells := 1, slots := 6, locals := 103 }, (some .int), "load", [])
theorem in_X3_load_X3 : ∀ w ∈ wsX30, w ∈ wuX3_load := fun w hw => List.mem_cons_of_mem _ (inU (iu_X3 w hw).1 (iu_X3 w hw).2)
theorem gu_X3_load_treeFieldsOf : GoodIn wuX3_load (va_wsS RX3 107 yX3_treeFieldsOf wsX3_treeFieldsOf) := goodUW (by decide +kernel)
theorem gu_X3_load_treeAt : GoodIn wuX3_load (wsV RX3 78 RX3 yX3_treeAt wsX3_treeAt) := goodUW (by decide +kernel)
theorem gu_X3_load_fits : GoodIn wuX3_load (va_wsS RX3 110 yX3_fits wsX3_fits) := goodUW (by decide +kernel)
theorem gu_X3_load_fillRow : GoodIn wuX3_load (va_wsS RX3 121 yX3_fillRow wsX3_fillRow) := goodUW (by decide +kernel)
set_option maxHeartbeats 4000000 in
set_option maxRecDepth 100000 in
theorem c_X3_load (G : sG) (l : Launch) (hl : l.stackTraces = false) (ad : sAd) (M : sM) (α : sAl) (hA : AI α) (κ : sCk) (h : hCk G ad M κ) (hC : CI α κ) (k a b c : Int32) : sMet G l yX3_load mX3_load [.ref (ad 0 0), .int k, .int a, .int b, .int c] ad M (fun r ad' M' => ad = ad' ∧ r = some (.int (nI (aR α))) ∧ aR α < 60 ∧ ¬ lC1 α k a b c ∧ fitsK k b c ∧ sSame pCk M M' ∧ cI G ad M' (addR α (ldRow k a b c))) (fun E ad' M' => ad = ad' ∧ M = M' ∧ ((E = eA ∧ lC1 α k a b c) ∨ (E = eI ∧ ¬ lC1 α k a b c ∧ ¬ fitsK k b c) ∨ (E = eS ∧ ¬ lC1 α k a b c ∧ fitsK k b c ∧ aR α = 60))) := by
  obtain ⟨e1, e2, ht, hm, hC1, hC2, hC3, hC4, f, hR⟩ := id hC
  have hA1 := hA.1
  have hA2 := hA.2.1
  have hr : kRc κ ≤ 60 := by omega
  refine sMet.of hl (by decide +kernel) rfl rfl rfl rfl (Nat.le_of_ble_eq_true rfl) (fun X => ?_)
  refine s_lv (lv' := [some (.ref (ad 0 0)), some (.int k), some (.int a), some (.int b), some (.int c), none]) rfl ?_
  refine s_iload_n dX3_load_0 rfl ?_
  refine s_callS (As := [.int k]) (rest := []) (n := 1) (fun l hl => c_X3_treeFieldsOf G l hl ad M k) gu_X3_load_treeFieldsOf rfl (by decide +kernel) rfl ⟨(Nat.le_of_ble_eq_true rfl), (Nat.le_of_ble_eq_true rfl)⟩ ⟨(Nat.le_of_ble_eq_true rfl), (Nat.le_of_ble_eq_true rfl)⟩ (Nat.le_of_ble_eq_true rfl) dX3_load_1 rfl (fun r9 ad9 M9 h9 => ?_)
  obtain ⟨rfl, rfl, h9⟩ := h9
  obtain rfl : r9 = some (.int (nI (tfI k))) := h9.elim (fun ⟨j, hj, e, q⟩ => by rw [q, e, tfI_in hj]) (fun ⟨q, e⟩ => by rw [e, tfI_out q]; rfl)
  refine s_istore dX3_load_4 rfl rfl ?_
  refine s_lv (lv' := [some (.ref (ad 0 0)), some (.int k), some (.int a), some (.int b), some (.int c), some (.int (nI (tfI k)))]) rfl ?_
  refine s_aload_n dX3_load_6 rfl ?_
  refine s_iload_n dX3_load_7 rfl ?_
  refine s_callV (As := [.int a]) (rest := []) (n := 1) (kd := 0) (ix := 0) (fun l hl => c_X3_treeAt G l hl ad M κ h ht hm hr a) gu_X3_load_treeAt rfl (by decide +kernel) h.1 rfl rfl ⟨(Nat.le_of_ble_eq_true rfl), (Nat.le_of_ble_eq_true rfl)⟩ ⟨(Nat.le_of_ble_eq_true rfl), (Nat.le_of_ble_eq_true rfl)⟩ (Nat.le_of_ble_eq_true rfl) dX3_load_8 rfl (fun ra ada Ma ha => ?_)
  obtain ⟨rfl, rfl, ha⟩ := ha
  rcases ha with ⟨ja, hja, hija, rfl⟩ | ⟨hna, rfl⟩
  · refine s_ifnull dX3_load_11 ?_
    refine s_iload dX3_load_14 rfl ?_
    refine s_iconst (v := 1) dX3_load_16 (by decide) ?_
    refine s_icmp_le 28 dX3_load_17 (by decide) (fun c17 => ?_) (fun c17 => ?_)
    · refine s_iload dX3_load_28 rfl ?_
      refine s_iconst (v := 2) dX3_load_30 (by decide) ?_
      refine s_icmp_le 53 dX3_load_31 (by decide) (fun c31 => ?_) (fun c31 => ?_)
      · have hn1 : ¬ lC1 α k a b c := fun z => z.elim (fun z => z ⟨ja, by omega, hija⟩) (fun z => z.elim (fun z => absurd z.1 (fun q => absurd ((nI_le_iff (a := tfI k) (b := 1) (by have := tfI_le k; omega) (by omega)).mp c17) (by omega))) (fun z => absurd z.1 (fun q => absurd ((nI_le_iff (a := tfI k) (b := 2) (by have := tfI_le k; omega) (by omega)).mp c31) (by omega))))
        refine s_iload_n dX3_load_53 rfl ?_
        refine s_iload_n dX3_load_54 rfl ?_
        refine s_iload dX3_load_55 rfl ?_
        refine s_callS (As := [.int k, .int b, .int c]) (rest := []) (n := 3) (fun l hl => c_X3_fits G l hl ad M k b c) gu_X3_load_fits rfl (by decide +kernel) rfl ⟨(Nat.le_of_ble_eq_true rfl), (Nat.le_of_ble_eq_true rfl)⟩ ⟨(Nat.le_of_ble_eq_true rfl), (Nat.le_of_ble_eq_true rfl)⟩ (Nat.le_of_ble_eq_true rfl) dX3_load_57 rfl (fun r9 ad9 M9 h9 => ?_)
        obtain ⟨rfl, rfl, zf, rfl, hzf⟩ := h9
        refine s_if_ne 73 dX3_load_60 (by decide) (fun c60 => ?_) (fun c60 => ?_)
        · have hfk := hzf.mp (Bool.of_not_eq_false (fun z => c60 (jB_0.mpr z)))
          refine s_aload_n dX3_load_73 rfl ?_
          refine s_get (kd := 0) (ix := 0) (ci := 4) (fs := [.ref (ad 7 0), .ref (ad 8 0), .ref (ad 1 0), .ref (ad 3 120), .int (nI (kTc κ)), .int (nI (kRc κ))])  h.1 rfl in_X3_load_X3 5 (by decide) (by decide +kernel) rfl rfl dX3_load_74 ?_
          refine s_bipush (v := 60) dX3_load_77 (by decide) ?_
          refine s_icmp_lt 92 dX3_load_79 (by decide) (fun c79 => ?_) (fun c79 => ?_)
          · have q60 : kRc κ < 60 := nI_lt_mp (b := 60) c79 (by omega) (by omega)
            refine s_aload_n dX3_load_92 rfl ?_
            refine s_get (kd := 0) (ix := 0) (ci := 4) (fs := [.ref (ad 7 0), .ref (ad 8 0), .ref (ad 1 0), .ref (ad 3 120), .int (nI (kTc κ)), .int (nI (kRc κ))])  h.1 rfl in_X3_load_X3 1 (by decide) (by decide +kernel) rfl rfl dX3_load_93 ?_
            refine s_aload_n dX3_load_96 rfl ?_
            refine s_get (kd := 0) (ix := 0) (ci := 4) (fs := [.ref (ad 7 0), .ref (ad 8 0), .ref (ad 1 0), .ref (ad 3 120), .int (nI (kTc κ)), .int (nI (kRc κ))])  h.1 rfl in_X3_load_X3 5 (by decide) (by decide +kernel) rfl rfl dX3_load_97 ?_
            refine s_aald (kd := 8) (ix := 0) (n := 60) (f := fRs ad) (j := kRc κ) (v := .ref (ad 6 (kRc κ))) 4 rfl rfl h.2.2.1 (rfl) (by omega) (by decide) (fRs_in (by omega)) dX3_load_100 ?_
            refine s_iload_n dX3_load_101 rfl ?_
            refine s_iload_n dX3_load_102 rfl ?_
            refine s_iload_n dX3_load_103 rfl ?_
            refine s_iload dX3_load_104 rfl ?_
            refine s_callS (As := [.ref (ad 6 (kRc κ)), .int k, .int a, .int b, .int c]) (rest := []) (n := 5) (fun l hl => c_X3_fillRow G l hl ad M (kRc κ) (kRw κ (kRc κ)) (h.2.2.2.1 (kRc κ) q60) k a b c) gu_X3_load_fillRow rfl (by decide +kernel) rfl ⟨(Nat.le_of_ble_eq_true rfl), (Nat.le_of_ble_eq_true rfl)⟩ ⟨(Nat.le_of_ble_eq_true rfl), (Nat.le_of_ble_eq_true rfl)⟩ (Nat.le_of_ble_eq_true rfl) dX3_load_106 rfl (fun r9 ad9 M9 h9 => ?_)
            obtain ⟨rfl, rfl, f9, rfl, g0, g1, g2, g3, g4, g5, g6, g7⟩ := h9
            refine s_aload_n dX3_load_109 rfl ?_
            refine s_dup dX3_load_110 rfl ?_
            refine s_get (kd := 0) (ix := 0) (ci := 4) (fs := [.ref (ad 7 0), .ref (ad 8 0), .ref (ad 1 0), .ref (ad 3 120), .int (nI (kTc κ)), .int (nI (kRc κ))])  ((sset_k _ _ (by decide)).trans h.1) rfl in_X3_load_X3 5 (by decide) (by decide +kernel) rfl rfl dX3_load_111 ?_
            refine s_iconst (v := 1) dX3_load_114 (by decide) ?_
            refine s_iadd dX3_load_115 ?_
            refine s_eqi (y := nI (kRc κ + 1)) (nI_1 _) ?_
            refine s_put (kd := 0) (ix := 0) (ci := 4) (v := .int (nI (kRc κ + 1))) (ty := tyX3 5) (fs := [.ref (ad 7 0), .ref (ad 8 0), .ref (ad 1 0), .ref (ad 3 120), .int (nI (kTc κ)), .int (nI (kRc κ))])  tyX3 tyX3_ok nmX3 ((sset_k _ _ (by decide)).trans h.1) rfl in_X3_load_X3 5 (by decide) (by decide +kernel) rfl rfl (tyX3_ok 5 (by decide)) (rfl) (rfl) (Nat.le_of_ble_eq_true rfl) dX3_load_116 ?_
            refine s_M (M' := (sset (sset M 6 (kRc κ) (.inl (gI G, 8, .inl f9))) 0 0 (.inr (4, [.ref (ad 7 0), .ref (ad 8 0), .ref (ad 1 0), .ref (ad 3 120), .int (nI (kTc κ)), .int (nI (kRc κ + 1))])))) rfl ?_
            refine s_aload_n dX3_load_119 rfl ?_
            refine s_get (kd := 0) (ix := 0) (ci := 4) (fs := [.ref (ad 7 0), .ref (ad 8 0), .ref (ad 1 0), .ref (ad 3 120), .int (nI (kTc κ)), .int (nI (kRc κ + 1))])  (sset_self _ _ _ _) rfl in_X3_load_X3 5 (by decide) (by decide +kernel) rfl rfl dX3_load_120 ?_
            refine s_iconst (v := 1) dX3_load_123 (by decide) ?_
            refine s_isub dX3_load_124 ?_
            refine s_eqi (y := nI (kRc κ)) (nI_m1 (by omega)) ?_
            exact s_iret rfl (rfl) dX3_load_125 (Nat.le_of_ble_eq_true rfl) (Nat.le_of_ble_eq_true rfl) (⟨rfl, by rw [e2], by omega, hn1, hfk, ((sSame.rfl.set (P := pCk) (by simp [pCk]) _).set (by simp [pCk]) _), _, (h.row (r := kRc κ) f9).obj (kTc κ) (kRc κ + 1), hC.addR (w := ldRow k a b c) (r8 g0 g1 g2 g3 g4 g5 g6 g7)⟩)
          · exact s_throw (cls := eS) (ik := 116) (is := 118) (ic := 120) (text := "60 rows are there") (names := eRs) rfl rfl (by decide +kernel) (by decide +kernel) (List.mem_cons_of_mem _ (inU (by decide +kernel) rfl)) (List.mem_cons_of_mem _ (inU (by decide +kernel) rfl)) (by decide +kernel) xuS xbS xoS dX3_load_82 dX3_load_85 dX3_load_86 dX3_load_88 dX3_load_91 (Nat.le_of_ble_eq_true rfl) (Nat.le_of_ble_eq_true rfl) (Nat.le_of_ble_eq_true rfl) (Nat.le_of_ble_eq_true rfl) (⟨rfl, rfl, Or.inr (Or.inr ⟨rfl, hn1, hfk, by have q9 : ¬ kRc κ < 60 := fun q => c79 (nI_lt_mpr (b := 60) q (by omega)); omega⟩)⟩)
        · exact s_throw (cls := eI) (ik := 45) (is := 114) (ic := 49) (text := "no such row") (names := eRs) rfl rfl (by decide +kernel) (by decide +kernel) (List.mem_cons_of_mem _ (inU (by decide +kernel) rfl)) (List.mem_cons_of_mem _ (inU (by decide +kernel) rfl)) (by decide +kernel) xuI xbI xoI dX3_load_63 dX3_load_66 dX3_load_67 dX3_load_69 dX3_load_72 (Nat.le_of_ble_eq_true rfl) (Nat.le_of_ble_eq_true rfl) (Nat.le_of_ble_eq_true rfl) (Nat.le_of_ble_eq_true rfl) (⟨rfl, rfl, Or.inr (Or.inl ⟨rfl, hn1, fun q => by rw [hzf.mpr q] at c60; exact absurd c60 (by decide)⟩)⟩)
      · refine s_aload_n dX3_load_34 rfl ?_
        refine s_iload dX3_load_35 rfl ?_
        refine s_callV (As := [.int c]) (rest := []) (n := 1) (kd := 0) (ix := 0) (fun l hl => c_X3_treeAt G l hl ad M κ h ht hm hr c) gu_X3_load_treeAt rfl (by decide +kernel) h.1 rfl rfl ⟨(Nat.le_of_ble_eq_true rfl), (Nat.le_of_ble_eq_true rfl)⟩ ⟨(Nat.le_of_ble_eq_true rfl), (Nat.le_of_ble_eq_true rfl)⟩ (Nat.le_of_ble_eq_true rfl) dX3_load_37 rfl (fun rc adc Mc hc => ?_)
        obtain ⟨rfl, rfl, hc⟩ := hc
        rcases hc with ⟨jc, hjc, hijc, rfl⟩ | ⟨hnc, rfl⟩
        · refine s_ifnonnull 53 dX3_load_40 (by decide) ?_
          have hn1 : ¬ lC1 α k a b c := fun z => z.elim (fun z => z ⟨ja, by omega, hija⟩) (fun z => z.elim (fun z => absurd z.1 (fun q => absurd ((nI_le_iff (a := tfI k) (b := 1) (by have := tfI_le k; omega) (by omega)).mp c17) (by omega))) (fun z => z.2 ⟨jc, by omega, hijc⟩))
          refine s_iload_n dX3_load_53 rfl ?_
          refine s_iload_n dX3_load_54 rfl ?_
          refine s_iload dX3_load_55 rfl ?_
          refine s_callS (As := [.int k, .int b, .int c]) (rest := []) (n := 3) (fun l hl => c_X3_fits G l hl ad M k b c) gu_X3_load_fits rfl (by decide +kernel) rfl ⟨(Nat.le_of_ble_eq_true rfl), (Nat.le_of_ble_eq_true rfl)⟩ ⟨(Nat.le_of_ble_eq_true rfl), (Nat.le_of_ble_eq_true rfl)⟩ (Nat.le_of_ble_eq_true rfl) dX3_load_57 rfl (fun r9 ad9 M9 h9 => ?_)
          obtain ⟨rfl, rfl, zf, rfl, hzf⟩ := h9
          refine s_if_ne 73 dX3_load_60 (by decide) (fun c60 => ?_) (fun c60 => ?_)
          · have hfk := hzf.mp (Bool.of_not_eq_false (fun z => c60 (jB_0.mpr z)))
            refine s_aload_n dX3_load_73 rfl ?_
            refine s_get (kd := 0) (ix := 0) (ci := 4) (fs := [.ref (ad 7 0), .ref (ad 8 0), .ref (ad 1 0), .ref (ad 3 120), .int (nI (kTc κ)), .int (nI (kRc κ))])  h.1 rfl in_X3_load_X3 5 (by decide) (by decide +kernel) rfl rfl dX3_load_74 ?_
            refine s_bipush (v := 60) dX3_load_77 (by decide) ?_
            refine s_icmp_lt 92 dX3_load_79 (by decide) (fun c79 => ?_) (fun c79 => ?_)
            · have q60 : kRc κ < 60 := nI_lt_mp (b := 60) c79 (by omega) (by omega)
              refine s_aload_n dX3_load_92 rfl ?_
              refine s_get (kd := 0) (ix := 0) (ci := 4) (fs := [.ref (ad 7 0), .ref (ad 8 0), .ref (ad 1 0), .ref (ad 3 120), .int (nI (kTc κ)), .int (nI (kRc κ))])  h.1 rfl in_X3_load_X3 1 (by decide) (by decide +kernel) rfl rfl dX3_load_93 ?_
              refine s_aload_n dX3_load_96 rfl ?_
              refine s_get (kd := 0) (ix := 0) (ci := 4) (fs := [.ref (ad 7 0), .ref (ad 8 0), .ref (ad 1 0), .ref (ad 3 120), .int (nI (kTc κ)), .int (nI (kRc κ))])  h.1 rfl in_X3_load_X3 5 (by decide) (by decide +kernel) rfl rfl dX3_load_97 ?_
              refine s_aald (kd := 8) (ix := 0) (n := 60) (f := fRs ad) (j := kRc κ) (v := .ref (ad 6 (kRc κ))) 4 rfl rfl h.2.2.1 (rfl) (by omega) (by decide) (fRs_in (by omega)) dX3_load_100 ?_
              refine s_iload_n dX3_load_101 rfl ?_
              refine s_iload_n dX3_load_102 rfl ?_
              refine s_iload_n dX3_load_103 rfl ?_
              refine s_iload dX3_load_104 rfl ?_
              refine s_callS (As := [.ref (ad 6 (kRc κ)), .int k, .int a, .int b, .int c]) (rest := []) (n := 5) (fun l hl => c_X3_fillRow G l hl ad M (kRc κ) (kRw κ (kRc κ)) (h.2.2.2.1 (kRc κ) q60) k a b c) gu_X3_load_fillRow rfl (by decide +kernel) rfl ⟨(Nat.le_of_ble_eq_true rfl), (Nat.le_of_ble_eq_true rfl)⟩ ⟨(Nat.le_of_ble_eq_true rfl), (Nat.le_of_ble_eq_true rfl)⟩ (Nat.le_of_ble_eq_true rfl) dX3_load_106 rfl (fun r9 ad9 M9 h9 => ?_)
              obtain ⟨rfl, rfl, f9, rfl, g0, g1, g2, g3, g4, g5, g6, g7⟩ := h9
              refine s_aload_n dX3_load_109 rfl ?_
              refine s_dup dX3_load_110 rfl ?_
              refine s_get (kd := 0) (ix := 0) (ci := 4) (fs := [.ref (ad 7 0), .ref (ad 8 0), .ref (ad 1 0), .ref (ad 3 120), .int (nI (kTc κ)), .int (nI (kRc κ))])  ((sset_k _ _ (by decide)).trans h.1) rfl in_X3_load_X3 5 (by decide) (by decide +kernel) rfl rfl dX3_load_111 ?_
              refine s_iconst (v := 1) dX3_load_114 (by decide) ?_
              refine s_iadd dX3_load_115 ?_
              refine s_eqi (y := nI (kRc κ + 1)) (nI_1 _) ?_
              refine s_put (kd := 0) (ix := 0) (ci := 4) (v := .int (nI (kRc κ + 1))) (ty := tyX3 5) (fs := [.ref (ad 7 0), .ref (ad 8 0), .ref (ad 1 0), .ref (ad 3 120), .int (nI (kTc κ)), .int (nI (kRc κ))])  tyX3 tyX3_ok nmX3 ((sset_k _ _ (by decide)).trans h.1) rfl in_X3_load_X3 5 (by decide) (by decide +kernel) rfl rfl (tyX3_ok 5 (by decide)) (rfl) (rfl) (Nat.le_of_ble_eq_true rfl) dX3_load_116 ?_
              refine s_M (M' := (sset (sset M 6 (kRc κ) (.inl (gI G, 8, .inl f9))) 0 0 (.inr (4, [.ref (ad 7 0), .ref (ad 8 0), .ref (ad 1 0), .ref (ad 3 120), .int (nI (kTc κ)), .int (nI (kRc κ + 1))])))) rfl ?_
              refine s_aload_n dX3_load_119 rfl ?_
              refine s_get (kd := 0) (ix := 0) (ci := 4) (fs := [.ref (ad 7 0), .ref (ad 8 0), .ref (ad 1 0), .ref (ad 3 120), .int (nI (kTc κ)), .int (nI (kRc κ + 1))])  (sset_self _ _ _ _) rfl in_X3_load_X3 5 (by decide) (by decide +kernel) rfl rfl dX3_load_120 ?_
              refine s_iconst (v := 1) dX3_load_123 (by decide) ?_
              refine s_isub dX3_load_124 ?_
              refine s_eqi (y := nI (kRc κ)) (nI_m1 (by omega)) ?_
              exact s_iret rfl (rfl) dX3_load_125 (Nat.le_of_ble_eq_true rfl) (Nat.le_of_ble_eq_true rfl) (⟨rfl, by rw [e2], by omega, hn1, hfk, ((sSame.rfl.set (P := pCk) (by simp [pCk]) _).set (by simp [pCk]) _), _, (h.row (r := kRc κ) f9).obj (kTc κ) (kRc κ + 1), hC.addR (w := ldRow k a b c) (r8 g0 g1 g2 g3 g4 g5 g6 g7)⟩)
            · exact s_throw (cls := eS) (ik := 116) (is := 118) (ic := 120) (text := "60 rows are there") (names := eRs) rfl rfl (by decide +kernel) (by decide +kernel) (List.mem_cons_of_mem _ (inU (by decide +kernel) rfl)) (List.mem_cons_of_mem _ (inU (by decide +kernel) rfl)) (by decide +kernel) xuS xbS xoS dX3_load_82 dX3_load_85 dX3_load_86 dX3_load_88 dX3_load_91 (Nat.le_of_ble_eq_true rfl) (Nat.le_of_ble_eq_true rfl) (Nat.le_of_ble_eq_true rfl) (Nat.le_of_ble_eq_true rfl) (⟨rfl, rfl, Or.inr (Or.inr ⟨rfl, hn1, hfk, by have q9 : ¬ kRc κ < 60 := fun q => c79 (nI_lt_mpr (b := 60) q (by omega)); omega⟩)⟩)
          · exact s_throw (cls := eI) (ik := 45) (is := 114) (ic := 49) (text := "no such row") (names := eRs) rfl rfl (by decide +kernel) (by decide +kernel) (List.mem_cons_of_mem _ (inU (by decide +kernel) rfl)) (List.mem_cons_of_mem _ (inU (by decide +kernel) rfl)) (by decide +kernel) xuI xbI xoI dX3_load_63 dX3_load_66 dX3_load_67 dX3_load_69 dX3_load_72 (Nat.le_of_ble_eq_true rfl) (Nat.le_of_ble_eq_true rfl) (Nat.le_of_ble_eq_true rfl) (Nat.le_of_ble_eq_true rfl) (⟨rfl, rfl, Or.inr (Or.inl ⟨rfl, hn1, fun q => by rw [hzf.mpr q] at c60; exact absurd c60 (by decide)⟩)⟩)
        · refine s_ifnonnullN dX3_load_40 ?_
          exact s_throw (cls := eA) (ik := 82) (is := 84) (ic := 86) (text := "no such tree") (names := eAs) rfl rfl (by decide +kernel) (by decide +kernel) (List.mem_cons_of_mem _ (inU (by decide +kernel) rfl)) (List.mem_cons_of_mem _ (inU (by decide +kernel) rfl)) (by decide +kernel) xuA xbA xoA dX3_load_43 dX3_load_46 dX3_load_47 dX3_load_49 dX3_load_52 (Nat.le_of_ble_eq_true rfl) (Nat.le_of_ble_eq_true rfl) (Nat.le_of_ble_eq_true rfl) (Nat.le_of_ble_eq_true rfl) (⟨rfl, rfl, Or.inl ⟨rfl, Or.inr (Or.inr ⟨(nI_lt_mp (a := 2) (Int32.not_le.mp c31) (by omega) (by have := tfI_le k; omega)), (fun ⟨j, hj, q⟩ => hnc j (by omega) q)⟩)⟩⟩)
    · refine s_aload_n dX3_load_20 rfl ?_
      refine s_iload_n dX3_load_21 rfl ?_
      refine s_callV (As := [.int b]) (rest := []) (n := 1) (kd := 0) (ix := 0) (fun l hl => c_X3_treeAt G l hl ad M κ h ht hm hr b) gu_X3_load_treeAt rfl (by decide +kernel) h.1 rfl rfl ⟨(Nat.le_of_ble_eq_true rfl), (Nat.le_of_ble_eq_true rfl)⟩ ⟨(Nat.le_of_ble_eq_true rfl), (Nat.le_of_ble_eq_true rfl)⟩ (Nat.le_of_ble_eq_true rfl) dX3_load_22 rfl (fun rb adb Mb hb => ?_)
      obtain ⟨rfl, rfl, hb⟩ := hb
      rcases hb with ⟨jb, hjb, hijb, rfl⟩ | ⟨hnb, rfl⟩
      · refine s_ifnull dX3_load_25 ?_
        refine s_iload dX3_load_28 rfl ?_
        refine s_iconst (v := 2) dX3_load_30 (by decide) ?_
        refine s_icmp_le 53 dX3_load_31 (by decide) (fun c31 => ?_) (fun c31 => ?_)
        · have hn1 : ¬ lC1 α k a b c := fun z => z.elim (fun z => z ⟨ja, by omega, hija⟩) (fun z => z.elim (fun z => z.2 ⟨jb, by omega, hijb⟩) (fun z => absurd z.1 (fun q => absurd ((nI_le_iff (a := tfI k) (b := 2) (by have := tfI_le k; omega) (by omega)).mp c31) (by omega))))
          refine s_iload_n dX3_load_53 rfl ?_
          refine s_iload_n dX3_load_54 rfl ?_
          refine s_iload dX3_load_55 rfl ?_
          refine s_callS (As := [.int k, .int b, .int c]) (rest := []) (n := 3) (fun l hl => c_X3_fits G l hl ad M k b c) gu_X3_load_fits rfl (by decide +kernel) rfl ⟨(Nat.le_of_ble_eq_true rfl), (Nat.le_of_ble_eq_true rfl)⟩ ⟨(Nat.le_of_ble_eq_true rfl), (Nat.le_of_ble_eq_true rfl)⟩ (Nat.le_of_ble_eq_true rfl) dX3_load_57 rfl (fun r9 ad9 M9 h9 => ?_)
          obtain ⟨rfl, rfl, zf, rfl, hzf⟩ := h9
          refine s_if_ne 73 dX3_load_60 (by decide) (fun c60 => ?_) (fun c60 => ?_)
          · have hfk := hzf.mp (Bool.of_not_eq_false (fun z => c60 (jB_0.mpr z)))
            refine s_aload_n dX3_load_73 rfl ?_
            refine s_get (kd := 0) (ix := 0) (ci := 4) (fs := [.ref (ad 7 0), .ref (ad 8 0), .ref (ad 1 0), .ref (ad 3 120), .int (nI (kTc κ)), .int (nI (kRc κ))])  h.1 rfl in_X3_load_X3 5 (by decide) (by decide +kernel) rfl rfl dX3_load_74 ?_
            refine s_bipush (v := 60) dX3_load_77 (by decide) ?_
            refine s_icmp_lt 92 dX3_load_79 (by decide) (fun c79 => ?_) (fun c79 => ?_)
            · have q60 : kRc κ < 60 := nI_lt_mp (b := 60) c79 (by omega) (by omega)
              refine s_aload_n dX3_load_92 rfl ?_
              refine s_get (kd := 0) (ix := 0) (ci := 4) (fs := [.ref (ad 7 0), .ref (ad 8 0), .ref (ad 1 0), .ref (ad 3 120), .int (nI (kTc κ)), .int (nI (kRc κ))])  h.1 rfl in_X3_load_X3 1 (by decide) (by decide +kernel) rfl rfl dX3_load_93 ?_
              refine s_aload_n dX3_load_96 rfl ?_
              refine s_get (kd := 0) (ix := 0) (ci := 4) (fs := [.ref (ad 7 0), .ref (ad 8 0), .ref (ad 1 0), .ref (ad 3 120), .int (nI (kTc κ)), .int (nI (kRc κ))])  h.1 rfl in_X3_load_X3 5 (by decide) (by decide +kernel) rfl rfl dX3_load_97 ?_
              refine s_aald (kd := 8) (ix := 0) (n := 60) (f := fRs ad) (j := kRc κ) (v := .ref (ad 6 (kRc κ))) 4 rfl rfl h.2.2.1 (rfl) (by omega) (by decide) (fRs_in (by omega)) dX3_load_100 ?_
              refine s_iload_n dX3_load_101 rfl ?_
              refine s_iload_n dX3_load_102 rfl ?_
              refine s_iload_n dX3_load_103 rfl ?_
              refine s_iload dX3_load_104 rfl ?_
              refine s_callS (As := [.ref (ad 6 (kRc κ)), .int k, .int a, .int b, .int c]) (rest := []) (n := 5) (fun l hl => c_X3_fillRow G l hl ad M (kRc κ) (kRw κ (kRc κ)) (h.2.2.2.1 (kRc κ) q60) k a b c) gu_X3_load_fillRow rfl (by decide +kernel) rfl ⟨(Nat.le_of_ble_eq_true rfl), (Nat.le_of_ble_eq_true rfl)⟩ ⟨(Nat.le_of_ble_eq_true rfl), (Nat.le_of_ble_eq_true rfl)⟩ (Nat.le_of_ble_eq_true rfl) dX3_load_106 rfl (fun r9 ad9 M9 h9 => ?_)
              obtain ⟨rfl, rfl, f9, rfl, g0, g1, g2, g3, g4, g5, g6, g7⟩ := h9
              refine s_aload_n dX3_load_109 rfl ?_
              refine s_dup dX3_load_110 rfl ?_
              refine s_get (kd := 0) (ix := 0) (ci := 4) (fs := [.ref (ad 7 0), .ref (ad 8 0), .ref (ad 1 0), .ref (ad 3 120), .int (nI (kTc κ)), .int (nI (kRc κ))])  ((sset_k _ _ (by decide)).trans h.1) rfl in_X3_load_X3 5 (by decide) (by decide +kernel) rfl rfl dX3_load_111 ?_
              refine s_iconst (v := 1) dX3_load_114 (by decide) ?_
              refine s_iadd dX3_load_115 ?_
              refine s_eqi (y := nI (kRc κ + 1)) (nI_1 _) ?_
              refine s_put (kd := 0) (ix := 0) (ci := 4) (v := .int (nI (kRc κ + 1))) (ty := tyX3 5) (fs := [.ref (ad 7 0), .ref (ad 8 0), .ref (ad 1 0), .ref (ad 3 120), .int (nI (kTc κ)), .int (nI (kRc κ))])  tyX3 tyX3_ok nmX3 ((sset_k _ _ (by decide)).trans h.1) rfl in_X3_load_X3 5 (by decide) (by decide +kernel) rfl rfl (tyX3_ok 5 (by decide)) (rfl) (rfl) (Nat.le_of_ble_eq_true rfl) dX3_load_116 ?_
              refine s_M (M' := (sset (sset M 6 (kRc κ) (.inl (gI G, 8, .inl f9))) 0 0 (.inr (4, [.ref (ad 7 0), .ref (ad 8 0), .ref (ad 1 0), .ref (ad 3 120), .int (nI (kTc κ)), .int (nI (kRc κ + 1))])))) rfl ?_
              refine s_aload_n dX3_load_119 rfl ?_
              refine s_get (kd := 0) (ix := 0) (ci := 4) (fs := [.ref (ad 7 0), .ref (ad 8 0), .ref (ad 1 0), .ref (ad 3 120), .int (nI (kTc κ)), .int (nI (kRc κ + 1))])  (sset_self _ _ _ _) rfl in_X3_load_X3 5 (by decide) (by decide +kernel) rfl rfl dX3_load_120 ?_
              refine s_iconst (v := 1) dX3_load_123 (by decide) ?_
              refine s_isub dX3_load_124 ?_
              refine s_eqi (y := nI (kRc κ)) (nI_m1 (by omega)) ?_
              exact s_iret rfl (rfl) dX3_load_125 (Nat.le_of_ble_eq_true rfl) (Nat.le_of_ble_eq_true rfl) (⟨rfl, by rw [e2], by omega, hn1, hfk, ((sSame.rfl.set (P := pCk) (by simp [pCk]) _).set (by simp [pCk]) _), _, (h.row (r := kRc κ) f9).obj (kTc κ) (kRc κ + 1), hC.addR (w := ldRow k a b c) (r8 g0 g1 g2 g3 g4 g5 g6 g7)⟩)
            · exact s_throw (cls := eS) (ik := 116) (is := 118) (ic := 120) (text := "60 rows are there") (names := eRs) rfl rfl (by decide +kernel) (by decide +kernel) (List.mem_cons_of_mem _ (inU (by decide +kernel) rfl)) (List.mem_cons_of_mem _ (inU (by decide +kernel) rfl)) (by decide +kernel) xuS xbS xoS dX3_load_82 dX3_load_85 dX3_load_86 dX3_load_88 dX3_load_91 (Nat.le_of_ble_eq_true rfl) (Nat.le_of_ble_eq_true rfl) (Nat.le_of_ble_eq_true rfl) (Nat.le_of_ble_eq_true rfl) (⟨rfl, rfl, Or.inr (Or.inr ⟨rfl, hn1, hfk, by have q9 : ¬ kRc κ < 60 := fun q => c79 (nI_lt_mpr (b := 60) q (by omega)); omega⟩)⟩)
          · exact s_throw (cls := eI) (ik := 45) (is := 114) (ic := 49) (text := "no such row") (names := eRs) rfl rfl (by decide +kernel) (by decide +kernel) (List.mem_cons_of_mem _ (inU (by decide +kernel) rfl)) (List.mem_cons_of_mem _ (inU (by decide +kernel) rfl)) (by decide +kernel) xuI xbI xoI dX3_load_63 dX3_load_66 dX3_load_67 dX3_load_69 dX3_load_72 (Nat.le_of_ble_eq_true rfl) (Nat.le_of_ble_eq_true rfl) (Nat.le_of_ble_eq_true rfl) (Nat.le_of_ble_eq_true rfl) (⟨rfl, rfl, Or.inr (Or.inl ⟨rfl, hn1, fun q => by rw [hzf.mpr q] at c60; exact absurd c60 (by decide)⟩)⟩)
        · refine s_aload_n dX3_load_34 rfl ?_
          refine s_iload dX3_load_35 rfl ?_
          refine s_callV (As := [.int c]) (rest := []) (n := 1) (kd := 0) (ix := 0) (fun l hl => c_X3_treeAt G l hl ad M κ h ht hm hr c) gu_X3_load_treeAt rfl (by decide +kernel) h.1 rfl rfl ⟨(Nat.le_of_ble_eq_true rfl), (Nat.le_of_ble_eq_true rfl)⟩ ⟨(Nat.le_of_ble_eq_true rfl), (Nat.le_of_ble_eq_true rfl)⟩ (Nat.le_of_ble_eq_true rfl) dX3_load_37 rfl (fun rc adc Mc hc => ?_)
          obtain ⟨rfl, rfl, hc⟩ := hc
          rcases hc with ⟨jc, hjc, hijc, rfl⟩ | ⟨hnc, rfl⟩
          · refine s_ifnonnull 53 dX3_load_40 (by decide) ?_
            have hn1 : ¬ lC1 α k a b c := fun z => z.elim (fun z => z ⟨ja, by omega, hija⟩) (fun z => z.elim (fun z => z.2 ⟨jb, by omega, hijb⟩) (fun z => z.2 ⟨jc, by omega, hijc⟩))
            refine s_iload_n dX3_load_53 rfl ?_
            refine s_iload_n dX3_load_54 rfl ?_
            refine s_iload dX3_load_55 rfl ?_
            refine s_callS (As := [.int k, .int b, .int c]) (rest := []) (n := 3) (fun l hl => c_X3_fits G l hl ad M k b c) gu_X3_load_fits rfl (by decide +kernel) rfl ⟨(Nat.le_of_ble_eq_true rfl), (Nat.le_of_ble_eq_true rfl)⟩ ⟨(Nat.le_of_ble_eq_true rfl), (Nat.le_of_ble_eq_true rfl)⟩ (Nat.le_of_ble_eq_true rfl) dX3_load_57 rfl (fun r9 ad9 M9 h9 => ?_)
            obtain ⟨rfl, rfl, zf, rfl, hzf⟩ := h9
            refine s_if_ne 73 dX3_load_60 (by decide) (fun c60 => ?_) (fun c60 => ?_)
            · have hfk := hzf.mp (Bool.of_not_eq_false (fun z => c60 (jB_0.mpr z)))
              refine s_aload_n dX3_load_73 rfl ?_
              refine s_get (kd := 0) (ix := 0) (ci := 4) (fs := [.ref (ad 7 0), .ref (ad 8 0), .ref (ad 1 0), .ref (ad 3 120), .int (nI (kTc κ)), .int (nI (kRc κ))])  h.1 rfl in_X3_load_X3 5 (by decide) (by decide +kernel) rfl rfl dX3_load_74 ?_
              refine s_bipush (v := 60) dX3_load_77 (by decide) ?_
              refine s_icmp_lt 92 dX3_load_79 (by decide) (fun c79 => ?_) (fun c79 => ?_)
              · have q60 : kRc κ < 60 := nI_lt_mp (b := 60) c79 (by omega) (by omega)
                refine s_aload_n dX3_load_92 rfl ?_
                refine s_get (kd := 0) (ix := 0) (ci := 4) (fs := [.ref (ad 7 0), .ref (ad 8 0), .ref (ad 1 0), .ref (ad 3 120), .int (nI (kTc κ)), .int (nI (kRc κ))])  h.1 rfl in_X3_load_X3 1 (by decide) (by decide +kernel) rfl rfl dX3_load_93 ?_
                refine s_aload_n dX3_load_96 rfl ?_
                refine s_get (kd := 0) (ix := 0) (ci := 4) (fs := [.ref (ad 7 0), .ref (ad 8 0), .ref (ad 1 0), .ref (ad 3 120), .int (nI (kTc κ)), .int (nI (kRc κ))])  h.1 rfl in_X3_load_X3 5 (by decide) (by decide +kernel) rfl rfl dX3_load_97 ?_
                refine s_aald (kd := 8) (ix := 0) (n := 60) (f := fRs ad) (j := kRc κ) (v := .ref (ad 6 (kRc κ))) 4 rfl rfl h.2.2.1 (rfl) (by omega) (by decide) (fRs_in (by omega)) dX3_load_100 ?_
                refine s_iload_n dX3_load_101 rfl ?_
                refine s_iload_n dX3_load_102 rfl ?_
                refine s_iload_n dX3_load_103 rfl ?_
                refine s_iload dX3_load_104 rfl ?_
                refine s_callS (As := [.ref (ad 6 (kRc κ)), .int k, .int a, .int b, .int c]) (rest := []) (n := 5) (fun l hl => c_X3_fillRow G l hl ad M (kRc κ) (kRw κ (kRc κ)) (h.2.2.2.1 (kRc κ) q60) k a b c) gu_X3_load_fillRow rfl (by decide +kernel) rfl ⟨(Nat.le_of_ble_eq_true rfl), (Nat.le_of_ble_eq_true rfl)⟩ ⟨(Nat.le_of_ble_eq_true rfl), (Nat.le_of_ble_eq_true rfl)⟩ (Nat.le_of_ble_eq_true rfl) dX3_load_106 rfl (fun r9 ad9 M9 h9 => ?_)
                obtain ⟨rfl, rfl, f9, rfl, g0, g1, g2, g3, g4, g5, g6, g7⟩ := h9
                refine s_aload_n dX3_load_109 rfl ?_
                refine s_dup dX3_load_110 rfl ?_
                refine s_get (kd := 0) (ix := 0) (ci := 4) (fs := [.ref (ad 7 0), .ref (ad 8 0), .ref (ad 1 0), .ref (ad 3 120), .int (nI (kTc κ)), .int (nI (kRc κ))])  ((sset_k _ _ (by decide)).trans h.1) rfl in_X3_load_X3 5 (by decide) (by decide +kernel) rfl rfl dX3_load_111 ?_
                refine s_iconst (v := 1) dX3_load_114 (by decide) ?_
                refine s_iadd dX3_load_115 ?_
                refine s_eqi (y := nI (kRc κ + 1)) (nI_1 _) ?_
                refine s_put (kd := 0) (ix := 0) (ci := 4) (v := .int (nI (kRc κ + 1))) (ty := tyX3 5) (fs := [.ref (ad 7 0), .ref (ad 8 0), .ref (ad 1 0), .ref (ad 3 120), .int (nI (kTc κ)), .int (nI (kRc κ))])  tyX3 tyX3_ok nmX3 ((sset_k _ _ (by decide)).trans h.1) rfl in_X3_load_X3 5 (by decide) (by decide +kernel) rfl rfl (tyX3_ok 5 (by decide)) (rfl) (rfl) (Nat.le_of_ble_eq_true rfl) dX3_load_116 ?_
                refine s_M (M' := (sset (sset M 6 (kRc κ) (.inl (gI G, 8, .inl f9))) 0 0 (.inr (4, [.ref (ad 7 0), .ref (ad 8 0), .ref (ad 1 0), .ref (ad 3 120), .int (nI (kTc κ)), .int (nI (kRc κ + 1))])))) rfl ?_
                refine s_aload_n dX3_load_119 rfl ?_
                refine s_get (kd := 0) (ix := 0) (ci := 4) (fs := [.ref (ad 7 0), .ref (ad 8 0), .ref (ad 1 0), .ref (ad 3 120), .int (nI (kTc κ)), .int (nI (kRc κ + 1))])  (sset_self _ _ _ _) rfl in_X3_load_X3 5 (by decide) (by decide +kernel) rfl rfl dX3_load_120 ?_
                refine s_iconst (v := 1) dX3_load_123 (by decide) ?_
                refine s_isub dX3_load_124 ?_
                refine s_eqi (y := nI (kRc κ)) (nI_m1 (by omega)) ?_
                exact s_iret rfl (rfl) dX3_load_125 (Nat.le_of_ble_eq_true rfl) (Nat.le_of_ble_eq_true rfl) (⟨rfl, by rw [e2], by omega, hn1, hfk, ((sSame.rfl.set (P := pCk) (by simp [pCk]) _).set (by simp [pCk]) _), _, (h.row (r := kRc κ) f9).obj (kTc κ) (kRc κ + 1), hC.addR (w := ldRow k a b c) (r8 g0 g1 g2 g3 g4 g5 g6 g7)⟩)
              · exact s_throw (cls := eS) (ik := 116) (is := 118) (ic := 120) (text := "60 rows are there") (names := eRs) rfl rfl (by decide +kernel) (by decide +kernel) (List.mem_cons_of_mem _ (inU (by decide +kernel) rfl)) (List.mem_cons_of_mem _ (inU (by decide +kernel) rfl)) (by decide +kernel) xuS xbS xoS dX3_load_82 dX3_load_85 dX3_load_86 dX3_load_88 dX3_load_91 (Nat.le_of_ble_eq_true rfl) (Nat.le_of_ble_eq_true rfl) (Nat.le_of_ble_eq_true rfl) (Nat.le_of_ble_eq_true rfl) (⟨rfl, rfl, Or.inr (Or.inr ⟨rfl, hn1, hfk, by have q9 : ¬ kRc κ < 60 := fun q => c79 (nI_lt_mpr (b := 60) q (by omega)); omega⟩)⟩)
            · exact s_throw (cls := eI) (ik := 45) (is := 114) (ic := 49) (text := "no such row") (names := eRs) rfl rfl (by decide +kernel) (by decide +kernel) (List.mem_cons_of_mem _ (inU (by decide +kernel) rfl)) (List.mem_cons_of_mem _ (inU (by decide +kernel) rfl)) (by decide +kernel) xuI xbI xoI dX3_load_63 dX3_load_66 dX3_load_67 dX3_load_69 dX3_load_72 (Nat.le_of_ble_eq_true rfl) (Nat.le_of_ble_eq_true rfl) (Nat.le_of_ble_eq_true rfl) (Nat.le_of_ble_eq_true rfl) (⟨rfl, rfl, Or.inr (Or.inl ⟨rfl, hn1, fun q => by rw [hzf.mpr q] at c60; exact absurd c60 (by decide)⟩)⟩)
          · refine s_ifnonnullN dX3_load_40 ?_
            exact s_throw (cls := eA) (ik := 82) (is := 84) (ic := 86) (text := "no such tree") (names := eAs) rfl rfl (by decide +kernel) (by decide +kernel) (List.mem_cons_of_mem _ (inU (by decide +kernel) rfl)) (List.mem_cons_of_mem _ (inU (by decide +kernel) rfl)) (by decide +kernel) xuA xbA xoA dX3_load_43 dX3_load_46 dX3_load_47 dX3_load_49 dX3_load_52 (Nat.le_of_ble_eq_true rfl) (Nat.le_of_ble_eq_true rfl) (Nat.le_of_ble_eq_true rfl) (Nat.le_of_ble_eq_true rfl) (⟨rfl, rfl, Or.inl ⟨rfl, Or.inr (Or.inr ⟨(nI_lt_mp (a := 2) (Int32.not_le.mp c31) (by omega) (by have := tfI_le k; omega)), (fun ⟨j, hj, q⟩ => hnc j (by omega) q)⟩)⟩⟩)
      · refine s_ifnullN 43 dX3_load_25 (by decide) ?_
        exact s_throw (cls := eA) (ik := 82) (is := 84) (ic := 86) (text := "no such tree") (names := eAs) rfl rfl (by decide +kernel) (by decide +kernel) (List.mem_cons_of_mem _ (inU (by decide +kernel) rfl)) (List.mem_cons_of_mem _ (inU (by decide +kernel) rfl)) (by decide +kernel) xuA xbA xoA dX3_load_43 dX3_load_46 dX3_load_47 dX3_load_49 dX3_load_52 (Nat.le_of_ble_eq_true rfl) (Nat.le_of_ble_eq_true rfl) (Nat.le_of_ble_eq_true rfl) (Nat.le_of_ble_eq_true rfl) (⟨rfl, rfl, Or.inl ⟨rfl, Or.inr (Or.inl ⟨(nI_lt_mp (a := 1) (Int32.not_le.mp c17) (by omega) (by have := tfI_le k; omega)), (fun ⟨j, hj, q⟩ => hnb j (by omega) q)⟩)⟩⟩)
  · refine s_ifnullN 43 dX3_load_11 (by decide) ?_
    exact s_throw (cls := eA) (ik := 82) (is := 84) (ic := 86) (text := "no such tree") (names := eAs) rfl rfl (by decide +kernel) (by decide +kernel) (List.mem_cons_of_mem _ (inU (by decide +kernel) rfl)) (List.mem_cons_of_mem _ (inU (by decide +kernel) rfl)) (by decide +kernel) xuA xbA xoA dX3_load_43 dX3_load_46 dX3_load_47 dX3_load_49 dX3_load_52 (Nat.le_of_ble_eq_true rfl) (Nat.le_of_ble_eq_true rfl) (Nat.le_of_ble_eq_true rfl) (Nat.le_of_ble_eq_true rfl) (⟨rfl, rfl, Or.inl ⟨rfl, Or.inl (fun ⟨j, hj, q⟩ => hna j (by omega) q)⟩⟩)
def wuX3_cofactor : List Cond := .code yX3_cofactor cX3_cofactor 3 none :: wU
abbrev mX3_cofactor : sMeth := (cX3_cofactor, 3, RX3, wuX3_cofactor, { frames := 7, cells := 1, slots := 6, locals := 103 }, none, "cofactor", [])
theorem in_X3_cofactor_X3 : ∀ w ∈ wsX30, w ∈ wuX3_cofactor := fun w hw => List.mem_cons_of_mem _ (inU (iu_X3 w hw).1 (iu_X3 w hw).2)
theorem gu_X3_cofactor_isRow : GoodIn wuX3_cofactor (wsV RX3 125 RX3 yX3_isRow wsX3_isRow) := goodUW (by decide +kernel)
theorem gu_X3_cofactor_treeAt : GoodIn wuX3_cofactor (wsV RX3 78 RX3 yX3_treeAt wsX3_treeAt) := goodUW (by decide +kernel)
set_option maxHeartbeats 4000000 in
set_option maxRecDepth 100000 in
theorem c_X3_cofactor (G : sG) (l : Launch) (hl : l.stackTraces = false) (ad : sAd) (M : sM) (α : sAl) (hA : AI α) (κ : sCk) (h : hCk G ad M κ) (hC : CI α κ) (row t : Int32) : sMet G l yX3_cofactor mX3_cofactor [.ref (ad 0 0), .int row, .int t] ad M (fun r ad' M' => ad = ad' ∧ r = none ∧ ∃ jr, jr < aR α ∧ row = nI jr ∧ isT α t ∧ aRw α jr 0 = 6 ∧ sSame pCk M M' ∧ cI G ad M' (setR α jr (updF (aRw α jr) 4 t))) (fun E ad' M' => ad = ad' ∧ M = M' ∧ ((E = eA ∧ (¬ isR α row ∨ ¬ isT α t)) ∨ (E = eI ∧ ∃ jr, jr < aR α ∧ row = nI jr ∧ isT α t ∧ aRw α jr 0 ≠ 6))) := by
  obtain ⟨e1, e2, ht, hm, hC1, hC2, hC3, hC4, f, hR⟩ := id hC
  have hA1 := hA.1
  have hA2 := hA.2.1
  have hr : kRc κ ≤ 60 := by omega
  refine sMet.of hl (by decide +kernel) rfl rfl rfl rfl (Nat.le_of_ble_eq_true rfl) (fun X => ?_)
  refine s_lv (lv' := [some (.ref (ad 0 0)), some (.int row), some (.int t)]) rfl ?_
  refine s_aload_n dX3_cofactor_0 rfl ?_
  refine s_iload_n dX3_cofactor_1 rfl ?_
  refine s_callV (As := [.int row]) (rest := []) (n := 1) (kd := 0) (ix := 0) (fun l hl => c_X3_isRow G l hl ad M κ h ht hm hr row) gu_X3_cofactor_isRow rfl (by decide +kernel) h.1 rfl rfl ⟨(Nat.le_of_ble_eq_true rfl), (Nat.le_of_ble_eq_true rfl)⟩ ⟨(Nat.le_of_ble_eq_true rfl), (Nat.le_of_ble_eq_true rfl)⟩ (Nat.le_of_ble_eq_true rfl) dX3_cofactor_2 rfl (fun r9 ad9 M9 h9 => ?_)
  obtain ⟨rfl, rfl, zr, rfl, hzr⟩ := h9
  refine s_if_eq 16 dX3_cofactor_5 (by decide) (fun c5 => ?_) (fun c5 => ?_)
  · exact s_throw (cls := eA) (ik := 82) (is := 128) (ic := 86) (text := "no such row or tree") (names := eAs) rfl rfl (by decide +kernel) (by decide +kernel) (List.mem_cons_of_mem _ (inU (by decide +kernel) rfl)) (List.mem_cons_of_mem _ (inU (by decide +kernel) rfl)) (by decide +kernel) xuA xbA xoA dX3_cofactor_16 dX3_cofactor_19 dX3_cofactor_20 dX3_cofactor_22 dX3_cofactor_25 (Nat.le_of_ble_eq_true rfl) (Nat.le_of_ble_eq_true rfl) (Nat.le_of_ble_eq_true rfl) (Nat.le_of_ble_eq_true rfl) (⟨rfl, rfl, Or.inl ⟨rfl, Or.inl (fun ⟨j, hj, q⟩ => by have z := hzr.mpr ⟨j, by omega, q⟩; rw [jB_0.mp c5] at z; cases z)⟩⟩)
  · obtain ⟨jr, hjr, hijr⟩ := hzr.mp (Bool.of_not_eq_false (fun z => c5 (jB_0.mpr z)))
    refine s_aload_n dX3_cofactor_8 rfl ?_
    refine s_iload_n dX3_cofactor_9 rfl ?_
    refine s_callV (As := [.int t]) (rest := []) (n := 1) (kd := 0) (ix := 0) (fun l hl => c_X3_treeAt G l hl ad M κ h ht hm hr t) gu_X3_cofactor_treeAt rfl (by decide +kernel) h.1 rfl rfl ⟨(Nat.le_of_ble_eq_true rfl), (Nat.le_of_ble_eq_true rfl)⟩ ⟨(Nat.le_of_ble_eq_true rfl), (Nat.le_of_ble_eq_true rfl)⟩ (Nat.le_of_ble_eq_true rfl) dX3_cofactor_10 rfl (fun rt adt Mt ht => ?_)
    obtain ⟨rfl, rfl, ht⟩ := ht
    rcases ht with ⟨jt, hjt, hijt, rfl⟩ | ⟨hnt, rfl⟩
    · refine s_ifnonnull 26 dX3_cofactor_13 (by decide) ?_
      refine s_aload_n dX3_cofactor_26 rfl ?_
      refine s_get (kd := 0) (ix := 0) (ci := 4) (fs := [.ref (ad 7 0), .ref (ad 8 0), .ref (ad 1 0), .ref (ad 3 120), .int (nI (kTc κ)), .int (nI (kRc κ))])  h.1 rfl in_X3_cofactor_X3 1 (by decide) (by decide +kernel) rfl rfl dX3_cofactor_27 ?_
      refine s_iload_n dX3_cofactor_30 rfl ?_
      refine s_aald (kd := 8) (ix := 0) (n := 60) (f := fRs ad) (j := jr) (v := .ref (ad 6 jr)) 4 rfl rfl h.2.2.1 (hijr) (by omega) (by decide) (fRs_in (by omega)) dX3_cofactor_31 ?_
      refine s_iconst (v := 0) dX3_cofactor_32 (by decide) ?_
      refine s_iald (kd := 6) (ix := jr) (n := 8) (f := kRw κ jr) (j := 0) ((h.2.2.2.1 jr (by omega))) (by decide) (by decide) (by decide) dX3_cofactor_33 ?_
      refine s_eqi (y := aRw α jr 0) (hC3 jr (by omega) 0 (by omega)) ?_
      refine s_bipush (v := 6) dX3_cofactor_34 (by decide) ?_
      refine s_icmp_eq 49 dX3_cofactor_36 (by decide) (fun c36 => ?_) (fun c36 => ?_)
      · refine s_aload_n dX3_cofactor_49 rfl ?_
        refine s_get (kd := 0) (ix := 0) (ci := 4) (fs := [.ref (ad 7 0), .ref (ad 8 0), .ref (ad 1 0), .ref (ad 3 120), .int (nI (kTc κ)), .int (nI (kRc κ))])  h.1 rfl in_X3_cofactor_X3 1 (by decide) (by decide +kernel) rfl rfl dX3_cofactor_50 ?_
        refine s_iload_n dX3_cofactor_53 rfl ?_
        refine s_aald (kd := 8) (ix := 0) (n := 60) (f := fRs ad) (j := jr) (v := .ref (ad 6 jr)) 4 rfl rfl h.2.2.1 (hijr) (by omega) (by decide) (fRs_in (by omega)) dX3_cofactor_54 ?_
        refine s_iconst (v := 4) dX3_cofactor_55 (by decide) ?_
        refine s_iload_n dX3_cofactor_56 rfl ?_
        refine s_iast (kd := 6) (ix := jr) (n := 8) (f := kRw κ jr) (j := 4) (x := t) ((h.2.2.2.1 jr (by omega)))  (by decide) (by decide) (by decide) dX3_cofactor_57 ?_
        exact s_vret rfl dX3_cofactor_58 (Nat.le_of_ble_eq_true rfl) (Nat.le_of_ble_eq_true rfl) (⟨rfl, rfl, jr, by omega, hijr, ⟨jt, by omega, hijt⟩, c36, sSame.rfl.set (P := pCk) (by simp [pCk]) _, _, h.row (r := jr) _, hC.setR (fun i hi => upd_eq (hC3 jr (by omega)) i hi)⟩)
      · exact s_throw (cls := eI) (ik := 45) (is := 130) (ic := 49) (text := "a row of this kind has no cofactor") (names := eRs) rfl rfl (by decide +kernel) (by decide +kernel) (List.mem_cons_of_mem _ (inU (by decide +kernel) rfl)) (List.mem_cons_of_mem _ (inU (by decide +kernel) rfl)) (by decide +kernel) xuI xbI xoI dX3_cofactor_39 dX3_cofactor_42 dX3_cofactor_43 dX3_cofactor_45 dX3_cofactor_48 (Nat.le_of_ble_eq_true rfl) (Nat.le_of_ble_eq_true rfl) (Nat.le_of_ble_eq_true rfl) (Nat.le_of_ble_eq_true rfl) (⟨rfl, rfl, Or.inr ⟨rfl, jr, by omega, hijr, ⟨jt, by omega, hijt⟩, c36⟩⟩)
    · refine s_ifnonnullN dX3_cofactor_13 ?_
      exact s_throw (cls := eA) (ik := 82) (is := 128) (ic := 86) (text := "no such row or tree") (names := eAs) rfl rfl (by decide +kernel) (by decide +kernel) (List.mem_cons_of_mem _ (inU (by decide +kernel) rfl)) (List.mem_cons_of_mem _ (inU (by decide +kernel) rfl)) (by decide +kernel) xuA xbA xoA dX3_cofactor_16 dX3_cofactor_19 dX3_cofactor_20 dX3_cofactor_22 dX3_cofactor_25 (Nat.le_of_ble_eq_true rfl) (Nat.le_of_ble_eq_true rfl) (Nat.le_of_ble_eq_true rfl) (Nat.le_of_ble_eq_true rfl) (⟨rfl, rfl, Or.inl ⟨rfl, Or.inr (fun ⟨j, hj, q⟩ => hnt j (by omega) q)⟩⟩)
def wuX3_sample : List Cond := .code yX3_sample cX3_sample 4 none :: wU
abbrev mX3_sample : sMeth := (cX3_sample, 4, RX3, wuX3_sample, { frames := 7, cells := 1, slots := 6, locals := 103 }, none, "sample", [])
theorem in_X3_sample_X3 : ∀ w ∈ wsX30, w ∈ wuX3_sample := fun w hw => List.mem_cons_of_mem _ (inU (iu_X3 w hw).1 (iu_X3 w hw).2)
theorem gu_X3_sample_isRow : GoodIn wuX3_sample (wsV RX3 125 RX3 yX3_isRow wsX3_isRow) := goodUW (by decide +kernel)
theorem gu_X3_sample_isLetter : GoodIn wuX3_sample (va_wsS RX3 41 yX3_isLetter wsX3_isLetter) := goodUW (by decide +kernel)
theorem gu_X3_sample_isSampleNumber : GoodIn wuX3_sample (va_wsS RX3 134 yX3_isSampleNumber wsX3_isSampleNumber) := goodUW (by decide +kernel)
set_option maxHeartbeats 4000000 in
set_option maxRecDepth 100000 in
theorem c_X3_sample (G : sG) (l : Launch) (hl : l.stackTraces = false) (ad : sAd) (M : sM) (α : sAl) (hA : AI α) (κ : sCk) (h : hCk G ad M κ) (hC : CI α κ) (row letter v : Int32) : sMet G l yX3_sample mX3_sample [.ref (ad 0 0), .int row, .int letter, .int v] ad M (fun r ad' M' => ad = ad' ∧ r = none ∧ ∃ jr lt, jr < aR α ∧ row = nI jr ∧ lt ≤ 2 ∧ letter = nI lt ∧ (-10 ≤ v ∧ v ≤ 10) ∧ sSame pCk M M' ∧ cI G ad M' (setR α jr (updF (aRw α jr) (5 + lt) v))) (fun E ad' M' => ad = ad' ∧ M = M' ∧ ((E = eA ∧ (¬ isR α row ∨ ¬ (0 ≤ letter ∧ letter < 3))) ∨ (E = eI ∧ isR α row ∧ (0 ≤ letter ∧ letter < 3) ∧ ¬ (-10 ≤ v ∧ v ≤ 10)))) := by
  obtain ⟨e1, e2, ht, hm, hC1, hC2, hC3, hC4, f, hR⟩ := id hC
  have hA1 := hA.1
  have hA2 := hA.2.1
  have hr : kRc κ ≤ 60 := by omega
  refine sMet.of hl (by decide +kernel) rfl rfl rfl rfl (Nat.le_of_ble_eq_true rfl) (fun X => ?_)
  refine s_lv (lv' := [some (.ref (ad 0 0)), some (.int row), some (.int letter), some (.int v)]) rfl ?_
  refine s_aload_n dX3_sample_0 rfl ?_
  refine s_iload_n dX3_sample_1 rfl ?_
  refine s_callV (As := [.int row]) (rest := []) (n := 1) (kd := 0) (ix := 0) (fun l hl => c_X3_isRow G l hl ad M κ h ht hm hr row) gu_X3_sample_isRow rfl (by decide +kernel) h.1 rfl rfl ⟨(Nat.le_of_ble_eq_true rfl), (Nat.le_of_ble_eq_true rfl)⟩ ⟨(Nat.le_of_ble_eq_true rfl), (Nat.le_of_ble_eq_true rfl)⟩ (Nat.le_of_ble_eq_true rfl) dX3_sample_2 rfl (fun r9 ad9 M9 h9 => ?_)
  obtain ⟨rfl, rfl, zr, rfl, hzr⟩ := h9
  refine s_if_eq 15 dX3_sample_5 (by decide) (fun c5 => ?_) (fun c5 => ?_)
  · exact s_throw (cls := eA) (ik := 82) (is := 132) (ic := 86) (text := "no such row or letter") (names := eAs) rfl rfl (by decide +kernel) (by decide +kernel) (List.mem_cons_of_mem _ (inU (by decide +kernel) rfl)) (List.mem_cons_of_mem _ (inU (by decide +kernel) rfl)) (by decide +kernel) xuA xbA xoA dX3_sample_15 dX3_sample_18 dX3_sample_19 dX3_sample_21 dX3_sample_24 (Nat.le_of_ble_eq_true rfl) (Nat.le_of_ble_eq_true rfl) (Nat.le_of_ble_eq_true rfl) (Nat.le_of_ble_eq_true rfl) (⟨rfl, rfl, Or.inl ⟨rfl, Or.inl (fun ⟨j, hj, q⟩ => by have z := hzr.mpr ⟨j, by omega, q⟩; rw [jB_0.mp c5] at z; cases z)⟩⟩)
  · obtain ⟨jr, hjr, hijr⟩ := hzr.mp (Bool.of_not_eq_false (fun z => c5 (jB_0.mpr z)))
    refine s_iload_n dX3_sample_8 rfl ?_
    refine s_callS (As := [.int letter]) (rest := []) (n := 1) (fun l hl => c_X3_isLetter G l hl ad M letter) gu_X3_sample_isLetter rfl (by decide +kernel) rfl ⟨(Nat.le_of_ble_eq_true rfl), (Nat.le_of_ble_eq_true rfl)⟩ ⟨(Nat.le_of_ble_eq_true rfl), (Nat.le_of_ble_eq_true rfl)⟩ (Nat.le_of_ble_eq_true rfl) dX3_sample_9 rfl (fun r9 ad9 M9 h9 => ?_)
    obtain ⟨rfl, rfl, rfl⟩ := h9
    refine s_if_ne 25 dX3_sample_12 (by decide) (fun c12 => ?_) (fun c12 => ?_)
    · have hlet := of_decide_eq_true (Bool.of_not_eq_false (fun z => c12 (jB_0.mpr z)))
      refine s_iload_n dX3_sample_25 rfl ?_
      refine s_callS (As := [.int v]) (rest := []) (n := 1) (fun l hl => c_X3_isSampleNumber G l hl ad M v) gu_X3_sample_isSampleNumber rfl (by decide +kernel) rfl ⟨(Nat.le_of_ble_eq_true rfl), (Nat.le_of_ble_eq_true rfl)⟩ ⟨(Nat.le_of_ble_eq_true rfl), (Nat.le_of_ble_eq_true rfl)⟩ (Nat.le_of_ble_eq_true rfl) dX3_sample_26 rfl (fun r9 ad9 M9 h9 => ?_)
      obtain ⟨rfl, rfl, rfl⟩ := h9
      refine s_if_ne 42 dX3_sample_29 (by decide) (fun c29 => ?_) (fun c29 => ?_)
      · obtain ⟨lt, hl2, hlt⟩ := let3.mp hlet
        have hvv := of_decide_eq_true (Bool.of_not_eq_false (fun z => c29 (jB_0.mpr z)))
        refine s_aload_n dX3_sample_42 rfl ?_
        refine s_get (kd := 0) (ix := 0) (ci := 4) (fs := [.ref (ad 7 0), .ref (ad 8 0), .ref (ad 1 0), .ref (ad 3 120), .int (nI (kTc κ)), .int (nI (kRc κ))])  h.1 rfl in_X3_sample_X3 1 (by decide) (by decide +kernel) rfl rfl dX3_sample_43 ?_
        refine s_iload_n dX3_sample_46 rfl ?_
        refine s_aald (kd := 8) (ix := 0) (n := 60) (f := fRs ad) (j := jr) (v := .ref (ad 6 jr)) 4 rfl rfl h.2.2.1 (hijr) (by omega) (by decide) (fRs_in (by omega)) dX3_sample_47 ?_
        refine s_iconst (v := 5) dX3_sample_48 (by decide) ?_
        refine s_iload_n dX3_sample_49 rfl ?_
        refine s_iadd dX3_sample_50 ?_
        refine s_eqi (y := nI (5 + lt)) (by rw [hlt]; exact nI_add 5 lt) ?_
        refine s_iload_n dX3_sample_51 rfl ?_
        refine s_iast (kd := 6) (ix := jr) (n := 8) (f := kRw κ jr) (j := 5 + lt) (x := v) ((h.2.2.2.1 jr (by omega)))  (rfl) (by omega) (by decide) dX3_sample_52 ?_
        exact s_vret rfl dX3_sample_53 (Nat.le_of_ble_eq_true rfl) (Nat.le_of_ble_eq_true rfl) (⟨rfl, rfl, jr, lt, by omega, hijr, hl2, hlt, hvv, sSame.rfl.set (P := pCk) (by simp [pCk]) _, _, h.row (r := jr) _, hC.setR (fun i hi => upd_eq (hC3 jr (by omega)) i hi)⟩)
      · exact s_throw (cls := eI) (ik := 45) (is := 137) (ic := 49) (text := "no such number in a sample") (names := eRs) rfl rfl (by decide +kernel) (by decide +kernel) (List.mem_cons_of_mem _ (inU (by decide +kernel) rfl)) (List.mem_cons_of_mem _ (inU (by decide +kernel) rfl)) (by decide +kernel) xuI xbI xoI dX3_sample_32 dX3_sample_35 dX3_sample_36 dX3_sample_38 dX3_sample_41 (Nat.le_of_ble_eq_true rfl) (Nat.le_of_ble_eq_true rfl) (Nat.le_of_ble_eq_true rfl) (Nat.le_of_ble_eq_true rfl) (⟨rfl, rfl, Or.inr ⟨rfl, ⟨jr, by omega, hijr⟩, hlet, of_decide_eq_false (jB_0.mp c29)⟩⟩)
    · exact s_throw (cls := eA) (ik := 82) (is := 132) (ic := 86) (text := "no such row or letter") (names := eAs) rfl rfl (by decide +kernel) (by decide +kernel) (List.mem_cons_of_mem _ (inU (by decide +kernel) rfl)) (List.mem_cons_of_mem _ (inU (by decide +kernel) rfl)) (by decide +kernel) xuA xbA xoA dX3_sample_15 dX3_sample_18 dX3_sample_19 dX3_sample_21 dX3_sample_24 (Nat.le_of_ble_eq_true rfl) (Nat.le_of_ble_eq_true rfl) (Nat.le_of_ble_eq_true rfl) (Nat.le_of_ble_eq_true rfl) (⟨rfl, rfl, Or.inl ⟨rfl, Or.inr (of_decide_eq_false (jB_0.mp c12))⟩⟩)
def wuX3_rowAt : List Cond := .code yX3_rowAt cX3_rowAt 3 (some .int) :: wU
abbrev mX3_rowAt : sMeth := (cX3_rowAt, 3, RX3, wuX3_rowAt, { frames := 7, cells := 1, slots := 6, locals := 103 }, (some .int), "rowAt", [])
theorem in_X3_rowAt_X3 : ∀ w ∈ wsX30, w ∈ wuX3_rowAt := fun w hw => List.mem_cons_of_mem _ (inU (iu_X3 w hw).1 (iu_X3 w hw).2)
theorem gu_X3_rowAt_isRow : GoodIn wuX3_rowAt (wsV RX3 125 RX3 yX3_isRow wsX3_isRow) := goodUW (by decide +kernel)
set_option maxHeartbeats 4000000 in
set_option maxRecDepth 100000 in
theorem c_X3_rowAt (G : sG) (l : Launch) (hl : l.stackTraces = false) (ad : sAd) (M : sM) (α : sAl) (hA : AI α) (κ : sCk) (h : hCk G ad M κ) (hC : CI α κ) (row what : Int32) : sMet G l yX3_rowAt mX3_rowAt [.ref (ad 0 0), .int row, .int what] ad M (fun r ad' M' => ad = ad' ∧ M = M' ∧ ∃ jr x, jr < aR α ∧ row = nI jr ∧ x < 8 ∧ what = nI x ∧ r = some (.int (aRw α jr x))) (fun E ad' M' => ad = ad' ∧ M = M' ∧ E = eA ∧ (¬ isR α row ∨ ¬ (0 ≤ what ∧ what < 8))) := by
  obtain ⟨e1, e2, ht, hm, hC1, hC2, hC3, hC4, f, hR⟩ := id hC
  have hA1 := hA.1
  have hA2 := hA.2.1
  have hr : kRc κ ≤ 60 := by omega
  refine sMet.of hl (by decide +kernel) rfl rfl rfl rfl (Nat.le_of_ble_eq_true rfl) (fun X => ?_)
  refine s_lv (lv' := [some (.ref (ad 0 0)), some (.int row), some (.int what)]) rfl ?_
  refine s_aload_n dX3_rowAt_0 rfl ?_
  refine s_iload_n dX3_rowAt_1 rfl ?_
  refine s_callV (As := [.int row]) (rest := []) (n := 1) (kd := 0) (ix := 0) (fun l hl => c_X3_isRow G l hl ad M κ h ht hm hr row) gu_X3_rowAt_isRow rfl (by decide +kernel) h.1 rfl rfl ⟨(Nat.le_of_ble_eq_true rfl), (Nat.le_of_ble_eq_true rfl)⟩ ⟨(Nat.le_of_ble_eq_true rfl), (Nat.le_of_ble_eq_true rfl)⟩ (Nat.le_of_ble_eq_true rfl) dX3_rowAt_2 rfl (fun r9 ad9 M9 h9 => ?_)
  obtain ⟨rfl, rfl, zr, rfl, hzr⟩ := h9
  refine s_if_eq 18 dX3_rowAt_5 (by decide) (fun c5 => ?_) (fun c5 => ?_)
  · exact s_throw (cls := eA) (ik := 82) (is := 145) (ic := 86) (text := "nothing such in a row") (names := eAs) rfl rfl (by decide +kernel) (by decide +kernel) (List.mem_cons_of_mem _ (inU (by decide +kernel) rfl)) (List.mem_cons_of_mem _ (inU (by decide +kernel) rfl)) (by decide +kernel) xuA xbA xoA dX3_rowAt_18 dX3_rowAt_21 dX3_rowAt_22 dX3_rowAt_24 dX3_rowAt_27 (Nat.le_of_ble_eq_true rfl) (Nat.le_of_ble_eq_true rfl) (Nat.le_of_ble_eq_true rfl) (Nat.le_of_ble_eq_true rfl) (⟨rfl, rfl, rfl, Or.inl (fun ⟨j, hj, q⟩ => by have z := hzr.mpr ⟨j, by omega, q⟩; rw [jB_0.mp c5] at z; cases z)⟩)
  · obtain ⟨jr, hjr, hijr⟩ := hzr.mp (Bool.of_not_eq_false (fun z => c5 (jB_0.mpr z)))
    refine s_iload_n dX3_rowAt_8 rfl ?_
    refine s_if_lt 18 dX3_rowAt_9 (by decide) (fun c9 => ?_) (fun c9 => ?_)
    · exact s_throw (cls := eA) (ik := 82) (is := 145) (ic := 86) (text := "nothing such in a row") (names := eAs) rfl rfl (by decide +kernel) (by decide +kernel) (List.mem_cons_of_mem _ (inU (by decide +kernel) rfl)) (List.mem_cons_of_mem _ (inU (by decide +kernel) rfl)) (by decide +kernel) xuA xbA xoA dX3_rowAt_18 dX3_rowAt_21 dX3_rowAt_22 dX3_rowAt_24 dX3_rowAt_27 (Nat.le_of_ble_eq_true rfl) (Nat.le_of_ble_eq_true rfl) (Nat.le_of_ble_eq_true rfl) (Nat.le_of_ble_eq_true rfl) (⟨rfl, rfl, rfl, Or.inr (fun q => absurd q.1 (Int32.not_le.mpr c9))⟩)
    · refine s_iload_n dX3_rowAt_12 rfl ?_
      refine s_bipush (v := 8) dX3_rowAt_13 (by decide) ?_
      refine s_icmp_lt 28 dX3_rowAt_15 (by decide) (fun c15 => ?_) (fun c15 => ?_)
      · obtain ⟨x, hx, hxe⟩ : ∃ x, x < 8 ∧ what = nI x := (pk_ix what (n := 8) (by omega)).elim (fun q => absurd q c9) (fun q => q.elim (fun q => absurd q (Int32.not_le.mpr c15)) id)
        refine s_aload_n dX3_rowAt_28 rfl ?_
        refine s_get (kd := 0) (ix := 0) (ci := 4) (fs := [.ref (ad 7 0), .ref (ad 8 0), .ref (ad 1 0), .ref (ad 3 120), .int (nI (kTc κ)), .int (nI (kRc κ))])  h.1 rfl in_X3_rowAt_X3 1 (by decide) (by decide +kernel) rfl rfl dX3_rowAt_29 ?_
        refine s_iload_n dX3_rowAt_32 rfl ?_
        refine s_aald (kd := 8) (ix := 0) (n := 60) (f := fRs ad) (j := jr) (v := .ref (ad 6 jr)) 4 rfl rfl h.2.2.1 (hijr) (by omega) (by decide) (fRs_in (by omega)) dX3_rowAt_33 ?_
        refine s_iload_n dX3_rowAt_34 rfl ?_
        refine s_iald (kd := 6) (ix := jr) (n := 8) (f := kRw κ jr) (j := x) ((h.2.2.2.1 jr (by omega))) (hxe) (by omega) (by decide) dX3_rowAt_35 ?_
        refine s_eqi (y := aRw α jr x) (hC3 jr (by omega) x hx) ?_
        exact s_iret rfl (rfl) dX3_rowAt_36 (Nat.le_of_ble_eq_true rfl) (Nat.le_of_ble_eq_true rfl) (⟨rfl, rfl, jr, x, by omega, hijr, hx, hxe, rfl⟩)
      · exact s_throw (cls := eA) (ik := 82) (is := 145) (ic := 86) (text := "nothing such in a row") (names := eAs) rfl rfl (by decide +kernel) (by decide +kernel) (List.mem_cons_of_mem _ (inU (by decide +kernel) rfl)) (List.mem_cons_of_mem _ (inU (by decide +kernel) rfl)) (by decide +kernel) xuA xbA xoA dX3_rowAt_18 dX3_rowAt_21 dX3_rowAt_22 dX3_rowAt_24 dX3_rowAt_27 (Nat.le_of_ble_eq_true rfl) (Nat.le_of_ble_eq_true rfl) (Nat.le_of_ble_eq_true rfl) (Nat.le_of_ble_eq_true rfl) (⟨rfl, rfl, rfl, Or.inr (fun q => absurd q.2 c15)⟩)
def wuX3_count : List Cond := .code yX3_count cX3_count 2 (some .int) :: wU
abbrev mX3_count : sMeth := (cX3_count, 2, RX3, wuX3_count, { frames := 0, cells := 0, slots := 0, locals := 0 }, (some .int), "count", [])
theorem in_X3_count_X3 : ∀ w ∈ wsX30, w ∈ wuX3_count := fun w hw => List.mem_cons_of_mem _ (inU (iu_X3 w hw).1 (iu_X3 w hw).2)
set_option maxHeartbeats 4000000 in
set_option maxRecDepth 100000 in
theorem c_X3_count (G : sG) (l : Launch) (hl : l.stackTraces = false) (ad : sAd) (M : sM) (α : sAl) (hA : AI α) (κ : sCk) (h : hCk G ad M κ) (hC : CI α κ) (what : Int32) : sMet G l yX3_count mX3_count [.ref (ad 0 0), .int what] ad M (fun r ad' M' => ad = ad' ∧ M = M' ∧ r = some (.int (if what = 0 then nI (aT α) else if what = 1 then nI (aR α) else if what = 2 then 7 else -1))) (fun _ _ _ => False) := by
  obtain ⟨e1, e2, ht, hm, hC1, hC2, hC3, hC4, f, hR⟩ := id hC
  have hA1 := hA.1
  have hA2 := hA.2.1
  have hr : kRc κ ≤ 60 := by omega
  refine sMet.of hl (by decide +kernel) rfl rfl rfl rfl (Nat.le_of_ble_eq_true rfl) (fun X => ?_)
  refine s_lv (lv' := [some (.ref (ad 0 0)), some (.int what)]) rfl ?_
  refine s_iload_n dX3_count_0 rfl ?_
  by_cases q0 : what = 0
  · refine s_tableIn 28 dX3_count_1 (by rw [q0]; decide) (by rw [q0]; decide) (by rw [q0]; rfl) (by decide) ?_
    refine s_aload_n dX3_count_28 rfl ?_
    refine s_get (kd := 0) (ix := 0) (ci := 4) (fs := [.ref (ad 7 0), .ref (ad 8 0), .ref (ad 1 0), .ref (ad 3 120), .int (nI (kTc κ)), .int (nI (kRc κ))])  h.1 rfl in_X3_count_X3 4 (by decide) (by decide +kernel) rfl rfl dX3_count_29 ?_
    exact s_iret rfl (rfl) dX3_count_32 (Nat.le_of_ble_eq_true rfl) (Nat.le_of_ble_eq_true rfl) (⟨rfl, rfl, by rw [if_pos q0, e1]⟩)
  by_cases q1 : what = 1
  · refine s_tableIn 33 dX3_count_1 (by rw [q1]; decide) (by rw [q1]; decide) (by rw [q1]; rfl) (by decide) ?_
    refine s_aload_n dX3_count_33 rfl ?_
    refine s_get (kd := 0) (ix := 0) (ci := 4) (fs := [.ref (ad 7 0), .ref (ad 8 0), .ref (ad 1 0), .ref (ad 3 120), .int (nI (kTc κ)), .int (nI (kRc κ))])  h.1 rfl in_X3_count_X3 5 (by decide) (by decide +kernel) rfl rfl dX3_count_34 ?_
    exact s_iret rfl (rfl) dX3_count_37 (Nat.le_of_ble_eq_true rfl) (Nat.le_of_ble_eq_true rfl) (⟨rfl, rfl, by rw [if_neg q0, if_pos q1, e2]⟩)
  by_cases q2 : what = 2
  · refine s_tableIn 38 dX3_count_1 (by rw [q2]; decide) (by rw [q2]; decide) (by rw [q2]; rfl) (by decide) ?_
    refine s_bipush (v := 7) dX3_count_38 (by decide) ?_
    exact s_iret rfl (rfl) dX3_count_40 (Nat.le_of_ble_eq_true rfl) (Nat.le_of_ble_eq_true rfl) (⟨rfl, rfl, by rw [if_neg q0, if_neg q1, if_pos q2]⟩)
  have q9 : ∀ j, j < 3 → what ≠ nI j := fun j hj e => by
      rcases (show j = 0 ∨ j = 1 ∨ j = 2 by omega) with rfl | rfl | rfl <;> first | exact q0 e | exact q1 e | exact q2 e
  refine s_tableOut 41 dX3_count_1 (sw_out 3 (by decide) q9) (by decide) ?_
  refine s_iconst (v := -1) dX3_count_41 (by decide) ?_
  exact s_iret rfl (rfl) dX3_count_42 (Nat.le_of_ble_eq_true rfl) (Nat.le_of_ble_eq_true rfl) (⟨rfl, rfl, by rw [if_neg q0, if_neg q1, if_neg q2]⟩)
def wuX3_clear : List Cond := .code yX3_clear cX3_clear 1 none :: wU
abbrev mX3_clear : sMeth := (cX3_clear, 1, RX3, wuX3_clear, { frames := 0, cells := 0, slots := 0, locals := 0 }, none, "clear", [])
theorem in_X3_clear_X3 : ∀ w ∈ wsX30, w ∈ wuX3_clear := fun w hw => List.mem_cons_of_mem _ (inU (iu_X3 w hw).1 (iu_X3 w hw).2)
set_option maxHeartbeats 4000000 in
set_option maxRecDepth 100000 in
theorem c_X3_clear (G : sG) (l : Launch) (hl : l.stackTraces = false) (ad : sAd) (M : sM) (α : sAl) (hA : AI α) (κ : sCk) (h : hCk G ad M κ) (hC : CI α κ)  : sMet G l yX3_clear mX3_clear [.ref (ad 0 0)] ad M (fun r ad' M' => ad = ad' ∧ r = none ∧ sSame pCk M M' ∧ cI G ad M' (clrA α)) (fun _ _ _ => False) := by
  obtain ⟨e1, e2, ht, hm, hC1, hC2, hC3, hC4, f, hR⟩ := id hC
  have hA1 := hA.1
  have hA2 := hA.2.1
  have hr : kRc κ ≤ 60 := by omega
  refine sMet.of hl (by decide +kernel) rfl rfl rfl rfl (Nat.le_of_ble_eq_true rfl) (fun X => ?_)
  refine s_lv (lv' := [some (.ref (ad 0 0))]) rfl ?_
  refine s_aload_n dX3_clear_0 rfl ?_
  refine s_iconst (v := 0) dX3_clear_1 (by decide) ?_
  refine s_put (kd := 0) (ix := 0) (ci := 4) (v := .int 0) (ty := tyX3 4) (fs := [.ref (ad 7 0), .ref (ad 8 0), .ref (ad 1 0), .ref (ad 3 120), .int (nI (kTc κ)), .int (nI (kRc κ))])  tyX3 tyX3_ok nmX3 h.1 rfl in_X3_clear_X3 4 (by decide) (by decide +kernel) rfl rfl (tyX3_ok 4 (by decide)) (rfl) (rfl) (Nat.le_of_ble_eq_true rfl) dX3_clear_2 ?_
  refine s_M (M' := (sset M 0 0 (.inr (4, [.ref (ad 7 0), .ref (ad 8 0), .ref (ad 1 0), .ref (ad 3 120), .int 0, .int (nI (kRc κ))])))) rfl ?_
  refine s_aload_n dX3_clear_5 rfl ?_
  refine s_iconst (v := 0) dX3_clear_6 (by decide) ?_
  refine s_put (kd := 0) (ix := 0) (ci := 4) (v := .int 0) (ty := tyX3 5) (fs := [.ref (ad 7 0), .ref (ad 8 0), .ref (ad 1 0), .ref (ad 3 120), .int 0, .int (nI (kRc κ))])  tyX3 tyX3_ok nmX3 (sset_self _ _ _ _) rfl in_X3_clear_X3 5 (by decide) (by decide +kernel) rfl rfl (tyX3_ok 5 (by decide)) (rfl) (rfl) (Nat.le_of_ble_eq_true rfl) dX3_clear_7 ?_
  refine s_M (M' := (sset (sset M 0 0 (.inr (4, [.ref (ad 7 0), .ref (ad 8 0), .ref (ad 1 0), .ref (ad 3 120), .int 0, .int (nI (kRc κ))]))) 0 0 (.inr (4, [.ref (ad 7 0), .ref (ad 8 0), .ref (ad 1 0), .ref (ad 3 120), .int 0, .int 0])))) rfl ?_
  exact s_vret rfl dX3_clear_10 (Nat.le_of_ble_eq_true rfl) (Nat.le_of_ble_eq_true rfl) (⟨rfl, rfl, (sSame.rfl.set (P := pCk) (by simp [pCk]) _).set (by simp [pCk]) _, _, (by rw [sset_sset]; exact h.obj 0 0), hC.clr⟩)
