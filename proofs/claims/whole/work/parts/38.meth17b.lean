def wuX3_node : List Cond := .code yX3_node cX3_node 10 (some .int) :: wU
abbrev mX3_node : sMeth := (cX3_node, 10, RX3, wuX3_node, { frames := 7, cells := 4, slots := 91, locals := 111 }, (some .int), "node", [])
theorem in_X3_node_X2 : ∀ w ∈ wsX20, w ∈ wuX3_node := fun w hw => List.mem_cons_of_mem _ (inU (iu_X2 w hw).1 (iu_X2 w hw).2)
theorem g_node_treeAt2 : GoodIn wuX3_node (wsV RX3 78 RX3 yX3_treeAt wsX3_treeAt) := goodUW (by decide +kernel)
theorem g_node_treeAt9 : GoodIn wuX3_node (wsV RX3 78 RX3 yX3_treeAt wsX3_treeAt) := g_node_treeAt2
theorem g_node_nextTree : GoodIn wuX3_node (wsV RX3 52 RX3 yX3_nextTree wsX3_nextTree) := goodUW (by decide +kernel)
theorem g_node_workOut : GoodIn wuX3_node (wsV RX3 100 RX3 yX3_workOut wsX3_workOut) := goodUW (by decide +kernel)
theorem g_node_keep : GoodIn wuX3_node (wsV RX3 70 RX3 yX3_keep wsX3_keep) := goodUW (by decide +kernel)
set_option maxHeartbeats 4000000 in
set_option maxRecDepth 100000 in
theorem c_X3_node (G : sG) (l : Launch) (hl : l.stackTraces = false) (ad : sAd) (M : sM) (α : sAl) (hA : AI α) (κ : sCk) (h : hCk G ad M κ) (hC : CI α κ) (h9 a b : Int32) : sMet G l yX3_node mX3_node [.ref (ad 0 0), .int h9, .int a, .int b] ad M (fun r ad' M' => ∃ hd ja jb g P, ndOk α h9 a b hd ja jb ∧ nodeRel α hd ja jb g P ∧ cAdd G ad M α h9 a b (ndDp α ja jb) g P r ad' M') (fun E ad' M' => ad = ad' ∧ M = M' ∧ ((E = eA ∧ nC1 α h9 a b) ∨ (E = eI ∧ ¬ nC1 α h9 a b ∧ ¬ ∃ hd ja jb, ndOk α h9 a b hd ja jb) ∨ (E = eS ∧ (∃ hd ja jb, ndOk α h9 a b hd ja jb) ∧ aT α = 120))) := by
  obtain ⟨e1, e2, ht, hm, hC1, hC2, hC3, hC4, f, hR⟩ := id hC
  have hA1 := hA.1
  have hA2 := hA.2.1
  have hr : kRc κ ≤ 60 := by omega
  refine sMet.of hl (by decide +kernel) rfl rfl rfl rfl (Nat.le_of_ble_eq_true rfl) (fun X => ?_)
  refine s_lv (lv' := [some (.ref (ad 0 0)), some (.int h9), some (.int a), some (.int b), none, none, none, none, none, none]) rfl ?_
  refine s_aload_n dX3_node_0 rfl ?_
  refine s_iload_n dX3_node_1 rfl ?_
  refine s_callV (As := [.int a]) (rest := []) (n := 1) (kd := 0) (ix := 0) (fun l hl => c_X3_treeAt G l hl ad M κ h ht hm hr a) g_node_treeAt2 rfl (by decide +kernel) h.1 rfl rfl ⟨(Nat.le_of_ble_eq_true rfl), (Nat.le_of_ble_eq_true rfl)⟩ ⟨(Nat.le_of_ble_eq_true rfl), (Nat.le_of_ble_eq_true rfl)⟩ (Nat.le_of_ble_eq_true rfl) dX3_node_2 rfl (fun ra ada Ma ha => ?_)
  obtain ⟨rfl, rfl, ha⟩ := ha
  rcases ha with ⟨ja, hja, hija, rfl⟩ | ⟨hna, rfl⟩
  · refine s_astore dX3_node_5 rfl rfl ?_
    refine s_lv (lv' := [some (.ref (ad 0 0)), some (.int h9), some (.int a), some (.int b), some (.ref (ad 2 ja)), none, none, none, none, none]) rfl ?_
    refine s_aload_n dX3_node_7 rfl ?_
    refine s_iload_n dX3_node_8 rfl ?_
    refine s_callV (As := [.int b]) (rest := []) (n := 1) (kd := 0) (ix := 0) (fun l hl => c_X3_treeAt G l hl ad M κ h ht hm hr b) g_node_treeAt9 rfl (by decide +kernel) h.1 rfl rfl ⟨(Nat.le_of_ble_eq_true rfl), (Nat.le_of_ble_eq_true rfl)⟩ ⟨(Nat.le_of_ble_eq_true rfl), (Nat.le_of_ble_eq_true rfl)⟩ (Nat.le_of_ble_eq_true rfl) dX3_node_9 rfl (fun rb adb Mb hb => ?_)
    obtain ⟨rfl, rfl, hb⟩ := hb
    rcases hb with ⟨jb, hjb, hijb, rfl⟩ | ⟨hnb, rfl⟩
    · refine s_astore dX3_node_12 rfl rfl ?_
      refine s_lv (lv' := [some (.ref (ad 0 0)), some (.int h9), some (.int a), some (.int b), some (.ref (ad 2 ja)), some (.ref (ad 2 jb)), none, none, none, none]) rfl ?_
      refine s_iload_n dX3_node_14 rfl ?_
      refine s_iconst (v := 3) dX3_node_15 (by decide) ?_
      refine s_icmp_lt 23 dX3_node_16 (by decide) (fun c16 => ?_) (fun c16 => ?_)
      · refine s_iconst (v := 0) dX3_node_23 (by decide) ?_
        refine s_istore dX3_node_24 rfl rfl ?_
        refine s_lv (lv' := [some (.ref (ad 0 0)), some (.int h9), some (.int a), some (.int b), some (.ref (ad 2 ja)), some (.ref (ad 2 jb)), some (.int 0), none, none, none]) rfl ?_
        refine s_aload dX3_node_26 rfl ?_
        refine s_ifnull dX3_node_28 ?_
        refine s_aload dX3_node_31 rfl ?_
        refine s_ifnonnull 56 dX3_node_33 (by decide) ?_
        refine s_iload_n dX3_node_56 rfl ?_
        refine s_if_lt 75 dX3_node_57 (by decide) (fun c57 => ?_) (fun c57 => ?_)
        · exact s_throw (cls := eI) (ik := 45) (is := 87) (ic := 49) (text := "no such node") (names := eRs) rfl rfl (by decide +kernel) (by decide +kernel) (List.mem_cons_of_mem _ (inU (by decide +kernel) rfl)) (List.mem_cons_of_mem _ (inU (by decide +kernel) rfl)) (by decide +kernel) xuI xbI xoI dX3_node_75 dX3_node_78 dX3_node_79 dX3_node_81 dX3_node_84 (Nat.le_of_ble_eq_true rfl) (Nat.le_of_ble_eq_true rfl) (Nat.le_of_ble_eq_true rfl) (Nat.le_of_ble_eq_true rfl) (⟨rfl, rfl, Or.inr (Or.inl ⟨rfl, (fun z => z.elim (fun z => z ⟨ja, by omega, hija⟩) (fun z => z.1 ⟨jb, by omega, hijb⟩)), fun ⟨hd, ja, jb, q⟩ => by have e := q.1.2.1; rw [e] at c57; exact nI_pos (by have := q.1.1; omega) c57⟩)⟩)
        · refine s_iload_n dX3_node_60 rfl ?_
          refine s_iconst (v := 5) dX3_node_61 (by decide) ?_
          refine s_icmp_gt 75 dX3_node_62 (by decide) (fun c62 => ?_) (fun c62 => ?_)
          · exact s_throw (cls := eI) (ik := 45) (is := 87) (ic := 49) (text := "no such node") (names := eRs) rfl rfl (by decide +kernel) (by decide +kernel) (List.mem_cons_of_mem _ (inU (by decide +kernel) rfl)) (List.mem_cons_of_mem _ (inU (by decide +kernel) rfl)) (by decide +kernel) xuI xbI xoI dX3_node_75 dX3_node_78 dX3_node_79 dX3_node_81 dX3_node_84 (Nat.le_of_ble_eq_true rfl) (Nat.le_of_ble_eq_true rfl) (Nat.le_of_ble_eq_true rfl) (Nat.le_of_ble_eq_true rfl) (⟨rfl, rfl, Or.inr (Or.inl ⟨rfl, (fun z => z.elim (fun z => z ⟨ja, by omega, hija⟩) (fun z => z.1 ⟨jb, by omega, hijb⟩)), fun ⟨hd, ja, jb, q⟩ => by have e := q.1.2.1; rw [e] at c62; have := nI_lt_mp (a := 5) c62 (by omega) (by have := q.1.1; omega); have := q.1.1; omega⟩)⟩)
          · refine s_iload dX3_node_65 rfl ?_
            refine s_if_eq 85 dX3_node_67 (by decide) (fun c67 => ?_) (fun c67 => absurd (rfl) c67)
            obtain ⟨hd, hd6, rfl⟩ : ∃ hd, hd < 6 ∧ h9 = nI hd := (pk_ix h9 (n := 6) (by omega)).elim (fun q => absurd q c57) (fun q => q.elim (fun q => absurd (Int32.lt_of_lt_of_le (show (5 : Int32) < 6 by decide) q) c62) id)
            have hd3 : hd < 3 := nI_lt_mp (b := 3) c16 (by omega) (by omega)
            have hpre : ndPre α (nI hd) a b hd ja jb := ⟨hd6, rfl, by omega, hija, by omega, Or.inl ⟨hd3, hijb⟩⟩
            have hda : aD α ja ≤ 20 := (hA.2.2.1 ja (by omega)).1.2
            have hdb : aD α jb ≤ 20 := (hA.2.2.1 jb (by omega)).1.2
            refine s_aload dX3_node_85 rfl ?_
            refine s_ifnonnull 95 dX3_node_87 (by decide) ?_
            refine s_aload dX3_node_95 rfl ?_
            refine s_astore dX3_node_97 rfl rfl ?_
            refine s_lv (lv' := [some (.ref (ad 0 0)), some (.int (nI hd)), some (.int a), some (.int b), some (.ref (ad 2 ja)), some (.ref (ad 2 jb)), some (.int 0), some (.ref (ad 2 jb)), none, none]) rfl ?_
            refine s_iconst (v := 1) dX3_node_99 (by decide) ?_
            refine s_aload dX3_node_100 rfl ?_
            refine s_getN (kd := 2) (ix := ja) (ci := 3) (fs := [.ref (ad 3 ja), .int ((kTr κ ja).1), .int ((kTr κ ja).2.1), .int ((kTr κ ja).2.2.1), .int (nI (kTr κ ja).2.2.2.1), .int (nI (kTr κ ja).2.2.2.2)]) (host := "SmallChecker") ((h.2.2.2.2.1 ja (by omega))) rfl in_X3_node_X2 4 (by decide) (by decide +kernel) rfl rfl dX3_node_102 ?_
            refine s_eqi (y := nI (aD α ja)) (by rw [(hC1 ja (by omega)).2]) ?_
            refine s_aload dX3_node_105 rfl ?_
            refine s_getN (kd := 2) (ix := jb) (ci := 3) (fs := [.ref (ad 3 jb), .int ((kTr κ jb).1), .int ((kTr κ jb).2.1), .int ((kTr κ jb).2.2.1), .int (nI (kTr κ jb).2.2.2.1), .int (nI (kTr κ jb).2.2.2.2)]) (host := "SmallChecker") ((h.2.2.2.2.1 jb (by omega))) rfl in_X3_node_X2 4 (by decide) (by decide +kernel) rfl rfl dX3_node_107 ?_
            refine s_eqi (y := nI (aD α jb)) (by rw [(hC1 jb (by omega)).2]) ?_
            refine s_mmax (by decide +kernel) (by decide +kernel) (by decide +kernel) (by decide +kernel) (Nat.le_of_ble_eq_true rfl) (Nat.le_of_ble_eq_true rfl) (Nat.le_of_ble_eq_true rfl) (Nat.le_of_ble_eq_true rfl) dX3_node_110 ?_
            refine s_iadd dX3_node_113 ?_
            refine s_eqi (y := nI (ndDp α ja jb)) (dp_max hda hdb) ?_
            refine s_istore dX3_node_114 rfl rfl ?_
            refine s_lv (lv' := [some (.ref (ad 0 0)), some (.int (nI hd)), some (.int a), some (.int b), some (.ref (ad 2 ja)), some (.ref (ad 2 jb)), some (.int 0), some (.ref (ad 2 jb)), some (.int (nI (ndDp α ja jb))), none]) rfl ?_
            refine s_iload dX3_node_116 rfl ?_
            refine s_bipush (v := 20) dX3_node_118 (by decide) ?_
            refine s_icmp_le 133 dX3_node_120 (by decide) (fun c120 => ?_) (fun c120 => ?_)
            · refine s_aload_n dX3_node_133 rfl ?_
              refine s_xcallV (As := []) (rest := []) (n := 0) (kd := 0) (ix := 0) (fun l hl => c_X3_nextTree G l hl ad M κ h ht hm hr) g_node_nextTree rfl (by decide +kernel) h.1 rfl rfl ⟨(Nat.le_of_ble_eq_true rfl), (Nat.le_of_ble_eq_true rfl)⟩ ⟨(Nat.le_of_ble_eq_true rfl), (Nat.le_of_ble_eq_true rfl)⟩ (Nat.le_of_ble_eq_true rfl) dX3_node_134 rfl (fun E ad8 M8 h8 => ?_) (fun r8 ad8 M8 h8 => ?_)
              · exact s_out rfl (Nat.le_of_ble_eq_true rfl) (Nat.le_of_ble_eq_true rfl) (by obtain ⟨rfl, rfl, rfl, q⟩ := h8; exact ⟨rfl, rfl, Or.inr (Or.inr ⟨rfl, ⟨hd, ja, jb, hpre, (nI_le_iff (b := 20) (by unfold ndDp; omega) (by omega)).mp c120⟩, by omega⟩)⟩)
              obtain ⟨rfl, ht120, hex, ⟨κ1, h1, hN⟩, hsx⟩ := h8
              have hlt : kTc κ1 < kMd κ1 := by have := hN.1; have := hN.2.2.1; omega
              refine s_st (st' := [.ref (ad8 2 (kTc κ1))]) (by rw [hN.1]; rfl) ?_
              refine s_lv (lv' := [some (.ref (ad8 0 0)), some (.int (nI hd)), some (.int a), some (.int b), some (.ref (ad8 2 ja)), some (.ref (ad8 2 jb)), some (.int 0), some (.ref (ad8 2 jb)), some (.int (nI (ndDp α ja jb))), none]) (by rw [hex 0 0 _ h.1, hex 2 ja _ (h.2.2.2.2.1 ja (by omega)), hex 2 jb _ (h.2.2.2.2.1 jb (by omega))] <;> rfl) ?_
              have hok : ndOk α (nI hd) a b hd ja jb := ⟨hpre, (nI_le_iff (b := 20) (by unfold ndDp; omega) (by omega)).mp c120⟩
              have hmja : ja < kMd κ1 := by have := hN.2.2.1; omega
              have hmjb : jb < kMd κ1 := by have := hN.2.2.1; omega
              refine s_astore dX3_node_137 rfl rfl ?_
              refine s_lv (lv' := [some (.ref (ad8 0 0)), some (.int (nI hd)), some (.int a), some (.int b), some (.ref (ad8 2 ja)), some (.ref (ad8 2 jb)), some (.int 0), some (.ref (ad8 2 jb)), some (.int (nI (ndDp α ja jb))), some (.ref (ad8 2 (kTc κ1)))]) rfl ?_
              refine s_aload_n dX3_node_139 rfl ?_
              refine s_aload dX3_node_140 rfl ?_
              refine s_getN (kd := 2) (ix := (kTc κ1)) (ci := 3) (fs := [.ref (ad8 3 (kTc κ1)), .int ((kTr κ1 (kTc κ1)).1), .int ((kTr κ1 (kTc κ1)).2.1), .int ((kTr κ1 (kTc κ1)).2.2.1), .int (nI (kTr κ1 (kTc κ1)).2.2.2.1), .int (nI (kTr κ1 (kTc κ1)).2.2.2.2)]) (host := "SmallChecker") ((h1.2.2.2.2.1 (kTc κ1) hlt)) rfl in_X3_node_X2 0 (by decide) (by decide +kernel) rfl rfl dX3_node_142 ?_
              refine s_iload_n dX3_node_145 rfl ?_
              refine s_aload dX3_node_146 rfl ?_
              refine s_getN (kd := 2) (ix := ja) (ci := 3) (fs := [.ref (ad8 3 ja), .int ((kTr κ1 ja).1), .int ((kTr κ1 ja).2.1), .int ((kTr κ1 ja).2.2.1), .int (nI (kTr κ1 ja).2.2.2.1), .int (nI (kTr κ1 ja).2.2.2.2)]) (host := "SmallChecker") ((h1.2.2.2.2.1 ja hmja)) rfl in_X3_node_X2 0 (by decide) (by decide +kernel) rfl rfl dX3_node_148 ?_
              refine s_aload dX3_node_151 rfl ?_
              refine s_getN (kd := 2) (ix := jb) (ci := 3) (fs := [.ref (ad8 3 jb), .int ((kTr κ1 jb).1), .int ((kTr κ1 jb).2.1), .int ((kTr κ1 jb).2.2.1), .int (nI (kTr κ1 jb).2.2.2.1), .int (nI (kTr κ1 jb).2.2.2.2)]) (host := "SmallChecker") ((h1.2.2.2.2.1 jb hmjb)) rfl in_X3_node_X2 0 (by decide) (by decide +kernel) rfl rfl dX3_node_153 ?_
              refine s_callV (As := [.ref (ad8 3 (kTc κ1)), .int (nI hd), .ref (ad8 3 ja), .ref (ad8 3 jb)]) (rest := []) (n := 4) (kd := 0) (ix := 0) (fun l hl => c_X3_workOut G l hl ad8 M8 κ1 h1 (Nat.le_of_lt hlt) hN.2.2.2.1 (by rw [hN.2.1]; exact hr) (kTc κ1) hlt hd hd6 ja jb hmja hmjb (by have := hN.1; omega) (by have := hN.1; omega) (aPf α ja) (aPf α jb) (fun q => by rw [(hN.2.2.2.2.1 ja (by omega)).2] at q ⊢; exact hC.pr (by omega) q) (fun q => by rw [(hN.2.2.2.2.1 jb (by omega)).2] at q ⊢; exact hC.pr (by omega) q) (fun q => absurd q (by omega)) f (by rw [hN.2.2.2.2.2.2.2]; exact hR)) g_node_workOut rfl (by decide +kernel) h1.1 rfl rfl ⟨(Nat.le_of_ble_eq_true rfl), (Nat.le_of_ble_eq_true rfl)⟩ ⟨(Nat.le_of_ble_eq_true rfl), (Nat.le_of_ble_eq_true rfl)⟩ (Nat.le_of_ble_eq_true rfl) dX3_node_156 rfl (fun r9 ad9 M9 h9 => ?_)
              obtain ⟨rfl, rfl, ⟨σ2, f2, π2, h2, hR2, hw9⟩, hs9⟩ := h9
              rw [(hN.2.2.2.2.1 ja (by omega)).2, hC.gr (j := ja) (by omega)] at hw9
              rw [(hN.2.2.2.2.1 jb (by omega)).2, hC.gr (j := jb) (by omega)] at hw9
              refine s_aload_n dX3_node_159 rfl ?_
              refine s_aload dX3_node_160 rfl ?_
              refine s_iload_n dX3_node_162 rfl ?_
              refine s_aload dX3_node_163 rfl ?_
              refine s_getN (kd := 2) (ix := ja) (ci := 3) (fs := [.ref (ad8 3 ja), .int ((kTr κ1 ja).1), .int ((kTr κ1 ja).2.1), .int ((kTr κ1 ja).2.2.1), .int (nI (kTr κ1 ja).2.2.2.1), .int (nI (kTr κ1 ja).2.2.2.2)]) (host := "SmallChecker") ((h2.2.2.2.2.1 ja hmja)) rfl in_X3_node_X2 5 (by decide) (by decide +kernel) rfl rfl dX3_node_165 ?_
              refine s_eqi (y := nI (aM α ja)) (by rw [(hN.2.2.2.2.1 ja (by omega)).1, (hC1 ja (by omega)).2]) ?_
              refine s_iload dX3_node_168 rfl ?_
              refine s_if_eq 177 dX3_node_170 (by decide) (fun c170 => ?_) (fun c170 => absurd (rfl) c170)
              refine s_aload dX3_node_177 rfl ?_
              refine s_getN (kd := 2) (ix := jb) (ci := 3) (fs := [.ref (ad8 3 jb), .int ((kTr κ1 jb).1), .int ((kTr κ1 jb).2.1), .int ((kTr κ1 jb).2.2.1), .int (nI (kTr κ1 jb).2.2.2.1), .int (nI (kTr κ1 jb).2.2.2.2)]) (host := "SmallChecker") ((h2.2.2.2.2.1 jb hmjb)) rfl in_X3_node_X2 5 (by decide) (by decide +kernel) rfl rfl dX3_node_179 ?_
              refine s_eqi (y := nI (aM α jb)) (by rw [(hN.2.2.2.2.1 jb (by omega)).1, (hC1 jb (by omega)).2]) ?_
              refine s_iload dX3_node_182 rfl ?_
              refine s_callV (As := [.ref (ad8 2 (kTc κ1)), .int (nI hd), .int (nI (aM α ja)), .int (nI (aM α jb)), .int (nI (ndDp α ja jb))]) (rest := []) (n := 5) (kd := 0) (ix := 0) (fun l hl => c_X3_keep G l hl ad8 M9 (kSetPo (kSetSh κ1 σ2) (kTc κ1) π2) h2 (Nat.le_of_lt hlt) hN.2.2.2.1 (by show kRc κ1 ≤ 60; rw [hN.2.1]; exact hr) hlt (nI hd) (nI (aM α ja)) (nI (aM α jb)) (ndDp α ja jb)) g_node_keep rfl (by decide +kernel) h2.1 rfl rfl ⟨(Nat.le_of_ble_eq_true rfl), (Nat.le_of_ble_eq_true rfl)⟩ ⟨(Nat.le_of_ble_eq_true rfl), (Nat.le_of_ble_eq_true rfl)⟩ (Nat.le_of_ble_eq_true rfl) dX3_node_184 rfl (fun r11 ad11 M11 h11 => ?_)
              obtain ⟨rfl, m, rfl, hmd, h3, hs11⟩ := h11
              refine s_eqi (y := nI (kTc κ1)) (kTc_ps _ _ _ _) ?_
              have hfin : ∃ g P, nodeRel α hd ja jb g P ∧ cAdd G ad M α (nI hd) a b (ndDp α ja jb) g P (some (.int (nI (kTc κ1)))) ad8 M11 := by
                rcases hw9 with ⟨q1, q2⟩ | ⟨q1, q2⟩
                · exact ⟨WG (aGr α ja) (aGr α jb) hd (aPf α ja) (aPf α jb), fun _ => 0, Or.inl ⟨q2, q2, rfl⟩, cAdd.of (σ := σ2) (π := π2) (h := nI hd) (o := a) (w := b) (d := ndDp α ja jb) (g := WG (aGr α ja) (aGr α jb) hd (aPf α ja) (aPf α jb)) (P := fun _ => 0) hC hA hN ht120 hex ((hsx.trans hs9).trans hs11) hmd h3 ⟨f2, hR2⟩ (Or.inl ⟨q2, q1, rfl⟩) ⟨Or.inr (Or.inr ⟨hd, ja, hd6, rfl, by omega, hija, Or.inl ⟨hd3, jb, by omega, hijb⟩⟩), hok.2⟩ (by rw [hija, hijb]; exact (aCl_node2 α hd6 (by omega) (by omega) _ _).symm)⟩
                · exact ⟨WG (aGr α ja) (aGr α jb) hd (aPf α ja) (aPf α jb), WF hd (aPf α ja) (aPf α jb), Or.inr ⟨q2, q2, rfl⟩, cAdd.of (σ := σ2) (π := π2) (h := nI hd) (o := a) (w := b) (d := ndDp α ja jb) (g := WG (aGr α ja) (aGr α jb) hd (aPf α ja) (aPf α jb)) (P := WF hd (aPf α ja) (aPf α jb)) hC hA hN ht120 hex ((hsx.trans hs9).trans hs11) hmd h3 ⟨f2, hR2⟩ (Or.inr ⟨q2, q1⟩) ⟨Or.inr (Or.inr ⟨hd, ja, hd6, rfl, by omega, hija, Or.inl ⟨hd3, jb, by omega, hijb⟩⟩), hok.2⟩ (by rw [hija, hijb]; exact (aCl_node2 α hd6 (by omega) (by omega) _ _).symm)⟩
              obtain ⟨g, P, hrel, hfin⟩ := hfin
              exact s_iret rfl (rfl) dX3_node_187 (Nat.le_of_ble_eq_true rfl) (Nat.le_of_ble_eq_true rfl) (⟨hd, ja, jb, g, P, hok, hrel, hfin⟩)
            · exact s_throw (cls := eI) (ik := 45) (is := 98) (ic := 49) (text := "too deep") (names := eRs) rfl rfl (by decide +kernel) (by decide +kernel) (List.mem_cons_of_mem _ (inU (by decide +kernel) rfl)) (List.mem_cons_of_mem _ (inU (by decide +kernel) rfl)) (by decide +kernel) xuI xbI xoI dX3_node_123 dX3_node_126 dX3_node_127 dX3_node_129 dX3_node_132 (Nat.le_of_ble_eq_true rfl) (Nat.le_of_ble_eq_true rfl) (Nat.le_of_ble_eq_true rfl) (Nat.le_of_ble_eq_true rfl) (⟨rfl, rfl, Or.inr (Or.inl ⟨rfl, hpre.no1, fun ⟨hd9, ja9, jb9, q⟩ => by obtain ⟨-, e2, e3⟩ := hpre.uniq hA q.1; have q2 := q.2; rw [e2, e3] at q2; exact c120 ((nI_le_iff (b := 20) (by omega) (by omega)).mpr q2)⟩)⟩)
      · refine s_iconst (v := 1) dX3_node_19 (by decide) ?_
        refine s_goto 24 dX3_node_20 (by decide) ?_
        refine s_istore dX3_node_24 rfl rfl ?_
        refine s_lv (lv' := [some (.ref (ad 0 0)), some (.int h9), some (.int a), some (.int b), some (.ref (ad 2 ja)), some (.ref (ad 2 jb)), some (.int 1), none, none, none]) rfl ?_
        refine s_aload dX3_node_26 rfl ?_
        refine s_ifnull dX3_node_28 ?_
        refine s_aload dX3_node_31 rfl ?_
        refine s_ifnonnull 56 dX3_node_33 (by decide) ?_
        refine s_iload_n dX3_node_56 rfl ?_
        refine s_if_lt 75 dX3_node_57 (by decide) (fun c57 => ?_) (fun c57 => ?_)
        · exact s_throw (cls := eI) (ik := 45) (is := 87) (ic := 49) (text := "no such node") (names := eRs) rfl rfl (by decide +kernel) (by decide +kernel) (List.mem_cons_of_mem _ (inU (by decide +kernel) rfl)) (List.mem_cons_of_mem _ (inU (by decide +kernel) rfl)) (by decide +kernel) xuI xbI xoI dX3_node_75 dX3_node_78 dX3_node_79 dX3_node_81 dX3_node_84 (Nat.le_of_ble_eq_true rfl) (Nat.le_of_ble_eq_true rfl) (Nat.le_of_ble_eq_true rfl) (Nat.le_of_ble_eq_true rfl) (⟨rfl, rfl, Or.inr (Or.inl ⟨rfl, (fun z => z.elim (fun z => z ⟨ja, by omega, hija⟩) (fun z => z.1 ⟨jb, by omega, hijb⟩)), fun ⟨hd, ja, jb, q⟩ => by have e := q.1.2.1; rw [e] at c57; exact nI_pos (by have := q.1.1; omega) c57⟩)⟩)
        · refine s_iload_n dX3_node_60 rfl ?_
          refine s_iconst (v := 5) dX3_node_61 (by decide) ?_
          refine s_icmp_gt 75 dX3_node_62 (by decide) (fun c62 => ?_) (fun c62 => ?_)
          · exact s_throw (cls := eI) (ik := 45) (is := 87) (ic := 49) (text := "no such node") (names := eRs) rfl rfl (by decide +kernel) (by decide +kernel) (List.mem_cons_of_mem _ (inU (by decide +kernel) rfl)) (List.mem_cons_of_mem _ (inU (by decide +kernel) rfl)) (by decide +kernel) xuI xbI xoI dX3_node_75 dX3_node_78 dX3_node_79 dX3_node_81 dX3_node_84 (Nat.le_of_ble_eq_true rfl) (Nat.le_of_ble_eq_true rfl) (Nat.le_of_ble_eq_true rfl) (Nat.le_of_ble_eq_true rfl) (⟨rfl, rfl, Or.inr (Or.inl ⟨rfl, (fun z => z.elim (fun z => z ⟨ja, by omega, hija⟩) (fun z => z.1 ⟨jb, by omega, hijb⟩)), fun ⟨hd, ja, jb, q⟩ => by have e := q.1.2.1; rw [e] at c62; have := nI_lt_mp (a := 5) c62 (by omega) (by have := q.1.1; omega); have := q.1.1; omega⟩)⟩)
          · refine s_iload dX3_node_65 rfl ?_
            refine s_if_eq 85 dX3_node_67 (by decide) (fun c67 => absurd c67 (by decide)) (fun c67 => ?_)
            refine s_iload_n dX3_node_70 rfl ?_
            refine s_iconst (v := -1) dX3_node_71 (by decide) ?_
            refine s_icmp_eq 85 dX3_node_72 (by decide) (fun c72 => absurd c72 (fun q => nI_m1' (j := jb) (by omega) (hijb.symm.trans q))) (fun c72 => ?_)
            exact s_throw (cls := eI) (ik := 45) (is := 87) (ic := 49) (text := "no such node") (names := eRs) rfl rfl (by decide +kernel) (by decide +kernel) (List.mem_cons_of_mem _ (inU (by decide +kernel) rfl)) (List.mem_cons_of_mem _ (inU (by decide +kernel) rfl)) (by decide +kernel) xuI xbI xoI dX3_node_75 dX3_node_78 dX3_node_79 dX3_node_81 dX3_node_84 (Nat.le_of_ble_eq_true rfl) (Nat.le_of_ble_eq_true rfl) (Nat.le_of_ble_eq_true rfl) (Nat.le_of_ble_eq_true rfl) (⟨rfl, rfl, Or.inr (Or.inl ⟨rfl, (fun z => z.elim (fun z => z ⟨ja, by omega, hija⟩) (fun z => z.1 ⟨jb, by omega, hijb⟩)), fun ⟨hd, ja9, jb9, q⟩ => q.1.2.2.2.2.2.elim (fun z => by have e := q.1.2.1; rw [e] at c16; exact c16 (nI_lt_mpr (b := 3) z.1 (by omega))) (fun z => nI_m1' (j := jb) (by omega) (hijb.symm.trans z.2.1))⟩)⟩)
    · refine s_astoreN dX3_node_12 rfl rfl ?_
      refine s_lv (lv' := [some (.ref (ad 0 0)), some (.int h9), some (.int a), some (.int b), some (.ref (ad 2 ja)), some (.null), none, none, none, none]) rfl ?_
      refine s_iload_n dX3_node_14 rfl ?_
      refine s_iconst (v := 3) dX3_node_15 (by decide) ?_
      refine s_icmp_lt 23 dX3_node_16 (by decide) (fun c16 => ?_) (fun c16 => ?_)
      · refine s_iconst (v := 0) dX3_node_23 (by decide) ?_
        refine s_istore dX3_node_24 rfl rfl ?_
        refine s_lv (lv' := [some (.ref (ad 0 0)), some (.int h9), some (.int a), some (.int b), some (.ref (ad 2 ja)), some (.null), some (.int 0), none, none, none]) rfl ?_
        refine s_aload dX3_node_26 rfl ?_
        refine s_ifnull dX3_node_28 ?_
        refine s_aloadN dX3_node_31 rfl ?_
        refine s_ifnonnullN dX3_node_33 ?_
        refine s_iload dX3_node_36 rfl ?_
        refine s_if_eq 46 dX3_node_38 (by decide) (fun c38 => ?_) (fun c38 => absurd (rfl) c38)
        exact s_throw (cls := eA) (ik := 82) (is := 84) (ic := 86) (text := "no such tree") (names := eAs) rfl rfl (by decide +kernel) (by decide +kernel) (List.mem_cons_of_mem _ (inU (by decide +kernel) rfl)) (List.mem_cons_of_mem _ (inU (by decide +kernel) rfl)) (by decide +kernel) xuA xbA xoA dX3_node_46 dX3_node_49 dX3_node_50 dX3_node_52 dX3_node_55 (Nat.le_of_ble_eq_true rfl) (Nat.le_of_ble_eq_true rfl) (Nat.le_of_ble_eq_true rfl) (Nat.le_of_ble_eq_true rfl) (⟨rfl, rfl, Or.inl ⟨rfl, Or.inr ⟨(fun ⟨j, hj, q⟩ => hnb j (by omega) q), fun q => absurd q.1 (Int32.not_le.mpr c16)⟩⟩⟩)
      · refine s_iconst (v := 1) dX3_node_19 (by decide) ?_
        refine s_goto 24 dX3_node_20 (by decide) ?_
        refine s_istore dX3_node_24 rfl rfl ?_
        refine s_lv (lv' := [some (.ref (ad 0 0)), some (.int h9), some (.int a), some (.int b), some (.ref (ad 2 ja)), some (.null), some (.int 1), none, none, none]) rfl ?_
        refine s_aload dX3_node_26 rfl ?_
        refine s_ifnull dX3_node_28 ?_
        refine s_aloadN dX3_node_31 rfl ?_
        refine s_ifnonnullN dX3_node_33 ?_
        refine s_iload dX3_node_36 rfl ?_
        refine s_if_eq 46 dX3_node_38 (by decide) (fun c38 => absurd c38 (by decide)) (fun c38 => ?_)
        refine s_iload_n dX3_node_41 rfl ?_
        refine s_iconst (v := -1) dX3_node_42 (by decide) ?_
        refine s_icmp_eq 56 dX3_node_43 (by decide) (fun c43 => ?_) (fun c43 => ?_)
        · refine s_iload_n dX3_node_56 rfl ?_
          refine s_if_lt 75 dX3_node_57 (by decide) (fun c57 => ?_) (fun c57 => ?_)
          · exact s_throw (cls := eI) (ik := 45) (is := 87) (ic := 49) (text := "no such node") (names := eRs) rfl rfl (by decide +kernel) (by decide +kernel) (List.mem_cons_of_mem _ (inU (by decide +kernel) rfl)) (List.mem_cons_of_mem _ (inU (by decide +kernel) rfl)) (by decide +kernel) xuI xbI xoI dX3_node_75 dX3_node_78 dX3_node_79 dX3_node_81 dX3_node_84 (Nat.le_of_ble_eq_true rfl) (Nat.le_of_ble_eq_true rfl) (Nat.le_of_ble_eq_true rfl) (Nat.le_of_ble_eq_true rfl) (⟨rfl, rfl, Or.inr (Or.inl ⟨rfl, (fun z => z.elim (fun z => z ⟨ja, by omega, hija⟩) (fun z => z.2 ⟨Int32.not_lt.mp c16, c43⟩)), fun ⟨hd, ja, jb, q⟩ => by have e := q.1.2.1; rw [e] at c57; exact nI_pos (by have := q.1.1; omega) c57⟩)⟩)
          · refine s_iload_n dX3_node_60 rfl ?_
            refine s_iconst (v := 5) dX3_node_61 (by decide) ?_
            refine s_icmp_gt 75 dX3_node_62 (by decide) (fun c62 => ?_) (fun c62 => ?_)
            · exact s_throw (cls := eI) (ik := 45) (is := 87) (ic := 49) (text := "no such node") (names := eRs) rfl rfl (by decide +kernel) (by decide +kernel) (List.mem_cons_of_mem _ (inU (by decide +kernel) rfl)) (List.mem_cons_of_mem _ (inU (by decide +kernel) rfl)) (by decide +kernel) xuI xbI xoI dX3_node_75 dX3_node_78 dX3_node_79 dX3_node_81 dX3_node_84 (Nat.le_of_ble_eq_true rfl) (Nat.le_of_ble_eq_true rfl) (Nat.le_of_ble_eq_true rfl) (Nat.le_of_ble_eq_true rfl) (⟨rfl, rfl, Or.inr (Or.inl ⟨rfl, (fun z => z.elim (fun z => z ⟨ja, by omega, hija⟩) (fun z => z.2 ⟨Int32.not_lt.mp c16, c43⟩)), fun ⟨hd, ja, jb, q⟩ => by have e := q.1.2.1; rw [e] at c62; have := nI_lt_mp (a := 5) c62 (by omega) (by have := q.1.1; omega); have := q.1.1; omega⟩)⟩)
            · refine s_iload dX3_node_65 rfl ?_
              refine s_if_eq 85 dX3_node_67 (by decide) (fun c67 => absurd c67 (by decide)) (fun c67 => ?_)
              refine s_iload_n dX3_node_70 rfl ?_
              refine s_iconst (v := -1) dX3_node_71 (by decide) ?_
              refine s_icmp_eq 85 dX3_node_72 (by decide) (fun c72 => ?_) (fun c72 => absurd (c43) c72)
              obtain ⟨hd, hd6, rfl⟩ : ∃ hd, hd < 6 ∧ h9 = nI hd := (pk_ix h9 (n := 6) (by omega)).elim (fun q => absurd q c57) (fun q => q.elim (fun q => absurd (Int32.lt_of_lt_of_le (show (5 : Int32) < 6 by decide) q) c62) id)
              have hd3 : 3 ≤ hd := Nat.le_of_not_lt (fun z => c16 (nI_lt_mpr (b := 3) z (by omega)))
              have hpre : ndPre α (nI hd) a b hd ja ja := ⟨hd6, rfl, by omega, hija, by omega, Or.inr ⟨hd3, c43, rfl⟩⟩
              have hda : aD α ja ≤ 20 := (hA.2.2.1 ja (by omega)).1.2
              have hdb : aD α ja ≤ 20 := (hA.2.2.1 ja (by omega)).1.2
              refine s_aloadN dX3_node_85 rfl ?_
              refine s_ifnonnullN dX3_node_87 ?_
              refine s_aload dX3_node_90 rfl ?_
              refine s_goto 97 dX3_node_92 (by decide) ?_
              refine s_astore dX3_node_97 rfl rfl ?_
              refine s_lv (lv' := [some (.ref (ad 0 0)), some (.int (nI hd)), some (.int a), some (.int b), some (.ref (ad 2 ja)), some (.null), some (.int 1), some (.ref (ad 2 ja)), none, none]) rfl ?_
              refine s_iconst (v := 1) dX3_node_99 (by decide) ?_
              refine s_aload dX3_node_100 rfl ?_
              refine s_getN (kd := 2) (ix := ja) (ci := 3) (fs := [.ref (ad 3 ja), .int ((kTr κ ja).1), .int ((kTr κ ja).2.1), .int ((kTr κ ja).2.2.1), .int (nI (kTr κ ja).2.2.2.1), .int (nI (kTr κ ja).2.2.2.2)]) (host := "SmallChecker") ((h.2.2.2.2.1 ja (by omega))) rfl in_X3_node_X2 4 (by decide) (by decide +kernel) rfl rfl dX3_node_102 ?_
              refine s_eqi (y := nI (aD α ja)) (by rw [(hC1 ja (by omega)).2]) ?_
              refine s_aload dX3_node_105 rfl ?_
              refine s_getN (kd := 2) (ix := ja) (ci := 3) (fs := [.ref (ad 3 ja), .int ((kTr κ ja).1), .int ((kTr κ ja).2.1), .int ((kTr κ ja).2.2.1), .int (nI (kTr κ ja).2.2.2.1), .int (nI (kTr κ ja).2.2.2.2)]) (host := "SmallChecker") ((h.2.2.2.2.1 ja (by omega))) rfl in_X3_node_X2 4 (by decide) (by decide +kernel) rfl rfl dX3_node_107 ?_
              refine s_eqi (y := nI (aD α ja)) (by rw [(hC1 ja (by omega)).2]) ?_
              refine s_mmax (by decide +kernel) (by decide +kernel) (by decide +kernel) (by decide +kernel) (Nat.le_of_ble_eq_true rfl) (Nat.le_of_ble_eq_true rfl) (Nat.le_of_ble_eq_true rfl) (Nat.le_of_ble_eq_true rfl) dX3_node_110 ?_
              refine s_iadd dX3_node_113 ?_
              refine s_eqi (y := nI (ndDp α ja ja)) (dp_max hda hdb) ?_
              refine s_istore dX3_node_114 rfl rfl ?_
              refine s_lv (lv' := [some (.ref (ad 0 0)), some (.int (nI hd)), some (.int a), some (.int b), some (.ref (ad 2 ja)), some (.null), some (.int 1), some (.ref (ad 2 ja)), some (.int (nI (ndDp α ja ja))), none]) rfl ?_
              refine s_iload dX3_node_116 rfl ?_
              refine s_bipush (v := 20) dX3_node_118 (by decide) ?_
              refine s_icmp_le 133 dX3_node_120 (by decide) (fun c120 => ?_) (fun c120 => ?_)
              · refine s_aload_n dX3_node_133 rfl ?_
                refine s_xcallV (As := []) (rest := []) (n := 0) (kd := 0) (ix := 0) (fun l hl => c_X3_nextTree G l hl ad M κ h ht hm hr) g_node_nextTree rfl (by decide +kernel) h.1 rfl rfl ⟨(Nat.le_of_ble_eq_true rfl), (Nat.le_of_ble_eq_true rfl)⟩ ⟨(Nat.le_of_ble_eq_true rfl), (Nat.le_of_ble_eq_true rfl)⟩ (Nat.le_of_ble_eq_true rfl) dX3_node_134 rfl (fun E ad8 M8 h8 => ?_) (fun r8 ad8 M8 h8 => ?_)
                · exact s_out rfl (Nat.le_of_ble_eq_true rfl) (Nat.le_of_ble_eq_true rfl) (by obtain ⟨rfl, rfl, rfl, q⟩ := h8; exact ⟨rfl, rfl, Or.inr (Or.inr ⟨rfl, ⟨hd, ja, ja, hpre, (nI_le_iff (b := 20) (by unfold ndDp; omega) (by omega)).mp c120⟩, by omega⟩)⟩)
                obtain ⟨rfl, ht120, hex, ⟨κ1, h1, hN⟩, hsx⟩ := h8
                have hlt : kTc κ1 < kMd κ1 := by have := hN.1; have := hN.2.2.1; omega
                refine s_st (st' := [.ref (ad8 2 (kTc κ1))]) (by rw [hN.1]; rfl) ?_
                refine s_lv (lv' := [some (.ref (ad8 0 0)), some (.int (nI hd)), some (.int a), some (.int b), some (.ref (ad8 2 ja)), some (.null), some (.int 1), some (.ref (ad8 2 ja)), some (.int (nI (ndDp α ja ja))), none]) (by rw [hex 0 0 _ h.1, hex 2 ja _ (h.2.2.2.2.1 ja (by omega))] <;> rfl) ?_
                have hok : ndOk α (nI hd) a b hd ja ja := ⟨hpre, (nI_le_iff (b := 20) (by unfold ndDp; omega) (by omega)).mp c120⟩
                have hmja : ja < kMd κ1 := by have := hN.2.2.1; omega
                refine s_astore dX3_node_137 rfl rfl ?_
                refine s_lv (lv' := [some (.ref (ad8 0 0)), some (.int (nI hd)), some (.int a), some (.int b), some (.ref (ad8 2 ja)), some (.null), some (.int 1), some (.ref (ad8 2 ja)), some (.int (nI (ndDp α ja ja))), some (.ref (ad8 2 (kTc κ1)))]) rfl ?_
                refine s_aload_n dX3_node_139 rfl ?_
                refine s_aload dX3_node_140 rfl ?_
                refine s_getN (kd := 2) (ix := (kTc κ1)) (ci := 3) (fs := [.ref (ad8 3 (kTc κ1)), .int ((kTr κ1 (kTc κ1)).1), .int ((kTr κ1 (kTc κ1)).2.1), .int ((kTr κ1 (kTc κ1)).2.2.1), .int (nI (kTr κ1 (kTc κ1)).2.2.2.1), .int (nI (kTr κ1 (kTc κ1)).2.2.2.2)]) (host := "SmallChecker") ((h1.2.2.2.2.1 (kTc κ1) hlt)) rfl in_X3_node_X2 0 (by decide) (by decide +kernel) rfl rfl dX3_node_142 ?_
                refine s_iload_n dX3_node_145 rfl ?_
                refine s_aload dX3_node_146 rfl ?_
                refine s_getN (kd := 2) (ix := ja) (ci := 3) (fs := [.ref (ad8 3 ja), .int ((kTr κ1 ja).1), .int ((kTr κ1 ja).2.1), .int ((kTr κ1 ja).2.2.1), .int (nI (kTr κ1 ja).2.2.2.1), .int (nI (kTr κ1 ja).2.2.2.2)]) (host := "SmallChecker") ((h1.2.2.2.2.1 ja hmja)) rfl in_X3_node_X2 0 (by decide) (by decide +kernel) rfl rfl dX3_node_148 ?_
                refine s_aload dX3_node_151 rfl ?_
                refine s_getN (kd := 2) (ix := ja) (ci := 3) (fs := [.ref (ad8 3 ja), .int ((kTr κ1 ja).1), .int ((kTr κ1 ja).2.1), .int ((kTr κ1 ja).2.2.1), .int (nI (kTr κ1 ja).2.2.2.1), .int (nI (kTr κ1 ja).2.2.2.2)]) (host := "SmallChecker") ((h1.2.2.2.2.1 ja hmja)) rfl in_X3_node_X2 0 (by decide) (by decide +kernel) rfl rfl dX3_node_153 ?_
                refine s_callV (As := [.ref (ad8 3 (kTc κ1)), .int (nI hd), .ref (ad8 3 ja), .ref (ad8 3 ja)]) (rest := []) (n := 4) (kd := 0) (ix := 0) (fun l hl => c_X3_workOut G l hl ad8 M8 κ1 h1 (Nat.le_of_lt hlt) hN.2.2.2.1 (by rw [hN.2.1]; exact hr) (kTc κ1) hlt hd hd6 ja ja hmja hmja (by have := hN.1; omega) (by have := hN.1; omega) (aPf α ja) (aPf α ja) (fun q => by rw [(hN.2.2.2.2.1 ja (by omega)).2] at q ⊢; exact hC.pr (by omega) q) (fun q => by rw [(hN.2.2.2.2.1 ja (by omega)).2] at q ⊢; exact hC.pr (by omega) q) (fun _ => rfl) f (by rw [hN.2.2.2.2.2.2.2]; exact hR)) g_node_workOut rfl (by decide +kernel) h1.1 rfl rfl ⟨(Nat.le_of_ble_eq_true rfl), (Nat.le_of_ble_eq_true rfl)⟩ ⟨(Nat.le_of_ble_eq_true rfl), (Nat.le_of_ble_eq_true rfl)⟩ (Nat.le_of_ble_eq_true rfl) dX3_node_156 rfl (fun r9 ad9 M9 h9 => ?_)
                obtain ⟨rfl, rfl, ⟨σ2, f2, π2, h2, hR2, hw9⟩, hs9⟩ := h9
                rw [(hN.2.2.2.2.1 ja (by omega)).2, hC.gr (j := ja) (by omega)] at hw9
                refine s_aload_n dX3_node_159 rfl ?_
                refine s_aload dX3_node_160 rfl ?_
                refine s_iload_n dX3_node_162 rfl ?_
                refine s_aload dX3_node_163 rfl ?_
                refine s_getN (kd := 2) (ix := ja) (ci := 3) (fs := [.ref (ad8 3 ja), .int ((kTr κ1 ja).1), .int ((kTr κ1 ja).2.1), .int ((kTr κ1 ja).2.2.1), .int (nI (kTr κ1 ja).2.2.2.1), .int (nI (kTr κ1 ja).2.2.2.2)]) (host := "SmallChecker") ((h2.2.2.2.2.1 ja hmja)) rfl in_X3_node_X2 5 (by decide) (by decide +kernel) rfl rfl dX3_node_165 ?_
                refine s_eqi (y := nI (aM α ja)) (by rw [(hN.2.2.2.2.1 ja (by omega)).1, (hC1 ja (by omega)).2]) ?_
                refine s_iload dX3_node_168 rfl ?_
                refine s_if_eq 177 dX3_node_170 (by decide) (fun c170 => absurd c170 (by decide)) (fun c170 => ?_)
                refine s_iconst (v := -1) dX3_node_173 (by decide) ?_
                refine s_goto 182 dX3_node_174 (by decide) ?_
                refine s_iload dX3_node_182 rfl ?_
                refine s_callV (As := [.ref (ad8 2 (kTc κ1)), .int (nI hd), .int (nI (aM α ja)), .int (-1), .int (nI (ndDp α ja ja))]) (rest := []) (n := 5) (kd := 0) (ix := 0) (fun l hl => c_X3_keep G l hl ad8 M9 (kSetPo (kSetSh κ1 σ2) (kTc κ1) π2) h2 (Nat.le_of_lt hlt) hN.2.2.2.1 (by show kRc κ1 ≤ 60; rw [hN.2.1]; exact hr) hlt (nI hd) (nI (aM α ja)) (-1) (ndDp α ja ja)) g_node_keep rfl (by decide +kernel) h2.1 rfl rfl ⟨(Nat.le_of_ble_eq_true rfl), (Nat.le_of_ble_eq_true rfl)⟩ ⟨(Nat.le_of_ble_eq_true rfl), (Nat.le_of_ble_eq_true rfl)⟩ (Nat.le_of_ble_eq_true rfl) dX3_node_184 rfl (fun r11 ad11 M11 h11 => ?_)
                obtain ⟨rfl, m, rfl, hmd, h3, hs11⟩ := h11
                refine s_eqi (y := nI (kTc κ1)) (kTc_ps _ _ _ _) ?_
                have hfin : ∃ g P, nodeRel α hd ja ja g P ∧ cAdd G ad M α (nI hd) a b (ndDp α ja ja) g P (some (.int (nI (kTc κ1)))) ad8 M11 := by
                  rcases hw9 with ⟨q1, q2⟩ | ⟨q1, q2⟩
                  · exact ⟨WG (aGr α ja) (aGr α ja) hd (aPf α ja) (aPf α ja), fun _ => 0, Or.inl ⟨q2, q2, rfl⟩, cAdd.of (σ := σ2) (π := π2) (h := nI hd) (o := a) (w := b) (d := ndDp α ja ja) (g := WG (aGr α ja) (aGr α ja) hd (aPf α ja) (aPf α ja)) (P := fun _ => 0) hC hA hN ht120 hex ((hsx.trans hs9).trans hs11) hmd h3 ⟨f2, hR2⟩ (Or.inl ⟨q2, q1, rfl⟩) ⟨Or.inr (Or.inr ⟨hd, ja, hd6, rfl, by omega, hija, Or.inr ⟨hd3, c43⟩⟩), hok.2⟩ (by rw [hija, c43]; exact (aCl_node1 α hd6 (by omega) _ _).symm)⟩
                  · exact ⟨WG (aGr α ja) (aGr α ja) hd (aPf α ja) (aPf α ja), WF hd (aPf α ja) (aPf α ja), Or.inr ⟨q2, q2, rfl⟩, cAdd.of (σ := σ2) (π := π2) (h := nI hd) (o := a) (w := b) (d := ndDp α ja ja) (g := WG (aGr α ja) (aGr α ja) hd (aPf α ja) (aPf α ja)) (P := WF hd (aPf α ja) (aPf α ja)) hC hA hN ht120 hex ((hsx.trans hs9).trans hs11) hmd h3 ⟨f2, hR2⟩ (Or.inr ⟨q2, q1⟩) ⟨Or.inr (Or.inr ⟨hd, ja, hd6, rfl, by omega, hija, Or.inr ⟨hd3, c43⟩⟩), hok.2⟩ (by rw [hija, c43]; exact (aCl_node1 α hd6 (by omega) _ _).symm)⟩
                obtain ⟨g, P, hrel, hfin⟩ := hfin
                exact s_iret rfl (rfl) dX3_node_187 (Nat.le_of_ble_eq_true rfl) (Nat.le_of_ble_eq_true rfl) (⟨hd, ja, ja, g, P, hok, hrel, hfin⟩)
              · exact s_throw (cls := eI) (ik := 45) (is := 98) (ic := 49) (text := "too deep") (names := eRs) rfl rfl (by decide +kernel) (by decide +kernel) (List.mem_cons_of_mem _ (inU (by decide +kernel) rfl)) (List.mem_cons_of_mem _ (inU (by decide +kernel) rfl)) (by decide +kernel) xuI xbI xoI dX3_node_123 dX3_node_126 dX3_node_127 dX3_node_129 dX3_node_132 (Nat.le_of_ble_eq_true rfl) (Nat.le_of_ble_eq_true rfl) (Nat.le_of_ble_eq_true rfl) (Nat.le_of_ble_eq_true rfl) (⟨rfl, rfl, Or.inr (Or.inl ⟨rfl, hpre.no1, fun ⟨hd9, ja9, jb9, q⟩ => by obtain ⟨-, e2, e3⟩ := hpre.uniq hA q.1; have q2 := q.2; rw [e2, e3] at q2; exact c120 ((nI_le_iff (b := 20) (by omega) (by omega)).mpr q2)⟩)⟩)
        · exact s_throw (cls := eA) (ik := 82) (is := 84) (ic := 86) (text := "no such tree") (names := eAs) rfl rfl (by decide +kernel) (by decide +kernel) (List.mem_cons_of_mem _ (inU (by decide +kernel) rfl)) (List.mem_cons_of_mem _ (inU (by decide +kernel) rfl)) (by decide +kernel) xuA xbA xoA dX3_node_46 dX3_node_49 dX3_node_50 dX3_node_52 dX3_node_55 (Nat.le_of_ble_eq_true rfl) (Nat.le_of_ble_eq_true rfl) (Nat.le_of_ble_eq_true rfl) (Nat.le_of_ble_eq_true rfl) (⟨rfl, rfl, Or.inl ⟨rfl, Or.inr ⟨(fun ⟨j, hj, q⟩ => hnb j (by omega) q), fun q => c43 q.2⟩⟩⟩)
  · refine s_astoreN dX3_node_5 rfl rfl ?_
    refine s_lv (lv' := [some (.ref (ad 0 0)), some (.int h9), some (.int a), some (.int b), some (.null), none, none, none, none, none]) rfl ?_
    refine s_aload_n dX3_node_7 rfl ?_
    refine s_iload_n dX3_node_8 rfl ?_
    refine s_callV (As := [.int b]) (rest := []) (n := 1) (kd := 0) (ix := 0) (fun l hl => c_X3_treeAt G l hl ad M κ h ht hm hr b) g_node_treeAt9 rfl (by decide +kernel) h.1 rfl rfl ⟨(Nat.le_of_ble_eq_true rfl), (Nat.le_of_ble_eq_true rfl)⟩ ⟨(Nat.le_of_ble_eq_true rfl), (Nat.le_of_ble_eq_true rfl)⟩ (Nat.le_of_ble_eq_true rfl) dX3_node_9 rfl (fun rb adb Mb hb => ?_)
    obtain ⟨rfl, rfl, hb⟩ := hb
    rcases hb with ⟨jb, hjb, hijb, rfl⟩ | ⟨hnb, rfl⟩
    · refine s_astore dX3_node_12 rfl rfl ?_
      refine s_lv (lv' := [some (.ref (ad 0 0)), some (.int h9), some (.int a), some (.int b), some (.null), some (.ref (ad 2 jb)), none, none, none, none]) rfl ?_
      refine s_iload_n dX3_node_14 rfl ?_
      refine s_iconst (v := 3) dX3_node_15 (by decide) ?_
      refine s_icmp_lt 23 dX3_node_16 (by decide) (fun c16 => ?_) (fun c16 => ?_)
      · refine s_iconst (v := 0) dX3_node_23 (by decide) ?_
        refine s_istore dX3_node_24 rfl rfl ?_
        refine s_lv (lv' := [some (.ref (ad 0 0)), some (.int h9), some (.int a), some (.int b), some (.null), some (.ref (ad 2 jb)), some (.int 0), none, none, none]) rfl ?_
        refine s_aloadN dX3_node_26 rfl ?_
        refine s_ifnullN 46 dX3_node_28 (by decide) ?_
        exact s_throw (cls := eA) (ik := 82) (is := 84) (ic := 86) (text := "no such tree") (names := eAs) rfl rfl (by decide +kernel) (by decide +kernel) (List.mem_cons_of_mem _ (inU (by decide +kernel) rfl)) (List.mem_cons_of_mem _ (inU (by decide +kernel) rfl)) (by decide +kernel) xuA xbA xoA dX3_node_46 dX3_node_49 dX3_node_50 dX3_node_52 dX3_node_55 (Nat.le_of_ble_eq_true rfl) (Nat.le_of_ble_eq_true rfl) (Nat.le_of_ble_eq_true rfl) (Nat.le_of_ble_eq_true rfl) (⟨rfl, rfl, Or.inl ⟨rfl, Or.inl (fun ⟨j, hj, q⟩ => hna j (by omega) q)⟩⟩)
      · refine s_iconst (v := 1) dX3_node_19 (by decide) ?_
        refine s_goto 24 dX3_node_20 (by decide) ?_
        refine s_istore dX3_node_24 rfl rfl ?_
        refine s_lv (lv' := [some (.ref (ad 0 0)), some (.int h9), some (.int a), some (.int b), some (.null), some (.ref (ad 2 jb)), some (.int 1), none, none, none]) rfl ?_
        refine s_aloadN dX3_node_26 rfl ?_
        refine s_ifnullN 46 dX3_node_28 (by decide) ?_
        exact s_throw (cls := eA) (ik := 82) (is := 84) (ic := 86) (text := "no such tree") (names := eAs) rfl rfl (by decide +kernel) (by decide +kernel) (List.mem_cons_of_mem _ (inU (by decide +kernel) rfl)) (List.mem_cons_of_mem _ (inU (by decide +kernel) rfl)) (by decide +kernel) xuA xbA xoA dX3_node_46 dX3_node_49 dX3_node_50 dX3_node_52 dX3_node_55 (Nat.le_of_ble_eq_true rfl) (Nat.le_of_ble_eq_true rfl) (Nat.le_of_ble_eq_true rfl) (Nat.le_of_ble_eq_true rfl) (⟨rfl, rfl, Or.inl ⟨rfl, Or.inl (fun ⟨j, hj, q⟩ => hna j (by omega) q)⟩⟩)
    · refine s_astoreN dX3_node_12 rfl rfl ?_
      refine s_lv (lv' := [some (.ref (ad 0 0)), some (.int h9), some (.int a), some (.int b), some (.null), some (.null), none, none, none, none]) rfl ?_
      refine s_iload_n dX3_node_14 rfl ?_
      refine s_iconst (v := 3) dX3_node_15 (by decide) ?_
      refine s_icmp_lt 23 dX3_node_16 (by decide) (fun c16 => ?_) (fun c16 => ?_)
      · refine s_iconst (v := 0) dX3_node_23 (by decide) ?_
        refine s_istore dX3_node_24 rfl rfl ?_
        refine s_lv (lv' := [some (.ref (ad 0 0)), some (.int h9), some (.int a), some (.int b), some (.null), some (.null), some (.int 0), none, none, none]) rfl ?_
        refine s_aloadN dX3_node_26 rfl ?_
        refine s_ifnullN 46 dX3_node_28 (by decide) ?_
        exact s_throw (cls := eA) (ik := 82) (is := 84) (ic := 86) (text := "no such tree") (names := eAs) rfl rfl (by decide +kernel) (by decide +kernel) (List.mem_cons_of_mem _ (inU (by decide +kernel) rfl)) (List.mem_cons_of_mem _ (inU (by decide +kernel) rfl)) (by decide +kernel) xuA xbA xoA dX3_node_46 dX3_node_49 dX3_node_50 dX3_node_52 dX3_node_55 (Nat.le_of_ble_eq_true rfl) (Nat.le_of_ble_eq_true rfl) (Nat.le_of_ble_eq_true rfl) (Nat.le_of_ble_eq_true rfl) (⟨rfl, rfl, Or.inl ⟨rfl, Or.inl (fun ⟨j, hj, q⟩ => hna j (by omega) q)⟩⟩)
      · refine s_iconst (v := 1) dX3_node_19 (by decide) ?_
        refine s_goto 24 dX3_node_20 (by decide) ?_
        refine s_istore dX3_node_24 rfl rfl ?_
        refine s_lv (lv' := [some (.ref (ad 0 0)), some (.int h9), some (.int a), some (.int b), some (.null), some (.null), some (.int 1), none, none, none]) rfl ?_
        refine s_aloadN dX3_node_26 rfl ?_
        refine s_ifnullN 46 dX3_node_28 (by decide) ?_
        exact s_throw (cls := eA) (ik := 82) (is := 84) (ic := 86) (text := "no such tree") (names := eAs) rfl rfl (by decide +kernel) (by decide +kernel) (List.mem_cons_of_mem _ (inU (by decide +kernel) rfl)) (List.mem_cons_of_mem _ (inU (by decide +kernel) rfl)) (by decide +kernel) xuA xbA xoA dX3_node_46 dX3_node_49 dX3_node_50 dX3_node_52 dX3_node_55 (Nat.le_of_ble_eq_true rfl) (Nat.le_of_ble_eq_true rfl) (Nat.le_of_ble_eq_true rfl) (Nat.le_of_ble_eq_true rfl) (⟨rfl, rfl, Or.inl ⟨rfl, Or.inl (fun ⟨j, hj, q⟩ => hna j (by omega) q)⟩⟩)
