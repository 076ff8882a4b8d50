/-! existingTree, leaf, number -/
theorem kTc_ps (κ : sCk) (σ : sShe) (t : Nat) (π : sPol) : nI (kTc (kSetPo (kSetSh κ σ) t π)) = nI (kTc κ) := rfl
theorem aCl_leaf (α : sAl) (x : Int32) (d m : Nat) : aCl α (-1, x, -1, d, m) = (6, x, -1) := by
  unfold aCl
  dsimp only
  rw [if_pos rfl, if_pos (by decide), if_pos rfl]
theorem aCl_num (α : sAl) (x : Int32) (d m : Nat) : aCl α (-2, x, -1, d, m) = (7, x, -1) := by
  unfold aCl
  dsimp only
  rw [if_neg (by decide), if_pos rfl, if_pos (by decide), if_pos rfl]
def wuX3_existingTree : List Cond := .code yX3_existingTree cX3_existingTree 3 (some (.object "SmallChecker$Tree")) :: wU
abbrev mX3_existingTree : sMeth := (cX3_existingTree, 3, RX3, wuX3_existingTree, { frames := 7, cells := 1, slots := 6, locals := 103 }, (some (.object "SmallChecker$Tree")), "existingTree", [])
set_option maxHeartbeats 4000000 in
set_option maxRecDepth 100000 in
theorem c_X3_existingTree (G : sG) (l : Launch) (hl : l.stackTraces = false) (ad : sAd) (M : sM) (κ : sCk) (h : hCk G ad M κ) (ht : kTc κ ≤ kMd κ) (hm : kMd κ ≤ 120) (hr : kRc κ ≤ 60) (i : Int32) : sMet G l yX3_existingTree mX3_existingTree [.ref (ad 0 0), .int i] ad M (fun r ad' M' => ad = ad' ∧ M = M' ∧ ∃ j, j < kTc κ ∧ i = nI j ∧ r = some (.ref (ad 2 j))) (fun E ad' M' => E = eA ∧ ad = ad' ∧ M = M' ∧ ∀ j, j < kTc κ → i ≠ nI j) := by
  refine sMet.of hl (by decide +kernel) rfl rfl rfl rfl (Nat.le_of_ble_eq_true rfl) (fun X => ?_)
  refine s_lv (lv' := [some (.ref (ad 0 0)), some (.int i), none]) rfl ?_
  refine s_aload_n dX3_existingTree_0 rfl ?_
  refine s_iload_n dX3_existingTree_1 rfl ?_
  refine s_callV (As := [.int i]) (rest := []) (n := 1) (kd := 0) (ix := 0) (fun l hl => c_X3_treeAt G l hl ad M κ h ht hm hr i) (goodUW (by decide +kernel)) rfl (by decide +kernel) h.1 rfl rfl ⟨(Nat.le_of_ble_eq_true rfl), (Nat.le_of_ble_eq_true rfl)⟩ ⟨(Nat.le_of_ble_eq_true rfl), (Nat.le_of_ble_eq_true rfl)⟩ (Nat.le_of_ble_eq_true rfl) dX3_existingTree_2 rfl (fun r9 ad9 M9 h9 => ?_)
  obtain ⟨rfl, rfl, h9⟩ := h9
  rcases h9 with ⟨j9, hj9, hij9, rfl⟩ | ⟨hn9, rfl⟩
  · refine s_astore_n dX3_existingTree_5 rfl rfl ?_
    refine s_lv (lv' := [some (.ref (ad 0 0)), some (.int i), some (.ref (ad 2 j9))]) rfl ?_
    refine s_aload_n dX3_existingTree_6 rfl ?_
    refine s_ifnonnull 20 dX3_existingTree_7 (by decide) ?_
    refine s_aload_n dX3_existingTree_20 rfl ?_
    exact s_aret rfl (Or.inr ⟨_, rfl⟩) dX3_existingTree_21 (Nat.le_of_ble_eq_true rfl) (Nat.le_of_ble_eq_true rfl) (⟨rfl, rfl, j9, hj9, hij9, rfl⟩)
  · refine s_astore_nN dX3_existingTree_5 rfl rfl ?_
    refine s_lv (lv' := [some (.ref (ad 0 0)), some (.int i), some (.null)]) rfl ?_
    refine s_aload_nN dX3_existingTree_6 rfl ?_
    refine s_ifnonnullN dX3_existingTree_7 ?_
    exact s_throw (cls := eA) (ik := 82) (is := 84) (ic := 86) (text := "no such tree") (names := eAs) rfl rfl (by decide +kernel) (by decide +kernel) (List.mem_cons_of_mem _ (inU (by decide +kernel) rfl)) (List.mem_cons_of_mem _ (inU (by decide +kernel) rfl)) (by decide +kernel) xuA xbA xoA dX3_existingTree_10 dX3_existingTree_13 dX3_existingTree_14 dX3_existingTree_16 dX3_existingTree_19 (Nat.le_of_ble_eq_true rfl) (Nat.le_of_ble_eq_true rfl) (Nat.le_of_ble_eq_true rfl) (Nat.le_of_ble_eq_true rfl) (⟨rfl, rfl, rfl, hn9⟩)
theorem let3 {x : Int32} : (0 ≤ x ∧ x < 3) ↔ ∃ l, l ≤ 2 ∧ x = nI l := by
  constructor
  · intro h
    rcases pk_ix x (n := 3) (by decide) with q | q | ⟨j, hj, e⟩
    · exact absurd h.1 (Int32.not_le.mpr q)
    · exact absurd h.2 (Int32.not_lt.mpr q)
    · exact ⟨j, by omega, e⟩
  · rintro ⟨l, hl, rfl⟩
    rcases (show l = 0 ∨ l = 1 ∨ l = 2 by omega) with rfl | rfl | rfl <;> decide
theorem kl3_good {l : Nat} (h : l ≤ 2) : good (kl3 l) := by
  rcases (show l = 0 ∨ l = 1 ∨ l = 2 by omega) with rfl | rfl | rfl <;> exact ⟨by decide, by decide⟩
def wuX3_leaf : List Cond := .code yX3_leaf cX3_leaf 3 (some .int) :: wU
abbrev mX3_leaf : sMeth := (cX3_leaf, 3, RX3, wuX3_leaf, { frames := 7, cells := 4, slots := 91, locals := 111 }, (some .int), "leaf", [])
theorem in_X3_leaf_X2 : ∀ w ∈ wsX20, w ∈ wuX3_leaf := fun w hw => List.mem_cons_of_mem _ (inU (iu_X2 w hw).1 (iu_X2 w hw).2)
set_option maxHeartbeats 4000000 in
set_option maxRecDepth 100000 in
theorem c_X3_leaf (G : sG) (l : Launch) (hl : l.stackTraces = false) (ad : sAd) (M : sM) (α : sAl) (hA : AI α) (κ : sCk) (h : hCk G ad M κ) (hC : CI α κ) (name : Int32) : sMet G l yX3_leaf mX3_leaf [.ref (ad 0 0), .int name] ad M (fun r ad' M' => ∃ lt, lt ≤ 2 ∧ name = nI lt ∧ cAdd G ad M α (-1) name (-1) 0 False (one1 (kl3 lt) 1) r ad' M') (fun E ad' M' => ad = ad' ∧ M = M' ∧ ((E = eI ∧ ¬ ∃ lt, lt ≤ 2 ∧ name = nI lt) ∨ (E = eS ∧ (∃ lt, lt ≤ 2 ∧ name = nI lt) ∧ aT α = 120))) := by
  obtain ⟨e1, e2, ht, hm, hC1, hC2, hC3, hC4, f, hR⟩ := id hC
  have hA1 := hA.1
  have hA2 := hA.2.1
  have hr : kRc κ ≤ 60 := by omega
  refine sMet.of hl (by decide +kernel) rfl rfl rfl rfl (Nat.le_of_ble_eq_true rfl) (fun X => ?_)
  refine s_lv (lv' := [some (.ref (ad 0 0)), some (.int name), none]) rfl ?_
  refine s_iload_n dX3_leaf_0 rfl ?_
  refine s_callS (As := [.int name]) (rest := []) (n := 1) (fun l hl => c_X3_isLetter G l hl ad M name) (goodUW (by decide +kernel)) rfl (by decide +kernel) rfl ⟨(Nat.le_of_ble_eq_true rfl), (Nat.le_of_ble_eq_true rfl)⟩ ⟨(Nat.le_of_ble_eq_true rfl), (Nat.le_of_ble_eq_true rfl)⟩ (Nat.le_of_ble_eq_true rfl) dX3_leaf_1 rfl (fun r9 ad9 M9 h9 => ?_)
  obtain ⟨rfl, rfl, rfl⟩ := h9
  refine s_if_ne 17 dX3_leaf_4 (by decide) (fun c4 => ?_) (fun c4 => ?_)
  · obtain ⟨lt, hl2, hnm⟩ := let3.mp (of_decide_eq_true (Bool.of_not_eq_false (fun z => c4 (jB_0.mpr z))))
    refine s_aload_n dX3_leaf_17 rfl ?_
    refine s_xcallV (As := []) (rest := []) (n := 0) (kd := 0) (ix := 0) (fun l hl => c_X3_nextTree G l hl ad M κ h ht hm hr) (goodUW (by decide +kernel)) rfl (by decide +kernel) h.1 rfl rfl ⟨(Nat.le_of_ble_eq_true rfl), (Nat.le_of_ble_eq_true rfl)⟩ ⟨(Nat.le_of_ble_eq_true rfl), (Nat.le_of_ble_eq_true rfl)⟩ (Nat.le_of_ble_eq_true rfl) dX3_leaf_18 rfl (fun E ad8 M8 h8 => ?_) (fun r8 ad8 M8 h8 => ?_)
    · exact s_out rfl (Nat.le_of_ble_eq_true rfl) (Nat.le_of_ble_eq_true rfl) (by obtain ⟨rfl, rfl, rfl, q⟩ := h8; exact ⟨rfl, rfl, Or.inr ⟨rfl, ⟨lt, hl2, hnm⟩, by omega⟩⟩)
    obtain ⟨rfl, ht120, hex, ⟨κ1, h1, hN⟩, hsx⟩ := h8
    have hlt : kTc κ1 < kMd κ1 := by have := hN.1; have := hN.2.2.1; omega
    refine s_st (st' := [.ref (ad8 2 (kTc κ1))]) (by rw [hN.1]; rfl) ?_
    refine s_lv (lv' := [some (.ref (ad8 0 0)), some (.int name), none]) (by rw [hex 0 0 _ h.1] <;> rfl) ?_
    refine s_astore_n dX3_leaf_21 rfl rfl ?_
    refine s_lv (lv' := [some (.ref (ad8 0 0)), some (.int name), some (.ref (ad8 2 (kTc κ1)))]) rfl ?_
    refine s_aload_n dX3_leaf_22 rfl ?_
    refine s_getN (kd := 2) (ix := (kTc κ1)) (ci := 3) (fs := [.ref (ad8 3 (kTc κ1)), .int ((kTr κ1 (kTc κ1)).1), .int ((kTr κ1 (kTc κ1)).2.1), .int ((kTr κ1 (kTc κ1)).2.2.1), .int (nI (kTr κ1 (kTc κ1)).2.2.2.1), .int (nI (kTr κ1 (kTc κ1)).2.2.2.2)]) (host := "SmallChecker") ((h1.2.2.2.2.1 (kTc κ1) hlt)) rfl in_X3_leaf_X2 0 (by decide) (by decide +kernel) rfl rfl dX3_leaf_23 ?_
    refine s_callVN (As := []) (rest := []) (n := 0) (kd := 3) (ix := (kTc κ1)) (fun l hl => c_X0_becomeZero G l hl ad8 M8 (kTc κ1) (kPo κ1 (kTc κ1)).1 (kPo κ1 (kTc κ1)).2.1 (kPo κ1 (kTc κ1)).2.2.1 (kPo κ1 (kTc κ1)).2.2.2.1 (kPo κ1 (kTc κ1)).2.2.2.2 (h1.2.2.2.2.2.1 (kTc κ1) hlt)) (goodUW (by decide +kernel)) rfl (host := "SmallChecker") (by decide +kernel) (by decide +kernel) (by decide +kernel) (by decide +kernel) (by decide +kernel) ((h1.2.2.2.2.2.1 (kTc κ1) hlt).1) rfl rfl ⟨(Nat.le_of_ble_eq_true rfl), (Nat.le_of_ble_eq_true rfl)⟩ ⟨(Nat.le_of_ble_eq_true rfl), (Nat.le_of_ble_eq_true rfl)⟩ (Nat.le_of_ble_eq_true rfl) dX3_leaf_26 rfl (fun r9 ad9 M9 h9 => ?_)
    obtain ⟨rfl, rfl, hp9, hs9⟩ := h9
    refine s_aload_n dX3_leaf_29 rfl ?_
    refine s_getN (kd := 2) (ix := (kTc κ1)) (ci := 3) (fs := [.ref (ad8 3 (kTc κ1)), .int ((kTr κ1 (kTc κ1)).1), .int ((kTr κ1 (kTc κ1)).2.1), .int ((kTr κ1 (kTc κ1)).2.2.1), .int (nI (kTr κ1 (kTc κ1)).2.2.2.1), .int (nI (kTr κ1 (kTc κ1)).2.2.2.2)]) (host := "SmallChecker") ((hs9 2 (kTc κ1) (by simp [pPo])).trans (h1.2.2.2.2.1 (kTc κ1) hlt)) rfl in_X3_leaf_X2 0 (by decide) (by decide +kernel) rfl rfl dX3_leaf_30 ?_
    refine s_iload_n dX3_leaf_33 rfl ?_
    refine s_callS (As := [.int name]) (rest := [.ref (ad8 3 (kTc κ1))]) (n := 1) (fun l hl => c_X3_keyOfLetter G l hl ad8 M9 name) (goodUW (by decide +kernel)) rfl (by decide +kernel) rfl ⟨(Nat.le_of_ble_eq_true rfl), (Nat.le_of_ble_eq_true rfl)⟩ ⟨(Nat.le_of_ble_eq_true rfl), (Nat.le_of_ble_eq_true rfl)⟩ (Nat.le_of_ble_eq_true rfl) dX3_leaf_34 rfl (fun r12 ad12 M12 h12 => ?_)
    obtain ⟨rfl, rfl, rfl⟩ := h12
    refine s_eqi (y := nI (kl3 lt)) (by rw [hnm]; exact jKeyOf_eq hl2) ?_
    refine s_lconst (v := 1) dX3_leaf_37 (by decide) ?_
    refine s_callVN (As := [.int (nI (kl3 lt)), .long 1]) (rest := []) (n := 2) (kd := 3) (ix := (kTc κ1)) (fun l hl => c_X0_append G l hl ad8 M9 (kTc κ1) 0 0 false (kPo κ1 (kTc κ1)).2.2.2.1 (kPo κ1 (kTc κ1)).2.2.2.2 hp9 (by omega) (nI (kl3 lt)) 1) (goodUW (by decide +kernel)) rfl (host := "SmallChecker") (by decide +kernel) (by decide +kernel) (by decide +kernel) (by decide +kernel) (by decide +kernel) hp9.1 rfl rfl ⟨(Nat.le_of_ble_eq_true rfl), (Nat.le_of_ble_eq_true rfl)⟩ ⟨(Nat.le_of_ble_eq_true rfl), (Nat.le_of_ble_eq_true rfl)⟩ (Nat.le_of_ble_eq_true rfl) dX3_leaf_38 rfl (fun r10 ad10 M10 h10 => ?_)
    obtain ⟨rfl, rfl, hp10, hs10⟩ := h10
    have h2 := h1.work hlt hN.2.2.2.1 (σ := kSh κ1) ((hs9.trans hs10).mono (fun k i q => Or.inr q)) (h1.2.2.2.2.2.2.2.1.same (hs9.trans hs10) (by simp [pPo]) (by simp [pPo]) (by simp [pPo]) (by simp [pPo])) hp10
    refine s_aload_n dX3_leaf_41 rfl ?_
    refine s_aload_n dX3_leaf_42 rfl ?_
    refine s_bipush (v := 6) dX3_leaf_43 (by decide) ?_
    refine s_iload_n dX3_leaf_45 rfl ?_
    refine s_iconst (v := -1) dX3_leaf_46 (by decide) ?_
    refine s_iconst (v := 0) dX3_leaf_47 (by decide) ?_
    refine s_callV (As := [.ref (ad8 2 (kTc κ1)), .int 6, .int name, .int (-1), .int 0]) (rest := []) (n := 5) (kd := 0) (ix := 0) (fun l hl => c_X3_keep G l hl ad8 M10 (kSetPo (kSetSh κ1 (kSh κ1)) (kTc κ1) (jAppend (0, 0, false, (kPo κ1 (kTc κ1)).2.2.2.1, (kPo κ1 (kTc κ1)).2.2.2.2) (nI (kl3 lt)) 1)) h2 (Nat.le_of_lt hlt) hN.2.2.2.1 (by show kRc κ1 ≤ 60; rw [hN.2.1]; exact hr) hlt 6 name (-1) 0) (goodUW (by decide +kernel)) rfl (by decide +kernel) ((hs10 0 0 (by simp [pPo])).trans ((hs9 0 0 (by simp [pPo])).trans h1.1)) rfl rfl ⟨(Nat.le_of_ble_eq_true rfl), (Nat.le_of_ble_eq_true rfl)⟩ ⟨(Nat.le_of_ble_eq_true rfl), (Nat.le_of_ble_eq_true rfl)⟩ (Nat.le_of_ble_eq_true rfl) dX3_leaf_48 rfl (fun r11 ad11 M11 h11 => ?_)
    obtain ⟨rfl, m, rfl, hmd, h3, hs11⟩ := h11
    refine s_eqi (y := nI (kTc κ1)) (kTc_ps _ _ _ _) ?_
    have hpr : PR (jAppend (0, 0, false, (kPo κ1 (kTc κ1)).2.2.2.1, (kPo κ1 (kTc κ1)).2.2.2.2) (nI (kl3 lt)) 1) (one1 (kl3 lt) 1) := PR.single (kPo κ1 (kTc κ1)) (kl3_good hl2) (v := 1) (by decide)
    have hfin := cAdd.of (σ := kSh κ1) (π := (jAppend (0, 0, false, (kPo κ1 (kTc κ1)).2.2.2.1, (kPo κ1 (kTc κ1)).2.2.2.2) (nI (kl3 lt)) 1)) (h := -1) (o := name) (w := -1) (d := 0) (g := False) (P := one1 (kl3 lt) 1) hC hA hN ht120 hex ((hsx.trans ((hs9.trans hs10).mono (fun k i q => pWk_ck (Or.inr q)))).trans hs11) hmd h3 (by rw [hN.2.2.2.2.2.2.2]; exact ⟨f, hR⟩) (Or.inr ⟨fun q => q, hpr⟩) ⟨Or.inl ⟨rfl, ⟨lt, hl2, hnm⟩, rfl⟩, Nat.zero_le _⟩ (aCl_leaf _ _ _ _).symm
    exact s_iret rfl (rfl) dX3_leaf_51 (Nat.le_of_ble_eq_true rfl) (Nat.le_of_ble_eq_true rfl) (⟨lt, hl2, hnm, hfin⟩)
  · exact s_throw (cls := eI) (ik := 45) (is := 47) (ic := 49) (text := "no such letter") (names := eRs) rfl rfl (by decide +kernel) (by decide +kernel) (List.mem_cons_of_mem _ (inU (by decide +kernel) rfl)) (List.mem_cons_of_mem _ (inU (by decide +kernel) rfl)) (by decide +kernel) xuI xbI xoI dX3_leaf_7 dX3_leaf_10 dX3_leaf_11 dX3_leaf_13 dX3_leaf_16 (Nat.le_of_ble_eq_true rfl) (Nat.le_of_ble_eq_true rfl) (Nat.le_of_ble_eq_true rfl) (Nat.le_of_ble_eq_true rfl) (⟨rfl, rfl, Or.inl ⟨rfl, fun ⟨lt, h1, h2⟩ => absurd (let3.mpr ⟨lt, h1, h2⟩) (of_decide_eq_false (jB_0.mp c4))⟩⟩)
def wuX3_number : List Cond := .code yX3_number cX3_number 3 (some .int) :: wU
abbrev mX3_number : sMeth := (cX3_number, 3, RX3, wuX3_number, { frames := 7, cells := 4, slots := 91, locals := 111 }, (some .int), "number", [])
theorem in_X3_number_X2 : ∀ w ∈ wsX20, w ∈ wuX3_number := fun w hw => List.mem_cons_of_mem _ (inU (iu_X2 w hw).1 (iu_X2 w hw).2)
set_option maxHeartbeats 4000000 in
set_option maxRecDepth 100000 in
theorem c_X3_number (G : sG) (l : Launch) (hl : l.stackTraces = false) (ad : sAd) (M : sM) (α : sAl) (hA : AI α) (κ : sCk) (h : hCk G ad M κ) (hC : CI α κ) (v : Int32) : sMet G l yX3_number mX3_number [.ref (ad 0 0), .int v] ad M (fun r ad' M' => (-1000000 ≤ v ∧ v ≤ 1000000) ∧ cAdd G ad M α (-2) v (-1) 0 False (one1 0 v.toInt) r ad' M') (fun E ad' M' => ad = ad' ∧ M = M' ∧ ((E = eI ∧ ¬ (-1000000 ≤ v ∧ v ≤ 1000000)) ∨ (E = eS ∧ (-1000000 ≤ v ∧ v ≤ 1000000) ∧ aT α = 120))) := by
  obtain ⟨e1, e2, ht, hm, hC1, hC2, hC3, hC4, f, hR⟩ := id hC
  have hA1 := hA.1
  have hA2 := hA.2.1
  have hr : kRc κ ≤ 60 := by omega
  refine sMet.of hl (by decide +kernel) rfl rfl rfl rfl (Nat.le_of_ble_eq_true rfl) (fun X => ?_)
  refine s_lv (lv' := [some (.ref (ad 0 0)), some (.int v), none]) rfl ?_
  refine s_iload_n dX3_number_0 rfl ?_
  refine s_ldc (v := -1000000) dX3_number_1 (by decide +kernel) ?_
  refine s_icmp_lt 12 dX3_number_3 (by decide) (fun c3 => ?_) (fun c3 => ?_)
  · exact s_throw (cls := eI) (ik := 45) (is := 76) (ic := 49) (text := "no such number") (names := eRs) rfl rfl (by decide +kernel) (by decide +kernel) (List.mem_cons_of_mem _ (inU (by decide +kernel) rfl)) (List.mem_cons_of_mem _ (inU (by decide +kernel) rfl)) (by decide +kernel) xuI xbI xoI dX3_number_12 dX3_number_15 dX3_number_16 dX3_number_18 dX3_number_21 (Nat.le_of_ble_eq_true rfl) (Nat.le_of_ble_eq_true rfl) (Nat.le_of_ble_eq_true rfl) (Nat.le_of_ble_eq_true rfl) (⟨rfl, rfl, Or.inl ⟨rfl, fun q => absurd q.1 (Int32.not_le.mpr c3)⟩⟩)
  · refine s_iload_n dX3_number_6 rfl ?_
    refine s_ldc (v := 1000000) dX3_number_7 (by decide +kernel) ?_
    refine s_icmp_le 22 dX3_number_9 (by decide) (fun c9 => ?_) (fun c9 => ?_)
    · have hok : (-1000000 ≤ v ∧ v ≤ 1000000) := ⟨Int32.not_lt.mp c3, c9⟩
      have hok2 : -1000000 ≤ v.toInt64.toInt ∧ v.toInt64.toInt ≤ 1000000 := by rw [Int32.toInt_toInt64]; exact ⟨Int32.le_iff_toInt_le.mp hok.1, Int32.le_iff_toInt_le.mp hok.2⟩
      refine s_aload_n dX3_number_22 rfl ?_
      refine s_xcallV (As := []) (rest := []) (n := 0) (kd := 0) (ix := 0) (fun l hl => c_X3_nextTree G l hl ad M κ h ht hm hr) (goodUW (by decide +kernel)) rfl (by decide +kernel) h.1 rfl rfl ⟨(Nat.le_of_ble_eq_true rfl), (Nat.le_of_ble_eq_true rfl)⟩ ⟨(Nat.le_of_ble_eq_true rfl), (Nat.le_of_ble_eq_true rfl)⟩ (Nat.le_of_ble_eq_true rfl) dX3_number_23 rfl (fun E ad8 M8 h8 => ?_) (fun r8 ad8 M8 h8 => ?_)
      · exact s_out rfl (Nat.le_of_ble_eq_true rfl) (Nat.le_of_ble_eq_true rfl) (by obtain ⟨rfl, rfl, rfl, q⟩ := h8; exact ⟨rfl, rfl, Or.inr ⟨rfl, hok, by omega⟩⟩)
      obtain ⟨rfl, ht120, hex, ⟨κ1, h1, hN⟩, hsx⟩ := h8
      have hlt : kTc κ1 < kMd κ1 := by have := hN.1; have := hN.2.2.1; omega
      refine s_st (st' := [.ref (ad8 2 (kTc κ1))]) (by rw [hN.1]; rfl) ?_
      refine s_lv (lv' := [some (.ref (ad8 0 0)), some (.int v), none]) (by rw [hex 0 0 _ h.1] <;> rfl) ?_
      refine s_astore_n dX3_number_26 rfl rfl ?_
      refine s_lv (lv' := [some (.ref (ad8 0 0)), some (.int v), some (.ref (ad8 2 (kTc κ1)))]) rfl ?_
      refine s_aload_n dX3_number_27 rfl ?_
      refine s_getN (kd := 2) (ix := (kTc κ1)) (ci := 3) (fs := [.ref (ad8 3 (kTc κ1)), .int ((kTr κ1 (kTc κ1)).1), .int ((kTr κ1 (kTc κ1)).2.1), .int ((kTr κ1 (kTc κ1)).2.2.1), .int (nI (kTr κ1 (kTc κ1)).2.2.2.1), .int (nI (kTr κ1 (kTc κ1)).2.2.2.2)]) (host := "SmallChecker") ((h1.2.2.2.2.1 (kTc κ1) hlt)) rfl in_X3_number_X2 0 (by decide) (by decide +kernel) rfl rfl dX3_number_28 ?_
      refine s_callVN (As := []) (rest := []) (n := 0) (kd := 3) (ix := (kTc κ1)) (fun l hl => c_X0_becomeZero G l hl ad8 M8 (kTc κ1) (kPo κ1 (kTc κ1)).1 (kPo κ1 (kTc κ1)).2.1 (kPo κ1 (kTc κ1)).2.2.1 (kPo κ1 (kTc κ1)).2.2.2.1 (kPo κ1 (kTc κ1)).2.2.2.2 (h1.2.2.2.2.2.1 (kTc κ1) hlt)) (goodUW (by decide +kernel)) rfl (host := "SmallChecker") (by decide +kernel) (by decide +kernel) (by decide +kernel) (by decide +kernel) (by decide +kernel) ((h1.2.2.2.2.2.1 (kTc κ1) hlt).1) rfl rfl ⟨(Nat.le_of_ble_eq_true rfl), (Nat.le_of_ble_eq_true rfl)⟩ ⟨(Nat.le_of_ble_eq_true rfl), (Nat.le_of_ble_eq_true rfl)⟩ (Nat.le_of_ble_eq_true rfl) dX3_number_31 rfl (fun r9 ad9 M9 h9 => ?_)
      obtain ⟨rfl, rfl, hp9, hs9⟩ := h9
      refine s_aload_n dX3_number_34 rfl ?_
      refine s_getN (kd := 2) (ix := (kTc κ1)) (ci := 3) (fs := [.ref (ad8 3 (kTc κ1)), .int ((kTr κ1 (kTc κ1)).1), .int ((kTr κ1 (kTc κ1)).2.1), .int ((kTr κ1 (kTc κ1)).2.2.1), .int (nI (kTr κ1 (kTc κ1)).2.2.2.1), .int (nI (kTr κ1 (kTc κ1)).2.2.2.2)]) (host := "SmallChecker") ((hs9 2 (kTc κ1) (by simp [pPo])).trans (h1.2.2.2.2.1 (kTc κ1) hlt)) rfl in_X3_number_X2 0 (by decide) (by decide +kernel) rfl rfl dX3_number_35 ?_
      refine s_iconst (v := 0) dX3_number_38 (by decide) ?_
      refine s_iload_n dX3_number_39 rfl ?_
      refine s_i2l dX3_number_40 ?_
      refine s_callVN (As := [.int 0, .long v.toInt64]) (rest := []) (n := 2) (kd := 3) (ix := (kTc κ1)) (fun l hl => c_X0_append G l hl ad8 M9 (kTc κ1) 0 0 false (kPo κ1 (kTc κ1)).2.2.2.1 (kPo κ1 (kTc κ1)).2.2.2.2 hp9 (by omega) 0 v.toInt64) (goodUW (by decide +kernel)) rfl (host := "SmallChecker") (by decide +kernel) (by decide +kernel) (by decide +kernel) (by decide +kernel) (by decide +kernel) hp9.1 rfl rfl ⟨(Nat.le_of_ble_eq_true rfl), (Nat.le_of_ble_eq_true rfl)⟩ ⟨(Nat.le_of_ble_eq_true rfl), (Nat.le_of_ble_eq_true rfl)⟩ (Nat.le_of_ble_eq_true rfl) dX3_number_41 rfl (fun r10 ad10 M10 h10 => ?_)
      obtain ⟨rfl, rfl, hp10, hs10⟩ := h10
      have h2 := h1.work hlt hN.2.2.2.1 (σ := kSh κ1) ((hs9.trans hs10).mono (fun k i q => Or.inr q)) (h1.2.2.2.2.2.2.2.1.same (hs9.trans hs10) (by simp [pPo]) (by simp [pPo]) (by simp [pPo]) (by simp [pPo])) hp10
      refine s_aload_n dX3_number_44 rfl ?_
      refine s_aload_n dX3_number_45 rfl ?_
      refine s_bipush (v := 7) dX3_number_46 (by decide) ?_
      refine s_iload_n dX3_number_48 rfl ?_
      refine s_iconst (v := -1) dX3_number_49 (by decide) ?_
      refine s_iconst (v := 0) dX3_number_50 (by decide) ?_
      refine s_callV (As := [.ref (ad8 2 (kTc κ1)), .int 7, .int v, .int (-1), .int 0]) (rest := []) (n := 5) (kd := 0) (ix := 0) (fun l hl => c_X3_keep G l hl ad8 M10 (kSetPo (kSetSh κ1 (kSh κ1)) (kTc κ1) (jAppend (0, 0, false, (kPo κ1 (kTc κ1)).2.2.2.1, (kPo κ1 (kTc κ1)).2.2.2.2) 0 v.toInt64)) h2 (Nat.le_of_lt hlt) hN.2.2.2.1 (by show kRc κ1 ≤ 60; rw [hN.2.1]; exact hr) hlt 7 v (-1) 0) (goodUW (by decide +kernel)) rfl (by decide +kernel) ((hs10 0 0 (by simp [pPo])).trans ((hs9 0 0 (by simp [pPo])).trans h1.1)) rfl rfl ⟨(Nat.le_of_ble_eq_true rfl), (Nat.le_of_ble_eq_true rfl)⟩ ⟨(Nat.le_of_ble_eq_true rfl), (Nat.le_of_ble_eq_true rfl)⟩ (Nat.le_of_ble_eq_true rfl) dX3_number_51 rfl (fun r11 ad11 M11 h11 => ?_)
      obtain ⟨rfl, m, rfl, hmd, h3, hs11⟩ := h11
      refine s_eqi (y := nI (kTc κ1)) (kTc_ps _ _ _ _) ?_
      have hpr : PR (jAppend (0, 0, false, (kPo κ1 (kTc κ1)).2.2.2.1, (kPo κ1 (kTc κ1)).2.2.2.2) 0 v.toInt64) (one1 0 v.toInt) := by have z := PR.single (kPo κ1 (kTc κ1)) (j := 0) ⟨by decide, by decide⟩ hok2; rw [Int32.toInt_toInt64] at z; exact z
      have hfin := cAdd.of (σ := kSh κ1) (π := (jAppend (0, 0, false, (kPo κ1 (kTc κ1)).2.2.2.1, (kPo κ1 (kTc κ1)).2.2.2.2) 0 v.toInt64)) (h := -2) (o := v) (w := -1) (d := 0) (g := False) (P := one1 0 v.toInt) hC hA hN ht120 hex ((hsx.trans ((hs9.trans hs10).mono (fun k i q => pWk_ck (Or.inr q)))).trans hs11) hmd h3 (by rw [hN.2.2.2.2.2.2.2]; exact ⟨f, hR⟩) (Or.inr ⟨fun q => q, hpr⟩) ⟨Or.inr (Or.inl ⟨rfl, by rw [Int32.toInt_toInt64] at hok2; exact hok2, rfl⟩), Nat.zero_le _⟩ (aCl_num _ _ _ _).symm
      exact s_iret rfl (rfl) dX3_number_54 (Nat.le_of_ble_eq_true rfl) (Nat.le_of_ble_eq_true rfl) (⟨hok, hfin⟩)
    · exact s_throw (cls := eI) (ik := 45) (is := 76) (ic := 49) (text := "no such number") (names := eRs) rfl rfl (by decide +kernel) (by decide +kernel) (List.mem_cons_of_mem _ (inU (by decide +kernel) rfl)) (List.mem_cons_of_mem _ (inU (by decide +kernel) rfl)) (by decide +kernel) xuI xbI xoI dX3_number_12 dX3_number_15 dX3_number_16 dX3_number_18 dX3_number_21 (Nat.le_of_ble_eq_true rfl) (Nat.le_of_ble_eq_true rfl) (Nat.le_of_ble_eq_true rfl) (Nat.le_of_ble_eq_true rfl) (⟨rfl, rfl, Or.inl ⟨rfl, fun q => absurd q.2 c9⟩⟩)
