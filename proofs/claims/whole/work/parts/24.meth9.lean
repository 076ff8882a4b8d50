abbrev mX3_isRow : sMeth := (cX3_isRow, 2, RX3, wsX3_isRow, { frames := 0, cells := 0, slots := 0, locals := 0 }, (some .boolean), "isRow", [])
theorem in_X3_isRow_X3 : ∀ w ∈ wsX30, w ∈ wsX3_isRow := by decide +kernel
set_option maxHeartbeats 4000000 in
set_option maxRecDepth 100000 in
theorem c_X3_isRow (G : sG) (l : Launch) (hl : l.stackTraces = false) (ad : sAd) (M : sM) (κ : sCk) (h : hCk G ad M κ) (ht : kTc κ ≤ kMd κ) (hm : kMd κ ≤ 120) (hr : kRc κ ≤ 60) (row : Int32) : sMet G l yX3_isRow mX3_isRow [.ref (ad 0 0), .int row] ad M (fun r ad' M' => ad = ad' ∧ M = M' ∧ ∃ z : Bool, r = some (.int (jB z)) ∧ (z = true ↔ ∃ j, j < kRc κ ∧ row = nI j)) (fun _ _ _ => False) := by
  refine sMet.of hl (by decide +kernel) rfl rfl rfl rfl (Nat.le_of_ble_eq_true rfl) (fun X => ?_)
  refine s_lv (lv' := [some (.ref (ad 0 0)), some (.int row)]) rfl ?_
  refine s_iload_n dX3_isRow_0 rfl ?_
  refine s_if_lt 16 dX3_isRow_1 (by decide) (fun c1 => ?_) (fun c1 => ?_)
  · refine s_iconst (v := 0) dX3_isRow_16 (by decide) ?_
    exact s_iret rfl (rfl) dX3_isRow_17 (Nat.le_of_ble_eq_true rfl) (Nat.le_of_ble_eq_true rfl) (⟨rfl, rfl, false, rfl, (fun q => nomatch q), fun q => by obtain ⟨j, hj, rfl⟩ := q; exact absurd c1 (nI_pos (by omega))⟩)
  · refine s_iload_n dX3_isRow_4 rfl ?_
    refine s_aload_n dX3_isRow_5 rfl ?_
    refine s_get (kd := 0) (ix := 0) (ci := 4) (fs := [.ref (ad 7 0), .ref (ad 8 0), .ref (ad 1 0), .ref (ad 3 120), .int (nI (kTc κ)), .int (nI (kRc κ))])  h.1 rfl in_X3_isRow_X3 5 (by decide) (by decide +kernel) rfl rfl dX3_isRow_6 ?_
    refine s_icmp_ge 16 dX3_isRow_9 (by decide) (fun c9 => ?_) (fun c9 => ?_)
    · refine s_iconst (v := 0) dX3_isRow_16 (by decide) ?_
      exact s_iret rfl (rfl) dX3_isRow_17 (Nat.le_of_ble_eq_true rfl) (Nat.le_of_ble_eq_true rfl) (⟨rfl, rfl, false, rfl, (fun q => nomatch q), fun q => by obtain ⟨j, hj, rfl⟩ := q; exact absurd c9 (nI_ge hj (by omega))⟩)
    · refine s_iconst (v := 1) dX3_isRow_12 (by decide) ?_
      refine s_goto 17 dX3_isRow_13 (by decide) ?_
      exact s_iret rfl (rfl) dX3_isRow_17 (Nat.le_of_ble_eq_true rfl) (Nat.le_of_ble_eq_true rfl) (⟨rfl, rfl, true, rfl, fun _ => by
      rcases pk_ix row (n := kRc κ) (by omega) with q | q | q
      · exact absurd q c1
      · exact absurd q c9
      · exact q, fun _ => rfl⟩)
abbrev mX3_treeAt : sMeth := (cX3_treeAt, 2, RX3, wsX3_treeAt, { frames := 0, cells := 0, slots := 0, locals := 0 }, (some (.object "SmallChecker$Tree")), "treeAt", [])
theorem in_X3_treeAt_X3 : ∀ w ∈ wsX30, w ∈ wsX3_treeAt := by decide +kernel
set_option maxHeartbeats 4000000 in
set_option maxRecDepth 100000 in
theorem c_X3_treeAt (G : sG) (l : Launch) (hl : l.stackTraces = false) (ad : sAd) (M : sM) (κ : sCk) (h : hCk G ad M κ) (ht : kTc κ ≤ kMd κ) (hm : kMd κ ≤ 120) (hr : kRc κ ≤ 60) (i : Int32) : sMet G l yX3_treeAt mX3_treeAt [.ref (ad 0 0), .int i] ad M (fun r ad' M' => ad = ad' ∧ M = M' ∧ ((∃ j, j < kTc κ ∧ i = nI j ∧ r = some (.ref (ad 2 j))) ∨ ((∀ j, j < kTc κ → i ≠ nI j) ∧ r = some .null))) (fun _ _ _ => False) := by
  refine sMet.of hl (by decide +kernel) rfl rfl rfl rfl (Nat.le_of_ble_eq_true rfl) (fun X => ?_)
  refine s_lv (lv' := [some (.ref (ad 0 0)), some (.int i)]) rfl ?_
  refine s_iload_n dX3_treeAt_0 rfl ?_
  refine s_if_lt 21 dX3_treeAt_1 (by decide) (fun c1 => ?_) (fun c1 => ?_)
  · refine s_aconst_null dX3_treeAt_21 ?_
    exact s_aret rfl (Or.inl rfl) dX3_treeAt_22 (Nat.le_of_ble_eq_true rfl) (Nat.le_of_ble_eq_true rfl) (⟨rfl, rfl, Or.inr ⟨fun j hj q => by rw [q] at c1; exact absurd c1 (nI_pos (by omega)), rfl⟩⟩)
  · refine s_iload_n dX3_treeAt_4 rfl ?_
    refine s_aload_n dX3_treeAt_5 rfl ?_
    refine s_get (kd := 0) (ix := 0) (ci := 4) (fs := [.ref (ad 7 0), .ref (ad 8 0), .ref (ad 1 0), .ref (ad 3 120), .int (nI (kTc κ)), .int (nI (kRc κ))])  h.1 rfl in_X3_treeAt_X3 4 (by decide) (by decide +kernel) rfl rfl dX3_treeAt_6 ?_
    refine s_icmp_ge 21 dX3_treeAt_9 (by decide) (fun c9 => ?_) (fun c9 => ?_)
    · refine s_aconst_null dX3_treeAt_21 ?_
      exact s_aret rfl (Or.inl rfl) dX3_treeAt_22 (Nat.le_of_ble_eq_true rfl) (Nat.le_of_ble_eq_true rfl) (⟨rfl, rfl, Or.inr ⟨fun j hj q => by rw [q] at c9; exact absurd c9 (nI_ge hj (by omega)), rfl⟩⟩)
    · obtain ⟨j, hj, hij⟩ : ∃ j, j < kTc κ ∧ i = nI j := by
        rcases pk_ix i (n := kTc κ) (by omega) with q | q | q
        · exact absurd q c1
        · exact absurd q c9
        · exact q
      refine s_aload_n dX3_treeAt_12 rfl ?_
      refine s_get (kd := 0) (ix := 0) (ci := 4) (fs := [.ref (ad 7 0), .ref (ad 8 0), .ref (ad 1 0), .ref (ad 3 120), .int (nI (kTc κ)), .int (nI (kRc κ))])  h.1 rfl in_X3_treeAt_X3 0 (by decide) (by decide +kernel) rfl rfl dX3_treeAt_13 ?_
      refine s_iload_n dX3_treeAt_16 rfl ?_
      refine s_aald (kd := 7) (ix := 0) (n := 120) (f := fTs ad (kMd κ)) (j := j) (v := .ref (ad 2 j)) 3 rfl rfl h.2.1 (hij) (by omega) (by decide) (fTs_in (by omega)) dX3_treeAt_17 ?_
      refine s_goto 22 dX3_treeAt_18 (by decide) ?_
      exact s_aret rfl (Or.inr ⟨_, rfl⟩) dX3_treeAt_22 (Nat.le_of_ble_eq_true rfl) (Nat.le_of_ble_eq_true rfl) (⟨rfl, rfl, Or.inl ⟨j, hj, hij, rfl⟩⟩)
abbrev mX3_polynomialOf : sMeth := (cX3_polynomialOf, 3, RX3, wsX3_polynomialOf, { frames := 1, cells := 0, slots := 0, locals := 21 }, (some (.object "SmallChecker$Polynomial")), "polynomialOf", [])
theorem in_X3_polynomialOf_X2 : ∀ w ∈ wsX20, w ∈ wsX3_polynomialOf := by decide +kernel
theorem in_X3_polynomialOf_X3 : ∀ w ∈ wsX30, w ∈ wsX3_polynomialOf := by decide +kernel
set_option maxHeartbeats 4000000 in
set_option maxRecDepth 100000 in
theorem c_X3_polynomialOf (G : sG) (l : Launch) (hl : l.stackTraces = false) (ad : sAd) (M : sM) (κ : sCk) (h : hCk G ad M κ) (ht : kTc κ ≤ kMd κ) (hm : kMd κ ≤ 120) (hr : kRc κ ≤ 60) (i : Int32) : sMet G l yX3_polynomialOf mX3_polynomialOf [.ref (ad 0 0), .int i] ad M (fun r ad' M' => ad = ad' ∧ M = M' ∧ ((∃ j, j < kTc κ ∧ i = nI j ∧ r = some (.ref (ad 3 j))) ∨ ((∀ j, j < kTc κ → i ≠ nI j) ∧ r = some (.ref (ad 3 120))))) (fun _ _ _ => False) := by
  refine sMet.of hl (by decide +kernel) rfl rfl rfl rfl (Nat.le_of_ble_eq_true rfl) (fun X => ?_)
  refine s_lv (lv' := [some (.ref (ad 0 0)), some (.int i), none]) rfl ?_
  refine s_aload_n dX3_polynomialOf_0 rfl ?_
  refine s_iload_n dX3_polynomialOf_1 rfl ?_
  refine s_callV (As := [.int i]) (rest := []) (n := 1) (kd := 0) (ix := 0) (fun l hl => c_X3_treeAt G l hl ad M κ h ht hm hr i) gX3_polynomialOf_X3_treeAt rfl (by decide +kernel) h.1 rfl rfl ⟨(Nat.le_of_ble_eq_true rfl), (Nat.le_of_ble_eq_true rfl)⟩ ⟨(Nat.le_of_ble_eq_true rfl), (Nat.le_of_ble_eq_true rfl)⟩ (Nat.le_of_ble_eq_true rfl) dX3_polynomialOf_2 rfl (fun r9 ad9 M9 h9 => ?_)
  obtain ⟨rfl, rfl, h9⟩ := h9
  rcases h9 with ⟨j9, hj9, hij9, rfl⟩ | ⟨hn9, rfl⟩
  · refine s_astore_n dX3_polynomialOf_5 rfl rfl ?_
    refine s_lv (lv' := [some (.ref (ad 0 0)), some (.int i), some (.ref (ad 2 j9))]) rfl ?_
    refine s_aload_n dX3_polynomialOf_6 rfl ?_
    refine s_ifnonnull 17 dX3_polynomialOf_7 (by decide) ?_
    refine s_aload_n dX3_polynomialOf_17 rfl ?_
    refine s_getN (kd := 2) (ix := j9) (ci := 3) (fs := [.ref (ad 3 j9), .int ((kTr κ j9).1), .int ((kTr κ j9).2.1), .int ((kTr κ j9).2.2.1), .int (nI (kTr κ j9).2.2.2.1), .int (nI (kTr κ j9).2.2.2.2)]) (host := "SmallChecker") ((h.2.2.2.2.1 j9 (by omega))) rfl in_X3_polynomialOf_X2 0 (by decide) (by decide +kernel) rfl rfl dX3_polynomialOf_18 ?_
    exact s_aret rfl (Or.inr ⟨_, rfl⟩) dX3_polynomialOf_21 (Nat.le_of_ble_eq_true rfl) (Nat.le_of_ble_eq_true rfl) (⟨rfl, rfl, Or.inl ⟨j9, hj9, hij9, rfl⟩⟩)
  · refine s_astore_nN dX3_polynomialOf_5 rfl rfl ?_
    refine s_lv (lv' := [some (.ref (ad 0 0)), some (.int i), some (.null)]) rfl ?_
    refine s_aload_nN dX3_polynomialOf_6 rfl ?_
    refine s_ifnonnullN dX3_polynomialOf_7 ?_
    refine s_aload_n dX3_polynomialOf_10 rfl ?_
    refine s_get (kd := 0) (ix := 0) (ci := 4) (fs := [.ref (ad 7 0), .ref (ad 8 0), .ref (ad 1 0), .ref (ad 3 120), .int (nI (kTc κ)), .int (nI (kRc κ))])  h.1 rfl in_X3_polynomialOf_X3 3 (by decide) (by decide +kernel) rfl rfl dX3_polynomialOf_11 ?_
    refine s_goto 21 dX3_polynomialOf_14 (by decide) ?_
    exact s_aret rfl (Or.inr ⟨_, rfl⟩) dX3_polynomialOf_21 (Nat.le_of_ble_eq_true rfl) (Nat.le_of_ble_eq_true rfl) (⟨rfl, rfl, Or.inr ⟨hn9, rfl⟩⟩)
abbrev mX3_treeFieldsOf : sMeth := (cX3_treeFieldsOf, 1, RX3, wsX3_treeFieldsOf, { frames := 0, cells := 0, slots := 0, locals := 0 }, (some .int), "treeFieldsOf", [])
set_option maxHeartbeats 4000000 in
set_option maxRecDepth 100000 in
theorem c_X3_treeFieldsOf (G : sG) (l : Launch) (hl : l.stackTraces = false) (ad : sAd) (M : sM) (kind : Int32) : sMet G l yX3_treeFieldsOf mX3_treeFieldsOf [.int kind] ad M (fun r ad' M' => ad = ad' ∧ M = M' ∧ ((∃ j, j < 7 ∧ kind = nI j ∧ r = some (.int (nI (tfN j)))) ∨ ((∀ j, j < 7 → kind ≠ nI j) ∧ r = some (.int 1)))) (fun _ _ _ => False) := by
  refine sMet.of hl (by decide +kernel) rfl rfl rfl rfl (Nat.le_of_ble_eq_true rfl) (fun X => ?_)
  refine s_lv (lv' := [some (.int kind)]) rfl ?_
  refine s_iload_n dX3_treeFieldsOf_0 rfl ?_
  refine s_if_lt 18 dX3_treeFieldsOf_1 (by decide) (fun c1 => ?_) (fun c1 => ?_)
  · refine s_iconst (v := 1) dX3_treeFieldsOf_18 (by decide) ?_
    exact s_iret rfl (rfl) dX3_treeFieldsOf_19 (Nat.le_of_ble_eq_true rfl) (Nat.le_of_ble_eq_true rfl) (⟨rfl, rfl, Or.inr ⟨fun j hj q => by rw [q] at c1; exact absurd c1 (nI_pos (by omega)), rfl⟩⟩)
  · refine s_iload_n dX3_treeFieldsOf_4 rfl ?_
    refine s_bipush (v := 7) dX3_treeFieldsOf_5 (by decide) ?_
    refine s_icmp_ge 18 dX3_treeFieldsOf_7 (by decide) (fun c7 => ?_) (fun c7 => ?_)
    · refine s_iconst (v := 1) dX3_treeFieldsOf_18 (by decide) ?_
      exact s_iret rfl (rfl) dX3_treeFieldsOf_19 (Nat.le_of_ble_eq_true rfl) (Nat.le_of_ble_eq_true rfl) (⟨rfl, rfl, Or.inr ⟨fun j hj q => by rw [q] at c7; exact absurd c7 (nI_ge (b := 7) hj (by omega)), rfl⟩⟩)
    · obtain ⟨j, hj, hij⟩ : ∃ j, j < 7 ∧ kind = nI j := by
        rcases pk_ix kind (n := 7) (by omega) with q | q | q
        · exact absurd q c1
        · exact absurd q c7
        · exact q
      refine s_getTF (by decide +kernel) dX3_treeFieldsOf_10 ?_
      refine s_iload_n dX3_treeFieldsOf_13 rfl ?_
      refine s_tfl (j := j) hij hj dX3_treeFieldsOf_14 ?_
      refine s_goto 19 dX3_treeFieldsOf_15 (by decide) ?_
      exact s_iret rfl (rfl) dX3_treeFieldsOf_19 (Nat.le_of_ble_eq_true rfl) (Nat.le_of_ble_eq_true rfl) (⟨rfl, rfl, Or.inl ⟨j, hj, hij, rfl⟩⟩)
