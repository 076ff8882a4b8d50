theorem xnS : ∀ w ∈ (vx_atS RX3 120 eS eRs).filter goodWord, w ∈ wsX3_nextTree := by
  intro w hw
  unfold wsX3_nextTree
  exact List.mem_cons_of_mem _ (List.mem_append_right _ hw)
abbrev mX3_nextTree : sMeth := (cX3_nextTree, 2, RX3, wsX3_nextTree, { frames := 6, cells := 4, slots := 91, locals := 90 }, (some (.object "SmallChecker$Tree")), "nextTree", [])
theorem in_X3_nextTree_X2 : ∀ w ∈ wsX20, w ∈ wsX3_nextTree := by decide +kernel
theorem in_X3_nextTree_X3 : ∀ w ∈ wsX30, w ∈ wsX3_nextTree := by decide +kernel
set_option maxHeartbeats 4000000 in
set_option maxRecDepth 100000 in
theorem c_X3_nextTree (G : sG) (l : Launch) (hl : l.stackTraces = false) (ad : sAd) (M : sM) (κ : sCk) (h : hCk G ad M κ) (ht : kTc κ ≤ kMd κ) (hm : kMd κ ≤ 120) (hr : kRc κ ≤ 60) : sMet G l yX3_nextTree mX3_nextTree [.ref (ad 0 0)] ad M (fun r ad' M' => r = some (.ref (ad' 2 (kTc κ))) ∧ kTc κ < 120 ∧ sExt M ad ad' ∧ (∃ κ', hCk G ad' M' κ' ∧ kNx κ κ') ∧ sSame pCk M M') (fun E ad' M' => E = eS ∧ ad = ad' ∧ M = M' ∧ kTc κ = 120) := by
  refine sMet.of hl (by decide +kernel) rfl rfl rfl rfl (Nat.le_of_ble_eq_true rfl) (fun X => ?_)
  refine s_lv (lv' := [some (.ref (ad 0 0)), none]) rfl ?_
  refine s_aload_n dX3_nextTree_0 rfl ?_
  refine s_get (kd := 0) (ix := 0) (ci := 4) (fs := [.ref (ad 7 0), .ref (ad 8 0), .ref (ad 1 0), .ref (ad 3 120), .int (nI (kTc κ)), .int (nI (kRc κ))])  h.1 rfl in_X3_nextTree_X3 4 (by decide) (by decide +kernel) rfl rfl dX3_nextTree_1 ?_
  refine s_bipush (v := 120) dX3_nextTree_4 (by decide) ?_
  refine s_icmp_lt 19 dX3_nextTree_6 (by decide) (fun c6 => ?_) (fun c6 => ?_)
  · have q120 : kTc κ < 120 := nI_lt_mp (b := 120) c6 (by omega) (by omega)
    refine s_aload_n dX3_nextTree_19 rfl ?_
    refine s_get (kd := 0) (ix := 0) (ci := 4) (fs := [.ref (ad 7 0), .ref (ad 8 0), .ref (ad 1 0), .ref (ad 3 120), .int (nI (kTc κ)), .int (nI (kRc κ))])  h.1 rfl in_X3_nextTree_X3 0 (by decide) (by decide +kernel) rfl rfl dX3_nextTree_20 ?_
    refine s_aload_n dX3_nextTree_23 rfl ?_
    refine s_get (kd := 0) (ix := 0) (ci := 4) (fs := [.ref (ad 7 0), .ref (ad 8 0), .ref (ad 1 0), .ref (ad 3 120), .int (nI (kTc κ)), .int (nI (kRc κ))])  h.1 rfl in_X3_nextTree_X3 4 (by decide) (by decide +kernel) rfl rfl dX3_nextTree_24 ?_
    by_cases hq : kTc κ < kMd κ
    · refine s_aald (kd := 7) (ix := 0) (n := 120) (f := fTs ad (kMd κ)) (j := kTc κ) (v := .ref (ad 2 (kTc κ))) 3 rfl rfl h.2.1 rfl (by omega) (by decide) (fTs_in hq) dX3_nextTree_27 ?_
      refine s_astore_n dX3_nextTree_28 rfl rfl ?_
      refine s_lv (lv' := [some (.ref (ad 0 0)), some (.ref (ad 2 (kTc κ)))]) rfl ?_
      refine s_aload_n dX3_nextTree_29 rfl ?_
      refine s_ifnonnull 51 dX3_nextTree_30 (by decide) ?_
      refine s_aload_n dX3_nextTree_51 rfl ?_
      exact s_aret rfl (Or.inr ⟨_, rfl⟩) dX3_nextTree_52 (Nat.le_of_ble_eq_true rfl) (Nat.le_of_ble_eq_true rfl) (⟨rfl, by omega, fun _ _ _ _ => rfl, ⟨κ, h, rfl, rfl, hq, hm, fun _ _ => ⟨rfl, rfl⟩, rfl, rfl, rfl⟩, sSame.rfl⟩)
    · refine s_aald (kd := 7) (ix := 0) (n := 120) (f := fTs ad (kMd κ)) (j := kTc κ) (v := .null) 3 rfl rfl h.2.1 rfl (by omega) (by decide) (by simp [fTs, hq, va_rf]) dX3_nextTree_27 ?_
      refine s_astore_nN dX3_nextTree_28 rfl rfl ?_
      refine s_lv (lv' := [some (.ref (ad 0 0)), some (.null)]) rfl ?_
      refine s_aload_nN dX3_nextTree_29 rfl ?_
      refine s_ifnonnullN dX3_nextTree_30 ?_
      refine s_newC (ci := 3) (fs := [.null, .int 0, .int 0, .int 0, .int 0, .int 0]) 2 (kTc κ) tyX2 tyX2_ok ((h.2.2.2.2.2.2.2.2 (kTc κ) (by omega) (by omega)).1) rfl in_X3_nextTree_X2 (by decide +kernel) (by decide +kernel) (by decide +kernel) (fsX2_ok) (Nat.le_of_ble_eq_true rfl) (Nat.le_of_ble_eq_true rfl) dX3_nextTree_33 (fun ad1 E1 => ?_)
      refine s_lv (lv' := [some (.ref (ad1 0 0)), some (.null)]) (by rw [E1 0 0 (by omega)] <;> rfl) ?_
      refine s_dup dX3_nextTree_36 rfl ?_
      refine s_callIN (As := []) (rest := [.ref (ad1 2 (kTc κ))]) (n := 0) (kd := 2) (ix := (kTc κ)) (fun l hl => c_X2_init G l hl ad1 (sset M 2 (kTc κ) (.inr (3, [.null, .int 0, .int 0, .int 0, .int 0, .int 0]))) (kTc κ) (sset_self _ _ _ _) ((sset_k _ _ (by decide)).trans (h.2.2.2.2.2.2.2.2 (kTc κ) (by omega) (by omega)).2.1) ((sset_k _ _ (by decide)).trans (h.2.2.2.2.2.2.2.2 (kTc κ) (by omega) (by omega)).2.2.1) ((sset_k _ _ (by decide)).trans (h.2.2.2.2.2.2.2.2 (kTc κ) (by omega) (by omega)).2.2.2)) gX3_nextTree_X2_init_n171 rfl (host := "SmallChecker") (by decide +kernel) (by decide +kernel) (by decide +kernel) rfl (by decide +kernel) rfl ⟨(Nat.le_of_ble_eq_true rfl), (Nat.le_of_ble_eq_true rfl)⟩ ⟨(Nat.le_of_ble_eq_true rfl), (Nat.le_of_ble_eq_true rfl)⟩ (Nat.le_of_ble_eq_true rfl) dX3_nextTree_37 rfl (fun r9 ad9 M9 h9 => ?_)
      obtain ⟨rfl, Ea, hp9, h29, hs9⟩ := h9
      refine s_lv (lv' := [some (.ref (ad9 0 0)), some (.null)]) (by rw [Ea 0 0 (by omega)] <;> rfl) ?_
      refine s_st (st' := [.ref (ad9 2 (kTc κ))]) (by rw [Ea 2 (kTc κ) (by omega)] <;> rfl) ?_
      refine s_astore_n dX3_nextTree_40 rfl rfl ?_
      refine s_lv (lv' := [some (.ref (ad9 0 0)), some (.ref (ad9 2 (kTc κ)))]) rfl ?_
      refine s_aload_n dX3_nextTree_41 rfl ?_
      refine s_get (kd := 0) (ix := 0) (ci := 4) (fs := [.ref (ad 7 0), .ref (ad 8 0), .ref (ad 1 0), .ref (ad 3 120), .int (nI (kTc κ)), .int (nI (kRc κ))]) ((hs9 0 0 (by simp [pTr])).trans ((sset_k _ _ (by decide)).trans h.1)) rfl in_X3_nextTree_X3 0 (by decide) (by decide +kernel) rfl rfl dX3_nextTree_42 ?_
      refine s_st (st' := [.ref (ad9 7 0)]) (by rw [(Ea 7 0 (by omega)).trans (E1 7 0 (by omega))] <;> rfl) ?_
      refine s_aload_n dX3_nextTree_45 rfl ?_
      refine s_get (kd := 0) (ix := 0) (ci := 4) (fs := [.ref (ad 7 0), .ref (ad 8 0), .ref (ad 1 0), .ref (ad 3 120), .int (nI (kTc κ)), .int (nI (kRc κ))])  ((hs9 0 0 (by simp [pTr])).trans ((sset_k _ _ (by decide)).trans h.1)) rfl in_X3_nextTree_X3 4 (by decide) (by decide +kernel) rfl rfl dX3_nextTree_46 ?_
      refine s_aload_n dX3_nextTree_49 rfl ?_
      refine s_aast (kd := 7) (ix := 0) (n := 120) (f := fTs ad (kMd κ)) (j := kTc κ) (kd' := 2) (ix' := kTc κ) 3 rfl ((hs9 7 0 (by simp [pTr])).trans ((sset_k _ _ (by decide)).trans h.2.1)) h29 rfl rfl (by omega) (by decide) dX3_nextTree_50 ?_
      have hmd : kMd κ = kTc κ := by omega
      have hE : ∀ k i, ¬ ((k = 2 ∨ k = 3 ∨ k = 4 ∨ k = 5) ∧ i = kTc κ) → ad9 k i = ad k i := fun k i q => (Ea k i (fun z => q ⟨Or.inr z.1, z.2⟩)).trans (E1 k i (fun z => q ⟨Or.inl z.1, z.2⟩))
      refine s_aload_n dX3_nextTree_51 rfl ?_
      exact s_aret rfl (Or.inr ⟨_, rfl⟩) dX3_nextTree_52 (Nat.le_of_ble_eq_true rfl) (Nat.le_of_ble_eq_true rfl) (⟨rfl, by omega, fun k i e he => hE k i (h.named hmd (by omega) he), ⟨kGrow κ, h.grow hmd (by omega) hE (fun k i q1 q2 => (sset_ne _ _ q2).trans ((hs9 k i q1).trans (sset_ne _ _ (fun q => q1 ⟨Or.inl q.1, q.2⟩)))) ((sset_k _ _ (by decide)).trans h29) (hp9.same (sSame.rfl.set (P := fun k _ => k = 7) rfl _) (by decide) (by decide) (by decide)) (sset_self _ _ _ _), rfl, rfl, (by show kTc κ < kMd κ + 1; omega), (by show kMd κ + 1 ≤ 120; omega), fun i hi => ⟨updF_ne _ _ (Nat.ne_of_lt hi), updF_ne _ _ (Nat.ne_of_lt hi)⟩, rfl, rfl, rfl⟩, ((sSame.rfl.set (P := pCk) (by simp [pCk]) _).trans (hs9.mono (fun k i q => by have := q.1; simp [pCk]; omega))).set (by simp [pCk]) _⟩)
  · exact s_throw (ik := 116) (is := 169) (ic := 120) (text := "120 trees are there") (names := eRs) rfl rfl (by decide +kernel) (by decide +kernel) (by decide +kernel) (by decide +kernel) (by decide +kernel) xnS xbS xoS dX3_nextTree_9 dX3_nextTree_12 dX3_nextTree_13 dX3_nextTree_15 dX3_nextTree_18 (Nat.le_of_ble_eq_true rfl) (Nat.le_of_ble_eq_true rfl) (Nat.le_of_ble_eq_true rfl) (Nat.le_of_ble_eq_true rfl) ⟨rfl, rfl, rfl, by have q9 : ¬ kTc κ < 120 := fun q => c6 (nI_lt_mpr (b := 120) q (by omega)); omega⟩
