/-! the law from its first byte to its loop -/
section SLS
theorem hCk.ad {G : sG} {ad ad' : sAd} {M : sM} {κ : sCk} (h : hCk G ad M κ) (ha : ∀ k i, k ≤ 11 → ad' k i = ad k i) : hCk G ad' M κ := by
  obtain ⟨h1, h2, h3, h4, h5, h6, h7, h8, h9⟩ := h
  have po : ∀ (p : Nat) (π : sPol), hPo G ad M p π → hPo G ad' M p π := fun p π q => ⟨by rw [ha 4 p (by omega), ha 5 p (by omega)]; exact q.1, q.2.1, q.2.2⟩
  have e2 : fTs ad' (kMd κ) = fTs ad (kMd κ) := by
    funext j
    show (if j < kMd κ then some (ad' 2 j) else none) = _
    rw [ha 2 j (by omega)]
  have e6 : fRs ad' = fRs ad := by
    funext j
    show (if j < 60 then some (ad' 6 j) else none) = _
    rw [ha 6 j (by omega)]
  refine ⟨?_, by rw [e2]; exact h2, by rw [e6]; exact h3, h4, fun i hi => ?_, fun i hi => po _ _ (h6 i hi), po _ _ h7, ⟨?_, h8.2.1, h8.2.2.1, h8.2.2.2⟩, h9⟩
  · show M 0 0 = some (.inr (4, [.ref (ad' 7 0), .ref (ad' 8 0), .ref (ad' 1 0), .ref (ad' 3 120), .int (nI (kTc κ)), .int (nI (kRc κ))]))
    rw [ha 7 0 (by omega), ha 8 0 (by omega), ha 1 0 (by omega), ha 3 120 (by omega)]; exact h1
  · show M 2 i = some (.inr (3, [.ref (ad' 3 i), .int (kTr κ i).1, .int (kTr κ i).2.1, .int (kTr κ i).2.2.1, .int (nI (kTr κ i).2.2.2.1), .int (nI (kTr κ i).2.2.2.2)]))
    rw [ha 3 i (by omega)]; exact h5 i hi
  · rw [ha 9 0 (by omega), ha 10 0 (by omega), ha 11 0 (by omega)]; exact h8.1
def al0 : sAl := (0, 0, fun _ => (0, 0, 0, 0, 0), fun _ => False, fun _ _ => 0, fun _ _ => 0)
theorem AI0 : AI al0 := ⟨Nat.zero_le _, Nat.zero_le _, fun i hi => absurd hi (Nat.not_lt_zero i), fun i hi => absurd hi (Nat.not_lt_zero i)⟩
theorem CI0 : CI al0 ka0 := ⟨rfl, rfl, Nat.le_refl _, Nat.zero_le _, fun i hi => absurd hi (Nat.not_lt_zero i), fun i hi => absurd hi (Nat.not_lt_zero i), fun i hi => absurd hi (Nat.not_lt_zero i), ⟨_, PE.zero pi0⟩, _, sh0_R⟩
theorem RI0 : RI al0 md0 := ⟨rfl, rfl, fun i hi => absurd hi (Nat.not_lt_zero i), fun i hi => absurd hi (Nat.not_lt_zero i)⟩
theorem gi_X3 : GoodIn (cLw :: wU) wsX3_init := goodUP _ [64, 65, 66, 67, 68, 125, 70, 94, 126, 72, 73, 48, 127, 96, 97, 49, 128, 129, 130, 75, 76, 77, 78, 79, 95, 80, 99, 100, 101, 102, 105, 131, 133, 135, 137, 139, 141, 83, 85, 87, 89, 91, 114, 116, 118, 120, 122] (by decide +kernel) (by decide +kernel)
theorem gi_X4 : GoodIn (cLw :: wU) wsX4_init := goodUP _ [552, 553, 66, 67, 94, 556, 557, 558, 559, 560, 606, 561, 563, 564, 565, 566, 95, 567, 568, 570, 571, 573, 575, 577, 579, 581, 583, 585, 587, 589, 591, 593, 595, 597, 599, 601, 603] (by decide +kernel) (by decide +kernel)
theorem in_law_X3 : ∀ w ∈ wsX30, w ∈ cLw :: wU := fun w hw => List.mem_cons_of_mem _ (inU (iu_X3 w hw).1 (iu_X3 w hw).2)
theorem in_law_X4 : ∀ w ∈ wsX40, w ∈ cLw :: wU := fun w hw => List.mem_cons_of_mem _ (inU (iu_X4 w hw).1 (iu_X4 w hw).2)
set_option maxHeartbeats 4000000 in
set_option maxRecDepth 100000 in
theorem law_body (X : sMach) (G : sG) (Q : State → Prop) (b L : Nat) (xs : Nat → Int32) (hX : va_X b L xs (mS X) (mS X).heap) (hbl : b < (mS X).heap.size) (hbA : ¬ gA G b) (hL9 : L ≤ 2560) (kont : ∀ (ad : sAd) (M : sM) (i kc ks : Nat), kc ≤ 601024 → ks ≤ 7293034 → sW X G mL_law Q ad M kc ks (lvL ad b i) 1017 []) (ad : sAd) (M : sM) (hz : ∀ k i, M k i = none) : sW X G mL_law Q ad M 0 0 [some (.ref b), none, none, none, none, none, none] 0 [] := by
  refine s_newC (ci := 4) (fs := [.null, .null, .null, .null, .int 0, .int 0]) 0 0 tyX3 tyX3_ok (hz 0 0) rfl in_law_X3 (List.mem_cons_of_mem _ (inU (by decide +kernel) rfl)) (List.mem_cons_of_mem _ (inU (by decide +kernel) rfl)) (List.mem_cons_of_mem _ (inU (by decide +kernel) rfl)) fsX3_ok (Nat.le_of_ble_eq_true rfl) (Nat.le_of_ble_eq_true rfl) dL_law_0 (fun ad1 E1 => ?_)
  refine s_dup dL_law_3 rfl ?_
  refine s_callI (As := []) (rest := [.ref (ad1 0 0)]) (n := 0) (kd := 0) (ix := 0) (fun l hl => c_X3_init G l hl ad1 _ (sset_self _ _ _ _) (fun k i h1 h2 => (sset_k _ _ (by omega)).trans (hz k i))) gi_X3 rfl (List.mem_cons_of_mem _ (inU (by decide +kernel) rfl)) (List.mem_cons_of_mem _ (inU (by decide +kernel) rfl)) (List.mem_cons_of_mem _ (inU (by decide +kernel) rfl)) rfl (by decide +kernel) rfl ⟨(Nat.le_of_ble_eq_true rfl), (Nat.le_of_ble_eq_true rfl)⟩ ⟨(Nat.le_of_ble_eq_true rfl), (Nat.le_of_ble_eq_true rfl)⟩ (Nat.le_of_ble_eq_true rfl) dL_law_4 rfl (fun r2 ad2 M2 h2 => ?_)
  obtain ⟨rfl, z0, z12, hck, hs2⟩ := h2
  refine s_st (st' := [.ref (ad2 0 0)]) (by rw [z0]; rfl) ?_
  refine s_astore_n dL_law_7 rfl rfl ?_
  refine s_lv (lv' := [some (.ref b), some (.ref (ad2 0 0)), none, none, none, none, none]) rfl ?_
  have n12 : ∀ k i, 12 ≤ k → M2 k i = none := fun k i h => (hs2 k i (by simp [pCk]; omega)).trans ((sset_k _ _ (by omega)).trans (hz k i))
  refine s_newC (ci := 5) (fs := [.int 0, .int 0, .null, .null, .null, .null, .null, .null, .int 0, .null, .null, .null, .null, .null, .null, .int 0, .null]) 12 0 tyX4 tyX4_ok (n12 12 0 (by omega)) rfl in_law_X4 (List.mem_cons_of_mem _ (inU (by decide +kernel) rfl)) (List.mem_cons_of_mem _ (inU (by decide +kernel) rfl)) (List.mem_cons_of_mem _ (inU (by decide +kernel) rfl)) fsX4_ok (Nat.le_of_ble_eq_true rfl) (Nat.le_of_ble_eq_true rfl) dL_law_8 (fun ad3 E3 => ?_)
  refine s_dup dL_law_11 rfl ?_
  refine s_callI (As := []) (rest := [.ref (ad3 12 0)]) (n := 0) (kd := 12) (ix := 0) (fun l hl => c_X4_init G l hl ad3 _ (sset_self _ _ _ _) (fun k i h1 h2 => (sset_k _ _ (by omega)).trans (n12 k i (by omega)))) gi_X4 rfl (List.mem_cons_of_mem _ (inU (by decide +kernel) rfl)) (List.mem_cons_of_mem _ (inU (by decide +kernel) rfl)) (List.mem_cons_of_mem _ (inU (by decide +kernel) rfl)) rfl (by decide +kernel) rfl ⟨(Nat.le_of_ble_eq_true rfl), (Nat.le_of_ble_eq_true rfl)⟩ ⟨(Nat.le_of_ble_eq_true rfl), (Nat.le_of_ble_eq_true rfl)⟩ (Nat.le_of_ble_eq_true rfl) dL_law_12 rfl (fun r4 ad4 M4 h4 => ?_)
  obtain ⟨rfl, E4, hmd, hs4⟩ := h4
  refine s_st (st' := [.ref (ad4 12 0)]) (by rw [E4 12 0 (by omega)]; rfl) ?_
  refine s_astore_n dL_law_15 rfl rfl ?_
  refine s_lv (lv' := [some (.ref b), some (.ref (ad2 0 0)), some (.ref (ad4 12 0)), none, none, none, none]) rfl ?_
  have n26 : M4 26 0 = none := (hs4 26 0 (by simp [pMd])).trans ((sset_k _ _ (by decide)).trans (n12 26 0 (by omega)))
  refine s_iconst (v := 1) dL_law_16 (by decide) ?_
  refine s_newJ 26 0 n26 (List.mem_cons_of_mem _ (inU (by decide +kernel) rfl)) (N' := 1) (by decide) (by decide) (by decide) (Nat.le_of_ble_eq_true rfl) (Nat.le_of_ble_eq_true rfl) dL_law_17 (fun ad5 E5 => ?_)
  refine s_astore_n dL_law_19 rfl rfl ?_
  refine s_lv (lv' := [some (.ref b), some (.ref (ad2 0 0)), some (.ref (ad4 12 0)), some (.ref (ad5 26 0)), none, none, none]) rfl ?_
  refine s_iconst (v := 0) dL_law_20 (by decide) ?_
  refine s_istore dL_law_21 rfl rfl ?_
  have a1 : ∀ k i, k ≤ 11 → ad5 k i = ad2 k i := fun k i hk => (E5 k i (by omega)).trans ((E4 k i (by omega)).trans (E3 k i (by omega)))
  refine s_lv (lv' := lvL ad5 b 0) (by show _ = [some (Value.ref b), some (.ref (ad5 0 0)), some (.ref (ad5 12 0)), some (.ref (ad5 26 0)), some (.int (nI 0)), none, none]; rw [a1 0 0 (by omega), E5 12 0 (by omega)]; rfl) ?_
  have hck5 := (hck.ad a1).keep (M' := sset M4 26 0 (.inl (gJ G, 1, .inr (.inl (fun _ => 0))))) (fun k i hk => (sset_k _ _ (by omega)).trans ((hs4 k i (by simp [pMd]; omega)).trans (sset_k _ _ (by omega))))
  have hmd5 := hmd.ext (ad' := ad5) (M' := sset M4 26 0 (.inl (gJ G, 1, .inr (.inl (fun _ => 0))))) (fun k i e he => E5 k i (fun q => by rw [q.1, q.2, n26] at he; cases he)) (fun k i h1 h2 => sset_k _ _ (by omega))
  exact law_loop X G Q b L xs hX hbl hbA hL9 kont 512 0 ad5 _ al0 _ _ (by omega) (by omega) (Nat.le_of_ble_eq_true rfl) (Nat.le_of_ble_eq_true rfl) ⟨AI0, ⟨ka0, hck5, CI0⟩, ⟨md0, hmd5, RI0⟩, _, sset_self _ _ _ _⟩
end SLS
