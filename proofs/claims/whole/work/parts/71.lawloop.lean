/-! the law's loop -/
theorem and15 (x : Int32) : ∃ k : Nat, k ≤ 15 ∧ x &&& 15 = nI k := by
  have h : (x &&& 15).toBitVec.toNat ≤ 15 := by
    rw [Int32.toBitVec_and, BitVec.toNat_and]
    exact Nat.le_trans Nat.and_le_right (by decide)
  refine ⟨_, h, ?_⟩
  apply Int32.toBitVec_inj.mp
  show _ = BitVec.ofNat 32 _
  rw [BitVec.ofNat_toNat, BitVec.setWidth_eq]
theorem len5 {L i : Nat} (hL : L ≤ 2560) (hi : i < 3000) : nI L - 5 < nI i ↔ L < i + 5 := by
  rw [Int32.lt_iff_toInt_lt, Int32.toInt_sub, nI_toInt (by omega), nI_toInt (by omega), show (5 : Int32).toInt = 5 from rfl, Int.bmod_eq_of_le (by omega) (by omega)]
  omega
set_option maxHeartbeats 4000000 in
set_option maxRecDepth 100000 in
theorem law_step (X : sMach) (G : sG) (ad : sAd) (M : sM) (Q : State → Prop) (b L : Nat) (xs : Nat → Int32) (hX : va_X b L xs (mS X) (mS X).heap) (hbl : b < (mS X).heap.size) (hbA : ¬ gA G b) (hL9 : L ≤ 2560) (kc ks : Nat) (hkc : kc + 5 ≤ 601024) (hks : ks + 100 ≤ 7293034) (α : sAl) (hI : lI G ad M α) (i : Nat) (hi : i + 5 ≤ L) (kont : ∀ (ad' : sAd) (M' : sM) (α' : sAl), lI G ad' M' α' → sW X G mL_law Q ad' M' (kc + 5) (ks + 100) (lvL ad' b i) 1011 []) : sW X G mL_law Q ad M kc ks (lvL ad b i) 32 [] := by
  refine s_aload_n dL_law_32 rfl ?_
  refine s_iload dL_law_33 rfl ?_
  refine s_sld hX hbl hbA hL9 (j := i) rfl (by omega) dL_law_35 ?_
  refine s_bipush (v := 15) dL_law_36 (by decide) ?_
  refine s_iand dL_law_38 ?_
  obtain ⟨k, hk, e⟩ := and15 (xs i)
  refine s_eqi (y := nI k) e ?_
  rcases (show k = 0 ∨ k = 1 ∨ k = 2 ∨ k = 3 ∨ k = 4 ∨ k = 5 ∨ k = 6 ∨ k = 7 ∨ k = 8 ∨ k = 9 ∨ k = 10 ∨ k = 11 ∨ k = 12 ∨ k = 13 ∨ k = 14 ∨ k = 15 by omega) with rfl | rfl | rfl | rfl | rfl | rfl | rfl | rfl | rfl | rfl | rfl | rfl | rfl | rfl | rfl | rfl
  · exact s_tableIn 112 dL_law_39 (by decide) (by decide) rfl (by decide) (a_leaf X G ad M Q b L xs hX hbl hbA hL9 kc ks hkc hks α hI i hi kont)
  · exact s_tableIn 168 dL_law_39 (by decide) (by decide) rfl (by decide) (a_number X G ad M Q b L xs hX hbl hbA hL9 kc ks hkc hks α hI i hi kont)
  · exact s_tableIn 224 dL_law_39 (by decide) (by decide) rfl (by decide) (a_node X G ad M Q b L xs hX hbl hbA hL9 kc ks hkc hks α hI i hi kont)
  · exact s_tableIn 304 dL_law_39 (by decide) (by decide) rfl (by decide) (a_load X G ad M Q b L xs hX hbl hbA hL9 kc ks hkc hks α hI i hi kont)
  · exact s_tableIn 396 dL_law_39 (by decide) (by decide) rfl (by decide) (a_cofactor X G ad M Q b L xs hX hbl hbA hL9 kc ks hkc hks α hI i hi kont)
  · exact s_tableIn 444 dL_law_39 (by decide) (by decide) rfl (by decide) (a_sample X G ad M Q b L xs hX hbl hbA hL9 kc ks hkc hks α hI i hi kont)
  · exact s_tableIn 504 dL_law_39 (by decide) (by decide) rfl (by decide) (a_check X G ad M Q b L xs hX hbl hbA hL9 kc ks hkc hks α hI i hi kont)
  · exact s_tableIn 572 dL_law_39 (by decide) (by decide) rfl (by decide) (a_rowAt X G ad M Q b L xs hX hbl hbA hL9 kc ks hkc hks α hI i hi kont)
  · exact s_tableIn 640 dL_law_39 (by decide) (by decide) rfl (by decide) (a_counted X G ad M Q b L xs hX hbl hbA hL9 kc ks hkc hks α hI i hi kont)
  · exact s_tableIn 696 dL_law_39 (by decide) (by decide) rfl (by decide) (a_terms X G ad M Q b L xs hX hbl hbA hL9 kc ks hkc hks α hI i hi kont)
  · exact s_tableIn 752 dL_law_39 (by decide) (by decide) rfl (by decide) (a_term X G ad M Q b L xs hX hbl hbA hL9 kc ks hkc hks α hI i hi kont)
  · exact s_tableIn 844 dL_law_39 (by decide) (by decide) rfl (by decide) (a_deep X G ad M Q b L xs hX hbl hbA hL9 kc ks hkc hks α hI i hi kont)
  · exact s_tableIn 900 dL_law_39 (by decide) (by decide) rfl (by decide) (a_alike X G ad M Q b L xs hX hbl hbA hL9 kc ks hkc hks α hI i hi kont)
  · exact s_tableIn 975 dL_law_39 (by decide) (by decide) rfl (by decide) (a_count X G ad M Q b L xs hX hbl hbA hL9 kc ks hkc hks α hI i hi kont)
  · exact s_tableIn 1000 dL_law_39 (by decide) (by decide) rfl (by decide) (a_clear X G ad M Q b L xs hX hbl hbA hL9 kc ks hkc hks α hI i hi kont)
  · refine s_tableOut 1011 dL_law_39 (by decide) (by decide) ?_
    refine s_widen (kc' := kc + 5) (ks' := ks + 100) (by omega) (by omega) ?_
    exact kont ad M α hI
set_option maxHeartbeats 4000000 in
set_option maxRecDepth 100000 in
theorem law_loop (X : sMach) (G : sG) (Q : State → Prop) (b L : Nat) (xs : Nat → Int32) (hX : va_X b L xs (mS X) (mS X).heap) (hbl : b < (mS X).heap.size) (hbA : ¬ gA G b) (hL9 : L ≤ 2560) (kont : ∀ (ad : sAd) (M : sM) (i kc ks : Nat), kc ≤ 601024 → ks ≤ 7293034 → sW X G mL_law Q ad M kc ks (lvL ad b i) 1017 []) : ∀ (n i : Nat) (ad : sAd) (M : sM) (α : sAl) (kc ks : Nat), L ≤ i + 5 * n + 4 → i + 5 * n ≤ 2560 → kc + 5 * n + 5 ≤ 601024 → ks + 100 * n + 100 ≤ 7293034 → lI G ad M α → sW X G mL_law Q ad M kc ks (lvL ad b i) 23 [] := by
  intro n
  induction n with
  | zero =>
    intro i ad M α kc ks h1 h2 h3 h4 hI
    refine s_iload dL_law_23 rfl ?_
    refine s_aload_n dL_law_25 rfl ?_
    refine s_slen hX hbl hbA dL_law_26 ?_
    refine s_iconst (v := 5) dL_law_27 (by decide) ?_
    refine s_isub dL_law_28 ?_
    refine s_icmp_gt 1017 dL_law_29 (by decide) (fun c29 => ?_) (fun c29 => absurd ((len5 hL9 (by omega)).mpr (by omega)) c29)
    exact kont ad M i kc ks (by omega) (by omega)
  | succ n ih =>
    intro i ad M α kc ks h1 h2 h3 h4 hI
    refine s_iload dL_law_23 rfl ?_
    refine s_aload_n dL_law_25 rfl ?_
    refine s_slen hX hbl hbA dL_law_26 ?_
    refine s_iconst (v := 5) dL_law_27 (by decide) ?_
    refine s_isub dL_law_28 ?_
    refine s_icmp_gt 1017 dL_law_29 (by decide) (fun c29 => ?_) (fun c29 => ?_)
    · exact kont ad M i kc ks (by omega) (by omega)
    · refine law_step X G ad M Q b L xs hX hbl hbA hL9 kc ks (by omega) (by omega) α hI i (Classical.byContradiction fun q => c29 ((len5 hL9 (by omega)).mpr (by omega))) (fun ad' M' α' hI' => ?_)
      refine s_iinc (v := nI (i + 5)) dL_law_1011 rfl (nI_add i 5) rfl ?_
      refine s_lv (lv' := lvL ad' b (i + 5)) rfl ?_
      refine s_goto 23 dL_law_1014 (by decide) ?_
      exact ih (i + 5) ad' M' α' (kc + 5) (ks + 100) (by omega) (by omega) (by omega) (by omega) hI'
