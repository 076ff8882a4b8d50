def kGrow (κ : sCk) : sCk := (κ.1, κ.2.1, κ.2.2.1 + 1, updF κ.2.2.2.1 κ.1 (0, 0, 0, 0, 0), updF κ.2.2.2.2.1 κ.1 pi0, κ.2.2.2.2.2)
theorem hCk.grow {G : sG} {ad ad' : sAd} {M M' : sM} {κ : sCk} (h : hCk G ad M κ) (hm : kMd κ = kTc κ) (hl : kTc κ < 120) (E : ∀ k i, ¬ ((k = 2 ∨ k = 3 ∨ k = 4 ∨ k = 5) ∧ i = kTc κ) → ad' k i = ad k i) (hs : ∀ k i, ¬ ((k = 2 ∨ k = 3 ∨ k = 4 ∨ k = 5) ∧ i = kTc κ) → ¬ (k = 7 ∧ i = 0) → M' k i = M k i) (h2 : M' 2 (kTc κ) = some (cTr ad' (kTc κ) (0, 0, 0, 0, 0))) (hp : hPo G ad' M' (kTc κ) pi0) (h7 : M' 7 0 = some (.inl (gT G, 120, .inr (.inr (.inr (.inr (va_up (fTs ad (kMd κ)) (kTc κ) (some (ad' 2 (kTc κ)))))))))) : hCk G ad' M' (kGrow κ) := by
  have hpo : ∀ i π, i ≠ kTc κ → hPo G ad M i π → hPo G ad' M' i π := fun i π hi q =>
    ⟨(hs 3 i (by omega) (by omega)).trans (by rw [E 4 i (by omega), E 5 i (by omega)]; exact q.1), (hs 4 i (by omega) (by omega)).trans q.2.1, (hs 5 i (by omega) (by omega)).trans q.2.2⟩
  refine ⟨?_, h7.trans ?_, ?_, fun i hi => (hs 6 i (by omega) (by omega)).trans (h.2.2.2.1 i hi), fun i hi => ?_, fun i hi => ?_, hpo 120 _ (by omega) h.2.2.2.2.2.2.1, ?_, fun i hi hj => ?_⟩
  · rw [hs 0 0 (by omega) (by omega), h.1]
    show some (cCk ad κ) = some (cCk ad' κ)
    unfold cCk
    rw [E 7 0 (by omega), E 8 0 (by omega), E 1 0 (by omega), E 3 120 (by omega)]
  · have e7 : va_up (fTs ad (kMd κ)) (kTc κ) (some (ad' 2 (kTc κ))) = fTs ad' (kMd κ + 1) := by
      funext i
      by_cases q : i = kTc κ
      · subst q
        simp [va_up, fTs, hm]
      · by_cases q2 : i < kMd κ
        · simp only [va_up, fTs, if_neg q, if_pos q2, if_pos (show i < kMd κ + 1 by omega), E 2 i (by omega)]
        · simp only [va_up, fTs, if_neg q, if_neg q2, if_neg (show ¬ i < kMd κ + 1 by omega)]
    rw [e7]
    rfl
  · have e8 : fRs ad = fRs ad' := by
      funext i
      unfold fRs
      rw [E 6 i (by omega)]
    rw [hs 8 0 (by omega) (by omega), h.2.2.1, e8]
  · show M' 2 i = some (cTr ad' i (updF (kTr κ) (kTc κ) (0, 0, 0, 0, 0) i))
    by_cases q : i = kTc κ
    · subst q
      rw [updF_self]; exact h2
    · have hi' : i < kMd κ + 1 := hi
      rw [updF_ne _ _ q, hs 2 i (by omega) (by omega), h.2.2.2.2.1 i (by omega)]
      unfold cTr
      rw [E 3 i (by omega)]
  · show hPo G ad' M' i (updF (kPo κ) (kTc κ) pi0 i)
    by_cases q : i = kTc κ
    · subst q
      rw [updF_self]; exact hp
    · have hi' : i < kMd κ + 1 := hi
      rw [updF_ne _ _ q]
      exact hpo i _ q (h.2.2.2.2.2.1 i (by omega))
  · obtain ⟨a, b, c, d⟩ := h.2.2.2.2.2.2.2.1
    refine ⟨(hs 1 0 (by omega) (by omega)).trans (a.trans ?_), (hs 9 0 (by omega) (by omega)).trans b, (hs 10 0 (by omega) (by omega)).trans c, (hs 11 0 (by omega) (by omega)).trans d⟩
    rw [E 9 0 (by omega), E 10 0 (by omega), E 11 0 (by omega)]
    rfl
  · have hi' : kMd κ + 1 ≤ i := hi
    obtain ⟨a, b, c, d⟩ := h.2.2.2.2.2.2.2.2 i (by omega) hj
    exact ⟨(hs 2 i (by omega) (by omega)).trans a, (hs 3 i (by omega) (by omega)).trans b, (hs 4 i (by omega) (by omega)).trans c, (hs 5 i (by omega) (by omega)).trans d⟩
def kNx (κ κ' : sCk) : Prop := kTc κ' = kTc κ ∧ kRc κ' = kRc κ ∧ kTc κ < kMd κ' ∧ kMd κ' ≤ 120 ∧ (∀ i, i < kTc κ → kTr κ' i = kTr κ i ∧ kPo κ' i = kPo κ i) ∧ kRw κ' = kRw κ ∧ kZ κ' = kZ κ ∧ kSh κ' = kSh κ
theorem hCk.named {G : sG} {ad : sAd} {M : sM} {κ : sCk} (h : hCk G ad M κ) {k i : Nat} {e : va_E} (hm : kMd κ = kTc κ) (hl : kTc κ < 120) (he : M k i = some e) : ¬ ((k = 2 ∨ k = 3 ∨ k = 4 ∨ k = 5) ∧ i = kTc κ) := by
  rintro ⟨hk, rfl⟩
  obtain ⟨a, b, c, d⟩ := h.2.2.2.2.2.2.2.2 (kTc κ) (by omega) hl
  rcases hk with rfl | rfl | rfl | rfl
  · rw [a] at he; cases he
  · rw [b] at he; cases he
  · rw [c] at he; cases he
  · rw [d] at he; cases he
theorem nI_lt_mp {a b : Nat} (h : nI a < nI b) (ha : a < 2 ^ 31) (hb : b < 2 ^ 31) : a < b := by
  have := Int32.lt_iff_toInt_lt.mp h
  rw [nI_toInt ha, nI_toInt hb] at this
  omega
theorem nI_lt_mpr {a b : Nat} (h : a < b) (hb : b < 2 ^ 31) : nI a < nI b := by
  refine Int32.lt_iff_toInt_lt.mpr ?_
  rw [nI_toInt (by omega), nI_toInt hb]
  omega
