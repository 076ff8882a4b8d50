/-! THE CHECKER's cells. -/
section SCK
/-- trees, rows, tree cells made; a tree's head, first, second, depth, model; the polynomials; the rows; the zero; the sheet -/
abbrev sCk : Type := Nat × Nat × Nat × (Nat → Int32 × Int32 × Int32 × Nat × Nat) × (Nat → sPol) × (Nat → Nat → Int32) × sPol × sShe
abbrev kTc (κ : sCk) : Nat := κ.1
abbrev kRc (κ : sCk) : Nat := κ.2.1
abbrev kMd (κ : sCk) : Nat := κ.2.2.1
abbrev kTr (κ : sCk) : Nat → Int32 × Int32 × Int32 × Nat × Nat := κ.2.2.2.1
abbrev kPo (κ : sCk) : Nat → sPol := κ.2.2.2.2.1
abbrev kRw (κ : sCk) : Nat → Nat → Int32 := κ.2.2.2.2.2.1
abbrev kZ (κ : sCk) : sPol := κ.2.2.2.2.2.2.1
abbrev kSh (κ : sCk) : sShe := κ.2.2.2.2.2.2.2
abbrev cCk (ad : sAd) (κ : sCk) : va_E := .inr (4, [.ref (ad 7 0), .ref (ad 8 0), .ref (ad 1 0), .ref (ad 3 120), .int (nI (kTc κ)), .int (nI (kRc κ))])
abbrev cTr (ad : sAd) (i : Nat) (t : Int32 × Int32 × Int32 × Nat × Nat) : va_E := .inr (3, [.ref (ad 3 i), .int t.1, .int t.2.1, .int t.2.2.1, .int (nI t.2.2.2.1), .int (nI t.2.2.2.2)])
abbrev fTs (ad : sAd) (md : Nat) : Nat → Option Nat := fun i => if i < md then some (ad 2 i) else none
abbrev fRs (ad : sAd) : Nat → Option Nat := fun i => if i < 60 then some (ad 6 i) else none
def hCk (G : sG) (ad : sAd) (M : sM) (κ : sCk) : Prop :=
  M 0 0 = some (cCk ad κ) ∧ M 7 0 = some (.inl (gT G, 120, .inr (.inr (.inr (.inr (fTs ad (kMd κ))))))) ∧ M 8 0 = some (.inl (gR G, 60, .inr (.inr (.inr (.inr (fRs ad)))))) ∧ (∀ i, i < 60 → M 6 i = some (.inl (gI G, 8, .inl (kRw κ i)))) ∧ (∀ i, i < kMd κ → M 2 i = some (cTr ad i (kTr κ i))) ∧ (∀ i, i < kMd κ → hPo G ad M i (kPo κ i)) ∧ hPo G ad M 120 (kZ κ) ∧ hSh G ad M (kSh κ) ∧ ∀ i, kMd κ ≤ i → i < 120 → M 2 i = none ∧ M 3 i = none ∧ M 4 i = none ∧ M 5 i = none
def pCk : Nat → Nat → Prop := fun k _ => k ≤ 11
theorem fTs_in {ad : sAd} {md j : Nat} (h : j < md) : va_rf (fTs ad md j) = .ref (ad 2 j) := by simp [fTs, h, va_rf]
theorem fRs_in {ad : sAd} {j : Nat} (h : j < 60) : va_rf (fRs ad j) = .ref (ad 6 j) := by simp [fRs, h, va_rf]
def DegOf (P : Nat → Int) (d : Nat) : Prop := d ≤ 9 ∧ (∀ y, P y ≠ 0 → gdeg y ≤ d) ∧ (d = 0 ∨ ∃ y, P y ≠ 0 ∧ gdeg y = d)
theorem PR.norm {π : sPol} {P : Nat → Int} (h : PR π P) : ∃ (n d : Nat) (pk pn : Nat → Int32), π = (n, nI d, false, pk, pn) ∧ DegOf P d := by
  obtain ⟨e, h⟩ := h
  obtain ⟨n, dg, g, pk, pn⟩ := π
  obtain ⟨-, b2, -, -, -, d, b6, b7, b8, b9⟩ := h
  dsimp only at b2 b7
  subst b2
  subst b7
  exact ⟨n, d, pk, pn, rfl, b6, b8, b9⟩
theorem PR.bnd {π : sPol} {P : Nat → Int} (h : PR π P) (y : Nat) : -1000000 ≤ P y ∧ P y ≤ 1000000 := h.choose_spec.bnd y
end SCK
