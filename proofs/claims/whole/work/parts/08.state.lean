/-! WHAT THE CELLS ARE: in the words of the class and of the reference. Kinds: 0 SmallChecker, 1 Sheet, 2 Tree i, 3 Polynomial i (120: the zero), 4 its keys, 5 its numbers, 6 row i, 7 the trees, 8 the rows, 9 10 11 the sheet's lineOf, keys, numbers; 12 the model, 13 .. 25 its arrays; 26 out. -/
section SST
def jB (b : Bool) : Int32 := if b then 1 else 0
theorem jB_t : jB true = 1 := rfl
theorem jB_f : jB false = 0 := rfl
theorem jB_nar (b : Bool) : narrow .boolean (.int (jB b)) = .int (jB b) := by cases b <;> rfl
theorem jB_fit (b : Bool) : fits .boolean (.int (jB b)) = true := by cases b <;> rfl
theorem jB_0 {b : Bool} : jB b = 0 ↔ b = false := by cases b <;> decide
theorem jB_1 {b : Bool} : jB b = 1 ↔ b = true := by cases b <;> decide
/-- nothing but the cells of P has changed -/
def sSame (P : Nat → Nat → Prop) (M M' : sM) : Prop := ∀ k i, ¬ P k i → M' k i = M k i
theorem sSame.rfl {P : Nat → Nat → Prop} {M : sM} : sSame P M M := fun _ _ _ => by rfl
theorem sSame.trans {P : Nat → Nat → Prop} {M M' M'' : sM} (h : sSame P M M') (h' : sSame P M' M'') : sSame P M M'' := fun k i hk => (h' k i hk).trans (h k i hk)
theorem sSame.mono {P P' : Nat → Nat → Prop} {M M' : sM} (h : sSame P M M') (hp : ∀ k i, P k i → P' k i) : sSame P' M M' := fun k i hk => h k i (fun q => hk (hp k i q))
theorem sSame.set {P : Nat → Nat → Prop} {M M' : sM} (h : sSame P M M') {k i : Nat} (hp : P k i) (e : va_E) : sSame P M (sset M' k i e) := fun a b hk => (sset_ne M' e (fun q => hk (by rw [q.1, q.2]; exact hp))).trans (h a b hk)
/-- a polynomial: size, degree, great, keys, numbers -/
abbrev sPol : Type := Nat × Int32 × Bool × (Nat → Int32) × (Nat → Int32)
def hPo (G : sG) (ad : sAd) (M : sM) (p : Nat) (π : sPol) : Prop := M 3 p = some (.inr (1, [.ref (ad 4 p), .ref (ad 5 p), .int (nI π.1), .int π.2.1, .int (jB π.2.2.1)])) ∧ M 4 p = some (.inl (gI G, 40, .inl π.2.2.2.1)) ∧ M 5 p = some (.inl (gI G, 40, .inl π.2.2.2.2))
def pPo (p : Nat) : Nat → Nat → Prop := fun k i => (k = 3 ∨ k = 4 ∨ k = 5) ∧ i = p
theorem hPo.same {G : sG} {ad : sAd} {M M' : sM} {p : Nat} {π : sPol} {P : Nat → Nat → Prop} (h : hPo G ad M p π) (hs : sSame P M M') (h3 : ¬ P 3 p) (h4 : ¬ P 4 p) (h5 : ¬ P 5 p) : hPo G ad M' p π := ⟨(hs _ _ h3).trans h.1, (hs _ _ h4).trans h.2.1, (hs _ _ h5).trans h.2.2⟩
/-- the sheet: lineOf, keys, numbers, used, tooHigh -/
abbrev sShe : Type := (Nat → Int32) × (Nat → Int32) × (Nat → Int64) × Nat × Bool
def hSh (G : sG) (ad : sAd) (M : sM) (σ : sShe) : Prop := M 1 0 = some (.inr (2, [.ref (ad 9 0), .ref (ad 10 0), .ref (ad 11 0), .int (nI σ.2.2.2.1), .int (jB σ.2.2.2.2)])) ∧ M 9 0 = some (.inl (gI G, 1000, .inl σ.1)) ∧ M 10 0 = some (.inl (gI G, 220, .inl σ.2.1)) ∧ M 11 0 = some (.inl (gJ G, 220, .inr (.inl σ.2.2.1)))
def pSh : Nat → Nat → Prop := fun k _ => k = 1 ∨ k = 9 ∨ k = 10 ∨ k = 11
/-! Polynomial's own methods -/
def jZero (π : sPol) : sPol := (0, 0, false, π.2.2.2.1, π.2.2.2.2)
def jGreat (π : sPol) : sPol := (0, 0, true, π.2.2.2.1, π.2.2.2.2)
end SST
