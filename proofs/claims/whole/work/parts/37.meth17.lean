/-! node -/
def isT (α : sAl) (x : Int32) : Prop := ∃ j, j < aT α ∧ x = nI j
abbrev aD (α : sAl) (i : Nat) : Nat := (aTr α i).2.2.2.1
def nC1 (α : sAl) (h a b : Int32) : Prop := ¬ isT α a ∨ (¬ isT α b ∧ ¬ (3 ≤ h ∧ b = -1))
def ndPre (α : sAl) (h a b : Int32) (hd ja jb : Nat) : Prop := hd < 6 ∧ h = nI hd ∧ ja < aT α ∧ a = nI ja ∧ jb < aT α ∧ ((hd < 3 ∧ b = nI jb) ∨ (3 ≤ hd ∧ b = -1 ∧ jb = ja))
def ndDp (α : sAl) (ja jb : Nat) : Nat := 1 + max (aD α ja) (aD α jb)
def ndOk (α : sAl) (h a b : Int32) (hd ja jb : Nat) : Prop := ndPre α h a b hd ja jb ∧ ndDp α ja jb ≤ 20
def nodeRel (α : sAl) (hd ja jb : Nat) (g : Prop) (P : Nat → Int) : Prop := (g ∧ WG (aGr α ja) (aGr α jb) hd (aPf α ja) (aPf α jb) ∧ P = fun _ => 0) ∨ (¬ g ∧ ¬ WG (aGr α ja) (aGr α jb) hd (aPf α ja) (aPf α jb) ∧ P = WF hd (aPf α ja) (aPf α jb))
theorem nI_m1' {j : Nat} (h : j < 2 ^ 31) : nI j ≠ -1 := fun q => by
  have := congrArg Int32.toInt q
  rw [nI_toInt h] at this
  have e : (-1 : Int32).toInt = -1 := rfl
  omega
theorem nI_le_iff {a b : Nat} (ha : a < 2 ^ 31) (hb : b < 2 ^ 31) : nI a ≤ nI b ↔ a ≤ b := by
  rw [Int32.le_iff_toInt_le, nI_toInt ha, nI_toInt hb]
  omega
theorem ndPre.uniq {α : sAl} {h a b : Int32} {hd ja jb hd' ja' jb' : Nat} (hA : AI α) (q : ndPre α h a b hd ja jb) (q' : ndPre α h a b hd' ja' jb') : hd' = hd ∧ ja' = ja ∧ jb' = jb := by
  have := hA.1
  obtain ⟨a1, a2, a3, a4, a5, a6⟩ := q
  obtain ⟨b1, b2, b3, b4, b5, b6⟩ := q'
  have e1 := (nI_eq (a := hd') (b := hd) (by omega) (by omega)).mp (b2.symm.trans a2)
  have e2 := (nI_eq (a := ja') (b := ja) (by omega) (by omega)).mp (b4.symm.trans a4)
  refine ⟨e1, e2, ?_⟩
  rcases a6 with ⟨c1, c2⟩ | ⟨c1, c2, c3⟩ <;> rcases b6 with ⟨d1, d2⟩ | ⟨d1, d2, d3⟩
  · exact (nI_eq (a := jb') (b := jb) (by omega) (by omega)).mp (d2.symm.trans c2)
  · omega
  · omega
  · omega
theorem ndPre.no1 {α : sAl} {h a b : Int32} {hd ja jb : Nat} (q : ndPre α h a b hd ja jb) : ¬ nC1 α h a b := by
  obtain ⟨a1, a2, a3, a4, a5, a6⟩ := q
  rintro (z | ⟨z1, z2⟩)
  · exact z ⟨ja, a3, a4⟩
  · rcases a6 with ⟨c1, c2⟩ | ⟨c1, c2, c3⟩
    · exact z1 ⟨jb, a5, c2⟩
    · exact z2 ⟨by rw [a2]; exact (nI_le_iff (a := 3) (by omega) (by omega)).mpr c1, c2⟩
theorem dp_max {a b : Nat} (ha : a ≤ 20) (hb : b ≤ 20) : 1 + (if nI a < nI b then nI b else nI a) = nI (1 + max a b) := by
  by_cases q : a < b
  · rw [if_pos (nI_lt_mpr q (by omega)), Nat.max_eq_right (by omega)]
    exact nI_add 1 b
  · rw [if_neg (fun z => q (nI_lt_mp z (by omega) (by omega))), Nat.max_eq_left (by omega)]
    exact nI_add 1 a
theorem CI.gr {α : sAl} {κ : sCk} (h : CI α κ) {j : Nat} (hj : j < aT α) : ((kPo κ j).2.2.1 = true) = aGr α j := by
  rcases h.2.2.2.2.2.1 j hj with ⟨q1, q2⟩ | ⟨q1, e, q2⟩
  · exact propext ⟨fun _ => q1, fun _ => q2.2⟩
  · exact propext ⟨(fun z => by rw [q2.2.1] at z; cases z), fun z => absurd z q1⟩
theorem CI.pr {α : sAl} {κ : sCk} (h : CI α κ) {j : Nat} (hj : j < aT α) (hg : (kPo κ j).2.2.1 = false) : PR (kPo κ j) (aPf α j) := by
  rcases h.2.2.2.2.2.1 j hj with ⟨q1, q2⟩ | ⟨q1, q2⟩
  · rw [q2.2] at hg; cases hg
  · exact q2
theorem aCl_node2 (α : sAl) {hd ja jb : Nat} (h1 : hd < 6) (h2 : ja < 120) (h3 : jb < 120) (d m : Nat) : aCl α (nI hd, nI ja, nI jb, d, m) = (nI hd, nI (aM α ja), nI (aM α jb)) := by
  unfold aCl
  dsimp only
  rw [if_neg (nI_m1' (by omega)), if_neg, if_neg (fun q => nI_pos (by omega) q), if_neg (nI_m1' (by omega)), nI_clamp (by omega), nI_clamp (by omega)]
  intro q
  have := congrArg Int32.toInt q
  rw [nI_toInt (by omega)] at this
  have e : (-2 : Int32).toInt = -2 := rfl
  omega
theorem aCl_node1 (α : sAl) {hd ja : Nat} (h1 : hd < 6) (h2 : ja < 120) (d m : Nat) : aCl α (nI hd, nI ja, -1, d, m) = (nI hd, nI (aM α ja), -1) := by
  unfold aCl
  dsimp only
  rw [if_neg (nI_m1' (by omega)), if_neg, if_neg (fun q => nI_pos (by omega) q), if_pos rfl, nI_clamp (by omega)]
  intro q
  have := congrArg Int32.toInt q
  rw [nI_toInt (by omega)] at this
  have e : (-2 : Int32).toInt = -2 := rfl
  omega
