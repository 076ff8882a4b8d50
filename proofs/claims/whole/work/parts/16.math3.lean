/-! PURE: digits of keys, derivation, a number in place of a letter. -/
section MTJ
def dg3 (l x : Nat) : Nat := if l = 0 then x / 100 else if l = 1 then x / 10 % 10 else x % 10
def kl3 (l : Nat) : Nat := if l = 0 then 100 else if l = 1 then 10 else 1
theorem good_div {x : Nat} (h : good x) : x / 100 ≤ 9 ∧ x / 10 ≤ 99 := by
  have := h.1
  omega
theorem jPowerIn_eq {x l : Nat} (hx : x < 1000) (hl : l ≤ 2) : jPowerIn (nI x) (nI l) = nI (dg3 l x) := by
  have h0 : (nI l = 0) ↔ l = 0 := nI_eq (a := l) (b := 0) (by omega) (by omega)
  have h1 : (nI l = 1) ↔ l = 1 := nI_eq (a := l) (b := 1) (by omega) (by omega)
  unfold jPowerIn dg3
  by_cases e0 : l = 0
  · rw [if_pos (h0.mpr e0), if_pos e0]
    exact pk_div (d := 100) (by omega) (by omega) (by omega)
  · rw [if_neg (fun q => e0 (h0.mp q)), if_neg e0]
    by_cases e1 : l = 1
    · rw [if_pos (h1.mpr e1), if_pos e1]
      rw [show nI x / 10 = nI (x / 10) from pk_div (d := 10) (by omega) (by omega) (by omega)]
      exact pk_rem (d := 10) (by omega) (by omega) (by omega)
    · rw [if_neg (fun q => e1 (h1.mp q)), if_neg e1]
      exact pk_rem (d := 10) (by omega) (by omega) (by omega)
theorem jDegree_eq {x : Nat} (hx : x < 1000) : jDegree (nI x) = nI (gdeg x) := by
  unfold jDegree
  rw [show jPowerIn (nI x) 0 = nI (dg3 0 x) from jPowerIn_eq (l := 0) hx (by omega), show jPowerIn (nI x) 1 = nI (dg3 1 x) from jPowerIn_eq (l := 1) hx (by omega), show jPowerIn (nI x) 2 = nI (dg3 2 x) from jPowerIn_eq (l := 2) hx (by omega), nI_add, nI_add]
  rfl
theorem jKeyOf_eq {l : Nat} (hl : l ≤ 2) : jKeyOf (nI l) = nI (kl3 l) := by
  rcases (show l = 0 ∨ l = 1 ∨ l = 2 by omega) with rfl | rfl | rfl <;> decide
theorem dg3_le {l x : Nat} (h : good x) : dg3 l x ≤ 9 := by
  have h1 := h.1
  unfold dg3
  split
  · omega
  · split <;> omega
theorem dg3_mk {a b c : Nat} (hb : b ≤ 9) (hc : c ≤ 9) : dg3 0 (100 * a + 10 * b + c) = a ∧ dg3 1 (100 * a + 10 * b + c) = b ∧ dg3 2 (100 * a + 10 * b + c) = c := by
  refine ⟨?_, ?_, ?_⟩
  · show (100 * a + 10 * b + c) / 100 = a
    omega
  · show (100 * a + 10 * b + c) / 10 % 10 = b
    omega
  · show (100 * a + 10 * b + c) % 10 = c
    omega
/-- a key with m less of the letter l -/
theorem good_less {x l m : Nat} (h : good x) (hl : l ≤ 2) (hm : m ≤ dg3 l x) : m * kl3 l ≤ x ∧ good (x - m * kl3 l) := by
  obtain ⟨a, b, c, ha, hb, hc, rfl⟩ := dig3 h.1
  have hd := h.2
  rw [gdeg_mk hb hc] at hd
  obtain ⟨d0, d1, d2⟩ := dg3_mk (a := a) hb hc
  rcases (show l = 0 ∨ l = 1 ∨ l = 2 by omega) with rfl | rfl | rfl
  · rw [d0] at hm
    show m * 100 ≤ _ ∧ good (_ - m * 100)
    refine ⟨by omega, ?_⟩
    rw [show 100 * a + 10 * b + c - m * 100 = 100 * (a - m) + 10 * b + c by omega]
    exact ⟨by omega, by rw [gdeg_mk hb hc]; omega⟩
  · rw [d1] at hm
    show m * 10 ≤ _ ∧ good (_ - m * 10)
    refine ⟨by omega, ?_⟩
    rw [show 100 * a + 10 * b + c - m * 10 = 100 * a + 10 * (b - m) + c by omega]
    exact ⟨by omega, by rw [gdeg_mk (by omega) hc]; omega⟩
  · rw [d2] at hm
    show m * 1 ≤ _ ∧ good (_ - m * 1)
    refine ⟨by omega, ?_⟩
    rw [show 100 * a + 10 * b + c - m * 1 = 100 * a + 10 * b + (c - m) by omega]
    exact ⟨by omega, by rw [gdeg_mk hb (by omega)]; omega⟩
/-- derivation by the letter l; v in place of the letter l -/
def derv (l : Nat) (P : Nat → Int) : Nat → Int := fun y => sN (fun a => if a - kl3 l = y then (dg3 l a : Int) * P a else 0) 1000
def subs (l : Nat) (v : Int) (P : Nat → Int) : Nat → Int := fun y => sN (fun a => if a - dg3 l a * kl3 l = y then P a * v ^ dg3 l a else 0) 1000
end MTJ
