/-! THE REFERENCE stands for the abstract state -/
section SRI
def RI (α : sAl) : sMd → Prop
  | (_, t0, hd, on, tw, dp, cl, gr, r0, kd, fl, co, sm, _, _, _, _) => t0 = aT α ∧ r0 = aR α ∧ (∀ i, i < aT α → hd i = (aTr α i).1 ∧ on i = (aTr α i).2.1 ∧ tw i = (aTr α i).2.2.1 ∧ dp i = nI (aD α i) ∧ (gr i ≠ 0 ↔ aGr α i) ∧ CRk cl i (aPf α i)) ∧ ∀ r, r < aR α → kd r = aRw α r 0 ∧ (∀ x, x < 3 → fl (3 * r + x) = aRw α r (1 + x)) ∧ co r = aRw α r 4 ∧ ∀ x, x < 3 → sm (3 * r + x) = aRw α r (5 + x)
theorem AI.gz {α : sAl} (h : AI α) {j : Nat} (hj : j < aT α) : gz (aPf α j) := (h.2.2.1 j hj).2.2.2.1
theorem AI.bnd {α : sAl} (h : AI α) {j : Nat} (hj : j < aT α) (y : Nat) : -1000000 ≤ aPf α j y ∧ aPf α j y ≤ 1000000 := (h.2.2.1 j hj).2.2.1.1 y
theorem aG_j {α : sAl} {j : Nat} (hj : j < aT α) (hT : aT α ≤ 120) : aG α (nI j) ↔ aGr α j := by
  constructor
  · rintro ⟨i, hi, e, g⟩
    rw [(nI_eq (a := j) (b := i) (by omega) (by omega)).mp e]; exact g
  · exact fun g => ⟨j, hj, rfl, g⟩
theorem aG_m1 {α : sAl} (hT : aT α ≤ 120) : ¬ aG α (-1) := fun ⟨j, hj, e, _⟩ => nI_m1' (j := j) (by omega) e.symm
theorem toNat_nI {x : Int32} {n j : Nat} (hn : n ≤ 120) (hj : j < n) (e : x = nI j) : x.toNatClampNeg = j := by rw [e, nI_clamp (by omega)]
end SRI
