/-! PURE: gathering terms on the sheet; polynomials. -/
section MTI
/-- f, and w of the first i keys of e, each at its place κ -/
def gth (f : Nat → Int) (e κ : Nat → Nat) (w : Nat → Int) (i : Nat) : Nat → Int := fun y => f y + sN (fun a => if κ (e a) = y then w (e a) else 0) i
theorem gth_0 (f : Nat → Int) (e κ : Nat → Nat) (w : Nat → Int) : gth f e κ w 0 = f := by
  funext y
  show f y + 0 = f y
  omega
theorem gth_step (f : Nat → Int) (e κ : Nat → Nat) (w : Nat → Int) (i : Nat) : fAdd (gth f e κ w i) (κ (e i)) (w (e i)) = gth f e κ w (i + 1) := by
  funext y
  show (if y = κ (e i) then f y + sN (fun a => if κ (e a) = y then w (e a) else 0) i + w (e i) else f y + sN (fun a => if κ (e a) = y then w (e a) else 0) i) = f y + (sN (fun a => if κ (e a) = y then w (e a) else 0) i + if κ (e i) = y then w (e i) else 0)
  by_cases h : y = κ (e i)
  · rw [if_pos h, if_pos h.symm]; omega
  · rw [if_neg h, if_neg (Ne.symm h)]; omega
theorem gth_skip (f : Nat → Int) (e κ : Nat → Nat) (w : Nat → Int) (i : Nat) (h : w (e i) = 0) : gth f e κ w i = gth f e κ w (i + 1) := by
  funext y
  show _ = f y + (sN (fun a => if κ (e a) = y then w (e a) else 0) i + if κ (e i) = y then w (e i) else 0)
  rw [h]
  show f y + sN (fun a => if κ (e a) = y then w (e a) else 0) i = _
  split <;> omega
theorem sN_abs {g : Nat → Int} {W : Int} : ∀ {n : Nat}, (∀ i, i < n → -W ≤ g i ∧ g i ≤ W) → -(W * n) ≤ sN g n ∧ sN g n ≤ W * n
  | 0, _ => by show -(W * 0) ≤ 0 ∧ (0 : Int) ≤ W * 0; omega
  | n + 1, h => by
    have h1 := sN_abs (n := n) (fun i hi => h i (Nat.lt_succ_of_lt hi))
    have h2 := h n (Nat.lt_succ_self n)
    show -(W * ((n + 1 : Nat) : Int)) ≤ sN g n + g n ∧ sN g n + g n ≤ W * ((n + 1 : Nat) : Int)
    rw [Int.natCast_succ, Int.mul_add, Int.mul_one]
    omega
theorem gth_bound {f : Nat → Int} {e κ : Nat → Nat} {w : Nat → Int} {i n : Nat} {B W : Int} (hf : ∀ y, -B ≤ f y ∧ f y ≤ B) (hW : 0 ≤ W) (hw : ∀ a, a < i → -W ≤ w (e a) ∧ w (e a) ≤ W) (hi : i ≤ n) (y : Nat) : -(B + W * n) ≤ gth f e κ w i y ∧ gth f e κ w i y ≤ B + W * n := by
  have h1 := sN_abs (g := fun a => if κ (e a) = y then w (e a) else 0) (W := W) (n := i) (fun a ha => by
    have := hw a ha
    show -W ≤ (if κ (e a) = y then w (e a) else 0) ∧ (if κ (e a) = y then w (e a) else 0) ≤ W
    split <;> omega)
  have h2 := hf y
  have h3 : W * i ≤ W * n := Int.mul_le_mul_of_nonneg_left (by omega) hW
  show -(B + W * n) ≤ f y + sN (fun a => if κ (e a) = y then w (e a) else 0) i ∧ f y + sN (fun a => if κ (e a) = y then w (e a) else 0) i ≤ B + W * n
  omega
/-- what a polynomial's cells stand for: the numbers P by their keys -/
def PE (π : sPol) (e : Nat → Nat) (P : Nat → Int) : Prop :=
  π.1 ≤ 40 ∧ π.2.2.1 = false ∧ (∀ i, i < π.1 → good (e i) ∧ π.2.2.2.1 i = nI (e i) ∧ (π.2.2.2.2 i).toInt = P (e i) ∧ P (e i) ≠ 0 ∧ -1000000 ≤ P (e i) ∧ P (e i) ≤ 1000000) ∧ (∀ i j, i < π.1 → j < π.1 → e i = e j → i = j) ∧ (∀ y, P y ≠ 0 → ∃ i, i < π.1 ∧ e i = y) ∧
  ∃ d : Nat, d ≤ 9 ∧ π.2.1 = nI d ∧ (∀ y, P y ≠ 0 → gdeg y ≤ d) ∧ (d = 0 ∨ ∃ y, P y ≠ 0 ∧ gdeg y = d)
def PR (π : sPol) (P : Nat → Int) : Prop := ∃ e, PE π e P
/-- great: nothing is in it -/
def PG (π : sPol) : Prop := π.1 = 0 ∧ π.2.2.1 = true
theorem PE.gd {π : sPol} {e : Nat → Nat} {P : Nat → Int} (h : PE π e P) {y : Nat} (hy : P y ≠ 0) : good y := by
  obtain ⟨i, hi, rfl⟩ := h.2.2.2.2.1 y hy
  exact (h.2.2.1 i hi).1
theorem PE.bnd {π : sPol} {e : Nat → Nat} {P : Nat → Int} (h : PE π e P) (y : Nat) : -1000000 ≤ P y ∧ P y ≤ 1000000 := by
  by_cases hy : P y = 0
  · omega
  · obtain ⟨i, hi, rfl⟩ := h.2.2.2.2.1 y hy
    exact (h.2.2.1 i hi).2.2.2.2
theorem gth_end {π : sPol} {e κ : Nat → Nat} {P w f : Nat → Int} (h : PE π e P) (hw : ∀ a, P a = 0 → w a = 0) : gth f e κ w π.1 = fun y => f y + sN (fun a => if κ a = y then w a else 0) 1000 := by
  funext y
  show f y + sN (fun i => (fun a => if κ a = y then w a else 0) (e i)) π.1 = _
  rw [sN_enum (F := fun a => if κ a = y then w a else 0) (N := 1000) (fun i hi => (h.2.2.1 i hi).1.1) h.2.2.2.1 (fun a _ hn => by
    have : P a = 0 := by
      by_cases q : P a = 0
      · exact q
      · obtain ⟨i, hi, he⟩ := h.2.2.2.2.1 a q
        exact absurd he (hn i hi)
    show (if κ a = y then w a else 0) = 0
    rw [hw a this]
    split <;> rfl)]
theorem good_lt {y : Nat} (h : good y) : y < 1000 := h.1
theorem dig3 {x : Nat} (h : x < 1000) : ∃ a b c : Nat, a ≤ 9 ∧ b ≤ 9 ∧ c ≤ 9 ∧ x = 100 * a + 10 * b + c := ⟨x / 100, x / 10 % 10, x % 10, by omega, by omega, by omega, by omega⟩
theorem gdeg_mk {a b c : Nat} (hb : b ≤ 9) (hc : c ≤ 9) : gdeg (100 * a + 10 * b + c) = a + b + c := by
  have h1 : (100 * a + 10 * b + c) / 100 = a := by omega
  have h2 : (100 * a + 10 * b + c) / 10 % 10 = b := by omega
  have h3 : (100 * a + 10 * b + c) % 10 = c := by omega
  unfold gdeg
  rw [h1, h2, h3]
theorem good_sum {x y : Nat} (hx : good x) (hy : good y) (h : gdeg x + gdeg y ≤ 9) : good (x + y) ∧ gdeg (x + y) = gdeg x + gdeg y := by
  obtain ⟨a, b, c, ha, hb, hc, rfl⟩ := dig3 hx.1
  obtain ⟨a', b', c', ha', hb', hc', rfl⟩ := dig3 hy.1
  rw [gdeg_mk hb hc, gdeg_mk hb' hc'] at h ⊢
  rw [show 100 * a + 10 * b + c + (100 * a' + 10 * b' + c') = 100 * (a + a') + 10 * (b + b') + (c + c') by omega]
  have e := gdeg_mk (a := a + a') (b := b + b') (c := c + c') (by omega) (by omega)
  refine ⟨⟨by omega, by rw [e]; omega⟩, by rw [e]; omega⟩
/-- one times P at each key -/
theorem sN_id {P : Nat → Int} (c : Int) (hP : ∀ y, P y ≠ 0 → good y) (y : Nat) : sN (fun a => if a = y then c * P a else 0) 1000 = c * P y := by
  by_cases hy : y < 1000
  · exact sN_one (a := fun a => c * P a) hy
  · have : P y = 0 := by
      by_cases q : P y = 0
      · exact q
      · exact absurd (hP y q).1 hy
    rw [this, sN_zero (fun i hi => if_neg (by omega))]
    omega
theorem i64_mul32 (a b : Int32) : (a.toInt64 * b.toInt64).toInt = a.toInt * b.toInt := by
  have ha := a.toInt_lt
  have ha' := a.le_toInt
  have hb := b.toInt_lt
  have hb' := b.le_toInt
  rw [Int64.toInt_mul, Int32.toInt_toInt64, Int32.toInt_toInt64]
  generalize a.toInt = x at *
  generalize b.toInt = y at *
  have k1 : (0 : Int) ≤ (2147483648 - x) * (2147483648 - y) := Int.mul_nonneg (by omega) (by omega)
  have k2 : (0 : Int) ≤ (2147483648 + x) * (2147483648 + y) := Int.mul_nonneg (by omega) (by omega)
  have k3 : (0 : Int) ≤ (2147483648 - x) * (2147483648 + y) := Int.mul_nonneg (by omega) (by omega)
  have k4 : (0 : Int) ≤ (2147483648 + x) * (2147483648 - y) := Int.mul_nonneg (by omega) (by omega)
  rw [Int.sub_mul, Int.mul_sub, Int.mul_sub] at k1
  rw [Int.add_mul, Int.mul_add, Int.mul_add] at k2
  rw [Int.sub_mul, Int.mul_add, Int.mul_add] at k3
  rw [Int.add_mul, Int.mul_sub, Int.mul_sub] at k4
  generalize x * y = z at *
  exact Int.bmod_eq_of_le (by omega) (by omega)
/-- the product -/
def mul (P Q : Nat → Int) : Nat → Int := fun y => sN (fun a => sN (fun b => if a + b = y then P a * Q b else 0) 1000) 1000
end MTI
