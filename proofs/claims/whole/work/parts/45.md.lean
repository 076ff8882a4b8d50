/-! THE REFERENCE's cells: code, trees, head, one, two, deep, cells, great, rows, kind, fields, cofactor, samples, work, spare, beyond, must. -/
section SMD
abbrev sMd : Type := Int32 × Nat × (Nat → Int32) × (Nat → Int32) × (Nat → Int32) × (Nat → Int32) × (Nat → Int32) × (Nat → Int32) × Nat × (Nat → Int32) × (Nat → Int32) × (Nat → Int32) × (Nat → Int32) × (Nat → Int64) × (Nat → Int64) × Bool × (Nat → Int32)
def hMd (G : sG) (ad : sAd) (M : sM) : sMd → Prop
  | (c0, t0, hd, on, tw, dp, cl, gr, r0, kd, fl, co, sm, wk, sp, b0, mu) =>
    M 12 0 = some (.inr (5, [.int c0, .int (nI t0), .ref (ad 13 0), .ref (ad 14 0), .ref (ad 15 0), .ref (ad 16 0), .ref (ad 17 0), .ref (ad 18 0), .int (nI r0), .ref (ad 19 0), .ref (ad 20 0), .ref (ad 21 0), .ref (ad 22 0), .ref (ad 23 0), .ref (ad 24 0), .int (jB b0), .ref (ad 25 0)])) ∧ M 13 0 = some (.inl (gI G, 120, .inl hd)) ∧ M 14 0 = some (.inl (gI G, 120, .inl on)) ∧ M 15 0 = some (.inl (gI G, 120, .inl tw)) ∧ M 16 0 = some (.inl (gI G, 120, .inl dp)) ∧ M 17 0 = some (.inl (gI G, 26400, .inl cl)) ∧ M 18 0 = some (.inl (gZ G, 120, .inl gr)) ∧ M 19 0 = some (.inl (gI G, 60, .inl kd)) ∧ M 20 0 = some (.inl (gI G, 180, .inl fl)) ∧ M 21 0 = some (.inl (gI G, 60, .inl co)) ∧ M 22 0 = some (.inl (gI G, 180, .inl sm)) ∧ M 23 0 = some (.inl (gJ G, 220, .inr (.inl wk))) ∧ M 24 0 = some (.inl (gJ G, 220, .inr (.inl sp))) ∧ M 25 0 = some (.inl (gZ G, 14400, .inl mu))
def pMd : Nat → Nat → Prop := fun k _ => 12 ≤ k ∧ k ≤ 25
theorem fsX4_ok : ∀ j, j < 17 → defaultValue (tyX4 j) = vp_V [.int 0, .int 0, .null, .null, .null, .null, .null, .null, .int 0, .null, .null, .null, .null, .null, .null, .int 0, .null] j := by decide
/-! places of powers -/
def tw2 (d : Nat) : Nat := d * (d + 1) / 2
def th3 (d : Nat) : Nat := d * (d + 1) * (d + 2) / 6
def pl3 (i j k : Nat) : Nat := th3 (i + j + k) + tw2 (j + k) + k
def pl (y : Nat) : Nat := pl3 (y / 100) (y / 10 % 10) (y % 10)
def unp (k : Nat) : Nat := ((List.range 1000).find? (fun y => goodB y && pl y == k)).getD 0
set_option maxRecDepth 100000 in
theorem pl_chk : (List.range 1000).all (fun y => !goodB y || (decide (pl y < 220) && decide (th3 (gdeg y) ≤ pl y) && decide (pl y < th3 (gdeg y + 1)))) = true := by decide +kernel
set_option maxRecDepth 100000 in
theorem unp_chk : (List.range 220).all (fun k => goodB (unp k) && pl (unp k) == k) = true := by decide +kernel
set_option maxRecDepth 100000 in
theorem unp_chk2 : (List.range 1000).all (fun y => !goodB y || unp (pl y) == y) = true := by decide +kernel
theorem pl_facts {y : Nat} (h : good y) : pl y < 220 ∧ th3 (gdeg y) ≤ pl y ∧ pl y < th3 (gdeg y + 1) := by
  have q := List.all_eq_true.mp pl_chk y (List.mem_range.mpr h.1)
  rw [goodB_iff.mpr h] at q
  simpa [and_assoc] using q
theorem unp_facts {k : Nat} (h : k < 220) : good (unp k) ∧ pl (unp k) = k := by
  have q := List.all_eq_true.mp unp_chk k (List.mem_range.mpr h)
  simp only [Bool.and_eq_true, beq_iff_eq] at q
  exact ⟨goodB_iff.mp q.1, q.2⟩
theorem unp_pl {y : Nat} (h : good y) : unp (pl y) = y := by
  have q := List.all_eq_true.mp unp_chk2 y (List.mem_range.mpr h.1)
  rw [goodB_iff.mpr h] at q
  simpa using q
theorem pl_inj {y z : Nat} (h : good y) (h' : good z) (e : pl y = pl z) : y = z := by rw [← unp_pl h, e, unp_pl h']
theorem dig {i j k : Nat} (hj : j ≤ 9) (hk : k ≤ 9) : (100 * i + 10 * j + k) / 100 = i ∧ (100 * i + 10 * j + k) / 10 % 10 = j ∧ (100 * i + 10 * j + k) % 10 = k := by omega
theorem pl_dig {i j k : Nat} (hj : j ≤ 9) (hk : k ≤ 9) : pl (100 * i + 10 * j + k) = pl3 i j k := by
  obtain ⟨a, b, c⟩ := dig (i := i) hj hk
  unfold pl
  rw [a, b, c]
theorem good_dig {i j k : Nat} (h : i + j + k ≤ 9) : good (100 * i + 10 * j + k) := by
  obtain ⟨a, b, c⟩ := dig (i := i) (j := j) (k := k) (by omega) (by omega)
  refine ⟨by omega, ?_⟩
  unfold gdeg
  rw [a, b, c]
  exact h
theorem sN_skip {f : Nat → Int} {a b : Nat} (hab : a ≤ b) (h : ∀ y, a ≤ y → y < b → f y = 0) : sN f b = sN f a := by
  induction b with
  | zero => rw [show a = 0 by omega]
  | succ b ih =>
    by_cases q : a = b + 1
    · rw [q]
    · show sN f b + f b = sN f a
      rw [h b (by omega) (by omega), ih (by omega) (fun y h1 h2 => h y h1 (by omega))]
      omega
theorem nI_sub {a b : Nat} (h : b ≤ a) : nI a - nI b = nI (a - b) := by
  have e := nI_add (a - b) b
  rw [show a - b + b = a by omega] at e
  rw [← e]
  exact Int32.add_sub_cancel _ _
theorem nI_div {a b : Nat} (ha : a < 2 ^ 31) (hb : b < 2 ^ 31) (h0 : 0 < b) : nI a / nI b = nI (a / b) := by
  refine Int32.toInt_inj.mp ?_
  have hq : a / b ≤ a := Nat.div_le_self a b
  rw [Int32.toInt_div, nI_toInt ha, nI_toInt hb, nI_toInt (by omega), Int.tdiv_eq_ediv_of_nonneg (by omega), ← Int.natCast_ediv]
  generalize a / b = q at *
  exact Int.bmod_eq_of_le (by omega) (by omega)
theorem i32_64 {x : Int32} : x.toInt64.toInt = x.toInt := Int32.toInt_toInt64 x
end SMD
