/-! one letter's terms, by steps -/
section SSL
def derT (l : Nat) (P : Nat → Int) (y a : Nat) : Int := if a - kl3 l = y then (dg3 l a : Int) * P a else 0
theorem derT_eq (l : Nat) (P : Nat → Int) (y : Nat) : sN (derT l P y) 1000 = derv l P y := rfl
def subT (l : Nat) (v : Int) (P : Nat → Int) (y a : Nat) : Int := if a - dg3 l a * kl3 l = y then P a * v ^ dg3 l a else 0
theorem subT_eq (l : Nat) (v : Int) (P : Nat → Int) (y : Nat) : sN (subT l v P y) 1000 = subs l v P y := rfl
def valT (P : Nat → Int) (s0 s1 s2 : Int) (a : Nat) : Int := P a * s0 ^ dg3 0 a * s1 ^ dg3 1 a * s2 ^ dg3 2 a
theorem valT_eq (P : Nat → Int) (s0 s1 s2 : Int) : sN (valT P s0 s1 s2) 1000 = val3 P s0 s1 s2 := rfl
theorem derT_0 {l : Nat} {P : Nat → Int} {a : Nat} (h : P a = 0) (y : Nat) : derT l P y a = 0 := by
  unfold derT
  rw [h, Int.mul_zero]
  split <;> rfl
theorem derT_d {l : Nat} {P : Nat → Int} {a : Nat} (h : dg3 l a = 0) (y : Nat) : derT l P y a = 0 := by
  unfold derT
  rw [h]
  split <;> omega
theorem subT_0 {l : Nat} {v : Int} {P : Nat → Int} {a : Nat} (h : P a = 0) (y : Nat) : subT l v P y a = 0 := by
  unfold subT
  rw [h, Int.zero_mul]
  split <;> rfl
theorem valT_0 {P : Nat → Int} {s0 s1 s2 : Int} {a : Nat} (h : P a = 0) : valT P s0 s1 s2 a = 0 := by
  unfold valT
  rw [h, Int.zero_mul, Int.zero_mul, Int.zero_mul]
theorem dg3_low {l a : Nat} (h : a < kl3 l) (hl : l ≤ 2) : dg3 l a = 0 := by
  rcases (show l = 0 ∨ l = 1 ∨ l = 2 by omega) with rfl | rfl | rfl
  · have h' : a < 100 := h
    show a / 100 = 0
    omega
  · have h' : a < 10 := h
    show a / 10 % 10 = 0
    omega
  · have h' : a < 1 := h
    show a % 10 = 0
    omega
theorem derT_low {l : Nat} {P : Nat → Int} {Y : Nat} (hl : l ≤ 2) (hY : kl3 l ≤ Y) : sN (derT l P (Y - kl3 l)) Y = 0 := sN_zero (fun a ha => by
  unfold derT
  by_cases e : a - kl3 l = Y - kl3 l
  · rw [if_pos e, dg3_low (l := l) (a := a) (by omega) hl]
    omega
  · exact if_neg e)
theorem dg3_dig {x y z : Nat} (hy : y ≤ 9) (hz : z ≤ 9) : dg3 0 (100 * x + 10 * y + z) = x ∧ dg3 1 (100 * x + 10 * y + z) = y ∧ dg3 2 (100 * x + 10 * y + z) = z := dig hy hz
theorem derv_gz {P : Nat → Int} (hg : gz P) {l : Nat} (hl : l ≤ 2) : gz (derv l P) := fun y hy => by
  obtain ⟨a, ha, h1⟩ := sN_ne hy
  by_cases e : a - kl3 l = y
  · rw [if_pos e] at h1
    have hP : P a ≠ 0 := fun q => h1 (by rw [q, Int.mul_zero])
    have hd : dg3 l a ≠ 0 := fun q => h1 (by rw [q]; omega)
    obtain ⟨g1, g2⟩ := hg a hP
    obtain ⟨a1, a2, a3, e1, h2, h3, g⟩ := dg_split a
    rw [g] at g2
    rw [← e, e1]
    obtain ⟨d0, d1, d2⟩ := dg3_dig (x := a1) h2 h3
    rcases (show l = 0 ∨ l = 1 ∨ l = 2 by omega) with rfl | rfl | rfl
    · rw [e1, d0] at hd
      rw [show kl3 0 = 100 from rfl, show 100 * a1 + 10 * a2 + a3 - 100 = 100 * (a1 - 1) + 10 * a2 + a3 by omega]
      exact good_dig (by omega)
    · rw [e1, d1] at hd
      rw [show kl3 1 = 10 from rfl, show 100 * a1 + 10 * a2 + a3 - 10 = 100 * a1 + 10 * (a2 - 1) + a3 by omega]
      exact good_dig (by omega)
    · rw [e1, d2] at hd
      rw [show kl3 2 = 1 from rfl, show 100 * a1 + 10 * a2 + a3 - 1 = 100 * a1 + 10 * a2 + (a3 - 1) by omega]
      exact good_dig (by omega)
  · rw [if_neg e] at h1; exact absurd rfl h1
theorem subs_gz {P : Nat → Int} (hg : gz P) {l : Nat} (hl : l ≤ 2) (v : Int) : gz (subs l v P) := fun y hy => by
  obtain ⟨a, ha, h1⟩ := sN_ne hy
  by_cases e : a - dg3 l a * kl3 l = y
  · rw [if_pos e] at h1
    have hP : P a ≠ 0 := fun q => h1 (by rw [q, Int.zero_mul])
    obtain ⟨g1, g2⟩ := hg a hP
    obtain ⟨a1, a2, a3, e1, h2, h3, g⟩ := dg_split a
    rw [g] at g2
    rw [← e, e1]
    obtain ⟨d0, d1, d2⟩ := dg3_dig (x := a1) h2 h3
    rcases (show l = 0 ∨ l = 1 ∨ l = 2 by omega) with rfl | rfl | rfl
    · rw [d0, show kl3 0 = 100 from rfl, show 100 * a1 + 10 * a2 + a3 - a1 * 100 = 100 * 0 + 10 * a2 + a3 by omega]
      exact good_dig (by omega)
    · rw [d1, show kl3 1 = 10 from rfl, show 100 * a1 + 10 * a2 + a3 - a2 * 10 = 100 * a1 + 10 * 0 + a3 by omega]
      exact good_dig (by omega)
    · rw [d2, show kl3 2 = 1 from rfl, show 100 * a1 + 10 * a2 + a3 - a3 * 1 = 100 * a1 + 10 * a2 + 0 by omega]
      exact good_dig (by omega)
  · rw [if_neg e] at h1; exact absurd rfl h1
theorem pwb {A v : Int} {a : Nat} (hA : -1000000 ≤ A ∧ A ≤ 1000000) (hv : -10 ≤ v ∧ v ≤ 10) (ha : a ≤ 9) : -(1000000 * 10 ^ 9) ≤ A * v ^ a ∧ A * v ^ a ≤ 1000000 * 10 ^ 9 := by
  have k1 : (A * v ^ a).natAbs ≤ 1000000 * 10 ^ 9 := by
    rw [Int.natAbs_mul]
    exact Nat.mul_le_mul (by omega) (Nat.le_trans (pw_nat hv) (Nat.pow_le_pow_right (by decide) ha))
  omega
theorem dg3_9 {l a : Nat} (h : good a) : dg3 l a ≤ 9 := dg3_le h
theorem subT_b {l : Nat} {v : Int} {P : Nat → Int} (hp : ∀ y, -1000000 ≤ P y ∧ P y ≤ 1000000) (hg : gz P) (hv : -10 ≤ v ∧ v ≤ 10) (y a : Nat) : -(1000000 * 10 ^ 9) ≤ subT l v P y a ∧ subT l v P y a ≤ 1000000 * 10 ^ 9 := by
  by_cases q : P a = 0
  · rw [subT_0 q]; omega
  · unfold subT
    split
    · exact pwb (hp a) hv (dg3_9 (hg a q))
    · omega
theorem valT_b {P : Nat → Int} {s0 s1 s2 : Int} (hp : ∀ y, -1000000 ≤ P y ∧ P y ≤ 1000000) (hg : gz P) (h0 : -10 ≤ s0 ∧ s0 ≤ 10) (h1 : -10 ≤ s1 ∧ s1 ≤ 10) (h2 : -10 ≤ s2 ∧ s2 ≤ 10) (a : Nat) : -(1000000 * 10 ^ 9) ≤ valT P s0 s1 s2 a ∧ valT P s0 s1 s2 a ≤ 1000000 * 10 ^ 9 := by
  by_cases q : P a = 0
  · rw [valT_0 q]; omega
  · have := (tri_bnd (hp a) h0 h1 h2 (a := dg3 0 a) (b := dg3 1 a) (c := dg3 2 a) (by have := (hg a q).2; rw [← gdeg_dg] at this; exact this)).2.2
    unfold valT
    omega
end SSL
