/-! A local is forgotten; PURE: products of longs, appending to a polynomial, counting. -/
section MTK
theorem s_drop {X : sMach} {G : sG} {Y : sMeth} {Q : State → Prop} {ad : sAd} {M : sM} {kc ks : Nat} {lv : List (Option Value)} {pc : Nat} {st : List Value} (j : Nat) (k : sW X G Y Q ad M kc ks (lv.set j none) pc st) : sW X G Y Q ad M kc ks lv pc st := fun F H locs ls a b c d =>
  k F H locs ls a b ⟨by rw [List.length_set]; exact c.1, c.2.1, fun i v hi => c.2.2 i v (by
    by_cases e : i = j
    · subst e
      by_cases hl : i < lv.length
      · rw [List.getElem?_set_self hl] at hi; cases hi
      · rw [List.getElem?_eq_none (by rw [List.length_set]; omega)] at hi; cases hi
    · rw [List.getElem?_set_ne (Ne.symm e)] at hi; exact hi)⟩ (by rw [List.length_set]; exact d)
theorem i64_mul {a b : Int64} (h1 : -(2 ^ 63) ≤ a.toInt * b.toInt) (h2 : a.toInt * b.toInt < 2 ^ 63) : (a * b).toInt = a.toInt * b.toInt := by
  rw [Int64.toInt_mul]
  exact Int.bmod_eq_of_le (by omega) (by omega)
theorem mul_bnd {x y A B : Int} (hA : 0 ≤ A) (hB : 0 ≤ B) (hx : -A ≤ x ∧ x ≤ A) (hy : -B ≤ y ∧ y ≤ B) : -(A * B) ≤ x * y ∧ x * y ≤ A * B := by
  have k1 : (0 : Int) ≤ (A - x) * (B - y) := Int.mul_nonneg (by omega) (by omega)
  have k2 : (0 : Int) ≤ (A + x) * (B + y) := Int.mul_nonneg (by omega) (by omega)
  have k3 : (0 : Int) ≤ (A - x) * (B + y) := Int.mul_nonneg (by omega) (by omega)
  have k4 : (0 : Int) ≤ (A + x) * (B - y) := Int.mul_nonneg (by omega) (by omega)
  rw [Int.sub_mul, Int.mul_sub, Int.mul_sub] at k1
  rw [Int.add_mul, Int.mul_add, Int.mul_add] at k2
  rw [Int.sub_mul, Int.mul_add, Int.mul_add] at k3
  rw [Int.add_mul, Int.mul_sub, Int.mul_sub] at k4
  generalize x * y = z at *
  generalize A * B = w at *
  generalize A * y = t at *
  generalize x * B = r at *
  omega
def cnt (f : Nat → Int) : Int := sN (fun y => if f y = 0 then 0 else 1) 1000
def fitsP (f : Nat → Int) : Prop := (∀ y, -1000000 ≤ f y ∧ f y ≤ 1000000) ∧ cnt f ≤ 40
theorem PE.ct {π : sPol} {e : Nat → Nat} {P : Nat → Int} (h : PE π e P) : cnt P = π.1 := by
  have h1 : sN (fun i => (fun y => if P y = 0 then (0 : Int) else 1) (e i)) π.1 = sN (fun y => if P y = 0 then 0 else 1) 1000 :=
    sN_enum (F := fun y => if P y = 0 then (0 : Int) else 1) (fun i hi => (h.2.2.1 i hi).1.1) h.2.2.2.1 (fun y _ hn => by
      by_cases q : P y = 0
      · exact if_pos q
      · obtain ⟨i, hi, he⟩ := h.2.2.2.2.1 y q
        exact absurd he (hn i hi))
  have h2 : sN (fun i => (fun y => if P y = 0 then (0 : Int) else 1) (e i)) π.1 = π.1 := by
    rw [sN_congr (g := fun _ => 1) (fun i hi => if_neg (h.2.2.1 i hi).2.2.2.1), sN_const]
    omega
  exact h1.symm.trans h2
theorem PE.ft {π : sPol} {e : Nat → Nat} {P : Nat → Int} (h : PE π e P) : fitsP P := ⟨h.bnd, by rw [h.ct]; have := h.1; omega⟩
/-- the first i keys of e, with f's numbers -/
def part (f : Nat → Int) (e : Nat → Nat) (i : Nat) : Nat → Int := gth (fun _ => 0) e (fun a => a) f i
theorem part_in {f : Nat → Int} {e : Nat → Nat} {i a : Nat} (ha : a < i) (hinj : ∀ x y, x < i → y < i → e x = e y → x = y) : part f e i (e a) = f (e a) := by
  show 0 + sN (fun b => if e b = e a then f (e b) else 0) i = f (e a)
  rw [sN_congr (g := fun b => if b = a then f (e a) else 0) (fun b hb => by
    by_cases q : b = a
    · subst q; rw [if_pos rfl, if_pos rfl]
    · rw [if_neg (fun z => q (hinj b a hb ha z)), if_neg q]), sN_one (a := fun _ => f (e a)) ha]
  omega
theorem part_out {f : Nat → Int} {e : Nat → Nat} {i y : Nat} (h : ∀ a, a < i → e a ≠ y) : part f e i y = 0 := by
  show 0 + sN (fun b => if e b = y then f (e b) else 0) i = 0
  rw [sN_zero (fun b hb => if_neg (h b hb))]
  rfl
theorem cnt_mono {f g : Nat → Int} (h : ∀ y, f y ≠ 0 → g y ≠ 0) : cnt f ≤ cnt g := sN_mono (fun y _ => by
  by_cases q : f y = 0
  · rw [if_pos q]; split <;> omega
  · rw [if_neg q, if_neg (h y q)]; omega)
theorem cnt_more {f g : Nat → Int} {j : Nat} (hj : j < 1000) (h : ∀ y, f y ≠ 0 → g y ≠ 0) (h0 : f j = 0) (h1 : g j ≠ 0) : cnt f + 1 ≤ cnt g := by
  have k : sN (fun y => (if f y = 0 then (0 : Int) else 1) + (if y = j then (1 : Int) else 0)) 1000 ≤ sN (fun y => if g y = 0 then 0 else 1) 1000 := sN_mono (fun y _ => by
    by_cases e : y = j
    · subst e; rw [if_pos h0, if_pos rfl, if_neg h1]; omega
    · rw [if_neg e]
      by_cases q : f y = 0
      · rw [if_pos q]; split <;> omega
      · rw [if_neg q, if_neg (h y q)]; omega)
  rw [sN_add, sN_one (a := fun _ => 1) hj] at k
  exact k
theorem PE.zero (π : sPol) : PE (jZero π) (fun _ => 0) (fun _ => 0) := ⟨Nat.zero_le _, rfl, fun i hi => absurd hi (Nat.not_lt_zero i), fun i _ hi => absurd hi (Nat.not_lt_zero i), fun y hy => absurd rfl hy, 0, by omega, rfl, fun y hy => absurd rfl hy, Or.inl rfl⟩
theorem i32_of64 {v : Int64} (h : -1000000 ≤ v.toInt ∧ v.toInt ≤ 1000000) : v.toInt32.toInt = v.toInt := by
  rw [Int64.toInt_toInt32]
  exact Int.bmod_eq_of_le (by omega) (by omega)
theorem PE.app {π : sPol} {e : Nat → Nat} {P : Nat → Int} (h : PE π e P) {j : Nat} (hj : good j) (h0 : P j = 0) {v : Int64} (hv0 : v.toInt ≠ 0) (hv : -1000000 ≤ v.toInt ∧ v.toInt ≤ 1000000) (hn : π.1 < 40) : PE (jAppend π (nI j) v) (fun i => if i = π.1 then j else e i) (fAdd P j v.toInt) := by
  obtain ⟨n, dg, g, ks, ns⟩ := π
  obtain ⟨b1, b2, b3, b4, b5, d, b6, b7, b8, b9⟩ := h
  dsimp only at b1 b2 b3 b4 b5 b7 hn
  subst b2
  have hne : ∀ i, i < n → e i ≠ j := fun i hi q => (b3 i hi).2.2.2.1 (by rw [q]; exact h0)
  have hz : ¬ v = 0 := fun q => hv0 (by rw [q]; rfl)
  have hlo : ¬ v < -1000000 := fun q => by
    have := Int64.lt_iff_toInt_lt.mp q
    rw [show (-1000000 : Int64).toInt = -1000000 from rfl] at this
    omega
  have hhi : ¬ 1000000 < v := fun q => by
    have := Int64.lt_iff_toInt_lt.mp q
    rw [show (1000000 : Int64).toInt = 1000000 from rfl] at this
    omega
  have hj2 : jAppend (n, dg, false, ks, ns) (nI j) v = (n + 1, (if dg < jDegree (nI j) then jDegree (nI j) else dg), false, upd ks n (nI j), upd ns n v.toInt32) := by
    refine (if_neg ?_).trans (if_neg ?_)
    · rintro (q | q)
      · cases q
      · exact hz q
    · rintro (q | q | q)
      · have q : 40 ≤ n := q
        omega
      · exact hlo q
      · exact hhi q
  rw [hj2]
  have hfA : fAdd P j v.toInt j = v.toInt := by
    show (if j = j then P j + v.toInt else P j) = v.toInt
    rw [if_pos rfl, h0]; omega
  have hfN : ∀ y, y ≠ j → fAdd P j v.toInt y = P y := fun y hy => if_neg hy
  refine ⟨hn, rfl, fun i hi => ?_, fun a b ha hb hab => ?_, fun y hy => ?_, ?_⟩
  · show good (if i = n then j else e i) ∧ upd ks n (nI j) i = nI (if i = n then j else e i) ∧ (upd ns n v.toInt32 i).toInt = fAdd P j v.toInt (if i = n then j else e i) ∧ fAdd P j v.toInt (if i = n then j else e i) ≠ 0 ∧ -1000000 ≤ fAdd P j v.toInt (if i = n then j else e i) ∧ fAdd P j v.toInt (if i = n then j else e i) ≤ 1000000
    by_cases q : i = n
    · rw [if_pos q, q, pk_us, pk_us, hfA]
      exact ⟨hj, rfl, i32_of64 hv, hv0, hv⟩
    · have hi' : i < n := by have : i < n + 1 := hi; omega
      rw [if_neg q, pk_un q, pk_un q, hfN _ (hne i hi')]
      exact b3 i hi'
  · have hab : (if a = n then j else e a) = (if b = n then j else e b) := hab
    have ha : a < n + 1 := ha
    have hb : b < n + 1 := hb
    by_cases h1 : a = n
    · by_cases h2 : b = n
      · omega
      · rw [if_pos h1, if_neg h2] at hab; exact absurd hab.symm (hne b (by omega))
    · by_cases h2 : b = n
      · rw [if_neg h1, if_pos h2] at hab; exact absurd hab (hne a (by omega))
      · rw [if_neg h1, if_neg h2] at hab; exact b4 a b (by omega) (by omega) hab
  · by_cases q : y = j
    · exact ⟨n, Nat.lt_succ_self n, by rw [q]; exact if_pos rfl⟩
    · rw [hfN y q] at hy
      obtain ⟨i, hi, he⟩ := b5 y hy
      exact ⟨i, Nat.lt_succ_of_lt hi, by show (if i = n then j else e i) = y; rw [if_neg (by omega)]; exact he⟩
  · show ∃ d' : Nat, d' ≤ 9 ∧ (if dg < jDegree (nI j) then jDegree (nI j) else dg) = nI d' ∧ (∀ y, fAdd P j v.toInt y ≠ 0 → gdeg y ≤ d') ∧ (d' = 0 ∨ ∃ y, fAdd P j v.toInt y ≠ 0 ∧ gdeg y = d')
    rw [jDegree_eq hj.1, b7]
    by_cases q : d < gdeg j
    · refine ⟨gdeg j, hj.2, if_pos ((nI_ltI (by omega) (by have := hj.2; omega)).mpr q), fun y hy => ?_, Or.inr ⟨j, by rw [hfA]; exact hv0, rfl⟩⟩
      by_cases r : y = j
      · rw [r]; exact Nat.le_refl _
      · rw [hfN y r] at hy; have := b8 y hy; omega
    · refine ⟨d, b6, if_neg (fun z => q ((nI_ltI (by omega) (by have := hj.2; omega)).mp z)), fun y hy => ?_, ?_⟩
      · by_cases r : y = j
        · rw [r]; omega
        · rw [hfN y r] at hy; exact b8 y hy
      · rcases b9 with b9 | ⟨y, hy, hd⟩
        · exact Or.inl b9
        · refine Or.inr ⟨y, ?_, hd⟩
          rw [hfN y (fun r => hy (by rw [r]; exact h0))]
          exact hy
end MTK
