/-! what the reference's arrays stand for, by places -/
section SMM
def gz (P : Nat → Int) : Prop := ∀ y, P y ≠ 0 → good y
def CRk (cl : Nat → Int32) (t : Nat) (P : Nat → Int) : Prop := ∀ k, k < 220 → (cl (220 * t + k)).toInt = P (unp k)
def WRk (wk : Nat → Int64) (f : Nat → Int) : Prop := ∀ k, k < 220 → (wk k).toInt = f (unp k)
theorem CRk.at {cl : Nat → Int32} {t : Nat} {P : Nat → Int} (h : CRk cl t P) {y : Nat} (hy : good y) : (cl (220 * t + pl y)).toInt = P y := by
  have := h (pl y) (pl_facts hy).1
  rw [unp_pl hy] at this
  exact this
theorem WRk.at {wk : Nat → Int64} {f : Nat → Int} (h : WRk wk f) {y : Nat} (hy : good y) : (wk (pl y)).toInt = f y := by
  have := h (pl y) (pl_facts hy).1
  rw [unp_pl hy] at this
  exact this
theorem unp_inj {i j : Nat} (hi : i < 220) (hj : j < 220) (e : unp i = unp j) : i = j := by rw [← (unp_facts hi).2, e, (unp_facts hj).2]
theorem sum220 {P : Nat → Int} (hg : gz P) {F : Nat → Int} (hF : ∀ y, P y = 0 → F y = 0) : sN (fun k => F (unp k)) 220 = sN F 1000 :=
  sN_enum (fun i hi => (unp_facts hi).1.1) (fun i j hi hj e => unp_inj hi hj e) (fun y _ hn => by
    by_cases q : P y = 0
    · exact hF y q
    · exact absurd (unp_pl (hg y q)) (hn (pl y) (pl_facts (hg y q)).1))
theorem cnt220 {P : Nat → Int} (hg : gz P) : sN (fun k => if P (unp k) = 0 then 0 else 1) 220 = cnt P := sum220 hg (F := fun y => if P y = 0 then 0 else 1) (fun y hy => if_pos hy)
theorem all220 {P : Nat → Int} (hg : gz P) {C : Int → Prop} (h0 : C 0) : (∀ y, C (P y)) ↔ ∀ k, k < 220 → C (P (unp k)) := by
  constructor
  · exact fun h k _ => h _
  · intro h y
    by_cases q : P y = 0
    · rw [q]; exact h0
    · have := h (pl y) (pl_facts (hg y q)).1
      rw [unp_pl (hg y q)] at this
      exact this
theorem eq220 {P Q : Nat → Int} (hp : gz P) (hq : gz Q) : (∀ y, P y = Q y) ↔ ∀ k, k < 220 → P (unp k) = Q (unp k) := by
  constructor
  · exact fun h k _ => h _
  · intro h y
    by_cases q : P y = 0
    · by_cases q2 : Q y = 0
      · rw [q, q2]
      · have := h (pl y) (pl_facts (hq y q2)).1
        rw [unp_pl (hq y q2)] at this
        exact this
    · have := h (pl y) (pl_facts (hp y q)).1
      rw [unp_pl (hp y q)] at this
      exact this
/-- the highest power, -20 of 0 -/
def hiRel (P : Nat → Int) (v : Int32) : Prop := (v = -20 ∧ ∀ y, P y = 0) ∨ ∃ d, d ≤ 9 ∧ v = nI d ∧ DegOf P d ∧ ∃ y, P y ≠ 0
def hiInv (P : Nat → Int) (v : Int32) (k : Nat) : Prop := (v = -20 ∧ ∀ a, a < k → P (unp a) = 0) ∨ ∃ d, d ≤ 9 ∧ v = nI d ∧ (∃ a, a < k ∧ P (unp a) ≠ 0 ∧ gdeg (unp a) = d) ∧ ∀ a, a < k → P (unp a) ≠ 0 → gdeg (unp a) ≤ d
theorem th3_mono {a b : Nat} (h : a ≤ b) (hb : b ≤ 10) : th3 a ≤ th3 b := by
  have : ∀ x, x ≤ 10 → ∀ y, y ≤ x → th3 y ≤ th3 x := by decide +kernel
  exact this b hb a h
theorem deg_at {d k : Nat} (hk : k < 220) (hd : d ≤ 9) (h1 : th3 d ≤ k) (h2 : k < th3 (d + 1)) : gdeg (unp k) = d := by
  obtain ⟨g, e⟩ := unp_facts hk
  obtain ⟨-, a, b⟩ := pl_facts g
  rw [e] at a b
  have hg := g.2
  rcases Nat.lt_trichotomy (gdeg (unp k)) d with q | q | q
  · have := th3_mono (show gdeg (unp k) + 1 ≤ d by omega) (by omega)
    omega
  · exact q
  · have := th3_mono (show d + 1 ≤ gdeg (unp k) by omega) (by omega)
    omega
theorem hiInv.step {P : Nat → Int} {v : Int32} {k d : Nat} (h : hiInv P v k) (hk : k < 220) (hd : d ≤ 9) (h1 : th3 d ≤ k) (h2 : k < th3 (d + 1)) (hp : P (unp k) ≠ 0) : hiInv P (nI d) (k + 1) := by
  have e := deg_at hk hd h1 h2
  refine Or.inr ⟨d, hd, rfl, ⟨k, by omega, hp, e⟩, fun a ha _ => ?_⟩
  obtain ⟨g, ea⟩ := unp_facts (show a < 220 by omega)
  obtain ⟨-, b1, -⟩ := pl_facts g
  rw [ea] at b1
  rcases Nat.lt_or_ge d (gdeg (unp a)) with q | q
  · have := th3_mono (show d + 1 ≤ gdeg (unp a) by omega) (by have := g.2; omega)
    omega
  · exact q
theorem hiInv.skip {P : Nat → Int} {v : Int32} {k : Nat} (h : hiInv P v k) (hp : P (unp k) = 0) : hiInv P v (k + 1) := by
  have key : ∀ {C : Nat → Prop}, (∀ a, a < k → C a) → C k → ∀ a, a < k + 1 → C a := fun h1 h2 a ha => by
    rcases Nat.lt_or_ge a k with q | q
    · exact h1 a q
    · rw [show a = k by omega]; exact h2
  rcases h with ⟨e, h⟩ | ⟨d, hd, e, ⟨a, ha, h1, h2⟩, h3⟩
  · exact Or.inl ⟨e, key h hp⟩
  · exact Or.inr ⟨d, hd, e, ⟨a, by omega, h1, h2⟩, key h3 (fun q => absurd hp q)⟩
theorem hiInv.fin {P : Nat → Int} (hg : gz P) {v : Int32} (h : hiInv P v 220) : hiRel P v := by
  rcases h with ⟨e, h⟩ | ⟨d, hd, e, ⟨a, ha, h1, h2⟩, h3⟩
  · exact Or.inl ⟨e, (all220 hg (C := fun x => x = 0) rfl).mpr h⟩
  · refine Or.inr ⟨d, hd, e, ⟨hd, fun y hy => ?_, Or.inr ⟨_, h1, h2⟩⟩, _, h1⟩
    have := h3 (pl y) (pl_facts (hg y hy)).1
    rw [unp_pl (hg y hy)] at this
    exact this hy
/-- two heights together -/
theorem hi_sum {P Q : Nat → Int} {v w : Int32} (h : hiRel P v) (h' : hiRel Q w) : (9 < v + w) ↔ ¬ dOK P Q := by
  have z : ∀ {R : Nat → Int}, (∀ y, R y = 0) → DegOf R 0 := fun hr => ⟨by omega, fun y hy => absurd (hr y) hy, Or.inl rfl⟩
  rcases h with ⟨rfl, h⟩ | ⟨d, hd, rfl, h, -⟩ <;> rcases h' with ⟨rfl, h'⟩ | ⟨d', hd', rfl, h', -⟩
  · rw [dOK_iff (z h) (z h')]
    exact ⟨fun q => absurd q (by decide), fun q => absurd q (by omega)⟩
  · rw [dOK_iff (z h) h']
    refine ⟨fun q => absurd q ?_, fun q => absurd q (by omega)⟩
    have : ∀ x, x ≤ 9 → ¬ (9 : Int32) < -20 + nI x := by decide +kernel
    exact this d' hd'
  · rw [dOK_iff h (z h')]
    refine ⟨fun q => absurd q ?_, fun q => absurd q (by omega)⟩
    have : ∀ x, x ≤ 9 → ¬ (9 : Int32) < nI x + -20 := by decide +kernel
    exact this d hd
  · rw [dOK_iff h h', nI_add]
    constructor
    · intro q
      have := nI_lt_mp (a := 9) q (by omega) (by omega)
      omega
    · intro q
      exact nI_lt_mpr (a := 9) (by omega) (by omega)
end SMM
