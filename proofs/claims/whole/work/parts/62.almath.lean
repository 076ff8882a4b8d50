/-! alike: what the table of pairs says -/
section SAM
theorem nI_ofp {x : Int32} (h : ¬ x < 0) : ∃ i : Nat, i < 2 ^ 31 ∧ x = nI i := by
  have h0 : (0 : Int) ≤ x.toInt := Int32.le_iff_toInt_le.mp (Int32.not_lt.mp h)
  have h1 : x.toInt < 2 ^ 31 := Int32.toInt_lt x
  refine ⟨x.toInt.toNat, by omega, Int32.toInt_inj.mp ?_⟩
  rw [nI_toInt (by omega)]
  omega
def dn : Nat → Int32
  | 0 => -1
  | i + 1 => nI i
theorem dn_s (i : Nat) : nI i + (-1) = dn i := by
  cases i with
  | zero => decide
  | succ j =>
    show nI (j + 1) + (-1) = nI j
    rw [← nI_1 j, Int32.add_assoc]
    exact Int32.add_zero _
theorem tp_model {α : sAl} (hA : AI α) {x : Nat} (hx : x < aT α) : tp α (aM α x) = tp α x ∧ ∀ j, j < aM α x → tp α j ≠ tp α x := by
  obtain ⟨h1, h2, h3⟩ := (hA.2.2.1 x hx).2.1
  refine ⟨?_, h3⟩
  by_cases q : aM α x < x
  · exact h2 q
  · rw [show aM α x = x by omega]
theorem tp_eq {α : sAl} (hA : AI α) {x y : Nat} (hx : x < aT α) (hy : y < aT α) : aM α x = aM α y ↔ tp α x = tp α y := by
  obtain ⟨a1, a2⟩ := tp_model hA hx
  obtain ⟨b1, b2⟩ := tp_model hA hy
  constructor
  · intro e
    rw [← a1, ← b1, e]
  · intro e
    rcases Nat.lt_trichotomy (aM α x) (aM α y) with q | q | q
    · exact absurd (a1.trans e) (b2 _ q)
    · exact q
    · exact absurd (b1.trans e.symm) (a2 _ q)
theorem aM_lt {α : sAl} (hA : AI α) {x : Nat} (hx : x < aT α) : aM α x < 2 ^ 31 := by
  have := (hA.2.2.1 x hx).2.1.1
  have := hA.1
  omega
/-- the head as the class keeps it -/
def cHd (h : Int32) : Int32 := if h = -1 then 6 else if h = -2 then 7 else h
theorem cHd_inj {h h' : Int32} (q : h = -1 ∨ h = -2 ∨ ∃ n, n < 6 ∧ h = nI n) (q' : h' = -1 ∨ h' = -2 ∨ ∃ n, n < 6 ∧ h' = nI n) (e : cHd h = cHd h') : h = h' := by
  rcases q with rfl | rfl | ⟨n, hn, rfl⟩ <;> rcases q' with rfl | rfl | ⟨m, hm, rfl⟩
  · rfl
  · exact absurd e (by decide)
  · exfalso
    rcases (show m = 0 ∨ m = 1 ∨ m = 2 ∨ m = 3 ∨ m = 4 ∨ m = 5 by omega) with rfl | rfl | rfl | rfl | rfl | rfl <;> exact absurd e (by decide)
  · exact absurd e (by decide)
  · rfl
  · exfalso
    rcases (show m = 0 ∨ m = 1 ∨ m = 2 ∨ m = 3 ∨ m = 4 ∨ m = 5 by omega) with rfl | rfl | rfl | rfl | rfl | rfl <;> exact absurd e (by decide)
  · exfalso
    rcases (show n = 0 ∨ n = 1 ∨ n = 2 ∨ n = 3 ∨ n = 4 ∨ n = 5 by omega) with rfl | rfl | rfl | rfl | rfl | rfl <;> exact absurd e (by decide)
  · exfalso
    rcases (show n = 0 ∨ n = 1 ∨ n = 2 ∨ n = 3 ∨ n = 4 ∨ n = 5 by omega) with rfl | rfl | rfl | rfl | rfl | rfl <;> exact absurd e (by decide)
  · have n1 : ∀ k, k < 6 → cHd (nI k) = nI k := fun k hk => by
      unfold cHd
      rw [if_neg (nI_m1' (by omega)), if_neg (fun z => by
        rcases (show k = 0 ∨ k = 1 ∨ k = 2 ∨ k = 3 ∨ k = 4 ∨ k = 5 by omega) with rfl | rfl | rfl | rfl | rfl | rfl <;> exact absurd z (by decide))]
    rw [n1 n hn, n1 m hm] at e
    exact e
theorem wfT.hd {n : Nat} {t : Int32 × Int32 × Int32 × Nat × Nat} (h : wfT n t) : t.1 = -1 ∨ t.1 = -2 ∨ ∃ n, n < 6 ∧ t.1 = nI n := by
  rcases h.1 with ⟨h1, _⟩ | ⟨h1, _⟩ | ⟨h, a, hh, h1, _⟩
  · exact Or.inl h1
  · exact Or.inr (Or.inl h1)
  · exact Or.inr (Or.inr ⟨h, hh, h1⟩)
theorem tp_head {α : sAl} (hA : AI α) {x y : Nat} (hx : x < aT α) (hy : y < aT α) (e : tp α x = tp α y) : (aTr α x).1 = (aTr α y).1 := cHd_inj (hA.2.2.1 x hx).1.hd (hA.2.2.1 y hy).1.hd (congrArg (fun z => z.1) e)
theorem tp_leaf {α : sAl} {x y : Nat} (h : (aTr α x).1 = (aTr α y).1) (h0 : (aTr α x).1 < 0) (e : tp α x = tp α y) : (aTr α x).2.1 = (aTr α y).2.1 := by
  have q := congrArg (fun z => z.2.1) e
  have q2 : (if (aTr α x).1 < 0 then (aTr α x).2.1 else nI (aM α (aTr α x).2.1.toNatClampNeg)) = if (aTr α y).1 < 0 then (aTr α y).2.1 else nI (aM α (aTr α y).2.1.toNatClampNeg) := q
  rw [if_pos h0, if_pos (h ▸ h0)] at q2
  exact q2
theorem wfT.leaf2 {n : Nat} {t : Int32 × Int32 × Int32 × Nat × Nat} (h : wfT n t) (h0 : t.1 < 0) : t.2.2.1 = -1 := by
  rcases h.1 with ⟨_, _, h1⟩ | ⟨_, _, h1⟩ | ⟨h, a, hh, h1, _⟩
  · exact h1
  · exact h1
  · rw [h1] at h0; exact absurd h0 (nI_pos (by omega))
theorem tp_leafr {α : sAl} (hA : AI α) {x y : Nat} (hx : x < aT α) (hy : y < aT α) (h : (aTr α x).1 = (aTr α y).1) (h0 : (aTr α x).1 < 0) (e : (aTr α x).2.1 = (aTr α y).2.1) : tp α x = tp α y := by
  unfold tp aCl
  have h0' : (aTr α y).1 < 0 := h ▸ h0
  rw [(hA.2.2.1 x hx).1.leaf2 h0, (hA.2.2.1 y hy).1.leaf2 h0', h, e]
theorem tp_node {α : sAl} (hA : AI α) {x y a a' : Nat} (hx : x < aT α) (hy : y < aT α) (h : (aTr α x).1 = (aTr α y).1) (h0 : ¬ (aTr α x).1 < 0) (ha : a < x) (ha' : a' < y) (e1 : (aTr α x).2.1 = nI a) (e1' : (aTr α y).2.1 = nI a') (B : Prop) (hB : ((if (aTr α x).2.2.1 = -1 then -1 else nI (aM α (aTr α x).2.2.1.toNatClampNeg)) = (if (aTr α y).2.2.1 = -1 then -1 else nI (aM α (aTr α y).2.2.1.toNatClampNeg))) ↔ B) : tp α x = tp α y ↔ (aM α a = aM α a' ∧ B) := by
  have hT := hA.1
  have i1 : (if (aTr α x).1 < 0 then (aTr α x).2.1 else nI (aM α (aTr α x).2.1.toNatClampNeg)) = nI (aM α a) := by rw [if_neg h0, e1, nI_clamp (by omega)]
  have i2 : (if (aTr α y).1 < 0 then (aTr α y).2.1 else nI (aM α (aTr α y).2.1.toNatClampNeg)) = nI (aM α a') := by rw [if_neg (h ▸ h0), e1', nI_clamp (by omega)]
  have e0 : tp α x = (cHd (aTr α x).1, nI (aM α a), if (aTr α x).2.2.1 = -1 then -1 else nI (aM α (aTr α x).2.2.1.toNatClampNeg)) := by rw [← i1]; rfl
  have e0' : tp α y = (cHd (aTr α y).1, nI (aM α a'), if (aTr α y).2.2.1 = -1 then -1 else nI (aM α (aTr α y).2.2.1.toNatClampNeg)) := by rw [← i2]; rfl
  rw [e0, e0']
  constructor
  · intro e
    exact ⟨(nI_eq (aM_lt hA (by omega)) (aM_lt hA (by omega))).mp (congrArg (fun z => z.2.1) e), hB.mp (congrArg (fun z => z.2.2) e)⟩
  · rintro ⟨q1, q2⟩
    rw [h, q1, hB.mpr q2]
theorem tp_two {α : sAl} (hA : AI α) {x y b b' : Nat} (hb : b < aT α) (hb' : b' < aT α) (e : (aTr α x).2.2.1 = nI b) (e' : (aTr α y).2.2.1 = nI b') : ((if (aTr α x).2.2.1 = -1 then -1 else nI (aM α (aTr α x).2.2.1.toNatClampNeg)) = (if (aTr α y).2.2.1 = -1 then -1 else nI (aM α (aTr α y).2.2.1.toNatClampNeg))) ↔ aM α b = aM α b' := by
  have hT := hA.1
  rw [e, e', if_neg (nI_m1' (by omega)), if_neg (nI_m1' (by omega)), nI_clamp (by omega), nI_clamp (by omega)]
  exact nI_eq (aM_lt hA hb) (aM_lt hA hb')
theorem tp_one {α : sAl} {x y : Nat} (e : (aTr α x).2.2.1 = -1) (e' : (aTr α y).2.2.1 = -1) : ((if (aTr α x).2.2.1 = -1 then -1 else nI (aM α (aTr α x).2.2.1.toNatClampNeg)) = (if (aTr α y).2.2.1 = -1 then -1 else nI (aM α (aTr α y).2.2.1.toNatClampNeg))) ↔ True := by
  rw [e, e', if_pos rfl]
  exact ⟨fun _ => trivial, fun _ => rfl⟩
def mk (mu : Nat → Int32) (x y : Nat) : Prop := mu (120 * x + y) ≠ 0
theorem mk_upd {mu : Nat → Int32} {a b : Nat} (hb : b < 120) {x y : Nat} (hy : y < 120) : mk (upd mu (120 * a + b) 1) x y ↔ mk mu x y ∨ (x = a ∧ y = b) := by
  unfold mk
  by_cases q : 120 * x + y = 120 * a + b
  · rw [q, upd_at]
    exact ⟨fun _ => Or.inr (by omega), fun _ => by decide⟩
  · rw [upd_no _ _ q]
    exact ⟨Or.inl, fun z => z.elim id (fun z => absurd (by rw [z.1, z.2]) q)⟩
def alI (α : sAl) (ja jb : Nat) (mu : Nat → Int32) (X Y : Nat) : Prop := (∀ x y, x < 120 → y < 120 → mk mu x y → x ≤ ja ∧ y ≤ jb ∧ (aM α ja = aM α jb → aM α x = aM α y)) ∧ ((∀ x y, x < 120 → y < 120 → mk mu x y → (x + 1 < X ∨ (x + 1 = X ∧ y < Y)) → aM α x = aM α y) → aM α ja = aM α jb)
theorem alI.skip {α : sAl} {ja jb i j : Nat} {mu : Nat → Int32} (h : alI α ja jb mu (i + 1) (j + 1)) (hs : mk mu i j → aM α i = aM α j) : alI α ja jb mu (i + 1) j := by
  refine ⟨h.1, fun q => h.2 fun x y hx hy hm hu => ?_⟩
  by_cases e : x = i ∧ y = j
  · rw [e.1, e.2] at hm ⊢
    exact hs hm
  · exact q x y hx hy hm (by omega)
theorem alI.mark {α : sAl} {ja jb i j : Nat} {mu mu' : Nat → Int32} (h : alI α ja jb mu (i + 1) (j + 1)) (hi : i < 120) (hj : j < 120) (hm : mk mu i j) (C : Nat → Nat → Prop) (hC : ∀ x y, C x y → x < i ∧ y < j) (hu : ∀ x y, x < 120 → y < 120 → (mk mu' x y ↔ mk mu x y ∨ C x y)) (hs : aM α i = aM α j ↔ ∀ x y, C x y → aM α x = aM α y) : alI α ja jb mu' (i + 1) j := by
  obtain ⟨b1, b2, b3⟩ := h.1 i j hi hj hm
  refine ⟨fun x y hx hy q => ?_, fun q => h.2 fun x y hx hy q2 hu2 => ?_⟩
  · rcases (hu x y hx hy).mp q with z | z
    · exact h.1 x y hx hy z
    · have := hC x y z
      exact ⟨by omega, by omega, fun e => hs.mp (b3 e) x y z⟩
  · by_cases e : x = i ∧ y = j
    · rw [e.1, e.2]
      refine hs.mpr fun x' y' c => ?_
      have := hC x' y' c
      exact q x' y' (by omega) (by omega) ((hu x' y' (by omega) (by omega)).mpr (Or.inr c)) (by omega)
    · exact q x y hx hy ((hu x y hx hy).mpr (Or.inl q2)) (by omega)
theorem alI.row {α : sAl} {ja jb i : Nat} {mu : Nat → Int32} (h : alI α ja jb mu (i + 1) 0) : alI α ja jb mu i (jb + 1) := ⟨h.1, fun q => h.2 fun x y hx hy hm hu => q x y hx hy hm (by have := (h.1 x y hx hy hm).2.1; omega)⟩
theorem alI.fin {α : sAl} {ja jb Y : Nat} {mu : Nat → Int32} (h : alI α ja jb mu 0 Y) : aM α ja = aM α jb := h.2 fun x y _ _ _ hu => absurd hu (by omega)
theorem alI.start {α : sAl} {ja jb : Nat} {mu : Nat → Int32} (hz : ∀ k, k < 14400 → mu k = 0) (hja : ja < 120) (hjb : jb < 120) : alI α ja jb (upd mu (120 * ja + jb) 1) (ja + 1) (jb + 1) := by
  have hm : ∀ x y, x < 120 → y < 120 → mk (upd mu (120 * ja + jb) 1) x y → x = ja ∧ y = jb := fun x y hx hy q => ((mk_upd hjb hy).mp q).elim (fun z => absurd (hz _ (by omega)) z) id
  refine ⟨fun x y hx hy q => ?_, fun q => q ja jb hja hjb ((mk_upd hjb hjb).mpr (Or.inr ⟨rfl, rfl⟩)) (by omega)⟩
  obtain ⟨e1, e2⟩ := hm x y hx hy q
  subst e1
  subst e2
  exact ⟨Nat.le_refl _, Nat.le_refl _, id⟩
theorem wfT.nd {n : Nat} {t : Int32 × Int32 × Int32 × Nat × Nat} (h : wfT n t) (h0 : ¬ t.1 < 0) : ∃ h a, h < 6 ∧ t.1 = nI h ∧ a < n ∧ t.2.1 = nI a ∧ ((h < 3 ∧ ∃ b, b < n ∧ t.2.2.1 = nI b) ∨ (3 ≤ h ∧ t.2.2.1 = -1)) := by
  rcases h.1 with ⟨h1, _⟩ | ⟨h1, _⟩ | h
  · exact absurd (by rw [h1]; decide) h0
  · exact absurd (by rw [h1]; decide) h0
  · exact h
theorem alR.c1 {α : sAl} {a b v : Int32} {k : Nat} (h : alR α a b k v) (hn : ¬ isT α a ∨ ¬ isT α b) : k = 1 := by
  rcases h with ⟨h1, _⟩ | ⟨h1, ja, jb, h3, h4, h5, h6, _⟩
  · exact h1
  · exact hn.elim (fun q => absurd ⟨ja, h3, h5⟩ q) (fun q => absurd ⟨jb, h4, h6⟩ q)
theorem alR.c0 {α : sAl} (hA : AI α) {v : Int32} {k ja jb : Nat} (h : alR α (nI ja) (nI jb) k v) (hja : ja < aT α) (hjb : jb < aT α) : k = 0 ∧ v = jB (decide (aM α ja = aM α jb)) := by
  have hT := hA.1
  rcases h with ⟨h1, h3⟩ | ⟨h1, i, j, h3, h4, h5, h6, h7⟩
  · exact h3.elim (fun q => absurd ⟨ja, hja, rfl⟩ q) (fun q => absurd ⟨jb, hjb, rfl⟩ q)
  · have e : ja = i := (nI_eq (a := ja) (b := i) (by omega) (by omega)).mp h5
    have e2 : jb = j := (nI_eq (a := jb) (b := j) (by omega) (by omega)).mp h6
    subst e
    subst e2
    exact ⟨h1, h7⟩
end SAM
