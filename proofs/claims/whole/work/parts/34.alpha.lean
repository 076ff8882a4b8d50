/-! THE ABSTRACT STATE: what class and reference both stand for. -/
section SAL
/-- trees, rows; a tree's head (-1 letter, -2 number, 0 .. 5), one, two, depth, model; too great; the polynomials; the rows -/
abbrev sAl : Type := Nat × Nat × (Nat → Int32 × Int32 × Int32 × Nat × Nat) × (Nat → Prop) × (Nat → Nat → Int) × (Nat → Nat → Int32)
abbrev aT (α : sAl) : Nat := α.1
abbrev aR (α : sAl) : Nat := α.2.1
abbrev aTr (α : sAl) : Nat → Int32 × Int32 × Int32 × Nat × Nat := α.2.2.1
abbrev aGr (α : sAl) : Nat → Prop := α.2.2.2.1
abbrev aPf (α : sAl) : Nat → Nat → Int := α.2.2.2.2.1
abbrev aRw (α : sAl) : Nat → Nat → Int32 := α.2.2.2.2.2
abbrev aM (α : sAl) (i : Nat) : Nat := (aTr α i).2.2.2.2
/-- a tree as the class keeps it: head, first, second -/
def aCl (α : sAl) (t : Int32 × Int32 × Int32 × Nat × Nat) : Int32 × Int32 × Int32 :=
  (if t.1 = -1 then 6 else if t.1 = -2 then 7 else t.1, if t.1 < 0 then t.2.1 else nI (aM α t.2.1.toNatClampNeg), if t.2.2.1 = -1 then -1 else nI (aM α t.2.2.1.toNatClampNeg))
def tp (α : sAl) (i : Nat) : Int32 × Int32 × Int32 := aCl α (aTr α i)
/-- how a tree with number n is made -/
def wfT (n : Nat) (t : Int32 × Int32 × Int32 × Nat × Nat) : Prop :=
  ((t.1 = -1 ∧ (∃ l, l ≤ 2 ∧ t.2.1 = nI l) ∧ t.2.2.1 = -1) ∨ (t.1 = -2 ∧ (-1000000 ≤ t.2.1.toInt ∧ t.2.1.toInt ≤ 1000000) ∧ t.2.2.1 = -1) ∨ (∃ h a, h < 6 ∧ t.1 = nI h ∧ a < n ∧ t.2.1 = nI a ∧ ((h < 3 ∧ ∃ b, b < n ∧ t.2.2.1 = nI b) ∨ (3 ≤ h ∧ t.2.2.1 = -1)))) ∧ t.2.2.2.1 ≤ 20
def wfM (α : sAl) (n : Nat) (p : Int32 × Int32 × Int32) (m : Nat) : Prop := m ≤ n ∧ (m < n → tp α m = p) ∧ ∀ j, j < m → tp α j ≠ p
def wfP (g : Prop) (P : Nat → Int) : Prop := fitsP P ∧ (∀ y, P y ≠ 0 → good y) ∧ (g → P = fun _ => 0)
def wfR (α : sAl) (w : Nat → Int32) : Prop := ∃ kd, kd < 7 ∧ w 0 = nI kd ∧ (∃ ja, ja < aT α ∧ w 1 = nI ja) ∧ (1 < tfN kd → ∃ jb, jb < aT α ∧ w 2 = nI jb) ∧ (2 < tfN kd → ∃ jc, jc < aT α ∧ w 3 = nI jc) ∧ (kd = 1 ∨ kd = 3 → ∃ lt, lt ≤ 2 ∧ w 3 = nI lt) ∧ (kd = 3 → -10 ≤ (w 2).toInt ∧ (w 2).toInt ≤ 10) ∧ (w 4 = -1 ∨ (kd = 6 ∧ ∃ jf, jf < aT α ∧ w 4 = nI jf)) ∧ ∀ l, l < 3 → -10 ≤ (w (5 + l)).toInt ∧ (w (5 + l)).toInt ≤ 10
def AI (α : sAl) : Prop := aT α ≤ 120 ∧ aR α ≤ 60 ∧ (∀ i, i < aT α → wfT i (aTr α i) ∧ wfM α i (tp α i) (aM α i) ∧ wfP (aGr α i) (aPf α i)) ∧ ∀ r, r < aR α → wfR α (aRw α r)
/-- the class's cells stand for it -/
def CI (α : sAl) (κ : sCk) : Prop := kTc κ = aT α ∧ kRc κ = aR α ∧ kTc κ ≤ kMd κ ∧ kMd κ ≤ 120 ∧ (∀ i, i < aT α → trp (kTr κ i) = tp α i ∧ (kTr κ i).2.2.2 = (aTr α i).2.2.2) ∧ (∀ i, i < aT α → (aGr α i ∧ PG (kPo κ i)) ∨ (¬ aGr α i ∧ PR (kPo κ i) (aPf α i))) ∧ (∀ r, r < aR α → ∀ w, w < 8 → kRw κ r w = aRw α r w) ∧ PR (kZ κ) (fun _ => 0) ∧ ∃ f, ShR (kSh κ) f
def cI (G : sG) (ad : sAd) (M : sM) (α : sAl) : Prop := ∃ κ, hCk G ad M κ ∧ CI α κ
def addT (α : sAl) (t : Int32 × Int32 × Int32 × Nat × Nat) (g : Prop) (P : Nat → Int) : sAl := (aT α + 1, aR α, updF (aTr α) (aT α) t, updF (aGr α) (aT α) g, updF (aPf α) (aT α) P, aRw α)
theorem wfT.in {n : Nat} {t : Int32 × Int32 × Int32 × Nat × Nat} (h : wfT n t) (hn : n ≤ 120) : (¬ t.1 < 0 → t.2.1.toNatClampNeg < n) ∧ (t.2.2.1 ≠ -1 → t.2.2.1.toNatClampNeg < n) := by
  rcases h.1 with ⟨h1, -, h3⟩ | ⟨h1, -, h3⟩ | ⟨h, a, hh, h1, ha, h2, h3⟩
  · exact ⟨fun q => absurd (by rw [h1]; decide) q, fun q => absurd h3 q⟩
  · exact ⟨fun q => absurd (by rw [h1]; decide) q, fun q => absurd h3 q⟩
  · refine ⟨fun _ => by rw [h2, nI_clamp (by omega)]; exact ha, fun q => ?_⟩
    rcases h3 with ⟨-, b, hb, e⟩ | ⟨-, e⟩
    · rw [e, nI_clamp (by omega)]; exact hb
    · exact absurd e q
theorem aCl_add {α : sAl} {t x : Int32 × Int32 × Int32 × Nat × Nat} {g : Prop} {P : Nat → Int} {n : Nat} (h : wfT n x) (hn : n ≤ aT α) (hT : aT α ≤ 120) : aCl (addT α t g P) x = aCl α x := by
  obtain ⟨h1, h2⟩ := h.in (by omega)
  unfold aCl
  have e1 : (if x.1 < 0 then x.2.1 else nI (aM (addT α t g P) x.2.1.toNatClampNeg)) = if x.1 < 0 then x.2.1 else nI (aM α x.2.1.toNatClampNeg) := by
    by_cases q : x.1 < 0
    · rw [if_pos q, if_pos q]
    · rw [if_neg q, if_neg q]
      have := h1 q
      show nI (updF (aTr α) (aT α) t x.2.1.toNatClampNeg).2.2.2.2 = _
      rw [updF_ne _ _ (by omega)]
  have e2 : (if x.2.2.1 = -1 then -1 else nI (aM (addT α t g P) x.2.2.1.toNatClampNeg)) = if x.2.2.1 = -1 then -1 else nI (aM α x.2.2.1.toNatClampNeg) := by
    by_cases q : x.2.2.1 = -1
    · rw [if_pos q, if_pos q]
    · rw [if_neg q, if_neg q]
      have := h2 q
      show nI (updF (aTr α) (aT α) t x.2.2.1.toNatClampNeg).2.2.2.2 = _
      rw [updF_ne _ _ (by omega)]
  rw [e1, e2]
theorem tp_add {α : sAl} {t : Int32 × Int32 × Int32 × Nat × Nat} {g : Prop} {P : Nat → Int} (h : AI α) {i : Nat} (hi : i < aT α) : tp (addT α t g P) i = tp α i := by
  unfold tp
  rw [show aTr (addT α t g P) i = aTr α i from updF_ne _ _ (by omega)]
  exact aCl_add (h.2.2.1 i hi).1 (by omega) h.1
theorem tp_new {α : sAl} {t : Int32 × Int32 × Int32 × Nat × Nat} {g : Prop} {P : Nat → Int} (h : AI α) (ht : wfT (aT α) t) : tp (addT α t g P) (aT α) = aCl α t := by
  unfold tp
  rw [show aTr (addT α t g P) (aT α) = t from updF_self _ _ _]
  exact aCl_add ht (by omega) h.1
theorem AI.add {α : sAl} {t : Int32 × Int32 × Int32 × Nat × Nat} {g : Prop} {P : Nat → Int} (h : AI α) (hT : aT α < 120) (ht : wfT (aT α) t) (hm : wfM α (aT α) (aCl α t) t.2.2.2.2) (hp : wfP g P) : AI (addT α t g P) := by
  refine ⟨by show aT α + 1 ≤ 120; omega, h.2.1, fun i hi => ?_, fun r hr => ?_⟩
  · have hi' : i < aT α + 1 := hi
    by_cases q : i = aT α
    · subst q
      refine ⟨by rw [show aTr (addT α t g P) (aT α) = t from updF_self _ _ _]; exact ht, ?_, by rw [show aPf (addT α t g P) (aT α) = P from updF_self _ _ _, show aGr (addT α t g P) (aT α) = g from updF_self _ _ _]; exact hp⟩
      rw [tp_new h ht, show aM (addT α t g P) (aT α) = t.2.2.2.2 by show (updF (aTr α) (aT α) t (aT α)).2.2.2.2 = _; rw [updF_self]]
      exact ⟨hm.1, fun q => by rw [tp_add h q]; exact hm.2.1 q, fun j hj => by rw [tp_add h (by have := hm.1; omega)]; exact hm.2.2 j hj⟩
    · obtain ⟨h1, h2, h3⟩ := h.2.2.1 i (by omega)
      refine ⟨by rw [show aTr (addT α t g P) i = aTr α i from updF_ne _ _ q]; exact h1, ?_, by rw [show aPf (addT α t g P) i = aPf α i from updF_ne _ _ q, show aGr (addT α t g P) i = aGr α i from updF_ne _ _ q]; exact h3⟩
      rw [tp_add h (by omega), show aM (addT α t g P) i = aM α i by show (updF (aTr α) (aT α) t i).2.2.2.2 = _; rw [updF_ne _ _ q]]
      exact ⟨h2.1, fun q => by rw [tp_add h (by omega)]; exact h2.2.1 q, fun j hj => by rw [tp_add h (by have := h2.1; omega)]; exact h2.2.2 j hj⟩
  · obtain ⟨kd, h1, h2, ⟨ja, h3, h3'⟩, h4, h5, h6, h7, h8, h9⟩ := h.2.2.2 r hr
    refine ⟨kd, h1, h2, ⟨ja, by show ja < aT α + 1; omega, h3'⟩, fun q => ?_, fun q => ?_, h6, h7, ?_, h9⟩
    · obtain ⟨b, hb, e⟩ := h4 q
      exact ⟨b, by show b < aT α + 1; omega, e⟩
    · obtain ⟨b, hb, e⟩ := h5 q
      exact ⟨b, by show b < aT α + 1; omega, e⟩
    · rcases h8 with q | ⟨q, b, hb, e⟩
      · exact Or.inl q
      · exact Or.inr ⟨q, b, by show b < aT α + 1; omega, e⟩
theorem CI.wm {α : sAl} {κ κ1 : sCk} (h : CI α κ) (hN : kNx κ κ1) {p : Int32 × Int32 × Int32} {m : Nat} (hm : mdOf κ1 p m) : wfM α (aT α) p m := by
  have e : kTc κ1 = aT α := hN.1.trans h.1
  unfold mdOf at hm
  rw [e] at hm
  have hk : kTc κ = aT α := h.1
  exact ⟨hm.1, fun q => by rw [← (h.2.2.2.2.1 m q).1, ← (hN.2.2.2.2.1 m (by omega)).1]; exact hm.2.1 q, fun j hj => by rw [← (h.2.2.2.2.1 j (by have := hm.1; omega)).1, ← (hN.2.2.2.2.1 j (by have := hm.1; omega)).1]; exact hm.2.2 j hj⟩
theorem CI.add {α : sAl} {κ κ1 : sCk} {σ : sShe} {π : sPol} {t : Int32 × Int32 × Int32 × Nat × Nat} {g : Prop} {P : Nat → Int} {c : Int32 × Int32 × Int32 × Nat × Nat} (h : CI α κ) (hA : AI α) (hN : kNx κ κ1) (hσ : ∃ f, ShR σ f) (hp : (g ∧ PG π) ∨ (¬ g ∧ PR π P)) (ht : wfT (aT α) t) (hc : trp c = aCl α t) (hc2 : c.2.2.2 = t.2.2.2) : CI (addT α t g P) (kSetTc (kSetTr (kSetPo (kSetSh κ1 σ) (kTc κ) π) (kTc κ) c) (kTc κ + 1)) := by
  obtain ⟨n1, n2, n3, n4, n5, n6, n7, n8⟩ := hN
  have e : kTc κ = aT α := h.1
  refine ⟨by show kTc κ + 1 = aT α + 1; omega, n2.trans h.2.1, by show kTc κ + 1 ≤ kMd κ1; omega, n4, fun i hi => ?_, fun i hi => ?_, fun r hr w hw => ?_, by show PR (kZ κ1) _; rw [n7]; exact h.2.2.2.2.2.2.2.1, hσ⟩
  · have hi' : i < aT α + 1 := hi
    show trp (updF (kTr κ1) (kTc κ) c i) = tp (addT α t g P) i ∧ (updF (kTr κ1) (kTc κ) c i).2.2.2 = (updF (aTr α) (aT α) t i).2.2.2
    by_cases q : i = aT α
    · subst q
      rw [tp_new hA ht, e, updF_self, updF_self]
      exact ⟨hc, hc2⟩
    · rw [tp_add hA (by omega), updF_ne _ _ q, updF_ne _ _ (by omega), (n5 i (by omega)).1]
      exact h.2.2.2.2.1 i (by omega)
  · have hi' : i < aT α + 1 := hi
    show (updF (aGr α) (aT α) g i ∧ PG (updF (kPo κ1) (kTc κ) π i)) ∨ (¬ updF (aGr α) (aT α) g i ∧ PR (updF (kPo κ1) (kTc κ) π i) (updF (aPf α) (aT α) P i))
    by_cases q : i = aT α
    · subst q
      rw [e, updF_self, updF_self, updF_self]
      exact hp
    · rw [updF_ne _ _ q, updF_ne _ _ q, updF_ne _ _ (by omega), (n5 i (by omega)).2]
      exact h.2.2.2.2.2.1 i (by omega)
  · show kRw κ1 r w = aRw α r w
    rw [n6]
    exact h.2.2.2.2.2.2.1 r hr w hw
/-- a polynomial of one term -/
def one1 (j : Nat) (v : Int) : Nat → Int := fAdd (fun _ => 0) j v
theorem PR.single (π : sPol) {j : Nat} (hj : good j) {v : Int64} (hv : -1000000 ≤ v.toInt ∧ v.toInt ≤ 1000000) : PR (jAppend (jZero π) (nI j) v) (one1 j v.toInt) := by
  by_cases h0 : v.toInt = 0
  · have hz : v = 0 := Int64.toInt_inj.mp h0
    rw [show jAppend (jZero π) (nI j) v = jZero π from if_pos (Or.inr hz)]
    refine ⟨_, (show one1 j v.toInt = fun _ => 0 from ?_) ▸ PE.zero π⟩
    funext y
    show (if y = j then 0 + v.toInt else 0) = 0
    split <;> omega
  · exact ⟨_, (PE.zero π).app hj rfl h0 hv (by show 0 < 40; omega)⟩
theorem PR.wf {π : sPol} {P : Nat → Int} {g : Prop} (h : PR π P) (hg : ¬ g) : wfP g P := ⟨h.ft, fun y hy => h.choose_spec.gd hy, fun q => absurd q hg⟩
theorem wfP_0 (g : Prop) : wfP g (fun _ => 0) := ⟨⟨fun _ => by show (-1000000 : Int) ≤ 0 ∧ (0 : Int) ≤ 1000000; omega, by
  have : cnt (fun _ => 0) = 0 := sN_zero (fun y _ => if_pos rfl)
  rw [this]; omega⟩, fun y hy => absurd rfl hy, fun _ => rfl⟩
end SAL
