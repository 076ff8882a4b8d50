/-! ROWS of the abstract state; how the class's cells follow. -/
section SRW
def isR (α : sAl) (x : Int32) : Prop := ∃ j, j < aR α ∧ x = nI j
def addR (α : sAl) (w : Nat → Int32) : sAl := (aT α, aR α + 1, aTr α, aGr α, aPf α, updF (aRw α) (aR α) w)
def setR (α : sAl) (r : Nat) (w : Nat → Int32) : sAl := (aT α, aR α, aTr α, aGr α, aPf α, updF (aRw α) r w)
def clrA (α : sAl) : sAl := (0, 0, aTr α, aGr α, aPf α, aRw α)
def ldRow (k a b c : Int32) : Nat → Int32 := fun w => match w with
  | 0 => k
  | 1 => a
  | 2 => b
  | 3 => c
  | 4 => -1
  | _ => 0
def tfI (k : Int32) : Nat := if 0 ≤ k ∧ k < 7 then tfN k.toNatClampNeg else 1
theorem tfI_in {j : Nat} (h : j < 7) : tfI (nI j) = tfN j := by
  unfold tfI
  rw [if_pos ⟨Int32.not_lt.mp (nI_pos (by omega)), nI_lt_mpr (b := 7) h (by omega)⟩, nI_clamp (by omega)]
theorem tfI_out {k : Int32} (h : ∀ j, j < 7 → k ≠ nI j) : tfI k = 1 := by
  unfold tfI
  rw [if_neg]
  rintro ⟨h1, h2⟩
  rcases pk_ix k (n := 7) (by decide) with q | q | ⟨j, hj, e⟩
  · exact absurd h1 (Int32.not_le.mpr q)
  · exact absurd h2 (Int32.not_lt.mpr q)
  · exact h j hj e
theorem tfI_le (k : Int32) : tfI k ≤ 3 := by
  unfold tfI
  split
  · exact tfN_le _
  · omega
def lC1 (α : sAl) (k a b c : Int32) : Prop := ¬ isT α a ∨ (1 < tfI k ∧ ¬ isT α b) ∨ (2 < tfI k ∧ ¬ isT α c)
theorem fitsK_in {k b c : Int32} (h : fitsK k b c) : ∃ kd, kd < 7 ∧ k = nI kd := by
  refine Classical.byContradiction fun q => ?_
  rw [fitsK_no (fun j hj e => q ⟨j, hj, e⟩)] at h
  exact h
theorem i10 {x : Int32} (h : -10 ≤ x ∧ x ≤ 10) : -10 ≤ x.toInt ∧ x.toInt ≤ 10 := ⟨Int32.le_iff_toInt_le.mp h.1, Int32.le_iff_toInt_le.mp h.2⟩
theorem wfR_ld {α : sAl} {k a b c : Int32} (h1 : ¬ lC1 α k a b c) (h2 : fitsK k b c) : wfR α (ldRow k a b c) := by
  obtain ⟨kd, hkd, rfl⟩ := fitsK_in h2
  have e := tfI_in hkd
  unfold lC1 at h1
  rw [e] at h1
  have ha : isT α a := Classical.byContradiction fun q => h1 (Or.inl q)
  refine ⟨kd, hkd, rfl, ha, fun q => Classical.byContradiction fun z => h1 (Or.inr (Or.inl ⟨q, z⟩)), fun q => Classical.byContradiction fun z => h1 (Or.inr (Or.inr ⟨q, z⟩)), ?_, ?_, Or.inl rfl, ?_⟩
  · rintro (rfl | rfl)
    · have := (fitsK_1 b c) ▸ h2
      exact let3.mp this
    · have := (fitsK_3 b c) ▸ h2
      exact let3.mp this.2
  · rintro rfl
    have := (fitsK_3 b c) ▸ h2
    exact i10 this.1
  · intro l hl
    rcases (show l = 0 ∨ l = 1 ∨ l = 2 by omega) with rfl | rfl | rfl <;> exact (show (-10 : Int) ≤ (0 : Int32).toInt ∧ (0 : Int32).toInt ≤ 10 by decide)
theorem wfR.keep {α α' : sAl} {w : Nat → Int32} (h : wfR α w) (e : aT α' = aT α) : wfR α' w := by
  unfold wfR at *
  rw [e]
  exact h
theorem AI.addR {α : sAl} {w : Nat → Int32} (h : AI α) (hR : aR α < 60) (hw : wfR α w) : AI (addR α w) := by
  refine ⟨h.1, by show aR α + 1 ≤ 60; omega, h.2.2.1, fun r hr => ?_⟩
  have hr' : r < aR α + 1 := hr
  show wfR _ (updF (aRw α) (aR α) w r)
  by_cases q : r = aR α
  · rw [q, updF_self]; exact hw.keep rfl
  · rw [updF_ne _ _ q]; exact (h.2.2.2 r (by omega)).keep rfl
theorem AI.setR {α : sAl} {r : Nat} {w : Nat → Int32} (h : AI α) (hw : wfR α w) : AI (setR α r w) := by
  refine ⟨h.1, h.2.1, h.2.2.1, fun i hi => ?_⟩
  show wfR _ (updF (aRw α) r w i)
  by_cases q : i = r
  · rw [q, updF_self]; exact hw.keep rfl
  · rw [updF_ne _ _ q]; exact (h.2.2.2 i hi).keep rfl
theorem AI.clr {α : sAl} (_ : AI α) : AI (clrA α) := ⟨Nat.zero_le _, Nat.zero_le _, fun i hi => absurd hi (Nat.not_lt_zero i), fun i hi => absurd hi (Nat.not_lt_zero i)⟩
theorem wfR.cof {α : sAl} {w : Nat → Int32} (h : wfR α w) (h6 : w 0 = 6) {x : Int32} (hx : isT α x) : wfR α (updF w 4 x) := by
  obtain ⟨kd, h1, h2, h3, h4, h5, h6', h7, h8, h9⟩ := h
  have e6 : kd = 6 := (nI_eq (a := kd) (b := 6) (by omega) (by omega)).mp (h2.symm.trans h6)
  refine ⟨kd, h1, by rw [updF_ne _ _ (by omega)]; exact h2, by rw [updF_ne _ _ (by omega)]; exact h3, by rw [updF_ne _ _ (by omega)]; exact h4, by rw [updF_ne _ _ (by omega)]; exact h5, by rw [updF_ne _ _ (by omega)]; exact h6', by rw [updF_ne _ _ (by omega)]; exact h7, Or.inr ⟨e6, by rw [updF_self]; exact hx⟩, fun l hl => by rw [updF_ne _ _ (by omega)]; exact h9 l hl⟩
theorem wfR.smp {α : sAl} {w : Nat → Int32} (h : wfR α w) {l : Nat} (hl : l ≤ 2) {x : Int32} (hx : -10 ≤ x ∧ x ≤ 10) : wfR α (updF w (5 + l) x) := by
  obtain ⟨kd, h1, h2, h3, h4, h5, h6', h7, h8, h9⟩ := h
  refine ⟨kd, h1, by rw [updF_ne _ _ (by omega)]; exact h2, by rw [updF_ne _ _ (by omega)]; exact h3, by rw [updF_ne _ _ (by omega)]; exact h4, by rw [updF_ne _ _ (by omega)]; exact h5, by rw [updF_ne _ _ (by omega)]; exact h6', by rw [updF_ne _ _ (by omega)]; exact h7, by rw [updF_ne _ _ (by omega)]; exact h8, fun l' hl' => ?_⟩
  by_cases q : l' = l
  · rw [q, updF_self]; exact i10 hx
  · rw [updF_ne _ _ (by omega)]; exact h9 l' hl'
def kSetRw (κ : sCk) (r : Nat) (w : Nat → Int32) : sCk := (κ.1, κ.2.1, κ.2.2.1, κ.2.2.2.1, κ.2.2.2.2.1, updF κ.2.2.2.2.2.1 r w, κ.2.2.2.2.2.2)
def kSetRc (κ : sCk) (n : Nat) : sCk := (κ.1, n, κ.2.2)
theorem hCk.row {G : sG} {ad : sAd} {M : sM} {κ : sCk} (h : hCk G ad M κ) {r : Nat} (w : Nat → Int32) : hCk G ad (sset M 6 r (.inl (gI G, 8, .inl w))) (kSetRw κ r w) := by
  have o9 : ∀ k i, k ≠ 6 → sset M 6 r (.inl (gI G, 8, .inl w)) k i = M k i := fun k i hk => sset_k M _ hk
  have hs : sSame (fun k _ => k = 6) M (sset M 6 r (.inl (gI G, 8, .inl w))) := fun k i hk => o9 k i hk
  refine ⟨(o9 0 0 (by decide)).trans h.1, (o9 7 0 (by decide)).trans h.2.1, (o9 8 0 (by decide)).trans h.2.2.1, fun i hi => ?_, fun i hi => (o9 2 i (by decide)).trans (h.2.2.2.2.1 i hi), fun i hi => (h.2.2.2.2.2.1 i hi).same hs (by decide) (by decide) (by decide), h.2.2.2.2.2.2.1.same hs (by decide) (by decide) (by decide), h.2.2.2.2.2.2.2.1.same hs (by decide) (by decide) (by decide) (by decide), fun i hi hj => ?_⟩
  · show sset M 6 r (.inl (gI G, 8, .inl w)) 6 i = some (.inl (gI G, 8, .inl (updF (kRw κ) r w i)))
    by_cases q : i = r
    · rw [q, sset_self, updF_self]
    · rw [sset_i M _ q, updF_ne _ _ q]; exact h.2.2.2.1 i hi
  · obtain ⟨a, b, c, d⟩ := h.2.2.2.2.2.2.2.2 i hi hj
    exact ⟨(o9 2 i (by decide)).trans a, (o9 3 i (by decide)).trans b, (o9 4 i (by decide)).trans c, (o9 5 i (by decide)).trans d⟩
theorem hCk.obj {G : sG} {ad : sAd} {M : sM} {κ : sCk} (h : hCk G ad M κ) (n m : Nat) : hCk G ad (sset M 0 0 (cCk ad (kSetRc (kSetTc κ n) m))) (kSetRc (kSetTc κ n) m) := by
  have o9 : ∀ k i, k ≠ 0 → sset M 0 0 (cCk ad (kSetRc (kSetTc κ n) m)) k i = M k i := fun k i hk => sset_k M _ hk
  have hs : sSame (fun k _ => k = 0) M (sset M 0 0 (cCk ad (kSetRc (kSetTc κ n) m))) := fun k i hk => o9 k i hk
  refine ⟨sset_self _ _ _ _, (o9 7 0 (by decide)).trans h.2.1, (o9 8 0 (by decide)).trans h.2.2.1, fun i hi => (o9 6 i (by decide)).trans (h.2.2.2.1 i hi), fun i hi => (o9 2 i (by decide)).trans (h.2.2.2.2.1 i hi), fun i hi => (h.2.2.2.2.2.1 i hi).same hs (by decide) (by decide) (by decide), h.2.2.2.2.2.2.1.same hs (by decide) (by decide) (by decide), h.2.2.2.2.2.2.2.1.same hs (by decide) (by decide) (by decide) (by decide), fun i hi hj => ?_⟩
  obtain ⟨a, b, c, d⟩ := h.2.2.2.2.2.2.2.2 i hi hj
  exact ⟨(o9 2 i (by decide)).trans a, (o9 3 i (by decide)).trans b, (o9 4 i (by decide)).trans c, (o9 5 i (by decide)).trans d⟩
theorem CI.addR {α : sAl} {κ : sCk} {w v : Nat → Int32} (h : CI α κ) (hv : ∀ i, i < 8 → v i = w i) : CI (addR α w) (kSetRc (kSetRw κ (kRc κ) v) (kRc κ + 1)) := by
  have e : kRc κ = aR α := h.2.1
  refine ⟨h.1, by show kRc κ + 1 = aR α + 1; omega, h.2.2.1, h.2.2.2.1, h.2.2.2.2.1, h.2.2.2.2.2.1, fun r hr i hi => ?_, h.2.2.2.2.2.2.2.1, h.2.2.2.2.2.2.2.2⟩
  have hr' : r < aR α + 1 := hr
  show updF (kRw κ) (kRc κ) v r i = updF (aRw α) (aR α) w r i
  by_cases q : r = aR α
  · rw [q, e, updF_self, updF_self]; exact hv i hi
  · rw [updF_ne _ _ q, updF_ne _ _ (by omega)]; exact h.2.2.2.2.2.2.1 r (by omega) i hi
theorem CI.setR {α : sAl} {κ : sCk} {w v : Nat → Int32} {r : Nat} (h : CI α κ) (hv : ∀ i, i < 8 → v i = w i) : CI (setR α r w) (kSetRw κ r v) := by
  refine ⟨h.1, h.2.1, h.2.2.1, h.2.2.2.1, h.2.2.2.2.1, h.2.2.2.2.2.1, fun i hi j hj => ?_, h.2.2.2.2.2.2.2.1, h.2.2.2.2.2.2.2.2⟩
  show updF (kRw κ) r v i j = updF (aRw α) r w i j
  by_cases q : i = r
  · rw [q, updF_self, updF_self]; exact hv j hj
  · rw [updF_ne _ _ q, updF_ne _ _ q]; exact h.2.2.2.2.2.2.1 i hi j hj
theorem CI.clr {α : sAl} {κ : sCk} (h : CI α κ) : CI (clrA α) (kSetRc (kSetTc κ 0) 0) := ⟨rfl, rfl, Nat.zero_le _, h.2.2.2.1, fun i hi => absurd hi (Nat.not_lt_zero i), fun i hi => absurd hi (Nat.not_lt_zero i), fun i hi => absurd hi (Nat.not_lt_zero i), h.2.2.2.2.2.2.2.1, h.2.2.2.2.2.2.2.2⟩
theorem CI.sheet {α : sAl} {κ : sCk} {σ : sShe} {f : Nat → Int} (h : CI α κ) (hR : ShR σ f) : CI α (kSetSh κ σ) := ⟨h.1, h.2.1, h.2.2.1, h.2.2.2.1, h.2.2.2.2.1, h.2.2.2.2.2.1, h.2.2.2.2.2.2.1, h.2.2.2.2.2.2.2.1, f, hR⟩
theorem upd_eq {f g : Nat → Int32} {j : Nat} {x : Int32} (h : ∀ i, i < 8 → f i = g i) (i : Nat) (hi : i < 8) : upd f j x i = updF g j x i := by
  unfold upd updF
  split
  · rfl
  · exact h i hi
/-- what holds of a row -/
def aG (α : sAl) (x : Int32) : Prop := ∃ j, j < aT α ∧ x = nI j ∧ aGr α j
def aHolds (α : sAl) (w : Nat → Int32) : Prop := (¬ ∃ a, a < tfI (w 0) ∧ aG α (w (1 + a))) ∧ ¬ aG α (w 4) ∧ HSk (w 0).toNatClampNeg (aPf α (w 1).toNatClampNeg) (aPf α (w 2).toNatClampNeg) (aPf α (w 3).toNatClampNeg) (aPf α (w 4).toNatClampNeg) (w 4 ≠ -1) (w 3).toNatClampNeg (w 2).toInt (w 5).toInt (w 6).toInt (w 7).toInt
theorem CI.aG {α : sAl} {κ : sCk} (h : CI α κ) (x : Int32) : grF κ x ↔ aG α x := by
  constructor
  · rintro ⟨j, hj, e, g⟩
    have hj' : j < aT α := by rw [← h.1]; exact hj
    exact ⟨j, hj', e, by rw [← h.gr hj']; exact g⟩
  · rintro ⟨j, hj, e, g⟩
    exact ⟨j, by rw [h.1]; exact hj, e, by rw [h.gr hj]; exact g⟩
def ckRel (α : sAl) (fr to v : Int32) : Prop := (v = 0 ∧ ∀ r, r < aR α → fr ≤ nI r → nI r < to → aHolds α (aRw α r)) ∨ (∃ r, r < aR α ∧ fr ≤ nI r ∧ nI r < to ∧ v = nI (r + 1) ∧ ¬ aHolds α (aRw α r) ∧ ∀ r', r' < r → fr ≤ nI r' → aHolds α (aRw α r'))
theorem ckRel.uniq {α : sAl} {fr to v v' : Int32} (hA : AI α) (h : ckRel α fr to v) (h' : ckRel α fr to v') : v = v' := by
  have := hA.2.1
  have lt : ∀ {r s : Nat}, r < s → s < aR α → nI s < to → nI r < to := fun {r s} q1 q2 q3 => Int32.lt_trans (nI_lt_mpr q1 (by omega)) q3
  rcases h with ⟨e, h⟩ | ⟨r, h1, h2, h3, e, h4, h5⟩ <;> rcases h' with ⟨e', h'⟩ | ⟨r', h1', h2', h3', e', h4', h5'⟩
  · rw [e, e']
  · exact absurd (h r' h1' h2' h3') h4'
  · exact absurd (h' r h1 h2 h3) h4
  · rcases Nat.lt_trichotomy r r' with q | q | q
    · exact absurd (h5' r q h2) h4
    · rw [e, e', q]
    · exact absurd (h5 r' q h2') h4'
def tmRel (α : sAl) (t : Nat) (i j k v : Int32) : Prop := (∃ a b c, a ≤ 9 ∧ b ≤ 9 ∧ c ≤ 9 ∧ i = nI a ∧ j = nI b ∧ k = nI c ∧ v.toInt = aPf α t (100 * a + 10 * b + c)) ∨ (v = 0 ∧ ¬ ((0 ≤ i ∧ i ≤ 9) ∧ (0 ≤ j ∧ j ≤ 9) ∧ 0 ≤ k ∧ k ≤ 9))
def tsRel (α : sAl) (t : Nat) (v : Int32) : Prop := (aGr α t ∧ v = -1) ∨ (¬ aGr α t ∧ ∃ n : Nat, v = nI n ∧ (n : Int) = cnt (aPf α t))
def cdN (α : sAl) (w : Nat → Int32) : Int := sN (fun a => cnt (aPf α (w (1 + a)).toNatClampNeg)) (tfI (w 0))
theorem CI.cn {α : sAl} {κ : sCk} (hA : AI α) (h : CI α κ) {j : Nat} (hj : j < aT α) : ((if (kPo κ j).2.2.1 = true then 0 else (kPo κ j).1 : Nat) : Int) = cnt (aPf α j) := by
  rcases h.2.2.2.2.2.1 j hj with ⟨q1, q2⟩ | ⟨q1, e, q2⟩
  · rw [if_pos q2.2, (hA.2.2.1 j hj).2.2.2.2 q1]
    exact (sN_zero (fun y _ => if_pos rfl)).symm
  · rw [if_neg (by rw [q2.2.1]; decide), q2.ct]
end SRW
