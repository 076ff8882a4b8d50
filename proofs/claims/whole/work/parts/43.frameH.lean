/-! THE FRAME, part eight: an array of trees, an array of rows. -/
section SFH
variable {X : sMach} {G : sG} {Y : sMeth} {Q : State → Prop} {ad : sAd} {M : sM} {kc ks : Nat} {lv : List (Option Value)} {pc : Nat} {rest : List Value} {index : Nat}
theorem s_newT (kd ix : Nat) (he : M kd ix = none) (hw : Cond.classLink (yO Y) index RX2 ∈ yT Y) {n9 : Int32} {N' : Nat} (hn9 : ¬ n9 < 0) (hN : n9.toNatClampNeg = N') (hb : N' * 4 ≤ 536870912) (h1 : kc + 1 ≤ (yR Y).cells) (h2 : ks + N' ≤ (yR Y).slots) (hd : decode (yC Y) pc = .ok (.anewarray index, 3))
    (k : ∀ ad' : sAd, sOn kd ix ad ad' → sW X G Y Q ad' (sset M kd ix (.inl (gT G, N', .inr (.inr (.inr (.inr (fun _ => none))))))) (kc + 1) (ks + N') lv (pc + 3) (.ref (ad' kd ix) :: rest)) : sW X G Y Q ad M kc ks lv pc (.int n9 :: rest) := by
  subst hN
  intro F H locs ls hM hS hL hn
  refine W.anew F.1 F.2.1 F.2.2.2.1 (F.2.2.2.2.1 _ hw) (va_AO.use F.2.2.2.2.2.2.1.1.2.2.2.2.1) rfl hd rfl hn9 hb h1 h2 fun cA kA comp f1 f2 f3 f4 => ?_
  generalize hH1 : H.push ({ cls := cA, slots := Array.replicate n9.toNatClampNeg .null, vm := .none } : Cell) = H1
  have z1 : H1.size = H.size + 1 := by rw [← hH1, Array.size_push]
  have e1 : H1[H.size]? = some (arrV cA n9.toNatClampNeg (fun _ => .null)) := by rw [← hH1, Array.getElem?_push_size, ← arrV_new]
  have o1 : ∀ q : Nat, q < H.size → H1[q]? = H[q]? := fun q hq => by rw [← hH1, Array.getElem?_push, if_neg (Nat.ne_of_lt hq)]
  have hN0 : gN G ≤ H.size := Nat.le_trans F.2.2.2.2.2.1 hS.1
  obtain ⟨-, kA', comp', -, -, -, f9⟩ := F.2.2.2.2.2.2.1.1.1.2 3 _ rfl
  have hcA : cA = gT G := Option.some.inj (f1.symm.trans f9)
  subst hcA
  have h9 := k (aset ad kd ix H.size) (fun k i h => aset_ne ad H.size h)
  rw [aset_self] at h9
  refine h9 F H1 locs ls (hM.new he hN0 ?_ o1) ⟨Nat.le_trans hS.1 (by omega), fun x h1 h2 => (o1 x (Nat.lt_of_lt_of_le h1 hS.1)).trans (hS.2.1 x h1 h2), hS.2.2⟩ hL hn
  show H1[H.size]? = some (vp_cell _ _)
  rw [vp_cell_q]
  exact e1
theorem sv_outer (c : ClassId) (N h0 i : Nat) : Jvm.Free.Multi.outerC c N h0 i = arrV c N (fun j => va_rf (if j < i then some (h0 + 1 + j) else none)) := by
  induction i with
  | zero =>
    rw [Jvm.Free.Multi.outerC, arrV_new]
    congr 1
  | succ i ih =>
    rw [Jvm.Free.Multi.outerC, ih, arrV_store]
    congr 1
    funext j
    rcases Nat.lt_trichotomy j i with h | h | h
    · simp [updV, Nat.ne_of_lt h, h, Nat.lt_succ_of_lt h]
    · subst h
      simp [updV, va_rf]
    · simp [updV, Nat.ne_of_gt h, show ¬ j < i by omega, show ¬ j < i + 1 by omega]
theorem s_mna (he : M 8 0 = none) (he6 : ∀ i, i < 60 → M 6 i = none) (hw : Cond.classLink (yO Y) index "[[I" ∈ yT Y) (hw2 : Cond.arrayClass .int ∈ yT Y) (h1 : kc + (1 + 60) ≤ (yR Y).cells) (h2 : ks + (60 + 60 * 8) ≤ (yR Y).slots) (hd : decode (yC Y) pc = .ok (.multianewarray index 2, 4))
    (k : ∀ (ad' : sAd) (M' : sM), (∀ k i, ¬ (k = 8 ∧ i = 0) → ¬ (k = 6 ∧ i < 60) → ad' k i = ad k i) → (∀ k i, ¬ (k = 8 ∧ i = 0) → ¬ (k = 6 ∧ i < 60) → M' k i = M k i) → M' 8 0 = some (.inl (gR G, 60, .inr (.inr (.inr (.inr (fRs ad')))))) → (∀ i, i < 60 → M' 6 i = some (.inl (gI G, 8, .inl (fun _ => 0)))) → sW X G Y Q ad' M' (kc + 1 + 60) (ks + 60 + 60 * 8) lv (pc + 4) (.ref (ad' 8 0) :: rest)) : sW X G Y Q ad M kc ks lv pc (.int 8 :: .int 60 :: rest) := by
  intro F H locs ls hM hS hL hn T hT Xs
  obtain ⟨vm₁, cA, comp, -, fA, fC, hO, -, X', step⟩ := Xs.multianewarray2F (ty := .int) F.1 F.2.2.2.1 (F.2.2.2.2.1 _ hw) (va_AOA.use F.2.2.2.2.2.2.1.1.2.2.2.2.2.1) (F.2.2.2.2.1 _ hw2) (g := F0 (mM X) pc ls (.int 8 :: .int 60 :: rest)) rfl (by rw [F.2.1]; exact hd) rfl (by decide) (by decide) (by decide) (by decide) (by decide) (by decide) (by decide) h1 h2
  have n60 : (60 : Int32).toNatClampNeg = 60 := by decide
  have n8 : (8 : Int32).toNatClampNeg = 8 := by decide
  rw [n60, n8] at X' step
  have cI : comp = gI G := Option.some.inj (fC.symm.trans (F.2.2.2.2.2.2.1.1.1.2 0 _ rfl).2)
  have cR : cA = gR G := Option.some.inj (fA.symm.trans (F.2.2.2.2.2.2.1.1.1.2 4 _ rfl).2)
  subst cI
  subst cR
  generalize hF : Jvm.Free.Multi.fill (T.setVm vm₁) (gR G) (gI G) 60 8 (defaultValue .int) 60 = T' at X' step
  have hTh : (T.setVm vm₁).heap = H := hT
  obtain ⟨f1, f2, -, -⟩ := Jvm.Free.Multi.fill_facts (T.setVm vm₁) (gR G) (gI G) 60 8 (defaultValue .int) 60
  rw [hF, hTh] at f1 f2
  have hold : ∀ x : Nat, x < H.size → T'.heap[x]? = H[x]? := fun x hx => by
    have := Jvm.Free.Multi.fill_old (T.setVm vm₁) (gR G) (gI G) 60 8 (defaultValue .int) (a := x) (by rw [hTh]; exact hx) 60
    rw [hF, hTh] at this
    exact this
  have hrow : ∀ j : Nat, j < 60 → T'.heap[H.size + 1 + j]? = some (vp_cell (gI G) (8, .inl (fun _ => 0))) := fun j hj => by
    have := Jvm.Free.Multi.fill_inner (T.setVm vm₁) (gR G) (gI G) 60 8 (defaultValue .int) 60 j hj
    rw [hF, hTh] at this
    rw [this, vp_cell_i]
    rfl
  have hN0 : gN G ≤ H.size := Nat.le_trans F.2.2.2.2.2.1 hS.1
  obtain ⟨ad', had⟩ : ∃ a : sAd, a = fun k i => if k = 8 ∧ i = 0 then H.size else if k = 6 ∧ i < 60 then H.size + 1 + i else ad k i := ⟨_, rfl⟩
  obtain ⟨M', hM'⟩ : ∃ m : sM, m = fun k i => if k = 8 ∧ i = 0 then some (.inl (gR G, 60, .inr (.inr (.inr (.inr (fRs ad')))))) else if k = 6 ∧ i < 60 then some (.inl (gI G, 8, .inl (fun _ => 0))) else M k i := ⟨_, rfl⟩
  have a8 : ad' 8 0 = H.size := by rw [had]; exact if_pos ⟨rfl, rfl⟩
  have a6 : ∀ i, i < 60 → ad' 6 i = H.size + 1 + i := fun i hi => by rw [had]; exact (if_neg (by omega)).trans (if_pos ⟨rfl, hi⟩)
  have ao : ∀ k i, ¬ (k = 8 ∧ i = 0) → ¬ (k = 6 ∧ i < 60) → ad' k i = ad k i := fun k i q1 q2 => by rw [had]; exact (if_neg q1).trans (if_neg q2)
  have m8 : M' 8 0 = some (.inl (gR G, 60, .inr (.inr (.inr (.inr (fRs ad')))))) := by rw [hM']; exact if_pos ⟨rfl, rfl⟩
  have m6 : ∀ i, i < 60 → M' 6 i = some (.inl (gI G, 8, .inl (fun _ => 0))) := fun i hi => by rw [hM']; exact (if_neg (by omega)).trans (if_pos ⟨rfl, hi⟩)
  have mo : ∀ k i, ¬ (k = 8 ∧ i = 0) → ¬ (k = 6 ∧ i < 60) → M' k i = M k i := fun k i q1 q2 => by rw [hM']; exact (if_neg q1).trans (if_neg q2)
  have hout : T'.heap[H.size]? = some (vp_cell (gR G) (60, .inr (.inr (.inr (.inr (fRs ad')))))) := by
    rw [f2, vp_cell_q, sv_outer]
    congr 2
    funext i
    by_cases q : i < 60
    · simp only [fRs, if_pos q, a6 i q]
    · simp only [fRs, if_neg q]
  have lt : ∀ (a b : Nat) (x : va_E), M a b = some x → ad a b < H.size := fun a b x hx => (hM.1 a b x hx).2.lt
  have hW : sWd G ad' M' T'.heap := by
    refine ⟨fun a b x hx => ?_, fun a b a' b' x x' hx hx' hab => ?_⟩
    · by_cases q1 : a = 8 ∧ b = 0
      · obtain ⟨rfl, rfl⟩ := q1
        rw [m8] at hx
        cases hx
        rw [a8]
        exact ⟨hN0, hout⟩
      · by_cases q2 : a = 6 ∧ b < 60
        · obtain ⟨rfl, q2⟩ := q2
          rw [m6 b q2] at hx
          cases hx
          rw [a6 b q2]
          exact ⟨by omega, hrow b q2⟩
        · rw [mo a b q1 q2] at hx
          rw [ao a b q1 q2]
          exact ⟨(hM.1 _ _ _ hx).1, (hM.1 _ _ _ hx).2.kept (hold _ (lt _ _ _ hx))⟩
    · have cls : ∀ a b x, M' a b = some x → (a = 8 ∧ b = 0 ∧ ad' a b = H.size) ∨ (a = 6 ∧ b < 60 ∧ ad' a b = H.size + 1 + b) ∨ (M a b = some x ∧ ad' a b = ad a b ∧ ad a b < H.size) := fun a b x hx => by
        by_cases q1 : a = 8 ∧ b = 0
        · obtain ⟨rfl, rfl⟩ := q1
          exact Or.inl ⟨rfl, rfl, a8⟩
        · by_cases q2 : a = 6 ∧ b < 60
          · obtain ⟨rfl, q2⟩ := q2
            exact Or.inr (Or.inl ⟨rfl, q2, a6 b q2⟩)
          · rw [mo a b q1 q2] at hx
            exact Or.inr (Or.inr ⟨hx, ao a b q1 q2, lt _ _ _ hx⟩)
      rcases cls a b x hx with ⟨c1, c2, c3⟩ | ⟨c1, c2, c3⟩ | ⟨c1, c2, c3⟩ <;> rcases cls a' b' x' hx' with ⟨d1, d2, d3⟩ | ⟨d1, d2, d3⟩ | ⟨d1, d2, d3⟩ <;> first | (exact hM.2 _ _ _ _ _ _ c1 d1 (by omega)) | omega
  obtain ⟨t, a1, b1⟩ := k ad' M' ao mo m8 m6 F T'.heap locs ls hW ⟨by rw [f1]; have := hS.1; omega, fun x h1 h2 => (hold x (Nat.lt_of_lt_of_le h1 hS.1)).trans (hS.2.1 x h1 h2), hS.2.2⟩ hL hn T' rfl X'
  refine ⟨t, step t ?_, b1⟩
  have e : T.heap.size = H.size := by rw [hT]
  rw [e, ← a8]
  exact a1
end SFH
