/-! deep, alike, terms, term, counted, check -/
theorem nI_mul (a b : Nat) : nI a * nI b = nI (a * b) := (Int32.ofNat_mul a b).symm
theorem pw9 {x : Int32} (h : 0 ≤ x ∧ x ≤ 9) : ∃ a, a ≤ 9 ∧ x = nI a := by
  rcases pk_ix x (n := 10) (by decide) with q | q | ⟨j, hj, e⟩
  · exact absurd h.1 (Int32.not_le.mpr q)
  · exact absurd (Int32.lt_of_lt_of_le (show (9 : Int32) < 10 by decide) q) (Int32.not_lt.mpr h.2)
  · exact ⟨j, by omega, e⟩
theorem PR.at {π : sPol} {P : Nat → Int} (h : PR π P) {y : Nat} (hy : y < 1000) {v : Int32} (hv : (∃ i, i < π.1 ∧ π.2.2.2.1 i = nI y ∧ v = π.2.2.2.2 i) ∨ (v = 0 ∧ ∀ i, i < π.1 → π.2.2.2.1 i ≠ nI y)) : v.toInt = P y := by
  obtain ⟨e, h⟩ := h
  rcases hv with ⟨i, hi, h1, rfl⟩ | ⟨rfl, h1⟩
  · obtain ⟨a, b, c, -⟩ := h.2.2.1 i hi
    have := (nI_eq (a := e i) (b := y) (by have := a.1; omega) (by omega)).mp (b.symm.trans h1)
    rw [c, this]
  · by_cases q : P y = 0
    · rw [q]; rfl
    · obtain ⟨i, hi, he⟩ := h.2.2.2.2.1 y q
      exact absurd ((h.2.2.1 i hi).2.1.trans (by rw [he])) (h1 i hi)
theorem wfR.fld {α : sAl} {w : Nat → Int32} (h : wfR α w) (hT : aT α ≤ 120) : ∃ kd, kd < 7 ∧ w 0 = nI kd ∧ tfI (w 0) = tfN kd ∧ ∀ a, a < tfI (w 0) → (w (1 + a)).toNatClampNeg < aT α ∧ w (1 + a) = nI (w (1 + a)).toNatClampNeg := by
  obtain ⟨kd, h1, h2, h3, h4, h5, -⟩ := h
  have e : tfI (w 0) = tfN kd := by rw [h2, tfI_in h1]
  refine ⟨kd, h1, h2, e, fun a ha => ?_⟩
  rw [e] at ha
  have h6 := tfN_le kd
  have fin : ∀ {x : Int32}, (∃ j, j < aT α ∧ x = nI j) → x.toNatClampNeg < aT α ∧ x = nI x.toNatClampNeg := by
    rintro x ⟨j, hj, rfl⟩
    rw [nI_clamp (by omega)]
    exact ⟨hj, rfl⟩
  rcases (show a = 0 ∨ a = 1 ∨ a = 2 by omega) with rfl | rfl | rfl
  · exact fin h3
  · exact fin (h4 (by omega))
  · exact fin (h5 (by omega))
set_option maxHeartbeats 4000000 in
theorem c_holdsA (G : sG) (l : Launch) (hl : l.stackTraces = false) (ad : sAd) (M : sM) (α : sAl) (hA : AI α) (κ : sCk) (h : hCk G ad M κ) (hC : CI α κ) (r : Nat) (hr : r < aR α) : sMet G l yX3_holds mX3_holds [.ref (ad 0 0), .ref (ad 6 r)] ad M (fun r' ad' M' => ad = ad' ∧ (∃ z : Bool, r' = some (.int (jB z)) ∧ (z = true ↔ aHolds α (aRw α r))) ∧ (∃ κ', hCk G ad M' κ' ∧ CI α κ') ∧ sSame pSh M M') (fun _ _ _ => False) := by
  obtain ⟨e1, e2, ht, hm, hC1, hC2, hC3, hC4, f, hR⟩ := id hC
  have hA1 := hA.1
  have hA2 := hA.2.1
  have hw := hC3 r hr
  obtain ⟨kd, h1, h2, h3, h4, h5, h6, h7, h8, h9⟩ := hA.2.2.2 r hr
  have cl : ∀ {n : Nat} {x : Int32}, n ≤ 120 → (∃ j, j < n ∧ x = nI j) → x.toNatClampNeg < n ∧ x = nI x.toNatClampNeg := by
    rintro n x hn ⟨j, hj, rfl⟩
    rw [nI_clamp (by omega)]
    exact ⟨hj, rfl⟩
  have k0 : (aRw α r 0).toNatClampNeg = kd := by rw [h2, nI_clamp (by omega)]
  have tf : tfI (aRw α r 0) = tfN kd := by rw [h2, tfI_in h1]
  have hL := tfN_le kd
  have base := c_X3_holds G l hl ad M κ h ht hm (by omega) r (by omega) kd h1 (by rw [hw 0 (by omega)]; exact h2) hC4.choose_spec.2.1 (aPf α) (fun j hj hg => hC.pr (by omega) hg) f hR (aRw α r 1).toNatClampNeg (aRw α r 2).toNatClampNeg (aRw α r 3).toNatClampNeg (aRw α r 4).toNatClampNeg (aRw α r 3).toNatClampNeg (by rw [hw 1 (by omega), e1]; exact cl hA1 h3) (fun q => by rw [hw 2 (by omega), e1]; exact cl hA1 (h4 q)) (fun q => by rw [hw 3 (by omega), e1]; exact cl hA1 (h5 q)) (fun q => by
      rw [hw 3 (by omega)]
      obtain ⟨lt, hlt, e⟩ := h6 q
      have z := cl (n := 3) (by omega) ⟨lt, by omega, e⟩
      exact ⟨by omega, z.2⟩) (fun q => by rw [hw 2 (by omega)]; exact h7 q) (by
      rw [hw 4 (by omega), e1]
      rcases h8 with q | ⟨q, jf⟩
      · exact Or.inl q
      · exact Or.inr ⟨q, cl hA1 jf⟩) (by rw [hw 5 (by omega)]; exact h9 0 (by omega)) (by rw [hw 6 (by omega)]; exact h9 1 (by omega)) (by rw [hw 7 (by omega)]; exact h9 2 (by omega))
  refine base.mono (fun r' ad' M' ⟨p1, ⟨z, p2, p3⟩, ⟨σ', f', p4, p5⟩, p6⟩ => ⟨p1, ⟨z, p2, p3.trans ?_⟩, ⟨_, p4, hC.sheet p5⟩, p6⟩) (fun _ _ _ q => q)
  rw [hw 2 (by omega), hw 4 (by omega), hw 5 (by omega), hw 6 (by omega), hw 7 (by omega), hC.aG]
  unfold aHolds
  rw [k0, tf]
  refine and_congr (not_congr ⟨fun ⟨a, ha, g⟩ => ⟨a, ha, ?_⟩, fun ⟨a, ha, g⟩ => ⟨a, ha, ?_⟩⟩) Iff.rfl
  · rw [hw (1 + a) (by omega), hC.aG] at g; exact g
  · rw [hw (1 + a) (by omega), hC.aG]; exact g
