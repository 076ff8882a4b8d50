abbrev mX3_isSame : sMeth := (cX3_isSame, 3, RX3, wsX3_isSame, { frames := 2, cells := 0, slots := 0, locals := 46 }, (some .boolean), "isSame", [])
theorem in_X3_isSame_X3 : ∀ w ∈ wsX30, w ∈ wsX3_isSame := by decide +kernel
set_option maxHeartbeats 4000000 in
set_option maxRecDepth 100000 in
theorem c_X3_isSame (G : sG) (l : Launch) (hl : l.stackTraces = false) (ad : sAd) (M : sM) (tcv rcv : Int32) (hc : M 0 0 = some (.inr (4, [.ref (ad 7 0), .ref (ad 8 0), .ref (ad 1 0), .ref (ad 3 120), .int tcv, .int rcv]))) (lo ks : Nat → Int32) (ns : Nat → Int64) (u : Nat) (th : Bool) (h : hSh G ad M (lo, ks, ns, u, th)) (f : Nat → Int) (hR : ShR (lo, ks, ns, u, th) f) (p n d : Nat) (pk pn : Nat → Int32) (hp : hPo G ad M p (n, nI d, false, pk, pn)) (P : Nat → Int) (hRp : PR (n, nI d, false, pk, pn) P) (hDp : DegOf P d) (q m k : Nat) (qk qn : Nat → Int32) (hq : hPo G ad M q (m, nI k, false, qk, qn)) (Q : Nat → Int) (hRq : PR (m, nI k, false, qk, qn) Q) (hDq : DegOf Q k) : sMet G l yX3_isSame mX3_isSame [.ref (ad 0 0), .ref (ad 3 p), .ref (ad 3 q)] ad M (fun r ad' M' => ad = ad' ∧ (∃ z : Bool, r = some (.int (jB z)) ∧ (z = true ↔ ∀ y, P y = Q y)) ∧ (∃ σ' f', hSh G ad M' σ' ∧ ShR σ' f') ∧ sSame pSh M M') (fun _ _ _ => False) := by
  refine sMet.of hl (by decide +kernel) rfl rfl rfl rfl (Nat.le_of_ble_eq_true rfl) (fun X => ?_)
  refine s_lv (lv' := [some (.ref (ad 0 0)), some (.ref (ad 3 p)), some (.ref (ad 3 q))]) rfl ?_
  refine s_aload_n dX3_isSame_0 rfl ?_
  refine s_get (kd := 0) (ix := 0) (ci := 4) (fs := [.ref (ad 7 0), .ref (ad 8 0), .ref (ad 1 0), .ref (ad 3 120), .int tcv, .int rcv])  hc rfl in_X3_isSame_X3 2 (by decide) (by decide +kernel) rfl rfl dX3_isSame_1 ?_
  refine s_callVN (As := []) (rest := []) (n := 0) (kd := 1) (ix := 0) (fun l hl => c_X1_wipe G l hl ad M lo ks ns u th h f hR) gX3_isSame_X1_wipe_n188 rfl (host := "SmallChecker") (by decide +kernel) (by decide +kernel) (by decide +kernel) (by decide +kernel) (by decide +kernel) h.1 rfl rfl ⟨(Nat.le_of_ble_eq_true rfl), (Nat.le_of_ble_eq_true rfl)⟩ ⟨(Nat.le_of_ble_eq_true rfl), (Nat.le_of_ble_eq_true rfl)⟩ (Nat.le_of_ble_eq_true rfl) dX3_isSame_4 rfl (fun r1 ad1 M1 h1 => ?_)
  obtain ⟨rfl, rfl, ⟨lo1, h, hR⟩, hs1⟩ := h1
  have hc := (hs1 0 0 (by simp [pSh])).trans hc
  have hp := hp.same hs1 (by simp [pSh]) (by simp [pSh]) (by simp [pSh])
  have hq := hq.same hs1 (by simp [pSh]) (by simp [pSh]) (by simp [pSh])
  refine s_aload_n dX3_isSame_7 rfl ?_
  refine s_get (kd := 0) (ix := 0) (ci := 4) (fs := [.ref (ad 7 0), .ref (ad 8 0), .ref (ad 1 0), .ref (ad 3 120), .int tcv, .int rcv])  hc rfl in_X3_isSame_X3 2 (by decide) (by decide +kernel) rfl rfl dX3_isSame_8 ?_
  refine s_aload_n dX3_isSame_11 rfl ?_
  refine s_iconst (v := 1) dX3_isSame_12 (by decide) ?_
  refine s_callVN (As := [.ref (ad 3 p), .int 1]) (rest := []) (n := 2) (kd := 1) (ix := 0) (fun l hl => c_X1_addMultiple G l hl ad M1 p n (nI d) false pk pn hp P hRp lo1 ks ns 0 false h (fun _ => 0) hR 0 (fun y => by omega) (by omega) 1 (Or.inl rfl)) gX3_isSame_X1_addMultiple_n191 rfl (host := "SmallChecker") (by decide +kernel) (by decide +kernel) (by decide +kernel) (by decide +kernel) (by decide +kernel) h.1 rfl rfl ⟨(Nat.le_of_ble_eq_true rfl), (Nat.le_of_ble_eq_true rfl)⟩ ⟨(Nat.le_of_ble_eq_true rfl), (Nat.le_of_ble_eq_true rfl)⟩ (Nat.le_of_ble_eq_true rfl) dX3_isSame_13 rfl (fun r2 ad2 M2 h2 => ?_)
  obtain ⟨rfl, rfl, ⟨lo2, ks2, ns2, u2, h, hR⟩, hs2⟩ := h2
  have hc := (hs2 0 0 (by simp [pSh])).trans hc
  have hp := hp.same hs2 (by simp [pSh]) (by simp [pSh]) (by simp [pSh])
  have hq := hq.same hs2 (by simp [pSh]) (by simp [pSh]) (by simp [pSh])
  refine s_aload_n dX3_isSame_16 rfl ?_
  refine s_get (kd := 0) (ix := 0) (ci := 4) (fs := [.ref (ad 7 0), .ref (ad 8 0), .ref (ad 1 0), .ref (ad 3 120), .int tcv, .int rcv])  hc rfl in_X3_isSame_X3 2 (by decide) (by decide +kernel) rfl rfl dX3_isSame_17 ?_
  refine s_aload_n dX3_isSame_20 rfl ?_
  refine s_iconst (v := -1) dX3_isSame_21 (by decide) ?_
  refine s_callVN (As := [.ref (ad 3 q), .int (-1)]) (rest := []) (n := 2) (kd := 1) (ix := 0) (fun l hl => c_X1_addMultiple G l hl ad M2 q m (nI k) false qk qn hq Q hRq lo2 ks2 ns2 u2 false h (fun y => 0 + (1 : Int32).toInt * P y) hR 1000000 (fun y => by have := hRp.bnd y; rw [show (1 : Int32).toInt = 1 from rfl]; omega) (by omega) (-1) (Or.inr rfl)) gX3_isSame_X1_addMultiple_n191 rfl (host := "SmallChecker") (by decide +kernel) (by decide +kernel) (by decide +kernel) (by decide +kernel) (by decide +kernel) h.1 rfl rfl ⟨(Nat.le_of_ble_eq_true rfl), (Nat.le_of_ble_eq_true rfl)⟩ ⟨(Nat.le_of_ble_eq_true rfl), (Nat.le_of_ble_eq_true rfl)⟩ (Nat.le_of_ble_eq_true rfl) dX3_isSame_22 rfl (fun r3 ad3 M3 h3 => ?_)
  obtain ⟨rfl, rfl, ⟨lo3, ks3, ns3, u3, h, hR⟩, hs3⟩ := h3
  have hc := (hs3 0 0 (by simp [pSh])).trans hc
  have hp := hp.same hs3 (by simp [pSh]) (by simp [pSh]) (by simp [pSh])
  have hq := hq.same hs3 (by simp [pSh]) (by simp [pSh]) (by simp [pSh])
  refine s_aload_n dX3_isSame_25 rfl ?_
  refine s_get (kd := 0) (ix := 0) (ci := 4) (fs := [.ref (ad 7 0), .ref (ad 8 0), .ref (ad 1 0), .ref (ad 3 120), .int tcv, .int rcv])  hc rfl in_X3_isSame_X3 2 (by decide) (by decide +kernel) rfl rfl dX3_isSame_26 ?_
  refine s_callVN (As := []) (rest := []) (n := 0) (kd := 1) (ix := 0) (fun l hl => c_X1_isZero G l hl ad M3 lo3 ks3 ns3 u3 false h (fun y => (0 + (1 : Int32).toInt * P y) + (-1 : Int32).toInt * Q y) hR) gX3_isSame_X1_isZero_n230 rfl (host := "SmallChecker") (by decide +kernel) (by decide +kernel) (by decide +kernel) (by decide +kernel) (by decide +kernel) h.1 rfl rfl ⟨(Nat.le_of_ble_eq_true rfl), (Nat.le_of_ble_eq_true rfl)⟩ ⟨(Nat.le_of_ble_eq_true rfl), (Nat.le_of_ble_eq_true rfl)⟩ (Nat.le_of_ble_eq_true rfl) dX3_isSame_29 rfl (fun r4 ad4 M4 h4 => ?_)
  obtain ⟨rfl, rfl, z, rfl, hz⟩ := h4
  exact s_iret rfl (jB_nar z) dX3_isSame_32 (Nat.le_of_ble_eq_true rfl) (Nat.le_of_ble_eq_true rfl) (⟨rfl, ⟨z, rfl, hz.trans ⟨fun q y => by have := q.1 y; rw [show (1 : Int32).toInt = 1 from rfl, show (-1 : Int32).toInt = -1 from rfl] at this; omega, fun q => ⟨fun y => by rw [show (1 : Int32).toInt = 1 from rfl, show (-1 : Int32).toInt = -1 from rfl, q y]; omega, rfl⟩⟩⟩, ⟨_, _, h, hR⟩, (hs1.trans hs2).trans hs3⟩)
theorem derv_bnd {π : sPol} {P : Nat → Int} (h : PR π P) (lt y : Nat) : -360000000 ≤ derv lt P y ∧ derv lt P y ≤ 360000000 := by
  obtain ⟨e, h⟩ := h
  have h1 := gth_bound (f := fun _ => 0) (e := e) (κ := fun a => a - kl3 lt) (w := fun a => (dg3 lt a : Int) * P a) (B := 0) (W := 9 * 1000000) (i := π.1) (n := 40) (fun y => by omega) (by omega) (fun a ha => mul_bnd (by omega) (by omega) (by have := dg3_le (l := lt) (h.2.2.1 a ha).1; omega) (h.bnd (e a))) h.1 y
  rw [gth_end h (fun a ha => by rw [ha]; omega)] at h1
  have h2 : sN (fun a => if a - kl3 lt = y then (dg3 lt a : Int) * P a else 0) 1000 = derv lt P y := rfl
  dsimp only at h1
  rw [h2] at h1
  omega
theorem mulP_bnd {π ρ : sPol} {P Q : Nat → Int} (h : PR π P) (h' : PR ρ Q) (y : Nat) : -40000000000000 ≤ mul P Q y ∧ mul P Q y ≤ 40000000000000 := by
  obtain ⟨e, h⟩ := h
  have h1 := mulF_bnd (e := e) h.bnd h'.choose_spec.bnd h.1 y
  rw [mulF_end h] at h1
  omega
abbrev mX3_isDerivation : sMeth := (cX3_isDerivation, 4, RX3, wsX3_isDerivation, { frames := 2, cells := 0, slots := 0, locals := 47 }, (some .boolean), "isDerivation", [])
theorem in_X3_isDerivation_X3 : ∀ w ∈ wsX30, w ∈ wsX3_isDerivation := by decide +kernel
set_option maxHeartbeats 4000000 in
set_option maxRecDepth 100000 in
theorem c_X3_isDerivation (G : sG) (l : Launch) (hl : l.stackTraces = false) (ad : sAd) (M : sM) (tcv rcv : Int32) (hc : M 0 0 = some (.inr (4, [.ref (ad 7 0), .ref (ad 8 0), .ref (ad 1 0), .ref (ad 3 120), .int tcv, .int rcv]))) (lo ks : Nat → Int32) (ns : Nat → Int64) (u : Nat) (th : Bool) (h : hSh G ad M (lo, ks, ns, u, th)) (f : Nat → Int) (hR : ShR (lo, ks, ns, u, th) f) (p n d : Nat) (pk pn : Nat → Int32) (hp : hPo G ad M p (n, nI d, false, pk, pn)) (P : Nat → Int) (hRp : PR (n, nI d, false, pk, pn) P) (hDp : DegOf P d) (q m k : Nat) (qk qn : Nat → Int32) (hq : hPo G ad M q (m, nI k, false, qk, qn)) (Q : Nat → Int) (hRq : PR (m, nI k, false, qk, qn) Q) (hDq : DegOf Q k) (lt : Nat) (hl2 : lt ≤ 2) : sMet G l yX3_isDerivation mX3_isDerivation [.ref (ad 0 0), .ref (ad 3 p), .ref (ad 3 q), .int (nI lt)] ad M (fun r ad' M' => ad = ad' ∧ (∃ z : Bool, r = some (.int (jB z)) ∧ (z = true ↔ ∀ y, Q y = derv lt P y)) ∧ (∃ σ' f', hSh G ad M' σ' ∧ ShR σ' f') ∧ sSame pSh M M') (fun _ _ _ => False) := by
  refine sMet.of hl (by decide +kernel) rfl rfl rfl rfl (Nat.le_of_ble_eq_true rfl) (fun X => ?_)
  refine s_lv (lv' := [some (.ref (ad 0 0)), some (.ref (ad 3 p)), some (.ref (ad 3 q)), some (.int (nI lt))]) rfl ?_
  refine s_aload_n dX3_isDerivation_0 rfl ?_
  refine s_get (kd := 0) (ix := 0) (ci := 4) (fs := [.ref (ad 7 0), .ref (ad 8 0), .ref (ad 1 0), .ref (ad 3 120), .int tcv, .int rcv])  hc rfl in_X3_isDerivation_X3 2 (by decide) (by decide +kernel) rfl rfl dX3_isDerivation_1 ?_
  refine s_callVN (As := []) (rest := []) (n := 0) (kd := 1) (ix := 0) (fun l hl => c_X1_wipe G l hl ad M lo ks ns u th h f hR) gX3_isDerivation_X1_wipe_n188 rfl (host := "SmallChecker") (by decide +kernel) (by decide +kernel) (by decide +kernel) (by decide +kernel) (by decide +kernel) h.1 rfl rfl ⟨(Nat.le_of_ble_eq_true rfl), (Nat.le_of_ble_eq_true rfl)⟩ ⟨(Nat.le_of_ble_eq_true rfl), (Nat.le_of_ble_eq_true rfl)⟩ (Nat.le_of_ble_eq_true rfl) dX3_isDerivation_4 rfl (fun r1 ad1 M1 h1 => ?_)
  obtain ⟨rfl, rfl, ⟨lo1, h, hR⟩, hs1⟩ := h1
  have hc := (hs1 0 0 (by simp [pSh])).trans hc
  have hp := hp.same hs1 (by simp [pSh]) (by simp [pSh]) (by simp [pSh])
  have hq := hq.same hs1 (by simp [pSh]) (by simp [pSh]) (by simp [pSh])
  refine s_aload_n dX3_isDerivation_7 rfl ?_
  refine s_get (kd := 0) (ix := 0) (ci := 4) (fs := [.ref (ad 7 0), .ref (ad 8 0), .ref (ad 1 0), .ref (ad 3 120), .int tcv, .int rcv])  hc rfl in_X3_isDerivation_X3 2 (by decide) (by decide +kernel) rfl rfl dX3_isDerivation_8 ?_
  refine s_aload_n dX3_isDerivation_11 rfl ?_
  refine s_iload_n dX3_isDerivation_12 rfl ?_
  refine s_callVN (As := [.ref (ad 3 p), .int (nI lt)]) (rest := []) (n := 2) (kd := 1) (ix := 0) (fun l hl => c_X1_addDerivation G l hl ad M1 p n (nI d) false pk pn hp P hRp lo1 ks ns 0 false h (fun _ => 0) hR 0 (fun y => by omega) (by omega) lt hl2) gX3_isDerivation_X1_addDerivation_n233 rfl (host := "SmallChecker") (by decide +kernel) (by decide +kernel) (by decide +kernel) (by decide +kernel) (by decide +kernel) h.1 rfl rfl ⟨(Nat.le_of_ble_eq_true rfl), (Nat.le_of_ble_eq_true rfl)⟩ ⟨(Nat.le_of_ble_eq_true rfl), (Nat.le_of_ble_eq_true rfl)⟩ (Nat.le_of_ble_eq_true rfl) dX3_isDerivation_13 rfl (fun r2 ad2 M2 h2 => ?_)
  obtain ⟨rfl, rfl, ⟨lo2, ks2, ns2, u2, h, hR⟩, hs2⟩ := h2
  have hc := (hs2 0 0 (by simp [pSh])).trans hc
  have hp := hp.same hs2 (by simp [pSh]) (by simp [pSh]) (by simp [pSh])
  have hq := hq.same hs2 (by simp [pSh]) (by simp [pSh]) (by simp [pSh])
  refine s_aload_n dX3_isDerivation_16 rfl ?_
  refine s_get (kd := 0) (ix := 0) (ci := 4) (fs := [.ref (ad 7 0), .ref (ad 8 0), .ref (ad 1 0), .ref (ad 3 120), .int tcv, .int rcv])  hc rfl in_X3_isDerivation_X3 2 (by decide) (by decide +kernel) rfl rfl dX3_isDerivation_17 ?_
  refine s_aload_n dX3_isDerivation_20 rfl ?_
  refine s_iconst (v := -1) dX3_isDerivation_21 (by decide) ?_
  refine s_callVN (As := [.ref (ad 3 q), .int (-1)]) (rest := []) (n := 2) (kd := 1) (ix := 0) (fun l hl => c_X1_addMultiple G l hl ad M2 q m (nI k) false qk qn hq Q hRq lo2 ks2 ns2 u2 false h (fun y => 0 + derv lt P y) hR 360000000 (fun y => by have := derv_bnd hRp lt y; omega) (by omega) (-1) (Or.inr rfl)) gX3_isDerivation_X1_addMultiple_n191 rfl (host := "SmallChecker") (by decide +kernel) (by decide +kernel) (by decide +kernel) (by decide +kernel) (by decide +kernel) h.1 rfl rfl ⟨(Nat.le_of_ble_eq_true rfl), (Nat.le_of_ble_eq_true rfl)⟩ ⟨(Nat.le_of_ble_eq_true rfl), (Nat.le_of_ble_eq_true rfl)⟩ (Nat.le_of_ble_eq_true rfl) dX3_isDerivation_22 rfl (fun r3 ad3 M3 h3 => ?_)
  obtain ⟨rfl, rfl, ⟨lo3, ks3, ns3, u3, h, hR⟩, hs3⟩ := h3
  have hc := (hs3 0 0 (by simp [pSh])).trans hc
  have hp := hp.same hs3 (by simp [pSh]) (by simp [pSh]) (by simp [pSh])
  have hq := hq.same hs3 (by simp [pSh]) (by simp [pSh]) (by simp [pSh])
  refine s_aload_n dX3_isDerivation_25 rfl ?_
  refine s_get (kd := 0) (ix := 0) (ci := 4) (fs := [.ref (ad 7 0), .ref (ad 8 0), .ref (ad 1 0), .ref (ad 3 120), .int tcv, .int rcv])  hc rfl in_X3_isDerivation_X3 2 (by decide) (by decide +kernel) rfl rfl dX3_isDerivation_26 ?_
  refine s_callVN (As := []) (rest := []) (n := 0) (kd := 1) (ix := 0) (fun l hl => c_X1_isZero G l hl ad M3 lo3 ks3 ns3 u3 false h (fun y => (0 + derv lt P y) + (-1 : Int32).toInt * Q y) hR) gX3_isDerivation_X1_isZero_n230 rfl (host := "SmallChecker") (by decide +kernel) (by decide +kernel) (by decide +kernel) (by decide +kernel) (by decide +kernel) h.1 rfl rfl ⟨(Nat.le_of_ble_eq_true rfl), (Nat.le_of_ble_eq_true rfl)⟩ ⟨(Nat.le_of_ble_eq_true rfl), (Nat.le_of_ble_eq_true rfl)⟩ (Nat.le_of_ble_eq_true rfl) dX3_isDerivation_29 rfl (fun r4 ad4 M4 h4 => ?_)
  obtain ⟨rfl, rfl, z, rfl, hz⟩ := h4
  exact s_iret rfl (jB_nar z) dX3_isDerivation_32 (Nat.le_of_ble_eq_true rfl) (Nat.le_of_ble_eq_true rfl) (⟨rfl, ⟨z, rfl, hz.trans ⟨fun q y => by have := q.1 y; rw [show (-1 : Int32).toInt = -1 from rfl] at this; omega, fun q => ⟨fun y => by rw [show (-1 : Int32).toInt = -1 from rfl, q y]; omega, rfl⟩⟩⟩, ⟨_, _, h, hR⟩, (hs1.trans hs2).trans hs3⟩)
abbrev mX3_isRoot : sMeth := (cX3_isRoot, 4, RX3, wsX3_isRoot, { frames := 2, cells := 0, slots := 0, locals := 49 }, (some .boolean), "isRoot", [])
theorem in_X3_isRoot_X3 : ∀ w ∈ wsX30, w ∈ wsX3_isRoot := by decide +kernel
set_option maxHeartbeats 4000000 in
set_option maxRecDepth 100000 in
theorem c_X3_isRoot (G : sG) (l : Launch) (hl : l.stackTraces = false) (ad : sAd) (M : sM) (tcv rcv : Int32) (hc : M 0 0 = some (.inr (4, [.ref (ad 7 0), .ref (ad 8 0), .ref (ad 1 0), .ref (ad 3 120), .int tcv, .int rcv]))) (lo ks : Nat → Int32) (ns : Nat → Int64) (u : Nat) (th : Bool) (h : hSh G ad M (lo, ks, ns, u, th)) (f : Nat → Int) (hR : ShR (lo, ks, ns, u, th) f) (p n d : Nat) (pk pn : Nat → Int32) (hp : hPo G ad M p (n, nI d, false, pk, pn)) (P : Nat → Int) (hRp : PR (n, nI d, false, pk, pn) P) (hDp : DegOf P d) (v : Int32) (hv10 : -10 ≤ v.toInt ∧ v.toInt ≤ 10) (lt : Nat) (hl2 : lt ≤ 2) : sMet G l yX3_isRoot mX3_isRoot [.ref (ad 0 0), .ref (ad 3 p), .int v, .int (nI lt)] ad M (fun r ad' M' => ad = ad' ∧ (∃ z : Bool, r = some (.int (jB z)) ∧ (z = true ↔ ∀ y, subs lt v.toInt P y = 0)) ∧ (∃ σ' f', hSh G ad M' σ' ∧ ShR σ' f') ∧ sSame pSh M M') (fun _ _ _ => False) := by
  refine sMet.of hl (by decide +kernel) rfl rfl rfl rfl (Nat.le_of_ble_eq_true rfl) (fun X => ?_)
  refine s_lv (lv' := [some (.ref (ad 0 0)), some (.ref (ad 3 p)), some (.int v), some (.int (nI lt))]) rfl ?_
  refine s_aload_n dX3_isRoot_0 rfl ?_
  refine s_get (kd := 0) (ix := 0) (ci := 4) (fs := [.ref (ad 7 0), .ref (ad 8 0), .ref (ad 1 0), .ref (ad 3 120), .int tcv, .int rcv])  hc rfl in_X3_isRoot_X3 2 (by decide) (by decide +kernel) rfl rfl dX3_isRoot_1 ?_
  refine s_callVN (As := []) (rest := []) (n := 0) (kd := 1) (ix := 0) (fun l hl => c_X1_wipe G l hl ad M lo ks ns u th h f hR) gX3_isRoot_X1_wipe_n188 rfl (host := "SmallChecker") (by decide +kernel) (by decide +kernel) (by decide +kernel) (by decide +kernel) (by decide +kernel) h.1 rfl rfl ⟨(Nat.le_of_ble_eq_true rfl), (Nat.le_of_ble_eq_true rfl)⟩ ⟨(Nat.le_of_ble_eq_true rfl), (Nat.le_of_ble_eq_true rfl)⟩ (Nat.le_of_ble_eq_true rfl) dX3_isRoot_4 rfl (fun r1 ad1 M1 h1 => ?_)
  obtain ⟨rfl, rfl, ⟨lo1, h, hR⟩, hs1⟩ := h1
  have hc := (hs1 0 0 (by simp [pSh])).trans hc
  have hp := hp.same hs1 (by simp [pSh]) (by simp [pSh]) (by simp [pSh])
  refine s_aload_n dX3_isRoot_7 rfl ?_
  refine s_get (kd := 0) (ix := 0) (ci := 4) (fs := [.ref (ad 7 0), .ref (ad 8 0), .ref (ad 1 0), .ref (ad 3 120), .int tcv, .int rcv])  hc rfl in_X3_isRoot_X3 2 (by decide) (by decide +kernel) rfl rfl dX3_isRoot_8 ?_
  refine s_aload_n dX3_isRoot_11 rfl ?_
  refine s_iload_n dX3_isRoot_12 rfl ?_
  refine s_iload_n dX3_isRoot_13 rfl ?_
  refine s_callVN (As := [.ref (ad 3 p), .int v, .int (nI lt)]) (rest := []) (n := 3) (kd := 1) (ix := 0) (fun l hl => c_X1_addWithNumber G l hl ad M1 p n (nI d) false pk pn hp P hRp lo1 ks ns 0 false h (fun _ => 0) hR 0 (fun y => by omega) (by omega) lt hl2 v hv10) gX3_isRoot_X1_addWithNumber_n236 rfl (host := "SmallChecker") (by decide +kernel) (by decide +kernel) (by decide +kernel) (by decide +kernel) (by decide +kernel) h.1 rfl rfl ⟨(Nat.le_of_ble_eq_true rfl), (Nat.le_of_ble_eq_true rfl)⟩ ⟨(Nat.le_of_ble_eq_true rfl), (Nat.le_of_ble_eq_true rfl)⟩ (Nat.le_of_ble_eq_true rfl) dX3_isRoot_14 rfl (fun r2 ad2 M2 h2 => ?_)
  obtain ⟨rfl, rfl, ⟨lo2, ks2, ns2, u2, h, hR⟩, hs2⟩ := h2
  have hc := (hs2 0 0 (by simp [pSh])).trans hc
  have hp := hp.same hs2 (by simp [pSh]) (by simp [pSh]) (by simp [pSh])
  refine s_aload_n dX3_isRoot_17 rfl ?_
  refine s_get (kd := 0) (ix := 0) (ci := 4) (fs := [.ref (ad 7 0), .ref (ad 8 0), .ref (ad 1 0), .ref (ad 3 120), .int tcv, .int rcv])  hc rfl in_X3_isRoot_X3 2 (by decide) (by decide +kernel) rfl rfl dX3_isRoot_18 ?_
  refine s_callVN (As := []) (rest := []) (n := 0) (kd := 1) (ix := 0) (fun l hl => c_X1_isZero G l hl ad M2 lo2 ks2 ns2 u2 false h (fun y => 0 + subs lt v.toInt P y) hR) gX3_isRoot_X1_isZero_n230 rfl (host := "SmallChecker") (by decide +kernel) (by decide +kernel) (by decide +kernel) (by decide +kernel) (by decide +kernel) h.1 rfl rfl ⟨(Nat.le_of_ble_eq_true rfl), (Nat.le_of_ble_eq_true rfl)⟩ ⟨(Nat.le_of_ble_eq_true rfl), (Nat.le_of_ble_eq_true rfl)⟩ (Nat.le_of_ble_eq_true rfl) dX3_isRoot_21 rfl (fun r4 ad4 M4 h4 => ?_)
  obtain ⟨rfl, rfl, z, rfl, hz⟩ := h4
  exact s_iret rfl (jB_nar z) dX3_isRoot_24 (Nat.le_of_ble_eq_true rfl) (Nat.le_of_ble_eq_true rfl) (⟨rfl, ⟨z, rfl, hz.trans ⟨fun q y => by have := q.1 y; omega, fun q => ⟨fun y => by rw [q y]; omega, rfl⟩⟩⟩, ⟨_, _, h, hR⟩, hs1.trans hs2⟩)
abbrev mX3_isProduct : sMeth := (cX3_isProduct, 4, RX3, wsX3_isProduct, { frames := 2, cells := 0, slots := 0, locals := 47 }, (some .boolean), "isProduct", [])
theorem in_X3_isProduct_X3 : ∀ w ∈ wsX30, w ∈ wsX3_isProduct := by decide +kernel
set_option maxHeartbeats 4000000 in
set_option maxRecDepth 100000 in
theorem c_X3_isProduct (G : sG) (l : Launch) (hl : l.stackTraces = false) (ad : sAd) (M : sM) (tcv rcv : Int32) (hc : M 0 0 = some (.inr (4, [.ref (ad 7 0), .ref (ad 8 0), .ref (ad 1 0), .ref (ad 3 120), .int tcv, .int rcv]))) (lo ks : Nat → Int32) (ns : Nat → Int64) (u : Nat) (th : Bool) (h : hSh G ad M (lo, ks, ns, u, th)) (f : Nat → Int) (hR : ShR (lo, ks, ns, u, th) f) (p n d : Nat) (pk pn : Nat → Int32) (hp : hPo G ad M p (n, nI d, false, pk, pn)) (P : Nat → Int) (hRp : PR (n, nI d, false, pk, pn) P) (hDp : DegOf P d) (q m k : Nat) (qk qn : Nat → Int32) (hq : hPo G ad M q (m, nI k, false, qk, qn)) (Q : Nat → Int) (hRq : PR (m, nI k, false, qk, qn) Q) (hDq : DegOf Q k) (t b j : Nat) (tk tn : Nat → Int32) (ht : hPo G ad M t (b, nI j, false, tk, tn)) (R : Nat → Int) (hRt : PR (b, nI j, false, tk, tn) R) (hDt : DegOf R j) : sMet G l yX3_isProduct mX3_isProduct [.ref (ad 0 0), .ref (ad 3 p), .ref (ad 3 q), .ref (ad 3 t)] ad M (fun r ad' M' => ad = ad' ∧ (∃ z : Bool, r = some (.int (jB z)) ∧ (z = true ↔ k + j ≤ 9 ∧ ∀ y, P y = mul Q R y)) ∧ (∃ σ' f', hSh G ad M' σ' ∧ ShR σ' f') ∧ sSame pSh M M') (fun _ _ _ => False) := by
  refine sMet.of hl (by decide +kernel) rfl rfl rfl rfl (Nat.le_of_ble_eq_true rfl) (fun X => ?_)
  refine s_lv (lv' := [some (.ref (ad 0 0)), some (.ref (ad 3 p)), some (.ref (ad 3 q)), some (.ref (ad 3 t))]) rfl ?_
  refine s_aload_n dX3_isProduct_0 rfl ?_
  refine s_get (kd := 0) (ix := 0) (ci := 4) (fs := [.ref (ad 7 0), .ref (ad 8 0), .ref (ad 1 0), .ref (ad 3 120), .int tcv, .int rcv])  hc rfl in_X3_isProduct_X3 2 (by decide) (by decide +kernel) rfl rfl dX3_isProduct_1 ?_
  refine s_callVN (As := []) (rest := []) (n := 0) (kd := 1) (ix := 0) (fun l hl => c_X1_wipe G l hl ad M lo ks ns u th h f hR) gX3_isProduct_X1_wipe_n188 rfl (host := "SmallChecker") (by decide +kernel) (by decide +kernel) (by decide +kernel) (by decide +kernel) (by decide +kernel) h.1 rfl rfl ⟨(Nat.le_of_ble_eq_true rfl), (Nat.le_of_ble_eq_true rfl)⟩ ⟨(Nat.le_of_ble_eq_true rfl), (Nat.le_of_ble_eq_true rfl)⟩ (Nat.le_of_ble_eq_true rfl) dX3_isProduct_4 rfl (fun r1 ad1 M1 h1 => ?_)
  obtain ⟨rfl, rfl, ⟨lo1, h, hR⟩, hs1⟩ := h1
  have hc := (hs1 0 0 (by simp [pSh])).trans hc
  have hp := hp.same hs1 (by simp [pSh]) (by simp [pSh]) (by simp [pSh])
  have hq := hq.same hs1 (by simp [pSh]) (by simp [pSh]) (by simp [pSh])
  have ht := ht.same hs1 (by simp [pSh]) (by simp [pSh]) (by simp [pSh])
  refine s_aload_n dX3_isProduct_7 rfl ?_
  refine s_get (kd := 0) (ix := 0) (ci := 4) (fs := [.ref (ad 7 0), .ref (ad 8 0), .ref (ad 1 0), .ref (ad 3 120), .int tcv, .int rcv])  hc rfl in_X3_isProduct_X3 2 (by decide) (by decide +kernel) rfl rfl dX3_isProduct_8 ?_
  refine s_aload_n dX3_isProduct_11 rfl ?_
  refine s_aload_n dX3_isProduct_12 rfl ?_
  refine s_callVN (As := [.ref (ad 3 q), .ref (ad 3 t)]) (rest := []) (n := 2) (kd := 1) (ix := 0) (fun l hl => c_X1_addProduct G l hl ad M1 q m k qk qn hq Q hRq t b j tk tn ht R hRt hDq.1 hDt.1 hDq.2.1 hDt.2.1 lo1 ks ns 0 false h (fun _ => 0) rfl hR) gX3_isProduct_X1_addProduct_n195 rfl (host := "SmallChecker") (by decide +kernel) (by decide +kernel) (by decide +kernel) (by decide +kernel) (by decide +kernel) h.1 rfl rfl ⟨(Nat.le_of_ble_eq_true rfl), (Nat.le_of_ble_eq_true rfl)⟩ ⟨(Nat.le_of_ble_eq_true rfl), (Nat.le_of_ble_eq_true rfl)⟩ (Nat.le_of_ble_eq_true rfl) dX3_isProduct_13 rfl (fun r2 ad2 M2 h2 => ?_)
  obtain ⟨rfl, rfl, h2, hs2⟩ := h2
  rcases Nat.lt_or_ge 9 (k + j) with hdd | hdd
  · rw [if_neg (by omega)] at h2
    obtain ⟨lo2, ks2, ns2, u2, h, hR⟩ := h2
    have hc := (hs2 0 0 (by simp [pSh])).trans hc
    have hp := hp.same hs2 (by simp [pSh]) (by simp [pSh]) (by simp [pSh])
    have hq := hq.same hs2 (by simp [pSh]) (by simp [pSh]) (by simp [pSh])
    have ht := ht.same hs2 (by simp [pSh]) (by simp [pSh]) (by simp [pSh])
    refine s_aload_n dX3_isProduct_16 rfl ?_
    refine s_get (kd := 0) (ix := 0) (ci := 4) (fs := [.ref (ad 7 0), .ref (ad 8 0), .ref (ad 1 0), .ref (ad 3 120), .int tcv, .int rcv])  hc rfl in_X3_isProduct_X3 2 (by decide) (by decide +kernel) rfl rfl dX3_isProduct_17 ?_
    refine s_aload_n dX3_isProduct_20 rfl ?_
    refine s_iconst (v := -1) dX3_isProduct_21 (by decide) ?_
    refine s_callVN (As := [.ref (ad 3 p), .int (-1)]) (rest := []) (n := 2) (kd := 1) (ix := 0) (fun l hl => c_X1_addMultiple G l hl ad M2 p n (nI d) false pk pn hp P hRp lo2 ks2 ns2 u2 true h (fun _ => 0) hR 40000000000000 (fun y => by omega) (by omega) (-1) (Or.inr rfl)) gX3_isProduct_X1_addMultiple_n191 rfl (host := "SmallChecker") (by decide +kernel) (by decide +kernel) (by decide +kernel) (by decide +kernel) (by decide +kernel) h.1 rfl rfl ⟨(Nat.le_of_ble_eq_true rfl), (Nat.le_of_ble_eq_true rfl)⟩ ⟨(Nat.le_of_ble_eq_true rfl), (Nat.le_of_ble_eq_true rfl)⟩ (Nat.le_of_ble_eq_true rfl) dX3_isProduct_22 rfl (fun r3 ad3 M3 h3 => ?_)
    obtain ⟨rfl, rfl, ⟨lo3, ks3, ns3, u3, h, hR⟩, hs3⟩ := h3
    have hc := (hs3 0 0 (by simp [pSh])).trans hc
    have hp := hp.same hs3 (by simp [pSh]) (by simp [pSh]) (by simp [pSh])
    have hq := hq.same hs3 (by simp [pSh]) (by simp [pSh]) (by simp [pSh])
    have ht := ht.same hs3 (by simp [pSh]) (by simp [pSh]) (by simp [pSh])
    refine s_aload_n dX3_isProduct_25 rfl ?_
    refine s_get (kd := 0) (ix := 0) (ci := 4) (fs := [.ref (ad 7 0), .ref (ad 8 0), .ref (ad 1 0), .ref (ad 3 120), .int tcv, .int rcv])  hc rfl in_X3_isProduct_X3 2 (by decide) (by decide +kernel) rfl rfl dX3_isProduct_26 ?_
    refine s_callVN (As := []) (rest := []) (n := 0) (kd := 1) (ix := 0) (fun l hl => c_X1_isZero G l hl ad M3 lo3 ks3 ns3 u3 true h (fun y => (0 : Int) + (-1 : Int32).toInt * P y) hR) gX3_isProduct_X1_isZero_n230 rfl (host := "SmallChecker") (by decide +kernel) (by decide +kernel) (by decide +kernel) (by decide +kernel) (by decide +kernel) h.1 rfl rfl ⟨(Nat.le_of_ble_eq_true rfl), (Nat.le_of_ble_eq_true rfl)⟩ ⟨(Nat.le_of_ble_eq_true rfl), (Nat.le_of_ble_eq_true rfl)⟩ (Nat.le_of_ble_eq_true rfl) dX3_isProduct_29 rfl (fun r4 ad4 M4 h4 => ?_)
    obtain ⟨rfl, rfl, z, rfl, hz⟩ := h4
    exact s_iret rfl (jB_nar z) dX3_isProduct_32 (Nat.le_of_ble_eq_true rfl) (Nat.le_of_ble_eq_true rfl) (⟨rfl, ⟨z, rfl, hz.trans ⟨(fun q => nomatch q.2), fun q => by omega⟩⟩, ⟨_, _, h, hR⟩, (hs1.trans hs2).trans hs3⟩)
  · rw [if_pos hdd] at h2
    obtain ⟨lo2, ks2, ns2, u2, h, hR⟩ := h2
    have hc := (hs2 0 0 (by simp [pSh])).trans hc
    have hp := hp.same hs2 (by simp [pSh]) (by simp [pSh]) (by simp [pSh])
    have hq := hq.same hs2 (by simp [pSh]) (by simp [pSh]) (by simp [pSh])
    have ht := ht.same hs2 (by simp [pSh]) (by simp [pSh]) (by simp [pSh])
    refine s_aload_n dX3_isProduct_16 rfl ?_
    refine s_get (kd := 0) (ix := 0) (ci := 4) (fs := [.ref (ad 7 0), .ref (ad 8 0), .ref (ad 1 0), .ref (ad 3 120), .int tcv, .int rcv])  hc rfl in_X3_isProduct_X3 2 (by decide) (by decide +kernel) rfl rfl dX3_isProduct_17 ?_
    refine s_aload_n dX3_isProduct_20 rfl ?_
    refine s_iconst (v := -1) dX3_isProduct_21 (by decide) ?_
    refine s_callVN (As := [.ref (ad 3 p), .int (-1)]) (rest := []) (n := 2) (kd := 1) (ix := 0) (fun l hl => c_X1_addMultiple G l hl ad M2 p n (nI d) false pk pn hp P hRp lo2 ks2 ns2 u2 false h (mul Q R) hR 40000000000000 (fun y => by have := mulP_bnd hRq hRt y; omega) (by omega) (-1) (Or.inr rfl)) gX3_isProduct_X1_addMultiple_n191 rfl (host := "SmallChecker") (by decide +kernel) (by decide +kernel) (by decide +kernel) (by decide +kernel) (by decide +kernel) h.1 rfl rfl ⟨(Nat.le_of_ble_eq_true rfl), (Nat.le_of_ble_eq_true rfl)⟩ ⟨(Nat.le_of_ble_eq_true rfl), (Nat.le_of_ble_eq_true rfl)⟩ (Nat.le_of_ble_eq_true rfl) dX3_isProduct_22 rfl (fun r3 ad3 M3 h3 => ?_)
    obtain ⟨rfl, rfl, ⟨lo3, ks3, ns3, u3, h, hR⟩, hs3⟩ := h3
    have hc := (hs3 0 0 (by simp [pSh])).trans hc
    have hp := hp.same hs3 (by simp [pSh]) (by simp [pSh]) (by simp [pSh])
    have hq := hq.same hs3 (by simp [pSh]) (by simp [pSh]) (by simp [pSh])
    have ht := ht.same hs3 (by simp [pSh]) (by simp [pSh]) (by simp [pSh])
    refine s_aload_n dX3_isProduct_25 rfl ?_
    refine s_get (kd := 0) (ix := 0) (ci := 4) (fs := [.ref (ad 7 0), .ref (ad 8 0), .ref (ad 1 0), .ref (ad 3 120), .int tcv, .int rcv])  hc rfl in_X3_isProduct_X3 2 (by decide) (by decide +kernel) rfl rfl dX3_isProduct_26 ?_
    refine s_callVN (As := []) (rest := []) (n := 0) (kd := 1) (ix := 0) (fun l hl => c_X1_isZero G l hl ad M3 lo3 ks3 ns3 u3 false h (fun y => mul Q R y + (-1 : Int32).toInt * P y) hR) gX3_isProduct_X1_isZero_n230 rfl (host := "SmallChecker") (by decide +kernel) (by decide +kernel) (by decide +kernel) (by decide +kernel) (by decide +kernel) h.1 rfl rfl ⟨(Nat.le_of_ble_eq_true rfl), (Nat.le_of_ble_eq_true rfl)⟩ ⟨(Nat.le_of_ble_eq_true rfl), (Nat.le_of_ble_eq_true rfl)⟩ (Nat.le_of_ble_eq_true rfl) dX3_isProduct_29 rfl (fun r4 ad4 M4 h4 => ?_)
    obtain ⟨rfl, rfl, z, rfl, hz⟩ := h4
    exact s_iret rfl (jB_nar z) dX3_isProduct_32 (Nat.le_of_ble_eq_true rfl) (Nat.le_of_ble_eq_true rfl) (⟨rfl, ⟨z, rfl, hz.trans ⟨fun q => ⟨hdd, fun y => by have := q.1 y; rw [show (-1 : Int32).toInt = -1 from rfl] at this; omega⟩, fun q => ⟨fun y => by rw [show (-1 : Int32).toInt = -1 from rfl, q.2 y]; omega, rfl⟩⟩⟩, ⟨_, _, h, hR⟩, (hs1.trans hs2).trans hs3⟩)
