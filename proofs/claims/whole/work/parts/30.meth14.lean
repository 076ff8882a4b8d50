/-! constructors of Polynomial and Tree -/
theorem fsX0_ok : ∀ j, j < 5 → defaultValue (tyX0 j) = vp_V [.null, .null, .int 0, .int 0, .int 0] j := by decide
theorem fsX2_ok : ∀ j, j < 6 → defaultValue (tyX2 j) = vp_V [.null, .int 0, .int 0, .int 0, .int 0, .int 0] j := by decide
theorem fsX1_ok : ∀ j, j < 5 → defaultValue (tyX1 j) = vp_V [.null, .null, .null, .int 0, .int 0] j := by decide
/-- whatever lay somewhere lies there still -/
def sExt (M : sM) (ad ad' : sAd) : Prop := ∀ k i e, M k i = some e → ad' k i = ad k i
def pi0 : sPol := (0, 0, false, fun _ => 0, fun _ => 0)
abbrev mX0_init : sMeth := (cX0_init, 1, RX0, wsX0_init, { frames := 1, cells := 2, slots := 80, locals := 20 }, none, "<init>", [])
theorem in_X0_init_X0 : ∀ w ∈ wsX00, w ∈ wsX0_init := by decide +kernel
set_option maxHeartbeats 4000000 in
set_option maxRecDepth 100000 in
theorem c_X0_init (G : sG) (l : Launch) (hl : l.stackTraces = false) (ad : sAd) (M : sM) (p : Nat) (h3 : M 3 p = some (.inr (1, [.null, .null, .int 0, .int 0, .int 0]))) (h4 : M 4 p = none) (h5 : M 5 p = none) : sMet G l yX0_init mX0_init [.ref (ad 3 p)] ad M (fun r ad' M' => r = none ∧ (∀ k i, ¬ ((k = 4 ∨ k = 5) ∧ i = p) → ad' k i = ad k i) ∧ hPo G ad' M' p pi0 ∧ sSame (pPo p) M M') (fun _ _ _ => False) := by
  refine sMet.of hl (by decide +kernel) rfl rfl rfl rfl (Nat.le_of_ble_eq_true rfl) (fun X => ?_)
  refine s_lv (lv' := [some (.ref (ad 3 p))]) rfl ?_
  refine s_aload_n dX0_init_0 rfl ?_
  refine s_obj (by decide +kernel) (by decide +kernel) (by decide +kernel) dX0_init_1 (Nat.le_of_ble_eq_true rfl) (Nat.le_of_ble_eq_true rfl) ?_
  refine s_aload_n dX0_init_4 rfl ?_
  refine s_bipush (v := 40) dX0_init_5 (by decide) ?_
  refine s_newI 4 p (h4) (by decide +kernel) (N' := 40) (by decide) (by decide) (by decide) (Nat.le_of_ble_eq_true rfl) (Nat.le_of_ble_eq_true rfl) dX0_init_7 (fun ad1 E1 => ?_)
  refine s_lv (lv' := [some (.ref (ad1 3 p))]) (by rw [E1 3 p (by omega)] <;> rfl) ?_
  refine s_st (st' := [.ref (ad1 4 p), .ref (ad1 3 p)]) (by rw [E1 3 p (by omega)] <;> rfl) ?_
  refine s_putF (kd := 3) (ix := p) (ci := 1) (v := .ref (ad1 4 p)) (ty := tyX0 0) (fs := [.null, .null, .int 0, .int 0, .int 0])  tyX0 tyX0_ok nmX0 ((sset_k _ _ (by decide)).trans (h3)) rfl in_X0_init_X0 0 (by decide) (by decide +kernel) rfl rfl rfl rfl (tyX0_ok 0 (by decide)) (rfl) (rfl) (Nat.le_of_ble_eq_true rfl) dX0_init_9 ?_
  refine s_M (M' := (sset (sset M 4 p (.inl (gI G, 40, .inl (fun _ => 0)))) 3 p (.inr (1, [.ref (ad1 4 p), .null, .int 0, .int 0, .int 0])))) rfl ?_
  refine s_aload_n dX0_init_12 rfl ?_
  refine s_bipush (v := 40) dX0_init_13 (by decide) ?_
  refine s_newI 5 p ((sset_k _ _ (by decide)).trans ((sset_k _ _ (by decide)).trans h5)) (by decide +kernel) (N' := 40) (by decide) (by decide) (by decide) (Nat.le_of_ble_eq_true rfl) (Nat.le_of_ble_eq_true rfl) dX0_init_15 (fun ad2 E2 => ?_)
  refine s_lv (lv' := [some (.ref (ad2 3 p))]) (by rw [E2 3 p (by omega)] <;> rfl) ?_
  refine s_st (st' := [.ref (ad2 5 p), .ref (ad2 3 p)]) (by rw [E2 3 p (by omega)] <;> rfl) ?_
  refine s_putF (kd := 3) (ix := p) (ci := 1) (v := .ref (ad2 5 p)) (ty := tyX0 1) (fs := [.ref (ad1 4 p), .null, .int 0, .int 0, .int 0])  tyX0 tyX0_ok nmX0 ((sset_k _ _ (by decide)).trans (sset_self _ _ _ _)) rfl in_X0_init_X0 1 (by decide) (by decide +kernel) rfl rfl rfl rfl (tyX0_ok 1 (by decide)) (rfl) (rfl) (Nat.le_of_ble_eq_true rfl) dX0_init_17 ?_
  refine s_M (M' := (sset (sset (sset (sset M 4 p (.inl (gI G, 40, .inl (fun _ => 0)))) 3 p (.inr (1, [.ref (ad1 4 p), .null, .int 0, .int 0, .int 0]))) 5 p (.inl (gI G, 40, .inl (fun _ => 0)))) 3 p (.inr (1, [.ref (ad1 4 p), .ref (ad2 5 p), .int 0, .int 0, .int 0])))) rfl ?_
  exact s_vret rfl dX0_init_20 (Nat.le_of_ble_eq_true rfl) (Nat.le_of_ble_eq_true rfl) (⟨rfl, fun k i hk => (E2 k i (fun q => hk ⟨Or.inr q.1, q.2⟩)).trans (E1 k i (fun q => hk ⟨Or.inl q.1, q.2⟩)), ⟨(sset_self _ _ _ _).trans (by rw [E2 4 p (by omega)]; rfl), (sset_k _ _ (by decide)).trans ((sset_k _ _ (by decide)).trans ((sset_k _ _ (by decide)).trans (sset_self _ _ _ _))), (sset_k _ _ (by decide)).trans (sset_self _ _ _ _)⟩, (((sSame.rfl.set (by simp [pPo]) _).set (by simp [pPo]) _).set (by simp [pPo]) _).set (by simp [pPo]) _⟩)
def pTr (t : Nat) : Nat → Nat → Prop := fun k i => (k = 2 ∨ k = 3 ∨ k = 4 ∨ k = 5) ∧ i = t
abbrev mX2_init : sMeth := (cX2_init, 1, RX2, wsX2_init, { frames := 2, cells := 3, slots := 85, locals := 40 }, none, "<init>", [])
theorem in_X2_init_X0 : ∀ w ∈ wsX00, w ∈ wsX2_init := by decide +kernel
theorem in_X2_init_X2 : ∀ w ∈ wsX20, w ∈ wsX2_init := by decide +kernel
set_option maxHeartbeats 4000000 in
set_option maxRecDepth 100000 in
theorem c_X2_init (G : sG) (l : Launch) (hl : l.stackTraces = false) (ad : sAd) (M : sM) (t : Nat) (h2 : M 2 t = some (.inr (3, [.null, .int 0, .int 0, .int 0, .int 0, .int 0]))) (h3 : M 3 t = none) (h4 : M 4 t = none) (h5 : M 5 t = none) : sMet G l yX2_init mX2_init [.ref (ad 2 t)] ad M (fun r ad' M' => r = none ∧ (∀ k i, ¬ ((k = 3 ∨ k = 4 ∨ k = 5) ∧ i = t) → ad' k i = ad k i) ∧ hPo G ad' M' t pi0 ∧ M' 2 t = some (cTr ad' t (0, 0, 0, 0, 0)) ∧ sSame (pTr t) M M') (fun _ _ _ => False) := by
  refine sMet.of hl (by decide +kernel) rfl rfl rfl rfl (Nat.le_of_ble_eq_true rfl) (fun X => ?_)
  refine s_lv (lv' := [some (.ref (ad 2 t))]) rfl ?_
  refine s_aload_n dX2_init_0 rfl ?_
  refine s_obj (by decide +kernel) (by decide +kernel) (by decide +kernel) dX2_init_1 (Nat.le_of_ble_eq_true rfl) (Nat.le_of_ble_eq_true rfl) ?_
  refine s_aload_n dX2_init_4 rfl ?_
  refine s_newC (ci := 1) (fs := [.null, .null, .int 0, .int 0, .int 0]) 3 t tyX0 tyX0_ok (h3) rfl in_X2_init_X0 (by decide +kernel) (by decide +kernel) (by decide +kernel) (fsX0_ok) (Nat.le_of_ble_eq_true rfl) (Nat.le_of_ble_eq_true rfl) dX2_init_5 (fun ad1 E1 => ?_)
  refine s_lv (lv' := [some (.ref (ad1 2 t))]) (by rw [E1 2 t (by omega)] <;> rfl) ?_
  refine s_st (st' := [.ref (ad1 3 t), .ref (ad1 2 t)]) (by rw [E1 2 t (by omega)] <;> rfl) ?_
  refine s_dup dX2_init_8 rfl ?_
  refine s_callIN (As := []) (rest := [.ref (ad1 3 t), .ref (ad1 2 t)]) (n := 0) (kd := 3) (ix := t) (fun l hl => c_X0_init G l hl ad1 (sset M 3 t (.inr (1, [.null, .null, .int 0, .int 0, .int 0]))) t (sset_self _ _ _ _) ((sset_k _ _ (by decide)).trans h4) ((sset_k _ _ (by decide)).trans h5)) gX2_init_X0_init_n9 rfl (host := "SmallChecker") (by decide +kernel) (by decide +kernel) (by decide +kernel) rfl (by decide +kernel) rfl ⟨(Nat.le_of_ble_eq_true rfl), (Nat.le_of_ble_eq_true rfl)⟩ ⟨(Nat.le_of_ble_eq_true rfl), (Nat.le_of_ble_eq_true rfl)⟩ (Nat.le_of_ble_eq_true rfl) dX2_init_9 rfl (fun r9 ad9 M9 h9 => ?_)
  obtain ⟨rfl, Ea, hp9, hs9⟩ := h9
  refine s_lv (lv' := [some (.ref (ad9 2 t))]) (by rw [Ea 2 t (by omega)] <;> rfl) ?_
  refine s_st (st' := [.ref (ad9 3 t), .ref (ad9 2 t)]) (by rw [Ea 3 t (by omega), Ea 2 t (by omega)] <;> rfl) ?_
  refine s_putF (kd := 2) (ix := t) (ci := 3) (v := .ref (ad9 3 t)) (ty := tyX2 0) (fs := [.null, .int 0, .int 0, .int 0, .int 0, .int 0])  tyX2 tyX2_ok nmX2 ((hs9 2 t (by simp [pPo])).trans ((sset_k _ _ (by decide)).trans (h2))) rfl in_X2_init_X2 0 (by decide) (by decide +kernel) rfl rfl rfl rfl (tyX2_ok 0 (by decide)) (rfl) (rfl) (Nat.le_of_ble_eq_true rfl) dX2_init_12 ?_
  refine s_M (M' := (sset M9 2 t (.inr (3, [.ref (ad9 3 t), .int 0, .int 0, .int 0, .int 0, .int 0])))) rfl ?_
  exact s_vret rfl dX2_init_15 (Nat.le_of_ble_eq_true rfl) (Nat.le_of_ble_eq_true rfl) (⟨rfl, fun k i hk => (Ea k i (fun q => hk ⟨Or.inr q.1, q.2⟩)).trans (E1 k i (fun q => hk ⟨Or.inl q.1, q.2⟩)), hp9.same (sSame.rfl.set (P := fun k _ => k = 2) rfl _) (by decide) (by decide) (by decide), sset_self _ _ _ _, ((sSame.rfl.set (by simp [pTr]) _).trans (hs9.mono (fun k i q => ⟨Or.inr q.1, q.2⟩))).set (by simp [pTr]) _⟩)
