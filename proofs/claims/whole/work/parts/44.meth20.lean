/-! constructors of Sheet and SmallChecker -/
def sh0 : sShe := (fun _ => 0, fun _ => 0, fun _ => 0, 0, false)
theorem sh0_R : ShR sh0 (fun _ => 0) := ⟨fun _ => 0, Nat.zero_le _, fun i hi => absurd hi (Nat.not_lt_zero i), fun _ _ _ => rfl, fun y hy => absurd rfl hy⟩
abbrev mX1_init : sMeth := (cX1_init, 1, RX1, wsX1_init, { frames := 1, cells := 3, slots := 1440, locals := 20 }, none, "<init>", [])
theorem in_X1_init_X1 : ∀ w ∈ wsX10, w ∈ wsX1_init := by decide +kernel
set_option maxHeartbeats 4000000 in
set_option maxRecDepth 100000 in
theorem c_X1_init (G : sG) (l : Launch) (hl : l.stackTraces = false) (ad : sAd) (M : sM) (h1 : M 1 0 = some (.inr (2, [.null, .null, .null, .int 0, .int 0]))) (h9 : M 9 0 = none) (h10 : M 10 0 = none) (h11 : M 11 0 = none) : sMet G l yX1_init mX1_init [.ref (ad 1 0)] ad M (fun r ad' M' => r = none ∧ (∀ k i, ¬ ((k = 9 ∨ k = 10 ∨ k = 11) ∧ i = 0) → ad' k i = ad k i) ∧ hSh G ad' M' sh0 ∧ sSame pSh M M') (fun _ _ _ => False) := by
  refine sMet.of hl (by decide +kernel) rfl rfl rfl rfl (Nat.le_of_ble_eq_true rfl) (fun X => ?_)
  refine s_lv (lv' := [some (.ref (ad 1 0))]) rfl ?_
  refine s_aload_n dX1_init_0 rfl ?_
  refine s_obj (by decide +kernel) (by decide +kernel) (by decide +kernel) dX1_init_1 (Nat.le_of_ble_eq_true rfl) (Nat.le_of_ble_eq_true rfl) ?_
  refine s_aload_n dX1_init_4 rfl ?_
  refine s_sipush (v := 1000) dX1_init_5 (by decide) ?_
  refine s_newI 9 0 (h9) (by decide +kernel) (N' := 1000) (by decide) (by decide) (by decide) (Nat.le_of_ble_eq_true rfl) (Nat.le_of_ble_eq_true rfl) dX1_init_8 (fun ad1 E1 => ?_)
  refine s_lv (lv' := [some (.ref (ad1 1 0))]) (by rw [E1 1 0 (by omega)] <;> rfl) ?_
  refine s_st (st' := [.ref (ad1 9 0), .ref (ad1 1 0)]) (by rw [E1 1 0 (by omega)] <;> rfl) ?_
  refine s_putF (kd := 1) (ix := 0) (ci := 2) (v := .ref (ad1 9 0)) (ty := tyX1 0) (fs := [.null, .null, .null, .int 0, .int 0])  tyX1 tyX1_ok nmX1 ((sset_k _ _ (by decide)).trans (h1)) rfl in_X1_init_X1 0 (by decide) (by decide +kernel) rfl rfl rfl rfl (tyX1_ok 0 (by decide)) (rfl) (rfl) (Nat.le_of_ble_eq_true rfl) dX1_init_10 ?_
  refine s_M (M' := (sset (sset M 9 0 (.inl (gI G, 1000, .inl (fun _ => 0)))) 1 0 (.inr (2, [.ref (ad1 9 0), .null, .null, .int 0, .int 0])))) rfl ?_
  refine s_aload_n dX1_init_13 rfl ?_
  refine s_sipush (v := 220) dX1_init_14 (by decide) ?_
  refine s_newI 10 0 ((sset_k _ _ (by decide)).trans ((sset_k _ _ (by decide)).trans (h10))) (by decide +kernel) (N' := 220) (by decide) (by decide) (by decide) (Nat.le_of_ble_eq_true rfl) (Nat.le_of_ble_eq_true rfl) dX1_init_17 (fun ad2 E2 => ?_)
  refine s_lv (lv' := [some (.ref (ad2 1 0))]) (by rw [E2 1 0 (by omega)] <;> rfl) ?_
  refine s_st (st' := [.ref (ad2 10 0), .ref (ad2 1 0)]) (by rw [E2 1 0 (by omega)] <;> rfl) ?_
  refine s_putF (kd := 1) (ix := 0) (ci := 2) (v := .ref (ad2 10 0)) (ty := tyX1 1) (fs := [.ref (ad1 9 0), .null, .null, .int 0, .int 0])  tyX1 tyX1_ok nmX1 ((sset_k _ _ (by decide)).trans (sset_self _ _ _ _)) rfl in_X1_init_X1 1 (by decide) (by decide +kernel) rfl rfl rfl rfl (tyX1_ok 1 (by decide)) (rfl) (rfl) (Nat.le_of_ble_eq_true rfl) dX1_init_19 ?_
  refine s_M (M' := (sset (sset (sset (sset M 9 0 (.inl (gI G, 1000, .inl (fun _ => 0)))) 1 0 (.inr (2, [.ref (ad1 9 0), .null, .null, .int 0, .int 0]))) 10 0 (.inl (gI G, 220, .inl (fun _ => 0)))) 1 0 (.inr (2, [.ref (ad1 9 0), .ref (ad2 10 0), .null, .int 0, .int 0])))) rfl ?_
  refine s_aload_n dX1_init_22 rfl ?_
  refine s_sipush (v := 220) dX1_init_23 (by decide) ?_
  refine s_newJ 11 0 ((sset_k _ _ (by decide)).trans ((sset_k _ _ (by decide)).trans ((sset_k _ _ (by decide)).trans ((sset_k _ _ (by decide)).trans (h11))))) (by decide +kernel) (N' := 220) (by decide) (by decide) (by decide) (Nat.le_of_ble_eq_true rfl) (Nat.le_of_ble_eq_true rfl) dX1_init_26 (fun ad3 E3 => ?_)
  refine s_lv (lv' := [some (.ref (ad3 1 0))]) (by rw [E3 1 0 (by omega)] <;> rfl) ?_
  refine s_st (st' := [.ref (ad3 11 0), .ref (ad3 1 0)]) (by rw [E3 1 0 (by omega)] <;> rfl) ?_
  refine s_putF (kd := 1) (ix := 0) (ci := 2) (v := .ref (ad3 11 0)) (ty := tyX1 2) (fs := [.ref (ad1 9 0), .ref (ad2 10 0), .null, .int 0, .int 0])  tyX1 tyX1_ok nmX1 ((sset_k _ _ (by decide)).trans (sset_self _ _ _ _)) rfl in_X1_init_X1 2 (by decide) (by decide +kernel) rfl rfl rfl rfl (tyX1_ok 2 (by decide)) (rfl) (rfl) (Nat.le_of_ble_eq_true rfl) dX1_init_28 ?_
  refine s_M (M' := (sset (sset (sset (sset (sset (sset M 9 0 (.inl (gI G, 1000, .inl (fun _ => 0)))) 1 0 (.inr (2, [.ref (ad1 9 0), .null, .null, .int 0, .int 0]))) 10 0 (.inl (gI G, 220, .inl (fun _ => 0)))) 1 0 (.inr (2, [.ref (ad1 9 0), .ref (ad2 10 0), .null, .int 0, .int 0]))) 11 0 (.inl (gJ G, 220, .inr (.inl (fun _ => 0))))) 1 0 (.inr (2, [.ref (ad1 9 0), .ref (ad2 10 0), .ref (ad3 11 0), .int 0, .int 0])))) rfl ?_
  exact s_vret rfl dX1_init_31 (Nat.le_of_ble_eq_true rfl) (Nat.le_of_ble_eq_true rfl) (⟨rfl, fun k i hk => (E3 k i (by omega)).trans ((E2 k i (by omega)).trans (E1 k i (by omega))), ⟨(sset_self _ _ _ _).trans (by rw [E3 9 0 (by omega), E2 9 0 (by omega), E3 10 0 (by omega)]; rfl), ((sset_k _ _ (by decide)).trans ((sset_k _ _ (by decide)).trans ((sset_k _ _ (by decide)).trans ((sset_k _ _ (by decide)).trans ((sset_k _ _ (by decide)).trans (sset_self _ _ _ _)))))), ((sset_k _ _ (by decide)).trans ((sset_k _ _ (by decide)).trans ((sset_k _ _ (by decide)).trans (sset_self _ _ _ _)))), ((sset_k _ _ (by decide)).trans (sset_self _ _ _ _))⟩, (sSame.rfl |>.set (P := pSh) (by simp [pSh]) _ |>.set (P := pSh) (by simp [pSh]) _ |>.set (P := pSh) (by simp [pSh]) _ |>.set (P := pSh) (by simp [pSh]) _ |>.set (P := pSh) (by simp [pSh]) _ |>.set (P := pSh) (by simp [pSh]) _)⟩)
def ka0 : sCk := (0, 0, 0, fun _ => (0, 0, 0, 0, 0), fun _ => pi0, fun _ _ => 0, pi0, sh0)
theorem fsX3_ok : ∀ j, j < 6 → defaultValue (tyX3 j) = vp_V [.null, .null, .null, .null, .int 0, .int 0] j := by decide
abbrev mX3_init : sMeth := (cX3_init, 1, RX3, wsX3_init, { frames := 2, cells := 69, slots := 2190, locals := 40 }, none, "<init>", [])
theorem in_X3_init_X0 : ∀ w ∈ wsX00, w ∈ wsX3_init := by decide +kernel
theorem in_X3_init_X1 : ∀ w ∈ wsX10, w ∈ wsX3_init := by decide +kernel
theorem in_X3_init_X3 : ∀ w ∈ wsX30, w ∈ wsX3_init := by decide +kernel
set_option maxHeartbeats 4000000 in
set_option maxRecDepth 100000 in
theorem c_X3_init (G : sG) (l : Launch) (hl : l.stackTraces = false) (ad : sAd) (M : sM) (h0 : M 0 0 = some (.inr (4, [.null, .null, .null, .null, .int 0, .int 0]))) (hz : ∀ k i, 1 ≤ k → k ≤ 11 → M k i = none) : sMet G l yX3_init mX3_init [.ref (ad 0 0)] ad M (fun r ad' M' => r = none ∧ ad' 0 0 = ad 0 0 ∧ (∀ k i, 12 ≤ k → ad' k i = ad k i) ∧ hCk G ad' M' ka0 ∧ sSame pCk M M') (fun _ _ _ => False) := by
  refine sMet.of hl (by decide +kernel) rfl rfl rfl rfl (Nat.le_of_ble_eq_true rfl) (fun X => ?_)
  refine s_lv (lv' := [some (.ref (ad 0 0))]) rfl ?_
  refine s_aload_n dX3_init_0 rfl ?_
  refine s_obj (by decide +kernel) (by decide +kernel) (by decide +kernel) dX3_init_1 (Nat.le_of_ble_eq_true rfl) (Nat.le_of_ble_eq_true rfl) ?_
  refine s_aload_n dX3_init_4 rfl ?_
  refine s_bipush (v := 120) dX3_init_5 (by decide) ?_
  refine s_newT 7 0 (hz 7 0 (by omega) (by omega)) (by decide +kernel) (N' := 120) (by decide) (by decide) (by decide) (Nat.le_of_ble_eq_true rfl) (Nat.le_of_ble_eq_true rfl) dX3_init_7 (fun ad1 E1 => ?_)
  refine s_lv (lv' := [some (.ref (ad1 0 0))]) (by rw [E1 0 0 (by omega)] <;> rfl) ?_
  refine s_st (st' := [.ref (ad1 7 0), .ref (ad1 0 0)]) (by rw [E1 0 0 (by omega)] <;> rfl) ?_
  refine s_putF (kd := 0) (ix := 0) (ci := 4) (v := .ref (ad1 7 0)) (ty := tyX3 0) (fs := [.null, .null, .null, .null, .int 0, .int 0])  tyX3 tyX3_ok nmX3 ((sset_k _ _ (by decide)).trans (h0)) rfl in_X3_init_X3 0 (by decide) (by decide +kernel) rfl rfl rfl rfl (tyX3_ok 0 (by decide)) (rfl) (rfl) (Nat.le_of_ble_eq_true rfl) dX3_init_10 ?_
  refine s_M (M' := (sset (sset M 7 0 (.inl (gT G, 120, .inr (.inr (.inr (.inr (fun _ => none))))))) 0 0 (.inr (4, [.ref (ad1 7 0), .null, .null, .null, .int 0, .int 0])))) rfl ?_
  refine s_aload_n dX3_init_13 rfl ?_
  refine s_bipush (v := 60) dX3_init_14 (by decide) ?_
  refine s_bipush (v := 8) dX3_init_16 (by decide) ?_
  refine s_mna ((sset_k _ _ (by decide)).trans ((sset_k _ _ (by decide)).trans (hz 8 0 (by omega) (by omega)))) (fun i hi => (sset_k _ _ (by decide)).trans ((sset_k _ _ (by decide)).trans (hz 6 i (by omega) (by omega)))) (by decide +kernel) (by decide +kernel) (Nat.le_of_ble_eq_true rfl) (Nat.le_of_ble_eq_true rfl) dX3_init_18 (fun ad2 M2 E2 Q2 m8 m6 => ?_)
  refine s_lv (lv' := [some (.ref (ad2 0 0))]) (by rw [E2 0 0 (by omega) (by omega)] <;> rfl) ?_
  refine s_st (st' := [.ref (ad2 8 0), .ref (ad2 0 0)]) (by rw [E2 0 0 (by omega) (by omega)] <;> rfl) ?_
  refine s_putF (kd := 0) (ix := 0) (ci := 4) (v := .ref (ad2 8 0)) (ty := tyX3 1) (fs := [.ref (ad1 7 0), .null, .null, .null, .int 0, .int 0])  tyX3 tyX3_ok nmX3 ((Q2 0 0 (by omega) (by omega)).trans (sset_self _ _ _ _)) rfl in_X3_init_X3 1 (by decide) (by decide +kernel) rfl rfl rfl rfl (tyX3_ok 1 (by decide)) (rfl) (rfl) (Nat.le_of_ble_eq_true rfl) dX3_init_22 ?_
  refine s_M (M' := (sset M2 0 0 (.inr (4, [.ref (ad1 7 0), .ref (ad2 8 0), .null, .null, .int 0, .int 0])))) rfl ?_
  refine s_aload_n dX3_init_25 rfl ?_
  refine s_newC (ci := 2) (fs := [.null, .null, .null, .int 0, .int 0]) 1 0 tyX1 tyX1_ok ((sset_k _ _ (by decide)).trans ((Q2 1 0 (by omega) (by omega)).trans ((sset_k _ _ (by decide)).trans ((sset_k _ _ (by decide)).trans (hz 1 0 (by omega) (by omega)))))) rfl in_X3_init_X1 (by decide +kernel) (by decide +kernel) (by decide +kernel) (fsX1_ok) (Nat.le_of_ble_eq_true rfl) (Nat.le_of_ble_eq_true rfl) dX3_init_26 (fun ad3 E3 => ?_)
  refine s_lv (lv' := [some (.ref (ad3 0 0))]) (by rw [E3 0 0 (by omega)] <;> rfl) ?_
  refine s_st (st' := [.ref (ad3 1 0), .ref (ad3 0 0)]) (by rw [E3 0 0 (by omega)] <;> rfl) ?_
  refine s_dup dX3_init_29 rfl ?_
  refine s_callIN (As := []) (rest := [.ref (ad3 1 0), .ref (ad3 0 0)]) (n := 0) (kd := 1) (ix := 0) (fun l hl => c_X1_init G l hl ad3 (sset (sset M2 0 0 (.inr (4, [.ref (ad1 7 0), .ref (ad2 8 0), .null, .null, .int 0, .int 0]))) 1 0 (.inr (2, [.null, .null, .null, .int 0, .int 0]))) (sset_self _ _ _ _) ((sset_k _ _ (by decide)).trans ((sset_k _ _ (by decide)).trans ((Q2 9 0 (by omega) (by omega)).trans ((sset_k _ _ (by decide)).trans ((sset_k _ _ (by decide)).trans (hz 9 0 (by omega) (by omega))))))) ((sset_k _ _ (by decide)).trans ((sset_k _ _ (by decide)).trans ((Q2 10 0 (by omega) (by omega)).trans ((sset_k _ _ (by decide)).trans ((sset_k _ _ (by decide)).trans (hz 10 0 (by omega) (by omega))))))) ((sset_k _ _ (by decide)).trans ((sset_k _ _ (by decide)).trans ((Q2 11 0 (by omega) (by omega)).trans ((sset_k _ _ (by decide)).trans ((sset_k _ _ (by decide)).trans (hz 11 0 (by omega) (by omega)))))))) gX3_init_X1_init_n22 rfl (host := "SmallChecker") (by decide +kernel) (by decide +kernel) (by decide +kernel) rfl (by decide +kernel) rfl ⟨(Nat.le_of_ble_eq_true rfl), (Nat.le_of_ble_eq_true rfl)⟩ ⟨(Nat.le_of_ble_eq_true rfl), (Nat.le_of_ble_eq_true rfl)⟩ (Nat.le_of_ble_eq_true rfl) dX3_init_30 rfl (fun r9 ad9 M9 h9 => ?_)
  obtain ⟨rfl, F9, hp9, hs9⟩ := h9
  refine s_lv (lv' := [some (.ref (ad9 0 0))]) (by rw [F9 0 0 (by omega)] <;> rfl) ?_
  refine s_st (st' := [.ref (ad9 1 0), .ref (ad9 0 0)]) (by rw [F9 1 0 (by omega), F9 0 0 (by omega)] <;> rfl) ?_
  refine s_putF (kd := 0) (ix := 0) (ci := 4) (v := .ref (ad9 1 0)) (ty := tyX3 2) (fs := [.ref (ad1 7 0), .ref (ad2 8 0), .null, .null, .int 0, .int 0])  tyX3 tyX3_ok nmX3 ((hs9 0 0 (by simp [pSh])).trans ((sset_k _ _ (by decide)).trans (sset_self _ _ _ _))) rfl in_X3_init_X3 2 (by decide) (by decide +kernel) rfl rfl rfl rfl (tyX3_ok 2 (by decide)) (rfl) (rfl) (Nat.le_of_ble_eq_true rfl) dX3_init_33 ?_
  refine s_M (M' := (sset M9 0 0 (.inr (4, [.ref (ad1 7 0), .ref (ad2 8 0), .ref (ad9 1 0), .null, .int 0, .int 0])))) rfl ?_
  refine s_aload_n dX3_init_36 rfl ?_
  refine s_newC (ci := 1) (fs := [.null, .null, .int 0, .int 0, .int 0]) 3 120 tyX0 tyX0_ok ((sset_k _ _ (by decide)).trans ((hs9 3 120 (by simp [pSh])).trans ((sset_k _ _ (by decide)).trans ((sset_k _ _ (by decide)).trans ((Q2 3 120 (by omega) (by omega)).trans ((sset_k _ _ (by decide)).trans ((sset_k _ _ (by decide)).trans (hz 3 120 (by omega) (by omega))))))))) rfl in_X3_init_X0 (by decide +kernel) (by decide +kernel) (by decide +kernel) (fsX0_ok) (Nat.le_of_ble_eq_true rfl) (Nat.le_of_ble_eq_true rfl) dX3_init_37 (fun ad4 E4 => ?_)
  refine s_lv (lv' := [some (.ref (ad4 0 0))]) (by rw [E4 0 0 (by omega)] <;> rfl) ?_
  refine s_st (st' := [.ref (ad4 3 120), .ref (ad4 0 0)]) (by rw [E4 0 0 (by omega)] <;> rfl) ?_
  refine s_dup dX3_init_40 rfl ?_
  refine s_callIN (As := []) (rest := [.ref (ad4 3 120), .ref (ad4 0 0)]) (n := 0) (kd := 3) (ix := 120) (fun l hl => c_X0_init G l hl ad4 (sset (sset M9 0 0 (.inr (4, [.ref (ad1 7 0), .ref (ad2 8 0), .ref (ad9 1 0), .null, .int 0, .int 0]))) 3 120 (.inr (1, [.null, .null, .int 0, .int 0, .int 0]))) 120 (sset_self _ _ _ _) ((sset_k _ _ (by decide)).trans ((sset_k _ _ (by decide)).trans ((hs9 4 120 (by simp [pSh])).trans ((sset_k _ _ (by decide)).trans ((sset_k _ _ (by decide)).trans ((Q2 4 120 (by omega) (by omega)).trans ((sset_k _ _ (by decide)).trans ((sset_k _ _ (by decide)).trans (hz 4 120 (by omega) (by omega)))))))))) ((sset_k _ _ (by decide)).trans ((sset_k _ _ (by decide)).trans ((hs9 5 120 (by simp [pSh])).trans ((sset_k _ _ (by decide)).trans ((sset_k _ _ (by decide)).trans ((Q2 5 120 (by omega) (by omega)).trans ((sset_k _ _ (by decide)).trans ((sset_k _ _ (by decide)).trans (hz 5 120 (by omega) (by omega))))))))))) gX3_init_X0_init_n29 rfl (host := "SmallChecker") (by decide +kernel) (by decide +kernel) (by decide +kernel) rfl (by decide +kernel) rfl ⟨(Nat.le_of_ble_eq_true rfl), (Nat.le_of_ble_eq_true rfl)⟩ ⟨(Nat.le_of_ble_eq_true rfl), (Nat.le_of_ble_eq_true rfl)⟩ (Nat.le_of_ble_eq_true rfl) dX3_init_41 rfl (fun r10 ad10 M10 h10 => ?_)
  obtain ⟨rfl, F10, hp10, hs10⟩ := h10
  refine s_lv (lv' := [some (.ref (ad10 0 0))]) (by rw [F10 0 0 (by omega)] <;> rfl) ?_
  refine s_st (st' := [.ref (ad10 3 120), .ref (ad10 0 0)]) (by rw [F10 3 120 (by omega), F10 0 0 (by omega)] <;> rfl) ?_
  refine s_putF (kd := 0) (ix := 0) (ci := 4) (v := .ref (ad10 3 120)) (ty := tyX3 3) (fs := [.ref (ad1 7 0), .ref (ad2 8 0), .ref (ad9 1 0), .null, .int 0, .int 0])  tyX3 tyX3_ok nmX3 ((hs10 0 0 (by simp [pPo])).trans ((sset_k _ _ (by decide)).trans (sset_self _ _ _ _))) rfl in_X3_init_X3 3 (by decide) (by decide +kernel) rfl rfl rfl rfl (tyX3_ok 3 (by decide)) (rfl) (rfl) (Nat.le_of_ble_eq_true rfl) dX3_init_44 ?_
  refine s_M (M' := (sset M10 0 0 (.inr (4, [.ref (ad1 7 0), .ref (ad2 8 0), .ref (ad9 1 0), .ref (ad10 3 120), .int 0, .int 0])))) rfl ?_
  refine s_aload_n dX3_init_47 rfl ?_
  refine s_iconst (v := 0) dX3_init_48 (by decide) ?_
  refine s_put (kd := 0) (ix := 0) (ci := 4) (v := .int 0) (ty := tyX3 4) (fs := [.ref (ad1 7 0), .ref (ad2 8 0), .ref (ad9 1 0), .ref (ad10 3 120), .int 0, .int 0])  tyX3 tyX3_ok nmX3 (sset_self _ _ _ _) rfl in_X3_init_X3 4 (by decide) (by decide +kernel) rfl rfl (tyX3_ok 4 (by decide)) (rfl) (rfl) (Nat.le_of_ble_eq_true rfl) dX3_init_49 ?_
  refine s_M (M' := (sset (sset M10 0 0 (.inr (4, [.ref (ad1 7 0), .ref (ad2 8 0), .ref (ad9 1 0), .ref (ad10 3 120), .int 0, .int 0]))) 0 0 (.inr (4, [.ref (ad1 7 0), .ref (ad2 8 0), .ref (ad9 1 0), .ref (ad10 3 120), .int 0, .int 0])))) rfl ?_
  refine s_aload_n dX3_init_52 rfl ?_
  refine s_iconst (v := 0) dX3_init_53 (by decide) ?_
  refine s_put (kd := 0) (ix := 0) (ci := 4) (v := .int 0) (ty := tyX3 5) (fs := [.ref (ad1 7 0), .ref (ad2 8 0), .ref (ad9 1 0), .ref (ad10 3 120), .int 0, .int 0])  tyX3 tyX3_ok nmX3 (sset_self _ _ _ _) rfl in_X3_init_X3 5 (by decide) (by decide +kernel) rfl rfl (tyX3_ok 5 (by decide)) (rfl) (rfl) (Nat.le_of_ble_eq_true rfl) dX3_init_54 ?_
  refine s_M (M' := (sset (sset (sset M10 0 0 (.inr (4, [.ref (ad1 7 0), .ref (ad2 8 0), .ref (ad9 1 0), .ref (ad10 3 120), .int 0, .int 0]))) 0 0 (.inr (4, [.ref (ad1 7 0), .ref (ad2 8 0), .ref (ad9 1 0), .ref (ad10 3 120), .int 0, .int 0]))) 0 0 (.inr (4, [.ref (ad1 7 0), .ref (ad2 8 0), .ref (ad9 1 0), .ref (ad10 3 120), .int 0, .int 0])))) rfl ?_
  have hE : ∀ k i, ¬ (k = 8 ∧ i = 0) → ¬ (k = 6 ∧ i < 60) → ¬ (k = 7 ∧ i = 0) → ¬ (k = 1 ∧ i = 0) → ¬ ((k = 9 ∨ k = 10 ∨ k = 11) ∧ i = 0) → ¬ ((k = 3 ∨ k = 4 ∨ k = 5) ∧ i = 120) → ad10 k i = ad k i := fun k i q1 q2 q3 q4 q5 q6 => (F10 k i (by omega)).trans ((E4 k i (by omega)).trans ((F9 k i (by omega)).trans ((E3 k i (by omega)).trans ((E2 k i q1 q2).trans (E1 k i (by omega))))))
  have e10 : ∀ k i, ¬ ((k = 9 ∨ k = 10 ∨ k = 11) ∧ i = 0) → ¬ (k = 1 ∧ i = 0) → ¬ ((k = 3 ∨ k = 4 ∨ k = 5) ∧ i = 120) → ad10 k i = ad2 k i := fun k i q1 q2 q3 => (F10 k i (by omega)).trans ((E4 k i (by omega)).trans ((F9 k i (by omega)).trans (E3 k i (by omega))))
  have e9 : ∀ k i, ¬ ((k = 3 ∨ k = 4 ∨ k = 5) ∧ i = 120) → ad10 k i = ad9 k i := fun k i q3 => (F10 k i (by omega)).trans (E4 k i (by omega))
  have hfin : none = (none : Option Value) ∧ ad10 0 0 = ad 0 0 ∧ (∀ k i, 12 ≤ k → ad10 k i = ad k i) ∧ hCk G ad10 (sset (sset (sset M10 0 0 (.inr (4, [.ref (ad1 7 0), .ref (ad2 8 0), .ref (ad9 1 0), .ref (ad10 3 120), .int 0, .int 0]))) 0 0 (.inr (4, [.ref (ad1 7 0), .ref (ad2 8 0), .ref (ad9 1 0), .ref (ad10 3 120), .int 0, .int 0]))) 0 0 (.inr (4, [.ref (ad1 7 0), .ref (ad2 8 0), .ref (ad9 1 0), .ref (ad10 3 120), .int 0, .int 0]))) ka0 ∧ sSame pCk M (sset (sset (sset M10 0 0 (.inr (4, [.ref (ad1 7 0), .ref (ad2 8 0), .ref (ad9 1 0), .ref (ad10 3 120), .int 0, .int 0]))) 0 0 (.inr (4, [.ref (ad1 7 0), .ref (ad2 8 0), .ref (ad9 1 0), .ref (ad10 3 120), .int 0, .int 0]))) 0 0 (.inr (4, [.ref (ad1 7 0), .ref (ad2 8 0), .ref (ad9 1 0), .ref (ad10 3 120), .int 0, .int 0]))) := by
    refine ⟨rfl, hE 0 0 (by omega) (by omega) (by omega) (by omega) (by omega) (by omega), fun k i hk => hE k i (by omega) (by omega) (by omega) (by omega) (by omega) (by omega), ⟨?_, ?_, ?_, fun i hi => ?_, fun i hi => absurd hi (Nat.not_lt_zero i), fun i hi => absurd hi (Nat.not_lt_zero i), ?_, ?_, fun i _ hi => ⟨?_, ?_, ?_, ?_⟩⟩, ?_⟩
    · refine (sset_self _ _ _ _).trans ?_
      unfold cCk
      rw [e10 7 0 (by omega) (by omega) (by omega), e10 8 0 (by omega) (by omega) (by omega), e9 1 0 (by omega), F9 1 0 (by omega), E2 7 0 (by omega) (by omega), F10 3 120 (by omega)]
      rfl
    · refine ((sset_k _ _ (by decide)).trans ((sset_k _ _ (by decide)).trans ((sset_k _ _ (by decide)).trans ((hs10 7 0 (by simp [pPo])).trans ((sset_k _ _ (by decide)).trans ((sset_k _ _ (by decide)).trans ((hs9 7 0 (by simp [pSh])).trans ((sset_k _ _ (by decide)).trans ((sset_k _ _ (by decide)).trans ((Q2 7 0 (by omega) (by omega)).trans ((sset_k _ _ (by decide)).trans (sset_self _ _ _ _)))))))))))).trans ?_
      have e7 : (fun _ => none : Nat → Option Nat) = fTs ad10 0 := by
        funext i
        exact (if_neg (Nat.not_lt_zero i)).symm
      rw [e7]
      rfl
    · refine ((sset_k _ _ (by decide)).trans ((sset_k _ _ (by decide)).trans ((sset_k _ _ (by decide)).trans ((hs10 8 0 (by simp [pPo])).trans ((sset_k _ _ (by decide)).trans ((sset_k _ _ (by decide)).trans ((hs9 8 0 (by simp [pSh])).trans ((sset_k _ _ (by decide)).trans ((sset_k _ _ (by decide)).trans (m8)))))))))).trans ?_
      have e8 : fRs ad2 = fRs ad10 := by
        funext i
        unfold fRs
        rw [e10 6 i (by omega) (by omega) (by omega)]
      rw [e8]
    · exact (sset_k _ _ (by decide)).trans ((sset_k _ _ (by decide)).trans ((sset_k _ _ (by decide)).trans ((hs10 6 i (by simp [pPo])).trans ((sset_k _ _ (by decide)).trans ((sset_k _ _ (by decide)).trans ((hs9 6 i (by simp [pSh])).trans ((sset_k _ _ (by decide)).trans ((sset_k _ _ (by decide)).trans (m6 i hi)))))))))
    · exact hp10.same (P := fun k _ => k = 0) (sSame.rfl |>.set (P := fun k _ => k = 0) rfl _ |>.set (P := fun k _ => k = 0) rfl _ |>.set (P := fun k _ => k = 0) rfl _) (by decide) (by decide) (by decide)
    · have z := hp9.same (M' := (sset (sset (sset M10 0 0 (.inr (4, [.ref (ad1 7 0), .ref (ad2 8 0), .ref (ad9 1 0), .ref (ad10 3 120), .int 0, .int 0]))) 0 0 (.inr (4, [.ref (ad1 7 0), .ref (ad2 8 0), .ref (ad9 1 0), .ref (ad10 3 120), .int 0, .int 0]))) 0 0 (.inr (4, [.ref (ad1 7 0), .ref (ad2 8 0), .ref (ad9 1 0), .ref (ad10 3 120), .int 0, .int 0])))) (P := fun k i => k = 0 ∨ k = 3 ∨ k = 4 ∨ k = 5) (((sSame.rfl.set (P := fun k i => k = 0 ∨ k = 3 ∨ k = 4 ∨ k = 5) (Or.inl rfl) _).set (Or.inr (Or.inl rfl)) _).trans (hs10.mono (fun k i q => Or.inr q.1)) |>.set (P := fun k i => k = 0 ∨ k = 3 ∨ k = 4 ∨ k = 5) (Or.inl rfl) _ |>.set (P := fun k i => k = 0 ∨ k = 3 ∨ k = 4 ∨ k = 5) (Or.inl rfl) _ |>.set (P := fun k i => k = 0 ∨ k = 3 ∨ k = 4 ∨ k = 5) (Or.inl rfl) _) (by decide) (by decide) (by decide) (by decide)
      refine ⟨z.1.trans ?_, z.2.1, z.2.2.1, z.2.2.2⟩
      rw [e9 9 0 (by omega), e9 10 0 (by omega), e9 11 0 (by omega)]
      rfl
    · exact (sset_k _ _ (by decide)).trans ((sset_k _ _ (by decide)).trans ((sset_k _ _ (by decide)).trans ((hs10 2 i (by simp only [pPo]; omega)).trans ((sset_k _ _ (by decide)).trans ((sset_k _ _ (by decide)).trans ((hs9 2 i (by simp [pSh])).trans ((sset_k _ _ (by decide)).trans ((sset_k _ _ (by decide)).trans ((Q2 2 i (by omega) (by omega)).trans ((sset_k _ _ (by decide)).trans ((sset_k _ _ (by decide)).trans (hz 2 i (by omega) (by omega)))))))))))))
    · exact (sset_k _ _ (by decide)).trans ((sset_k _ _ (by decide)).trans ((sset_k _ _ (by decide)).trans ((hs10 3 i (by simp only [pPo]; omega)).trans ((sset_i _ _ (by omega)).trans ((sset_k _ _ (by decide)).trans ((hs9 3 i (by simp [pSh])).trans ((sset_k _ _ (by decide)).trans ((sset_k _ _ (by decide)).trans ((Q2 3 i (by omega) (by omega)).trans ((sset_k _ _ (by decide)).trans ((sset_k _ _ (by decide)).trans (hz 3 i (by omega) (by omega)))))))))))))
    · exact (sset_k _ _ (by decide)).trans ((sset_k _ _ (by decide)).trans ((sset_k _ _ (by decide)).trans ((hs10 4 i (by simp only [pPo]; omega)).trans ((sset_k _ _ (by decide)).trans ((sset_k _ _ (by decide)).trans ((hs9 4 i (by simp [pSh])).trans ((sset_k _ _ (by decide)).trans ((sset_k _ _ (by decide)).trans ((Q2 4 i (by omega) (by omega)).trans ((sset_k _ _ (by decide)).trans ((sset_k _ _ (by decide)).trans (hz 4 i (by omega) (by omega)))))))))))))
    · exact (sset_k _ _ (by decide)).trans ((sset_k _ _ (by decide)).trans ((sset_k _ _ (by decide)).trans ((hs10 5 i (by simp only [pPo]; omega)).trans ((sset_k _ _ (by decide)).trans ((sset_k _ _ (by decide)).trans ((hs9 5 i (by simp [pSh])).trans ((sset_k _ _ (by decide)).trans ((sset_k _ _ (by decide)).trans ((Q2 5 i (by omega) (by omega)).trans ((sset_k _ _ (by decide)).trans ((sset_k _ _ (by decide)).trans (hz 5 i (by omega) (by omega)))))))))))))
    · intro k i hk
      have hk' : ¬ k ≤ 11 := hk
      exact (sset_k _ _ (by omega)).trans ((sset_k _ _ (by omega)).trans ((sset_k _ _ (by omega)).trans ((hs10 k i (by simp only [pPo]; omega)).trans ((sset_k _ _ (by omega)).trans ((sset_k _ _ (by omega)).trans ((hs9 k i (by simp only [pSh]; omega)).trans ((sset_k _ _ (by omega)).trans ((sset_k _ _ (by omega)).trans ((Q2 k i (by omega) (by omega)).trans ((sset_k _ _ (by omega)).trans (sset_k _ _ (by omega))))))))))))
  exact s_vret rfl dX3_init_57 (Nat.le_of_ble_eq_true rfl) (Nat.le_of_ble_eq_true rfl) (hfin)
