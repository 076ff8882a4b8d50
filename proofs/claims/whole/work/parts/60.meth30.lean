/-! add, leaf, number, node of the reference -/
abbrev mX4_add : sMeth := (cX4_add, 5, RX4, wsX4_add, { frames := 5, cells := 0, slots := 0, locals := 123 }, (some .int), "add", [])
theorem in_X4_add_X4 : ∀ w ∈ wsX40, w ∈ wsX4_add := by decide +kernel
set_option maxHeartbeats 4000000 in
set_option maxRecDepth 100000 in
theorem c_X4_addL (G : sG) (l : Launch) (hl : l.stackTraces = false) (ad : sAd) (M : sM) (c0 : Int32) (t0 : Nat) (hd : Nat → Int32) (on : Nat → Int32) (tw : Nat → Int32) (dp : Nat → Int32) (cl : Nat → Int32) (gr : Nat → Int32) (r0 : Nat) (kd : Nat → Int32) (fl : Nat → Int32) (co : Nat → Int32) (sm : Nat → Int32) (wk : Nat → Int64) (sp : Nat → Int64) (b0 : Bool) (mu : Nat → Int32) (hm : hMd G ad M (c0, t0, hd, on, tw, dp, cl, gr, r0, kd, fl, co, sm, wk, sp, b0, mu)) (α : sAl) (hA : AI α) (hI : RI α (c0, t0, hd, on, tw, dp, cl, gr, r0, kd, fl, co, sm, wk, sp, b0, mu)) (hc : c0 = nI 0) (hT1 : aT α < 120) (lt m : Nat) (hl2 : lt ≤ 2) (x : Int32) (hx : x = nI lt) : sMet G l yX4_add mX4_add [.ref (ad 12 0), .int (-1), .int x, .int (-1), .int 0] ad M (mPost G ad M 0 (nI (aT α)) (addT α (-1, x, -1, 0, m) False (one1 (kl3 lt) 1))) (fun _ _ _ => False) := by
  obtain ⟨i1, i2, i3, i4⟩ := id hI
  have hT := hA.1
  have hR60 := hA.2.1
  have ht1 : t0 < 120 := by omega
  refine sMet.of hl (by decide +kernel) rfl rfl rfl rfl (Nat.le_of_ble_eq_true rfl) (fun X => ?_)
  refine s_lv (lv' := [some (.ref (ad 12 0)), some (.int (-1)), some (.int x), some (.int (-1)), some (.int 0)]) rfl ?_
  refine s_aload_n dX4_add_0 rfl ?_
  refine s_get (kd := 12) (ix := 0) (ci := 5) (fs := [.int c0, .int (nI t0), .ref (ad 13 0), .ref (ad 14 0), .ref (ad 15 0), .ref (ad 16 0), .ref (ad 17 0), .ref (ad 18 0), .int (nI r0), .ref (ad 19 0), .ref (ad 20 0), .ref (ad 21 0), .ref (ad 22 0), .ref (ad 23 0), .ref (ad 24 0), .int (jB b0), .ref (ad 25 0)])  hm.1 rfl in_X4_add_X4 2 (by decide) (by decide +kernel) rfl rfl dX4_add_1 ?_
  refine s_aload_n dX4_add_4 rfl ?_
  refine s_get (kd := 12) (ix := 0) (ci := 5) (fs := [.int c0, .int (nI t0), .ref (ad 13 0), .ref (ad 14 0), .ref (ad 15 0), .ref (ad 16 0), .ref (ad 17 0), .ref (ad 18 0), .int (nI r0), .ref (ad 19 0), .ref (ad 20 0), .ref (ad 21 0), .ref (ad 22 0), .ref (ad 23 0), .ref (ad 24 0), .int (jB b0), .ref (ad 25 0)])  hm.1 rfl in_X4_add_X4 1 (by decide) (by decide +kernel) rfl rfl dX4_add_5 ?_
  refine s_iload_n dX4_add_8 rfl ?_
  refine s_iast (kd := 13) (ix := 0) (n := 120) (f := hd) (j := t0) (x := (-1)) hm.2.1  (rfl) (by omega) (by decide) dX4_add_9 ?_
  refine s_aload_n dX4_add_10 rfl ?_
  refine s_get (kd := 12) (ix := 0) (ci := 5) (fs := [.int c0, .int (nI t0), .ref (ad 13 0), .ref (ad 14 0), .ref (ad 15 0), .ref (ad 16 0), .ref (ad 17 0), .ref (ad 18 0), .int (nI r0), .ref (ad 19 0), .ref (ad 20 0), .ref (ad 21 0), .ref (ad 22 0), .ref (ad 23 0), .ref (ad 24 0), .int (jB b0), .ref (ad 25 0)])  ((sset_k _ _ (by decide)).trans (hm.1)) rfl in_X4_add_X4 3 (by decide) (by decide +kernel) rfl rfl dX4_add_11 ?_
  refine s_aload_n dX4_add_14 rfl ?_
  refine s_get (kd := 12) (ix := 0) (ci := 5) (fs := [.int c0, .int (nI t0), .ref (ad 13 0), .ref (ad 14 0), .ref (ad 15 0), .ref (ad 16 0), .ref (ad 17 0), .ref (ad 18 0), .int (nI r0), .ref (ad 19 0), .ref (ad 20 0), .ref (ad 21 0), .ref (ad 22 0), .ref (ad 23 0), .ref (ad 24 0), .int (jB b0), .ref (ad 25 0)])  ((sset_k _ _ (by decide)).trans (hm.1)) rfl in_X4_add_X4 1 (by decide) (by decide +kernel) rfl rfl dX4_add_15 ?_
  refine s_iload_n dX4_add_18 rfl ?_
  refine s_iast (kd := 14) (ix := 0) (n := 120) (f := on) (j := t0) (x := x) ((sset_k _ _ (by decide)).trans (hm.2.2.1))  (rfl) (by omega) (by decide) dX4_add_19 ?_
  refine s_aload_n dX4_add_20 rfl ?_
  refine s_get (kd := 12) (ix := 0) (ci := 5) (fs := [.int c0, .int (nI t0), .ref (ad 13 0), .ref (ad 14 0), .ref (ad 15 0), .ref (ad 16 0), .ref (ad 17 0), .ref (ad 18 0), .int (nI r0), .ref (ad 19 0), .ref (ad 20 0), .ref (ad 21 0), .ref (ad 22 0), .ref (ad 23 0), .ref (ad 24 0), .int (jB b0), .ref (ad 25 0)])  ((sset_k _ _ (by decide)).trans ((sset_k _ _ (by decide)).trans (hm.1))) rfl in_X4_add_X4 4 (by decide) (by decide +kernel) rfl rfl dX4_add_21 ?_
  refine s_aload_n dX4_add_24 rfl ?_
  refine s_get (kd := 12) (ix := 0) (ci := 5) (fs := [.int c0, .int (nI t0), .ref (ad 13 0), .ref (ad 14 0), .ref (ad 15 0), .ref (ad 16 0), .ref (ad 17 0), .ref (ad 18 0), .int (nI r0), .ref (ad 19 0), .ref (ad 20 0), .ref (ad 21 0), .ref (ad 22 0), .ref (ad 23 0), .ref (ad 24 0), .int (jB b0), .ref (ad 25 0)])  ((sset_k _ _ (by decide)).trans ((sset_k _ _ (by decide)).trans (hm.1))) rfl in_X4_add_X4 1 (by decide) (by decide +kernel) rfl rfl dX4_add_25 ?_
  refine s_iload_n dX4_add_28 rfl ?_
  refine s_iast (kd := 15) (ix := 0) (n := 120) (f := tw) (j := t0) (x := (-1)) ((sset_k _ _ (by decide)).trans ((sset_k _ _ (by decide)).trans (hm.2.2.2.1)))  (rfl) (by omega) (by decide) dX4_add_29 ?_
  refine s_aload_n dX4_add_30 rfl ?_
  refine s_get (kd := 12) (ix := 0) (ci := 5) (fs := [.int c0, .int (nI t0), .ref (ad 13 0), .ref (ad 14 0), .ref (ad 15 0), .ref (ad 16 0), .ref (ad 17 0), .ref (ad 18 0), .int (nI r0), .ref (ad 19 0), .ref (ad 20 0), .ref (ad 21 0), .ref (ad 22 0), .ref (ad 23 0), .ref (ad 24 0), .int (jB b0), .ref (ad 25 0)])  ((sset_k _ _ (by decide)).trans ((sset_k _ _ (by decide)).trans ((sset_k _ _ (by decide)).trans (hm.1)))) rfl in_X4_add_X4 5 (by decide) (by decide +kernel) rfl rfl dX4_add_31 ?_
  refine s_aload_n dX4_add_34 rfl ?_
  refine s_get (kd := 12) (ix := 0) (ci := 5) (fs := [.int c0, .int (nI t0), .ref (ad 13 0), .ref (ad 14 0), .ref (ad 15 0), .ref (ad 16 0), .ref (ad 17 0), .ref (ad 18 0), .int (nI r0), .ref (ad 19 0), .ref (ad 20 0), .ref (ad 21 0), .ref (ad 22 0), .ref (ad 23 0), .ref (ad 24 0), .int (jB b0), .ref (ad 25 0)])  ((sset_k _ _ (by decide)).trans ((sset_k _ _ (by decide)).trans ((sset_k _ _ (by decide)).trans (hm.1)))) rfl in_X4_add_X4 1 (by decide) (by decide +kernel) rfl rfl dX4_add_35 ?_
  refine s_iload dX4_add_38 rfl ?_
  refine s_iast (kd := 16) (ix := 0) (n := 120) (f := dp) (j := t0) (x := 0) ((sset_k _ _ (by decide)).trans ((sset_k _ _ (by decide)).trans ((sset_k _ _ (by decide)).trans (hm.2.2.2.2.1))))  (rfl) (by omega) (by decide) dX4_add_40 ?_
  refine s_aload_n dX4_add_41 rfl ?_
  refine s_dup dX4_add_42 rfl ?_
  refine s_get (kd := 12) (ix := 0) (ci := 5) (fs := [.int c0, .int (nI t0), .ref (ad 13 0), .ref (ad 14 0), .ref (ad 15 0), .ref (ad 16 0), .ref (ad 17 0), .ref (ad 18 0), .int (nI r0), .ref (ad 19 0), .ref (ad 20 0), .ref (ad 21 0), .ref (ad 22 0), .ref (ad 23 0), .ref (ad 24 0), .int (jB b0), .ref (ad 25 0)])  ((sset_k _ _ (by decide)).trans ((sset_k _ _ (by decide)).trans ((sset_k _ _ (by decide)).trans ((sset_k _ _ (by decide)).trans (hm.1))))) rfl in_X4_add_X4 1 (by decide) (by decide +kernel) rfl rfl dX4_add_43 ?_
  refine s_iconst (v := 1) dX4_add_46 (by decide) ?_
  refine s_iadd dX4_add_47 ?_
  refine s_eqi (y := nI (t0 + 1)) (nI_1 _) ?_
  refine s_put (kd := 12) (ix := 0) (ci := 5) (v := .int (nI (t0 + 1))) (ty := tyX4 1) (fs := [.int c0, .int (nI t0), .ref (ad 13 0), .ref (ad 14 0), .ref (ad 15 0), .ref (ad 16 0), .ref (ad 17 0), .ref (ad 18 0), .int (nI r0), .ref (ad 19 0), .ref (ad 20 0), .ref (ad 21 0), .ref (ad 22 0), .ref (ad 23 0), .ref (ad 24 0), .int (jB b0), .ref (ad 25 0)])  tyX4 tyX4_ok nmX4 ((sset_k _ _ (by decide)).trans ((sset_k _ _ (by decide)).trans ((sset_k _ _ (by decide)).trans ((sset_k _ _ (by decide)).trans (hm.1))))) rfl in_X4_add_X4 1 (by decide) (by decide +kernel) rfl rfl (tyX4_ok 1 (by decide)) (rfl) (rfl) (Nat.le_of_ble_eq_true rfl) dX4_add_48 ?_
  refine s_M (M' := (sset (sset (sset (sset (sset M 13 0 (.inl (gI G, 120, .inl (upd hd t0 (-1))))) 14 0 (.inl (gI G, 120, .inl (upd on t0 x)))) 15 0 (.inl (gI G, 120, .inl (upd tw t0 (-1))))) 16 0 (.inl (gI G, 120, .inl (upd dp t0 0)))) 12 0 (.inr (5, [.int c0, .int (nI (t0 + 1)), .ref (ad 13 0), .ref (ad 14 0), .ref (ad 15 0), .ref (ad 16 0), .ref (ad 17 0), .ref (ad 18 0), .int (nI r0), .ref (ad 19 0), .ref (ad 20 0), .ref (ad 21 0), .ref (ad 22 0), .ref (ad 23 0), .ref (ad 24 0), .int (jB b0), .ref (ad 25 0)])))) rfl ?_
  refine s_aload_n dX4_add_51 rfl ?_
  refine s_aload_n dX4_add_52 rfl ?_
  refine s_get (kd := 12) (ix := 0) (ci := 5) (fs := [.int c0, .int (nI (t0 + 1)), .ref (ad 13 0), .ref (ad 14 0), .ref (ad 15 0), .ref (ad 16 0), .ref (ad 17 0), .ref (ad 18 0), .int (nI r0), .ref (ad 19 0), .ref (ad 20 0), .ref (ad 21 0), .ref (ad 22 0), .ref (ad 23 0), .ref (ad 24 0), .int (jB b0), .ref (ad 25 0)])  (sset_self _ _ _ _) rfl in_X4_add_X4 1 (by decide) (by decide +kernel) rfl rfl dX4_add_53 ?_
  refine s_iconst (v := 1) dX4_add_56 (by decide) ?_
  refine s_isub dX4_add_57 ?_
  refine s_eqi (y := nI t0) (nI_m1 (by omega)) ?_
  refine s_callV (As := [.int (nI t0)]) (rest := []) (n := 1) (kd := 12) (ix := 0) (fun l hl => c_X4_fpLeaf G l hl ad (sset (sset (sset (sset (sset M 13 0 (.inl (gI G, 120, .inl (upd hd t0 (-1))))) 14 0 (.inl (gI G, 120, .inl (upd on t0 x)))) 15 0 (.inl (gI G, 120, .inl (upd tw t0 (-1))))) 16 0 (.inl (gI G, 120, .inl (upd dp t0 0)))) 12 0 (.inr (5, [.int c0, .int (nI (t0 + 1)), .ref (ad 13 0), .ref (ad 14 0), .ref (ad 15 0), .ref (ad 16 0), .ref (ad 17 0), .ref (ad 18 0), .int (nI r0), .ref (ad 19 0), .ref (ad 20 0), .ref (ad 21 0), .ref (ad 22 0), .ref (ad 23 0), .ref (ad 24 0), .int (jB b0), .ref (ad 25 0)]))) c0 (t0 + 1) (upd hd t0 (-1)) (upd on t0 x) (upd tw t0 (-1)) (upd dp t0 0) cl gr r0 kd fl co sm wk sp b0 mu ⟨(sset_self _ _ _ _), ((sset_k _ _ (by decide)).trans ((sset_k _ _ (by decide)).trans ((sset_k _ _ (by decide)).trans ((sset_k _ _ (by decide)).trans (sset_self _ _ _ _))))), ((sset_k _ _ (by decide)).trans ((sset_k _ _ (by decide)).trans ((sset_k _ _ (by decide)).trans (sset_self _ _ _ _)))), ((sset_k _ _ (by decide)).trans ((sset_k _ _ (by decide)).trans (sset_self _ _ _ _))), ((sset_k _ _ (by decide)).trans (sset_self _ _ _ _)), ((sset_k _ _ (by decide)).trans ((sset_k _ _ (by decide)).trans ((sset_k _ _ (by decide)).trans ((sset_k _ _ (by decide)).trans ((sset_k _ _ (by decide)).trans (hm.2.2.2.2.2.1)))))), ((sset_k _ _ (by decide)).trans ((sset_k _ _ (by decide)).trans ((sset_k _ _ (by decide)).trans ((sset_k _ _ (by decide)).trans ((sset_k _ _ (by decide)).trans (hm.2.2.2.2.2.2.1)))))), ((sset_k _ _ (by decide)).trans ((sset_k _ _ (by decide)).trans ((sset_k _ _ (by decide)).trans ((sset_k _ _ (by decide)).trans ((sset_k _ _ (by decide)).trans (hm.2.2.2.2.2.2.2.1)))))), ((sset_k _ _ (by decide)).trans ((sset_k _ _ (by decide)).trans ((sset_k _ _ (by decide)).trans ((sset_k _ _ (by decide)).trans ((sset_k _ _ (by decide)).trans (hm.2.2.2.2.2.2.2.2.1)))))), ((sset_k _ _ (by decide)).trans ((sset_k _ _ (by decide)).trans ((sset_k _ _ (by decide)).trans ((sset_k _ _ (by decide)).trans ((sset_k _ _ (by decide)).trans (hm.2.2.2.2.2.2.2.2.2.1)))))), ((sset_k _ _ (by decide)).trans ((sset_k _ _ (by decide)).trans ((sset_k _ _ (by decide)).trans ((sset_k _ _ (by decide)).trans ((sset_k _ _ (by decide)).trans (hm.2.2.2.2.2.2.2.2.2.2.1)))))), ((sset_k _ _ (by decide)).trans ((sset_k _ _ (by decide)).trans ((sset_k _ _ (by decide)).trans ((sset_k _ _ (by decide)).trans ((sset_k _ _ (by decide)).trans (hm.2.2.2.2.2.2.2.2.2.2.2.1)))))), ((sset_k _ _ (by decide)).trans ((sset_k _ _ (by decide)).trans ((sset_k _ _ (by decide)).trans ((sset_k _ _ (by decide)).trans ((sset_k _ _ (by decide)).trans (hm.2.2.2.2.2.2.2.2.2.2.2.2.1)))))), ((sset_k _ _ (by decide)).trans ((sset_k _ _ (by decide)).trans ((sset_k _ _ (by decide)).trans ((sset_k _ _ (by decide)).trans ((sset_k _ _ (by decide)).trans (hm.2.2.2.2.2.2.2.2.2.2.2.2.2))))))⟩ t0 (by omega) (upd_at _ _ _) lt hl2 ((upd_at _ _ _).trans hx) (upd_at _ _ _)) gX4_add_X4_findPolynomial rfl (by decide +kernel) (sset_self _ _ _ _) rfl rfl ⟨(Nat.le_of_ble_eq_true rfl), (Nat.le_of_ble_eq_true rfl)⟩ ⟨(Nat.le_of_ble_eq_true rfl), (Nat.le_of_ble_eq_true rfl)⟩ (Nat.le_of_ble_eq_true rfl) dX4_add_58 rfl (fun r9 ad9 M9 h9 => ?_)
  obtain ⟨rfl, rfl, cl9, gr9, wk9, b9, hm9, hs9, hoc, hog, hgt, hct⟩ := h9
  refine s_aload_n dX4_add_61 rfl ?_
  refine s_get (kd := 12) (ix := 0) (ci := 5) (fs := [.int c0, .int (nI (t0 + 1)), .ref (ad 13 0), .ref (ad 14 0), .ref (ad 15 0), .ref (ad 16 0), .ref (ad 17 0), .ref (ad 18 0), .int (nI r0), .ref (ad 19 0), .ref (ad 20 0), .ref (ad 21 0), .ref (ad 22 0), .ref (ad 23 0), .ref (ad 24 0), .int (jB b9), .ref (ad 25 0)])  hm9.1 rfl in_X4_add_X4 1 (by decide) (by decide +kernel) rfl rfl dX4_add_62 ?_
  refine s_iconst (v := 1) dX4_add_65 (by decide) ?_
  refine s_isub dX4_add_66 ?_
  refine s_eqi (y := nI t0) (nI_m1 (by omega)) ?_
  exact s_iret rfl (rfl) dX4_add_67 (Nat.le_of_ble_eq_true rfl) (Nat.le_of_ble_eq_true rfl) (⟨rfl, ((sSame.rfl |>.set (P := pMd) (by simp [pMd]) _ |>.set (P := pMd) (by simp [pMd]) _ |>.set (P := pMd) (by simp [pMd]) _ |>.set (P := pMd) (by simp [pMd]) _ |>.set (P := pMd) (by simp [pMd]) _).trans hs9), ⟨(c0, (t0 + 1), upd hd t0 (-1), upd on t0 x, upd tw t0 (-1), upd dp t0 0, cl9, gr9, r0, kd, fl, co, sm, wk9, sp, b9, mu), hm9, hc, hI.add hoc hog hgt hct⟩, _, rfl, fun _ => by rw [i1]⟩)
set_option maxHeartbeats 4000000 in
set_option maxRecDepth 100000 in
theorem c_X4_addM (G : sG) (l : Launch) (hl : l.stackTraces = false) (ad : sAd) (M : sM) (c0 : Int32) (t0 : Nat) (hd : Nat → Int32) (on : Nat → Int32) (tw : Nat → Int32) (dp : Nat → Int32) (cl : Nat → Int32) (gr : Nat → Int32) (r0 : Nat) (kd : Nat → Int32) (fl : Nat → Int32) (co : Nat → Int32) (sm : Nat → Int32) (wk : Nat → Int64) (sp : Nat → Int64) (b0 : Bool) (mu : Nat → Int32) (hm : hMd G ad M (c0, t0, hd, on, tw, dp, cl, gr, r0, kd, fl, co, sm, wk, sp, b0, mu)) (α : sAl) (hA : AI α) (hI : RI α (c0, t0, hd, on, tw, dp, cl, gr, r0, kd, fl, co, sm, wk, sp, b0, mu)) (hc : c0 = nI 0) (hT1 : aT α < 120) (m : Nat) (x : Int32) (hx : -1000000 ≤ x ∧ x ≤ 1000000) : sMet G l yX4_add mX4_add [.ref (ad 12 0), .int (-2), .int x, .int (-1), .int 0] ad M (mPost G ad M 0 (nI (aT α)) (addT α (-2, x, -1, 0, m) False (one1 0 x.toInt))) (fun _ _ _ => False) := by
  obtain ⟨i1, i2, i3, i4⟩ := id hI
  have hT := hA.1
  have hR60 := hA.2.1
  have ht1 : t0 < 120 := by omega
  refine sMet.of hl (by decide +kernel) rfl rfl rfl rfl (Nat.le_of_ble_eq_true rfl) (fun X => ?_)
  refine s_lv (lv' := [some (.ref (ad 12 0)), some (.int (-2)), some (.int x), some (.int (-1)), some (.int 0)]) rfl ?_
  refine s_aload_n dX4_add_0 rfl ?_
  refine s_get (kd := 12) (ix := 0) (ci := 5) (fs := [.int c0, .int (nI t0), .ref (ad 13 0), .ref (ad 14 0), .ref (ad 15 0), .ref (ad 16 0), .ref (ad 17 0), .ref (ad 18 0), .int (nI r0), .ref (ad 19 0), .ref (ad 20 0), .ref (ad 21 0), .ref (ad 22 0), .ref (ad 23 0), .ref (ad 24 0), .int (jB b0), .ref (ad 25 0)])  hm.1 rfl in_X4_add_X4 2 (by decide) (by decide +kernel) rfl rfl dX4_add_1 ?_
  refine s_aload_n dX4_add_4 rfl ?_
  refine s_get (kd := 12) (ix := 0) (ci := 5) (fs := [.int c0, .int (nI t0), .ref (ad 13 0), .ref (ad 14 0), .ref (ad 15 0), .ref (ad 16 0), .ref (ad 17 0), .ref (ad 18 0), .int (nI r0), .ref (ad 19 0), .ref (ad 20 0), .ref (ad 21 0), .ref (ad 22 0), .ref (ad 23 0), .ref (ad 24 0), .int (jB b0), .ref (ad 25 0)])  hm.1 rfl in_X4_add_X4 1 (by decide) (by decide +kernel) rfl rfl dX4_add_5 ?_
  refine s_iload_n dX4_add_8 rfl ?_
  refine s_iast (kd := 13) (ix := 0) (n := 120) (f := hd) (j := t0) (x := (-2)) hm.2.1  (rfl) (by omega) (by decide) dX4_add_9 ?_
  refine s_aload_n dX4_add_10 rfl ?_
  refine s_get (kd := 12) (ix := 0) (ci := 5) (fs := [.int c0, .int (nI t0), .ref (ad 13 0), .ref (ad 14 0), .ref (ad 15 0), .ref (ad 16 0), .ref (ad 17 0), .ref (ad 18 0), .int (nI r0), .ref (ad 19 0), .ref (ad 20 0), .ref (ad 21 0), .ref (ad 22 0), .ref (ad 23 0), .ref (ad 24 0), .int (jB b0), .ref (ad 25 0)])  ((sset_k _ _ (by decide)).trans (hm.1)) rfl in_X4_add_X4 3 (by decide) (by decide +kernel) rfl rfl dX4_add_11 ?_
  refine s_aload_n dX4_add_14 rfl ?_
  refine s_get (kd := 12) (ix := 0) (ci := 5) (fs := [.int c0, .int (nI t0), .ref (ad 13 0), .ref (ad 14 0), .ref (ad 15 0), .ref (ad 16 0), .ref (ad 17 0), .ref (ad 18 0), .int (nI r0), .ref (ad 19 0), .ref (ad 20 0), .ref (ad 21 0), .ref (ad 22 0), .ref (ad 23 0), .ref (ad 24 0), .int (jB b0), .ref (ad 25 0)])  ((sset_k _ _ (by decide)).trans (hm.1)) rfl in_X4_add_X4 1 (by decide) (by decide +kernel) rfl rfl dX4_add_15 ?_
  refine s_iload_n dX4_add_18 rfl ?_
  refine s_iast (kd := 14) (ix := 0) (n := 120) (f := on) (j := t0) (x := x) ((sset_k _ _ (by decide)).trans (hm.2.2.1))  (rfl) (by omega) (by decide) dX4_add_19 ?_
  refine s_aload_n dX4_add_20 rfl ?_
  refine s_get (kd := 12) (ix := 0) (ci := 5) (fs := [.int c0, .int (nI t0), .ref (ad 13 0), .ref (ad 14 0), .ref (ad 15 0), .ref (ad 16 0), .ref (ad 17 0), .ref (ad 18 0), .int (nI r0), .ref (ad 19 0), .ref (ad 20 0), .ref (ad 21 0), .ref (ad 22 0), .ref (ad 23 0), .ref (ad 24 0), .int (jB b0), .ref (ad 25 0)])  ((sset_k _ _ (by decide)).trans ((sset_k _ _ (by decide)).trans (hm.1))) rfl in_X4_add_X4 4 (by decide) (by decide +kernel) rfl rfl dX4_add_21 ?_
  refine s_aload_n dX4_add_24 rfl ?_
  refine s_get (kd := 12) (ix := 0) (ci := 5) (fs := [.int c0, .int (nI t0), .ref (ad 13 0), .ref (ad 14 0), .ref (ad 15 0), .ref (ad 16 0), .ref (ad 17 0), .ref (ad 18 0), .int (nI r0), .ref (ad 19 0), .ref (ad 20 0), .ref (ad 21 0), .ref (ad 22 0), .ref (ad 23 0), .ref (ad 24 0), .int (jB b0), .ref (ad 25 0)])  ((sset_k _ _ (by decide)).trans ((sset_k _ _ (by decide)).trans (hm.1))) rfl in_X4_add_X4 1 (by decide) (by decide +kernel) rfl rfl dX4_add_25 ?_
  refine s_iload_n dX4_add_28 rfl ?_
  refine s_iast (kd := 15) (ix := 0) (n := 120) (f := tw) (j := t0) (x := (-1)) ((sset_k _ _ (by decide)).trans ((sset_k _ _ (by decide)).trans (hm.2.2.2.1)))  (rfl) (by omega) (by decide) dX4_add_29 ?_
  refine s_aload_n dX4_add_30 rfl ?_
  refine s_get (kd := 12) (ix := 0) (ci := 5) (fs := [.int c0, .int (nI t0), .ref (ad 13 0), .ref (ad 14 0), .ref (ad 15 0), .ref (ad 16 0), .ref (ad 17 0), .ref (ad 18 0), .int (nI r0), .ref (ad 19 0), .ref (ad 20 0), .ref (ad 21 0), .ref (ad 22 0), .ref (ad 23 0), .ref (ad 24 0), .int (jB b0), .ref (ad 25 0)])  ((sset_k _ _ (by decide)).trans ((sset_k _ _ (by decide)).trans ((sset_k _ _ (by decide)).trans (hm.1)))) rfl in_X4_add_X4 5 (by decide) (by decide +kernel) rfl rfl dX4_add_31 ?_
  refine s_aload_n dX4_add_34 rfl ?_
  refine s_get (kd := 12) (ix := 0) (ci := 5) (fs := [.int c0, .int (nI t0), .ref (ad 13 0), .ref (ad 14 0), .ref (ad 15 0), .ref (ad 16 0), .ref (ad 17 0), .ref (ad 18 0), .int (nI r0), .ref (ad 19 0), .ref (ad 20 0), .ref (ad 21 0), .ref (ad 22 0), .ref (ad 23 0), .ref (ad 24 0), .int (jB b0), .ref (ad 25 0)])  ((sset_k _ _ (by decide)).trans ((sset_k _ _ (by decide)).trans ((sset_k _ _ (by decide)).trans (hm.1)))) rfl in_X4_add_X4 1 (by decide) (by decide +kernel) rfl rfl dX4_add_35 ?_
  refine s_iload dX4_add_38 rfl ?_
  refine s_iast (kd := 16) (ix := 0) (n := 120) (f := dp) (j := t0) (x := 0) ((sset_k _ _ (by decide)).trans ((sset_k _ _ (by decide)).trans ((sset_k _ _ (by decide)).trans (hm.2.2.2.2.1))))  (rfl) (by omega) (by decide) dX4_add_40 ?_
  refine s_aload_n dX4_add_41 rfl ?_
  refine s_dup dX4_add_42 rfl ?_
  refine s_get (kd := 12) (ix := 0) (ci := 5) (fs := [.int c0, .int (nI t0), .ref (ad 13 0), .ref (ad 14 0), .ref (ad 15 0), .ref (ad 16 0), .ref (ad 17 0), .ref (ad 18 0), .int (nI r0), .ref (ad 19 0), .ref (ad 20 0), .ref (ad 21 0), .ref (ad 22 0), .ref (ad 23 0), .ref (ad 24 0), .int (jB b0), .ref (ad 25 0)])  ((sset_k _ _ (by decide)).trans ((sset_k _ _ (by decide)).trans ((sset_k _ _ (by decide)).trans ((sset_k _ _ (by decide)).trans (hm.1))))) rfl in_X4_add_X4 1 (by decide) (by decide +kernel) rfl rfl dX4_add_43 ?_
  refine s_iconst (v := 1) dX4_add_46 (by decide) ?_
  refine s_iadd dX4_add_47 ?_
  refine s_eqi (y := nI (t0 + 1)) (nI_1 _) ?_
  refine s_put (kd := 12) (ix := 0) (ci := 5) (v := .int (nI (t0 + 1))) (ty := tyX4 1) (fs := [.int c0, .int (nI t0), .ref (ad 13 0), .ref (ad 14 0), .ref (ad 15 0), .ref (ad 16 0), .ref (ad 17 0), .ref (ad 18 0), .int (nI r0), .ref (ad 19 0), .ref (ad 20 0), .ref (ad 21 0), .ref (ad 22 0), .ref (ad 23 0), .ref (ad 24 0), .int (jB b0), .ref (ad 25 0)])  tyX4 tyX4_ok nmX4 ((sset_k _ _ (by decide)).trans ((sset_k _ _ (by decide)).trans ((sset_k _ _ (by decide)).trans ((sset_k _ _ (by decide)).trans (hm.1))))) rfl in_X4_add_X4 1 (by decide) (by decide +kernel) rfl rfl (tyX4_ok 1 (by decide)) (rfl) (rfl) (Nat.le_of_ble_eq_true rfl) dX4_add_48 ?_
  refine s_M (M' := (sset (sset (sset (sset (sset M 13 0 (.inl (gI G, 120, .inl (upd hd t0 (-2))))) 14 0 (.inl (gI G, 120, .inl (upd on t0 x)))) 15 0 (.inl (gI G, 120, .inl (upd tw t0 (-1))))) 16 0 (.inl (gI G, 120, .inl (upd dp t0 0)))) 12 0 (.inr (5, [.int c0, .int (nI (t0 + 1)), .ref (ad 13 0), .ref (ad 14 0), .ref (ad 15 0), .ref (ad 16 0), .ref (ad 17 0), .ref (ad 18 0), .int (nI r0), .ref (ad 19 0), .ref (ad 20 0), .ref (ad 21 0), .ref (ad 22 0), .ref (ad 23 0), .ref (ad 24 0), .int (jB b0), .ref (ad 25 0)])))) rfl ?_
  refine s_aload_n dX4_add_51 rfl ?_
  refine s_aload_n dX4_add_52 rfl ?_
  refine s_get (kd := 12) (ix := 0) (ci := 5) (fs := [.int c0, .int (nI (t0 + 1)), .ref (ad 13 0), .ref (ad 14 0), .ref (ad 15 0), .ref (ad 16 0), .ref (ad 17 0), .ref (ad 18 0), .int (nI r0), .ref (ad 19 0), .ref (ad 20 0), .ref (ad 21 0), .ref (ad 22 0), .ref (ad 23 0), .ref (ad 24 0), .int (jB b0), .ref (ad 25 0)])  (sset_self _ _ _ _) rfl in_X4_add_X4 1 (by decide) (by decide +kernel) rfl rfl dX4_add_53 ?_
  refine s_iconst (v := 1) dX4_add_56 (by decide) ?_
  refine s_isub dX4_add_57 ?_
  refine s_eqi (y := nI t0) (nI_m1 (by omega)) ?_
  refine s_callV (As := [.int (nI t0)]) (rest := []) (n := 1) (kd := 12) (ix := 0) (fun l hl => c_X4_fpNum G l hl ad (sset (sset (sset (sset (sset M 13 0 (.inl (gI G, 120, .inl (upd hd t0 (-2))))) 14 0 (.inl (gI G, 120, .inl (upd on t0 x)))) 15 0 (.inl (gI G, 120, .inl (upd tw t0 (-1))))) 16 0 (.inl (gI G, 120, .inl (upd dp t0 0)))) 12 0 (.inr (5, [.int c0, .int (nI (t0 + 1)), .ref (ad 13 0), .ref (ad 14 0), .ref (ad 15 0), .ref (ad 16 0), .ref (ad 17 0), .ref (ad 18 0), .int (nI r0), .ref (ad 19 0), .ref (ad 20 0), .ref (ad 21 0), .ref (ad 22 0), .ref (ad 23 0), .ref (ad 24 0), .int (jB b0), .ref (ad 25 0)]))) c0 (t0 + 1) (upd hd t0 (-2)) (upd on t0 x) (upd tw t0 (-1)) (upd dp t0 0) cl gr r0 kd fl co sm wk sp b0 mu ⟨(sset_self _ _ _ _), ((sset_k _ _ (by decide)).trans ((sset_k _ _ (by decide)).trans ((sset_k _ _ (by decide)).trans ((sset_k _ _ (by decide)).trans (sset_self _ _ _ _))))), ((sset_k _ _ (by decide)).trans ((sset_k _ _ (by decide)).trans ((sset_k _ _ (by decide)).trans (sset_self _ _ _ _)))), ((sset_k _ _ (by decide)).trans ((sset_k _ _ (by decide)).trans (sset_self _ _ _ _))), ((sset_k _ _ (by decide)).trans (sset_self _ _ _ _)), ((sset_k _ _ (by decide)).trans ((sset_k _ _ (by decide)).trans ((sset_k _ _ (by decide)).trans ((sset_k _ _ (by decide)).trans ((sset_k _ _ (by decide)).trans (hm.2.2.2.2.2.1)))))), ((sset_k _ _ (by decide)).trans ((sset_k _ _ (by decide)).trans ((sset_k _ _ (by decide)).trans ((sset_k _ _ (by decide)).trans ((sset_k _ _ (by decide)).trans (hm.2.2.2.2.2.2.1)))))), ((sset_k _ _ (by decide)).trans ((sset_k _ _ (by decide)).trans ((sset_k _ _ (by decide)).trans ((sset_k _ _ (by decide)).trans ((sset_k _ _ (by decide)).trans (hm.2.2.2.2.2.2.2.1)))))), ((sset_k _ _ (by decide)).trans ((sset_k _ _ (by decide)).trans ((sset_k _ _ (by decide)).trans ((sset_k _ _ (by decide)).trans ((sset_k _ _ (by decide)).trans (hm.2.2.2.2.2.2.2.2.1)))))), ((sset_k _ _ (by decide)).trans ((sset_k _ _ (by decide)).trans ((sset_k _ _ (by decide)).trans ((sset_k _ _ (by decide)).trans ((sset_k _ _ (by decide)).trans (hm.2.2.2.2.2.2.2.2.2.1)))))), ((sset_k _ _ (by decide)).trans ((sset_k _ _ (by decide)).trans ((sset_k _ _ (by decide)).trans ((sset_k _ _ (by decide)).trans ((sset_k _ _ (by decide)).trans (hm.2.2.2.2.2.2.2.2.2.2.1)))))), ((sset_k _ _ (by decide)).trans ((sset_k _ _ (by decide)).trans ((sset_k _ _ (by decide)).trans ((sset_k _ _ (by decide)).trans ((sset_k _ _ (by decide)).trans (hm.2.2.2.2.2.2.2.2.2.2.2.1)))))), ((sset_k _ _ (by decide)).trans ((sset_k _ _ (by decide)).trans ((sset_k _ _ (by decide)).trans ((sset_k _ _ (by decide)).trans ((sset_k _ _ (by decide)).trans (hm.2.2.2.2.2.2.2.2.2.2.2.2.1)))))), ((sset_k _ _ (by decide)).trans ((sset_k _ _ (by decide)).trans ((sset_k _ _ (by decide)).trans ((sset_k _ _ (by decide)).trans ((sset_k _ _ (by decide)).trans (hm.2.2.2.2.2.2.2.2.2.2.2.2.2))))))⟩ t0 (by omega) (upd_at _ _ _) x (i6 hx) (upd_at _ _ _) (upd_at _ _ _)) gX4_add_X4_findPolynomial rfl (by decide +kernel) (sset_self _ _ _ _) rfl rfl ⟨(Nat.le_of_ble_eq_true rfl), (Nat.le_of_ble_eq_true rfl)⟩ ⟨(Nat.le_of_ble_eq_true rfl), (Nat.le_of_ble_eq_true rfl)⟩ (Nat.le_of_ble_eq_true rfl) dX4_add_58 rfl (fun r9 ad9 M9 h9 => ?_)
  obtain ⟨rfl, rfl, cl9, gr9, wk9, b9, hm9, hs9, hoc, hog, hgt, hct⟩ := h9
  refine s_aload_n dX4_add_61 rfl ?_
  refine s_get (kd := 12) (ix := 0) (ci := 5) (fs := [.int c0, .int (nI (t0 + 1)), .ref (ad 13 0), .ref (ad 14 0), .ref (ad 15 0), .ref (ad 16 0), .ref (ad 17 0), .ref (ad 18 0), .int (nI r0), .ref (ad 19 0), .ref (ad 20 0), .ref (ad 21 0), .ref (ad 22 0), .ref (ad 23 0), .ref (ad 24 0), .int (jB b9), .ref (ad 25 0)])  hm9.1 rfl in_X4_add_X4 1 (by decide) (by decide +kernel) rfl rfl dX4_add_62 ?_
  refine s_iconst (v := 1) dX4_add_65 (by decide) ?_
  refine s_isub dX4_add_66 ?_
  refine s_eqi (y := nI t0) (nI_m1 (by omega)) ?_
  exact s_iret rfl (rfl) dX4_add_67 (Nat.le_of_ble_eq_true rfl) (Nat.le_of_ble_eq_true rfl) (⟨rfl, ((sSame.rfl |>.set (P := pMd) (by simp [pMd]) _ |>.set (P := pMd) (by simp [pMd]) _ |>.set (P := pMd) (by simp [pMd]) _ |>.set (P := pMd) (by simp [pMd]) _ |>.set (P := pMd) (by simp [pMd]) _).trans hs9), ⟨(c0, (t0 + 1), upd hd t0 (-2), upd on t0 x, upd tw t0 (-1), upd dp t0 0, cl9, gr9, r0, kd, fl, co, sm, wk9, sp, b9, mu), hm9, hc, hI.add hoc hog hgt hct⟩, _, rfl, fun _ => by rw [i1]⟩)
set_option maxHeartbeats 4000000 in
set_option maxRecDepth 100000 in
theorem c_X4_addN (G : sG) (l : Launch) (hl : l.stackTraces = false) (ad : sAd) (M : sM) (c0 : Int32) (t0 : Nat) (hd : Nat → Int32) (on : Nat → Int32) (tw : Nat → Int32) (dp : Nat → Int32) (cl : Nat → Int32) (gr : Nat → Int32) (r0 : Nat) (kd : Nat → Int32) (fl : Nat → Int32) (co : Nat → Int32) (sm : Nat → Int32) (wk : Nat → Int64) (sp : Nat → Int64) (b0 : Bool) (mu : Nat → Int32) (hm : hMd G ad M (c0, t0, hd, on, tw, dp, cl, gr, r0, kd, fl, co, sm, wk, sp, b0, mu)) (α : sAl) (hA : AI α) (hI : RI α (c0, t0, hd, on, tw, dp, cl, gr, r0, kd, fl, co, sm, wk, sp, b0, mu)) (hc : c0 = nI 0) (hT1 : aT α < 120) (h9 ja jb m d : Nat) (g : Prop) (P : Nat → Int) (x a b : Int32) (hh6 : h9 < 6) (hx : x = nI h9) (hja : ja < aT α) (hae : a = nI ja) (hjb : jb < aT α) (hbe : (h9 < 3 ∧ b = nI jb) ∨ (3 ≤ h9 ∧ b = -1 ∧ jb = ja)) (hnr : nodeRel α h9 ja jb g P) : sMet G l yX4_add mX4_add [.ref (ad 12 0), .int x, .int a, .int b, .int (nI d)] ad M (mPost G ad M 0 (nI (aT α)) (addT α (x, a, b, d, m) g P)) (fun _ _ _ => False) := by
  obtain ⟨i1, i2, i3, i4⟩ := id hI
  have hT := hA.1
  have hR60 := hA.2.1
  have ht1 : t0 < 120 := by omega
  refine sMet.of hl (by decide +kernel) rfl rfl rfl rfl (Nat.le_of_ble_eq_true rfl) (fun X => ?_)
  refine s_lv (lv' := [some (.ref (ad 12 0)), some (.int x), some (.int a), some (.int b), some (.int (nI d))]) rfl ?_
  refine s_aload_n dX4_add_0 rfl ?_
  refine s_get (kd := 12) (ix := 0) (ci := 5) (fs := [.int c0, .int (nI t0), .ref (ad 13 0), .ref (ad 14 0), .ref (ad 15 0), .ref (ad 16 0), .ref (ad 17 0), .ref (ad 18 0), .int (nI r0), .ref (ad 19 0), .ref (ad 20 0), .ref (ad 21 0), .ref (ad 22 0), .ref (ad 23 0), .ref (ad 24 0), .int (jB b0), .ref (ad 25 0)])  hm.1 rfl in_X4_add_X4 2 (by decide) (by decide +kernel) rfl rfl dX4_add_1 ?_
  refine s_aload_n dX4_add_4 rfl ?_
  refine s_get (kd := 12) (ix := 0) (ci := 5) (fs := [.int c0, .int (nI t0), .ref (ad 13 0), .ref (ad 14 0), .ref (ad 15 0), .ref (ad 16 0), .ref (ad 17 0), .ref (ad 18 0), .int (nI r0), .ref (ad 19 0), .ref (ad 20 0), .ref (ad 21 0), .ref (ad 22 0), .ref (ad 23 0), .ref (ad 24 0), .int (jB b0), .ref (ad 25 0)])  hm.1 rfl in_X4_add_X4 1 (by decide) (by decide +kernel) rfl rfl dX4_add_5 ?_
  refine s_iload_n dX4_add_8 rfl ?_
  refine s_iast (kd := 13) (ix := 0) (n := 120) (f := hd) (j := t0) (x := x) hm.2.1  (rfl) (by omega) (by decide) dX4_add_9 ?_
  refine s_aload_n dX4_add_10 rfl ?_
  refine s_get (kd := 12) (ix := 0) (ci := 5) (fs := [.int c0, .int (nI t0), .ref (ad 13 0), .ref (ad 14 0), .ref (ad 15 0), .ref (ad 16 0), .ref (ad 17 0), .ref (ad 18 0), .int (nI r0), .ref (ad 19 0), .ref (ad 20 0), .ref (ad 21 0), .ref (ad 22 0), .ref (ad 23 0), .ref (ad 24 0), .int (jB b0), .ref (ad 25 0)])  ((sset_k _ _ (by decide)).trans (hm.1)) rfl in_X4_add_X4 3 (by decide) (by decide +kernel) rfl rfl dX4_add_11 ?_
  refine s_aload_n dX4_add_14 rfl ?_
  refine s_get (kd := 12) (ix := 0) (ci := 5) (fs := [.int c0, .int (nI t0), .ref (ad 13 0), .ref (ad 14 0), .ref (ad 15 0), .ref (ad 16 0), .ref (ad 17 0), .ref (ad 18 0), .int (nI r0), .ref (ad 19 0), .ref (ad 20 0), .ref (ad 21 0), .ref (ad 22 0), .ref (ad 23 0), .ref (ad 24 0), .int (jB b0), .ref (ad 25 0)])  ((sset_k _ _ (by decide)).trans (hm.1)) rfl in_X4_add_X4 1 (by decide) (by decide +kernel) rfl rfl dX4_add_15 ?_
  refine s_iload_n dX4_add_18 rfl ?_
  refine s_iast (kd := 14) (ix := 0) (n := 120) (f := on) (j := t0) (x := a) ((sset_k _ _ (by decide)).trans (hm.2.2.1))  (rfl) (by omega) (by decide) dX4_add_19 ?_
  refine s_aload_n dX4_add_20 rfl ?_
  refine s_get (kd := 12) (ix := 0) (ci := 5) (fs := [.int c0, .int (nI t0), .ref (ad 13 0), .ref (ad 14 0), .ref (ad 15 0), .ref (ad 16 0), .ref (ad 17 0), .ref (ad 18 0), .int (nI r0), .ref (ad 19 0), .ref (ad 20 0), .ref (ad 21 0), .ref (ad 22 0), .ref (ad 23 0), .ref (ad 24 0), .int (jB b0), .ref (ad 25 0)])  ((sset_k _ _ (by decide)).trans ((sset_k _ _ (by decide)).trans (hm.1))) rfl in_X4_add_X4 4 (by decide) (by decide +kernel) rfl rfl dX4_add_21 ?_
  refine s_aload_n dX4_add_24 rfl ?_
  refine s_get (kd := 12) (ix := 0) (ci := 5) (fs := [.int c0, .int (nI t0), .ref (ad 13 0), .ref (ad 14 0), .ref (ad 15 0), .ref (ad 16 0), .ref (ad 17 0), .ref (ad 18 0), .int (nI r0), .ref (ad 19 0), .ref (ad 20 0), .ref (ad 21 0), .ref (ad 22 0), .ref (ad 23 0), .ref (ad 24 0), .int (jB b0), .ref (ad 25 0)])  ((sset_k _ _ (by decide)).trans ((sset_k _ _ (by decide)).trans (hm.1))) rfl in_X4_add_X4 1 (by decide) (by decide +kernel) rfl rfl dX4_add_25 ?_
  refine s_iload_n dX4_add_28 rfl ?_
  refine s_iast (kd := 15) (ix := 0) (n := 120) (f := tw) (j := t0) (x := b) ((sset_k _ _ (by decide)).trans ((sset_k _ _ (by decide)).trans (hm.2.2.2.1)))  (rfl) (by omega) (by decide) dX4_add_29 ?_
  refine s_aload_n dX4_add_30 rfl ?_
  refine s_get (kd := 12) (ix := 0) (ci := 5) (fs := [.int c0, .int (nI t0), .ref (ad 13 0), .ref (ad 14 0), .ref (ad 15 0), .ref (ad 16 0), .ref (ad 17 0), .ref (ad 18 0), .int (nI r0), .ref (ad 19 0), .ref (ad 20 0), .ref (ad 21 0), .ref (ad 22 0), .ref (ad 23 0), .ref (ad 24 0), .int (jB b0), .ref (ad 25 0)])  ((sset_k _ _ (by decide)).trans ((sset_k _ _ (by decide)).trans ((sset_k _ _ (by decide)).trans (hm.1)))) rfl in_X4_add_X4 5 (by decide) (by decide +kernel) rfl rfl dX4_add_31 ?_
  refine s_aload_n dX4_add_34 rfl ?_
  refine s_get (kd := 12) (ix := 0) (ci := 5) (fs := [.int c0, .int (nI t0), .ref (ad 13 0), .ref (ad 14 0), .ref (ad 15 0), .ref (ad 16 0), .ref (ad 17 0), .ref (ad 18 0), .int (nI r0), .ref (ad 19 0), .ref (ad 20 0), .ref (ad 21 0), .ref (ad 22 0), .ref (ad 23 0), .ref (ad 24 0), .int (jB b0), .ref (ad 25 0)])  ((sset_k _ _ (by decide)).trans ((sset_k _ _ (by decide)).trans ((sset_k _ _ (by decide)).trans (hm.1)))) rfl in_X4_add_X4 1 (by decide) (by decide +kernel) rfl rfl dX4_add_35 ?_
  refine s_iload dX4_add_38 rfl ?_
  refine s_iast (kd := 16) (ix := 0) (n := 120) (f := dp) (j := t0) (x := nI d) ((sset_k _ _ (by decide)).trans ((sset_k _ _ (by decide)).trans ((sset_k _ _ (by decide)).trans (hm.2.2.2.2.1))))  (rfl) (by omega) (by decide) dX4_add_40 ?_
  refine s_aload_n dX4_add_41 rfl ?_
  refine s_dup dX4_add_42 rfl ?_
  refine s_get (kd := 12) (ix := 0) (ci := 5) (fs := [.int c0, .int (nI t0), .ref (ad 13 0), .ref (ad 14 0), .ref (ad 15 0), .ref (ad 16 0), .ref (ad 17 0), .ref (ad 18 0), .int (nI r0), .ref (ad 19 0), .ref (ad 20 0), .ref (ad 21 0), .ref (ad 22 0), .ref (ad 23 0), .ref (ad 24 0), .int (jB b0), .ref (ad 25 0)])  ((sset_k _ _ (by decide)).trans ((sset_k _ _ (by decide)).trans ((sset_k _ _ (by decide)).trans ((sset_k _ _ (by decide)).trans (hm.1))))) rfl in_X4_add_X4 1 (by decide) (by decide +kernel) rfl rfl dX4_add_43 ?_
  refine s_iconst (v := 1) dX4_add_46 (by decide) ?_
  refine s_iadd dX4_add_47 ?_
  refine s_eqi (y := nI (t0 + 1)) (nI_1 _) ?_
  refine s_put (kd := 12) (ix := 0) (ci := 5) (v := .int (nI (t0 + 1))) (ty := tyX4 1) (fs := [.int c0, .int (nI t0), .ref (ad 13 0), .ref (ad 14 0), .ref (ad 15 0), .ref (ad 16 0), .ref (ad 17 0), .ref (ad 18 0), .int (nI r0), .ref (ad 19 0), .ref (ad 20 0), .ref (ad 21 0), .ref (ad 22 0), .ref (ad 23 0), .ref (ad 24 0), .int (jB b0), .ref (ad 25 0)])  tyX4 tyX4_ok nmX4 ((sset_k _ _ (by decide)).trans ((sset_k _ _ (by decide)).trans ((sset_k _ _ (by decide)).trans ((sset_k _ _ (by decide)).trans (hm.1))))) rfl in_X4_add_X4 1 (by decide) (by decide +kernel) rfl rfl (tyX4_ok 1 (by decide)) (rfl) (rfl) (Nat.le_of_ble_eq_true rfl) dX4_add_48 ?_
  refine s_M (M' := (sset (sset (sset (sset (sset M 13 0 (.inl (gI G, 120, .inl (upd hd t0 x)))) 14 0 (.inl (gI G, 120, .inl (upd on t0 a)))) 15 0 (.inl (gI G, 120, .inl (upd tw t0 b)))) 16 0 (.inl (gI G, 120, .inl (upd dp t0 (nI d))))) 12 0 (.inr (5, [.int c0, .int (nI (t0 + 1)), .ref (ad 13 0), .ref (ad 14 0), .ref (ad 15 0), .ref (ad 16 0), .ref (ad 17 0), .ref (ad 18 0), .int (nI r0), .ref (ad 19 0), .ref (ad 20 0), .ref (ad 21 0), .ref (ad 22 0), .ref (ad 23 0), .ref (ad 24 0), .int (jB b0), .ref (ad 25 0)])))) rfl ?_
  refine s_aload_n dX4_add_51 rfl ?_
  refine s_aload_n dX4_add_52 rfl ?_
  refine s_get (kd := 12) (ix := 0) (ci := 5) (fs := [.int c0, .int (nI (t0 + 1)), .ref (ad 13 0), .ref (ad 14 0), .ref (ad 15 0), .ref (ad 16 0), .ref (ad 17 0), .ref (ad 18 0), .int (nI r0), .ref (ad 19 0), .ref (ad 20 0), .ref (ad 21 0), .ref (ad 22 0), .ref (ad 23 0), .ref (ad 24 0), .int (jB b0), .ref (ad 25 0)])  (sset_self _ _ _ _) rfl in_X4_add_X4 1 (by decide) (by decide +kernel) rfl rfl dX4_add_53 ?_
  refine s_iconst (v := 1) dX4_add_56 (by decide) ?_
  refine s_isub dX4_add_57 ?_
  refine s_eqi (y := nI t0) (nI_m1 (by omega)) ?_
  refine s_callV (As := [.int (nI t0)]) (rest := []) (n := 1) (kd := 12) (ix := 0) (fun l hl => c_X4_fpNode G l hl ad (sset (sset (sset (sset (sset M 13 0 (.inl (gI G, 120, .inl (upd hd t0 x)))) 14 0 (.inl (gI G, 120, .inl (upd on t0 a)))) 15 0 (.inl (gI G, 120, .inl (upd tw t0 b)))) 16 0 (.inl (gI G, 120, .inl (upd dp t0 (nI d))))) 12 0 (.inr (5, [.int c0, .int (nI (t0 + 1)), .ref (ad 13 0), .ref (ad 14 0), .ref (ad 15 0), .ref (ad 16 0), .ref (ad 17 0), .ref (ad 18 0), .int (nI r0), .ref (ad 19 0), .ref (ad 20 0), .ref (ad 21 0), .ref (ad 22 0), .ref (ad 23 0), .ref (ad 24 0), .int (jB b0), .ref (ad 25 0)]))) c0 (t0 + 1) (upd hd t0 x) (upd on t0 a) (upd tw t0 b) (upd dp t0 (nI d)) cl gr r0 kd fl co sm wk sp b0 mu ⟨(sset_self _ _ _ _), ((sset_k _ _ (by decide)).trans ((sset_k _ _ (by decide)).trans ((sset_k _ _ (by decide)).trans ((sset_k _ _ (by decide)).trans (sset_self _ _ _ _))))), ((sset_k _ _ (by decide)).trans ((sset_k _ _ (by decide)).trans ((sset_k _ _ (by decide)).trans (sset_self _ _ _ _)))), ((sset_k _ _ (by decide)).trans ((sset_k _ _ (by decide)).trans (sset_self _ _ _ _))), ((sset_k _ _ (by decide)).trans (sset_self _ _ _ _)), ((sset_k _ _ (by decide)).trans ((sset_k _ _ (by decide)).trans ((sset_k _ _ (by decide)).trans ((sset_k _ _ (by decide)).trans ((sset_k _ _ (by decide)).trans (hm.2.2.2.2.2.1)))))), ((sset_k _ _ (by decide)).trans ((sset_k _ _ (by decide)).trans ((sset_k _ _ (by decide)).trans ((sset_k _ _ (by decide)).trans ((sset_k _ _ (by decide)).trans (hm.2.2.2.2.2.2.1)))))), ((sset_k _ _ (by decide)).trans ((sset_k _ _ (by decide)).trans ((sset_k _ _ (by decide)).trans ((sset_k _ _ (by decide)).trans ((sset_k _ _ (by decide)).trans (hm.2.2.2.2.2.2.2.1)))))), ((sset_k _ _ (by decide)).trans ((sset_k _ _ (by decide)).trans ((sset_k _ _ (by decide)).trans ((sset_k _ _ (by decide)).trans ((sset_k _ _ (by decide)).trans (hm.2.2.2.2.2.2.2.2.1)))))), ((sset_k _ _ (by decide)).trans ((sset_k _ _ (by decide)).trans ((sset_k _ _ (by decide)).trans ((sset_k _ _ (by decide)).trans ((sset_k _ _ (by decide)).trans (hm.2.2.2.2.2.2.2.2.2.1)))))), ((sset_k _ _ (by decide)).trans ((sset_k _ _ (by decide)).trans ((sset_k _ _ (by decide)).trans ((sset_k _ _ (by decide)).trans ((sset_k _ _ (by decide)).trans (hm.2.2.2.2.2.2.2.2.2.2.1)))))), ((sset_k _ _ (by decide)).trans ((sset_k _ _ (by decide)).trans ((sset_k _ _ (by decide)).trans ((sset_k _ _ (by decide)).trans ((sset_k _ _ (by decide)).trans (hm.2.2.2.2.2.2.2.2.2.2.2.1)))))), ((sset_k _ _ (by decide)).trans ((sset_k _ _ (by decide)).trans ((sset_k _ _ (by decide)).trans ((sset_k _ _ (by decide)).trans ((sset_k _ _ (by decide)).trans (hm.2.2.2.2.2.2.2.2.2.2.2.2.1)))))), ((sset_k _ _ (by decide)).trans ((sset_k _ _ (by decide)).trans ((sset_k _ _ (by decide)).trans ((sset_k _ _ (by decide)).trans ((sset_k _ _ (by decide)).trans (hm.2.2.2.2.2.2.2.2.2.2.2.2.2))))))⟩ t0 (by omega) ja (by omega) (aPf α ja) (i3 ja hja).2.2.2.2.2 (hA.bnd hja) (hA.gz hja) jb (by omega) (aPf α jb) (i3 jb hjb).2.2.2.2.2 (hA.bnd hjb) (hA.gz hjb) (by omega) g P (aGr α ja) (aGr α jb) (i3 ja hja).2.2.2.2.1 (i3 jb hjb).2.2.2.2.1 h9 hh6 ((upd_at _ _ _).trans hx) ((upd_at _ _ _).trans hae) (by rw [upd_at]; exact hbe) hnr) gX4_add_X4_findPolynomial rfl (by decide +kernel) (sset_self _ _ _ _) rfl rfl ⟨(Nat.le_of_ble_eq_true rfl), (Nat.le_of_ble_eq_true rfl)⟩ ⟨(Nat.le_of_ble_eq_true rfl), (Nat.le_of_ble_eq_true rfl)⟩ (Nat.le_of_ble_eq_true rfl) dX4_add_58 rfl (fun r9 ad9 M9 h9 => ?_)
  obtain ⟨rfl, rfl, cl9, gr9, wk9, b9, hm9, hs9, hoc, hog, hgt, hct⟩ := h9
  refine s_aload_n dX4_add_61 rfl ?_
  refine s_get (kd := 12) (ix := 0) (ci := 5) (fs := [.int c0, .int (nI (t0 + 1)), .ref (ad 13 0), .ref (ad 14 0), .ref (ad 15 0), .ref (ad 16 0), .ref (ad 17 0), .ref (ad 18 0), .int (nI r0), .ref (ad 19 0), .ref (ad 20 0), .ref (ad 21 0), .ref (ad 22 0), .ref (ad 23 0), .ref (ad 24 0), .int (jB b9), .ref (ad 25 0)])  hm9.1 rfl in_X4_add_X4 1 (by decide) (by decide +kernel) rfl rfl dX4_add_62 ?_
  refine s_iconst (v := 1) dX4_add_65 (by decide) ?_
  refine s_isub dX4_add_66 ?_
  refine s_eqi (y := nI t0) (nI_m1 (by omega)) ?_
  exact s_iret rfl (rfl) dX4_add_67 (Nat.le_of_ble_eq_true rfl) (Nat.le_of_ble_eq_true rfl) (⟨rfl, ((sSame.rfl |>.set (P := pMd) (by simp [pMd]) _ |>.set (P := pMd) (by simp [pMd]) _ |>.set (P := pMd) (by simp [pMd]) _ |>.set (P := pMd) (by simp [pMd]) _ |>.set (P := pMd) (by simp [pMd]) _).trans hs9), ⟨(c0, (t0 + 1), upd hd t0 x, upd on t0 a, upd tw t0 b, upd dp t0 (nI d), cl9, gr9, r0, kd, fl, co, sm, wk9, sp, b9, mu), hm9, hc, hI.add hoc hog hgt hct⟩, _, rfl, fun _ => by rw [i1]⟩)
abbrev mX4_leaf : sMeth := (cX4_leaf, 2, RX4, wsX4_leaf, { frames := 6, cells := 0, slots := 0, locals := 147 }, (some .int), "leaf", [])
theorem in_X4_leaf_X4 : ∀ w ∈ wsX40, w ∈ wsX4_leaf := by decide +kernel
set_option maxHeartbeats 4000000 in
set_option maxRecDepth 100000 in
theorem c_X4_leaf (G : sG) (l : Launch) (hl : l.stackTraces = false) (ad : sAd) (M : sM) (c0 : Int32) (t0 : Nat) (hd : Nat → Int32) (on : Nat → Int32) (tw : Nat → Int32) (dp : Nat → Int32) (cl : Nat → Int32) (gr : Nat → Int32) (r0 : Nat) (kd : Nat → Int32) (fl : Nat → Int32) (co : Nat → Int32) (sm : Nat → Int32) (wk : Nat → Int64) (sp : Nat → Int64) (b0 : Bool) (mu : Nat → Int32) (hm : hMd G ad M (c0, t0, hd, on, tw, dp, cl, gr, r0, kd, fl, co, sm, wk, sp, b0, mu)) (α : sAl) (hA : AI α) (hI : RI α (c0, t0, hd, on, tw, dp, cl, gr, r0, kd, fl, co, sm, wk, sp, b0, mu)) (x v : Int32) (k : Nat) (α' : sAl) (hrel : lfRel α x k v α') : sMet G l yX4_leaf mX4_leaf [.ref (ad 12 0), .int x] ad M (mPost G ad M k v α') (fun _ _ _ => False) := by
  obtain ⟨i1, i2, i3, i4⟩ := id hI
  have hT := hA.1
  have hR60 := hA.2.1
  refine sMet.of hl (by decide +kernel) rfl rfl rfl rfl (Nat.le_of_ble_eq_true rfl) (fun X => ?_)
  refine s_lv (lv' := [some (.ref (ad 12 0)), some (.int x)]) rfl ?_
  refine s_aload_n dX4_leaf_0 rfl ?_
  refine s_iload_n dX4_leaf_1 rfl ?_
  refine s_i2l dX4_leaf_2 ?_
  refine s_lconst (v := 0) dX4_leaf_3 (by decide) ?_
  refine s_ldc2 (v := 2) dX4_leaf_4 (by decide +kernel) ?_
  refine s_callS (As := [.long x.toInt64, .long 0, .long 2]) (rest := [.ref (ad 12 0)]) (n := 3) (fun l hl => c_X4_in G l hl ad M x.toInt64 0 2) gX4_leaf_X4_in rfl (by decide +kernel) rfl ⟨(Nat.le_of_ble_eq_true rfl), (Nat.le_of_ble_eq_true rfl)⟩ ⟨(Nat.le_of_ble_eq_true rfl), (Nat.le_of_ble_eq_true rfl)⟩ (Nat.le_of_ble_eq_true rfl) dX4_leaf_7 rfl (fun r9 ad9 M9 h9 => ?_)
  obtain ⟨rfl, rfl, e9⟩ := h9
  obtain ⟨zi, e8, hzi⟩ := in_z (x := x) (a := 0) (b := 2) (A := 0) (B := 2) (by decide) (by decide)
  rw [e8] at e9
  subst e9
  refine s_if_ne 17 dX4_leaf_10 (by decide) (fun c10 => ?_) (fun c10 => ?_)
  · refine s_aload_n dX4_leaf_17 rfl ?_
    refine s_get (kd := 12) (ix := 0) (ci := 5) (fs := [.int c0, .int (nI t0), .ref (ad 13 0), .ref (ad 14 0), .ref (ad 15 0), .ref (ad 16 0), .ref (ad 17 0), .ref (ad 18 0), .int (nI r0), .ref (ad 19 0), .ref (ad 20 0), .ref (ad 21 0), .ref (ad 22 0), .ref (ad 23 0), .ref (ad 24 0), .int (jB b0), .ref (ad 25 0)])  hm.1 rfl in_X4_leaf_X4 1 (by decide) (by decide +kernel) rfl rfl dX4_leaf_18 ?_
    refine s_bipush (v := 120) dX4_leaf_21 (by decide) ?_
    refine s_icmp_ne 30 dX4_leaf_23 (by decide) (fun c23 => ?_) (fun c23 => ?_)
    · obtain ⟨rfl, ev, hT1, lt, m, hl2, hx, ea⟩ := hrel.c0 (hzi.mp (Bool.of_not_eq_false (fun q => c10 (jB_0.mpr q)))) (fun z9 => c23 (by rw [show t0 = 120 by omega]; rfl))
      refine s_iconst (v := 0) dX4_leaf_30 (by decide) ?_
      refine s_put (kd := 12) (ix := 0) (ci := 5) (v := .int 0) (ty := tyX4 0) (fs := [.int c0, .int (nI t0), .ref (ad 13 0), .ref (ad 14 0), .ref (ad 15 0), .ref (ad 16 0), .ref (ad 17 0), .ref (ad 18 0), .int (nI r0), .ref (ad 19 0), .ref (ad 20 0), .ref (ad 21 0), .ref (ad 22 0), .ref (ad 23 0), .ref (ad 24 0), .int (jB b0), .ref (ad 25 0)])  tyX4 tyX4_ok nmX4 hm.1 rfl in_X4_leaf_X4 0 (by decide) (by decide +kernel) rfl rfl (tyX4_ok 0 (by decide)) (rfl) (rfl) (Nat.le_of_ble_eq_true rfl) dX4_leaf_31 ?_
      refine s_M (M' := (sset M 12 0 (.inr (5, [.int 0, .int (nI t0), .ref (ad 13 0), .ref (ad 14 0), .ref (ad 15 0), .ref (ad 16 0), .ref (ad 17 0), .ref (ad 18 0), .int (nI r0), .ref (ad 19 0), .ref (ad 20 0), .ref (ad 21 0), .ref (ad 22 0), .ref (ad 23 0), .ref (ad 24 0), .int (jB b0), .ref (ad 25 0)])))) rfl ?_
      refine s_aload_n dX4_leaf_34 rfl ?_
      refine s_get (kd := 12) (ix := 0) (ci := 5) (fs := [.int 0, .int (nI t0), .ref (ad 13 0), .ref (ad 14 0), .ref (ad 15 0), .ref (ad 16 0), .ref (ad 17 0), .ref (ad 18 0), .int (nI r0), .ref (ad 19 0), .ref (ad 20 0), .ref (ad 21 0), .ref (ad 22 0), .ref (ad 23 0), .ref (ad 24 0), .int (jB b0), .ref (ad 25 0)])  (sset_self _ _ _ _) rfl in_X4_leaf_X4 0 (by decide) (by decide +kernel) rfl rfl dX4_leaf_35 ?_
      refine s_if_le 45 dX4_leaf_38 (by decide) (fun c38 => ?_) (fun c38 => absurd (by decide) c38)
      refine s_aload_n dX4_leaf_45 rfl ?_
      refine s_iconst (v := -1) dX4_leaf_46 (by decide) ?_
      refine s_iload_n dX4_leaf_47 rfl ?_
      refine s_iconst (v := -1) dX4_leaf_48 (by decide) ?_
      refine s_iconst (v := 0) dX4_leaf_49 (by decide) ?_
      refine s_callV (As := [.int (-1), .int x, .int (-1), .int 0]) (rest := []) (n := 4) (kd := 12) (ix := 0) (fun l hl => c_X4_addL G l hl ad (sset M 12 0 (.inr (5, [.int 0, .int (nI t0), .ref (ad 13 0), .ref (ad 14 0), .ref (ad 15 0), .ref (ad 16 0), .ref (ad 17 0), .ref (ad 18 0), .int (nI r0), .ref (ad 19 0), .ref (ad 20 0), .ref (ad 21 0), .ref (ad 22 0), .ref (ad 23 0), .ref (ad 24 0), .int (jB b0), .ref (ad 25 0)]))) 0 t0 hd on tw dp cl gr r0 kd fl co sm wk sp b0 mu ⟨(sset_self _ _ _ _), ((sset_k _ _ (by decide)).trans (hm.2.1)), ((sset_k _ _ (by decide)).trans (hm.2.2.1)), ((sset_k _ _ (by decide)).trans (hm.2.2.2.1)), ((sset_k _ _ (by decide)).trans (hm.2.2.2.2.1)), ((sset_k _ _ (by decide)).trans (hm.2.2.2.2.2.1)), ((sset_k _ _ (by decide)).trans (hm.2.2.2.2.2.2.1)), ((sset_k _ _ (by decide)).trans (hm.2.2.2.2.2.2.2.1)), ((sset_k _ _ (by decide)).trans (hm.2.2.2.2.2.2.2.2.1)), ((sset_k _ _ (by decide)).trans (hm.2.2.2.2.2.2.2.2.2.1)), ((sset_k _ _ (by decide)).trans (hm.2.2.2.2.2.2.2.2.2.2.1)), ((sset_k _ _ (by decide)).trans (hm.2.2.2.2.2.2.2.2.2.2.2.1)), ((sset_k _ _ (by decide)).trans (hm.2.2.2.2.2.2.2.2.2.2.2.2.1)), ((sset_k _ _ (by decide)).trans (hm.2.2.2.2.2.2.2.2.2.2.2.2.2))⟩ α hA (hI.any _ _ _ _ _) rfl hT1 lt m hl2 x hx) gX4_leaf_X4_add rfl (by decide +kernel) (sset_self _ _ _ _) rfl rfl ⟨(Nat.le_of_ble_eq_true rfl), (Nat.le_of_ble_eq_true rfl)⟩ ⟨(Nat.le_of_ble_eq_true rfl), (Nat.le_of_ble_eq_true rfl)⟩ (Nat.le_of_ble_eq_true rfl) dX4_leaf_50 rfl (fun r9 ad9 M9 h9 => ?_)
      obtain ⟨rfl, hs9, hr9, b9, rfl, hb9⟩ := h9
      exact s_iret rfl (rfl) dX4_leaf_53 (Nat.le_of_ble_eq_true rfl) (Nat.le_of_ble_eq_true rfl) (⟨rfl, ((sSame.rfl |>.set (P := pMd) (by simp [pMd]) _)).trans hs9, by rw [ea]; exact hr9, b9, rfl, fun q => (hb9 rfl).trans ev.symm⟩)
    · obtain ⟨rfl, ea⟩ := hrel.c2 (hzi.mp (Bool.of_not_eq_false (fun q => c10 (jB_0.mpr q)))) (by have z9 := (nI_eq (a := t0) (b := 120) (by omega) (by omega)).mp c23; omega)
      refine s_iconst (v := 2) dX4_leaf_26 (by decide) ?_
      refine s_goto 31 dX4_leaf_27 (by decide) ?_
      refine s_put (kd := 12) (ix := 0) (ci := 5) (v := .int 2) (ty := tyX4 0) (fs := [.int c0, .int (nI t0), .ref (ad 13 0), .ref (ad 14 0), .ref (ad 15 0), .ref (ad 16 0), .ref (ad 17 0), .ref (ad 18 0), .int (nI r0), .ref (ad 19 0), .ref (ad 20 0), .ref (ad 21 0), .ref (ad 22 0), .ref (ad 23 0), .ref (ad 24 0), .int (jB b0), .ref (ad 25 0)])  tyX4 tyX4_ok nmX4 hm.1 rfl in_X4_leaf_X4 0 (by decide) (by decide +kernel) rfl rfl (tyX4_ok 0 (by decide)) (rfl) (rfl) (Nat.le_of_ble_eq_true rfl) dX4_leaf_31 ?_
      refine s_M (M' := (sset M 12 0 (.inr (5, [.int 2, .int (nI t0), .ref (ad 13 0), .ref (ad 14 0), .ref (ad 15 0), .ref (ad 16 0), .ref (ad 17 0), .ref (ad 18 0), .int (nI r0), .ref (ad 19 0), .ref (ad 20 0), .ref (ad 21 0), .ref (ad 22 0), .ref (ad 23 0), .ref (ad 24 0), .int (jB b0), .ref (ad 25 0)])))) rfl ?_
      refine s_aload_n dX4_leaf_34 rfl ?_
      refine s_get (kd := 12) (ix := 0) (ci := 5) (fs := [.int 2, .int (nI t0), .ref (ad 13 0), .ref (ad 14 0), .ref (ad 15 0), .ref (ad 16 0), .ref (ad 17 0), .ref (ad 18 0), .int (nI r0), .ref (ad 19 0), .ref (ad 20 0), .ref (ad 21 0), .ref (ad 22 0), .ref (ad 23 0), .ref (ad 24 0), .int (jB b0), .ref (ad 25 0)])  (sset_self _ _ _ _) rfl in_X4_leaf_X4 0 (by decide) (by decide +kernel) rfl rfl dX4_leaf_35 ?_
      refine s_if_le 45 dX4_leaf_38 (by decide) (fun c38 => absurd c38 (by decide)) (fun c38 => ?_)
      refine s_iconst (v := 0) dX4_leaf_41 (by decide) ?_
      refine s_goto 53 dX4_leaf_42 (by decide) ?_
      exact s_iret rfl (rfl) dX4_leaf_53 (Nat.le_of_ble_eq_true rfl) (Nat.le_of_ble_eq_true rfl) (⟨rfl, (sSame.rfl |>.set (P := pMd) (by simp [pMd]) _), ⟨(2, t0, hd, on, tw, dp, cl, gr, r0, kd, fl, co, sm, wk, sp, b0, mu), ⟨(sset_self _ _ _ _), ((sset_k _ _ (by decide)).trans (hm.2.1)), ((sset_k _ _ (by decide)).trans (hm.2.2.1)), ((sset_k _ _ (by decide)).trans (hm.2.2.2.1)), ((sset_k _ _ (by decide)).trans (hm.2.2.2.2.1)), ((sset_k _ _ (by decide)).trans (hm.2.2.2.2.2.1)), ((sset_k _ _ (by decide)).trans (hm.2.2.2.2.2.2.1)), ((sset_k _ _ (by decide)).trans (hm.2.2.2.2.2.2.2.1)), ((sset_k _ _ (by decide)).trans (hm.2.2.2.2.2.2.2.2.1)), ((sset_k _ _ (by decide)).trans (hm.2.2.2.2.2.2.2.2.2.1)), ((sset_k _ _ (by decide)).trans (hm.2.2.2.2.2.2.2.2.2.2.1)), ((sset_k _ _ (by decide)).trans (hm.2.2.2.2.2.2.2.2.2.2.2.1)), ((sset_k _ _ (by decide)).trans (hm.2.2.2.2.2.2.2.2.2.2.2.2.1)), ((sset_k _ _ (by decide)).trans (hm.2.2.2.2.2.2.2.2.2.2.2.2.2))⟩, rfl, by rw [ea]; exact hI.any _ _ _ _ _⟩, _, rfl, fun q => absurd q (by decide)⟩)
  · obtain ⟨rfl, ea⟩ := hrel.c1 (fun q => by have z9 := hzi.mpr q; rw [jB_0.mp c10] at z9; cases z9)
    refine s_iconst (v := 1) dX4_leaf_13 (by decide) ?_
    refine s_goto 31 dX4_leaf_14 (by decide) ?_
    refine s_put (kd := 12) (ix := 0) (ci := 5) (v := .int 1) (ty := tyX4 0) (fs := [.int c0, .int (nI t0), .ref (ad 13 0), .ref (ad 14 0), .ref (ad 15 0), .ref (ad 16 0), .ref (ad 17 0), .ref (ad 18 0), .int (nI r0), .ref (ad 19 0), .ref (ad 20 0), .ref (ad 21 0), .ref (ad 22 0), .ref (ad 23 0), .ref (ad 24 0), .int (jB b0), .ref (ad 25 0)])  tyX4 tyX4_ok nmX4 hm.1 rfl in_X4_leaf_X4 0 (by decide) (by decide +kernel) rfl rfl (tyX4_ok 0 (by decide)) (rfl) (rfl) (Nat.le_of_ble_eq_true rfl) dX4_leaf_31 ?_
    refine s_M (M' := (sset M 12 0 (.inr (5, [.int 1, .int (nI t0), .ref (ad 13 0), .ref (ad 14 0), .ref (ad 15 0), .ref (ad 16 0), .ref (ad 17 0), .ref (ad 18 0), .int (nI r0), .ref (ad 19 0), .ref (ad 20 0), .ref (ad 21 0), .ref (ad 22 0), .ref (ad 23 0), .ref (ad 24 0), .int (jB b0), .ref (ad 25 0)])))) rfl ?_
    refine s_aload_n dX4_leaf_34 rfl ?_
    refine s_get (kd := 12) (ix := 0) (ci := 5) (fs := [.int 1, .int (nI t0), .ref (ad 13 0), .ref (ad 14 0), .ref (ad 15 0), .ref (ad 16 0), .ref (ad 17 0), .ref (ad 18 0), .int (nI r0), .ref (ad 19 0), .ref (ad 20 0), .ref (ad 21 0), .ref (ad 22 0), .ref (ad 23 0), .ref (ad 24 0), .int (jB b0), .ref (ad 25 0)])  (sset_self _ _ _ _) rfl in_X4_leaf_X4 0 (by decide) (by decide +kernel) rfl rfl dX4_leaf_35 ?_
    refine s_if_le 45 dX4_leaf_38 (by decide) (fun c38 => absurd c38 (by decide)) (fun c38 => ?_)
    refine s_iconst (v := 0) dX4_leaf_41 (by decide) ?_
    refine s_goto 53 dX4_leaf_42 (by decide) ?_
    exact s_iret rfl (rfl) dX4_leaf_53 (Nat.le_of_ble_eq_true rfl) (Nat.le_of_ble_eq_true rfl) (⟨rfl, (sSame.rfl |>.set (P := pMd) (by simp [pMd]) _), ⟨(1, t0, hd, on, tw, dp, cl, gr, r0, kd, fl, co, sm, wk, sp, b0, mu), ⟨(sset_self _ _ _ _), ((sset_k _ _ (by decide)).trans (hm.2.1)), ((sset_k _ _ (by decide)).trans (hm.2.2.1)), ((sset_k _ _ (by decide)).trans (hm.2.2.2.1)), ((sset_k _ _ (by decide)).trans (hm.2.2.2.2.1)), ((sset_k _ _ (by decide)).trans (hm.2.2.2.2.2.1)), ((sset_k _ _ (by decide)).trans (hm.2.2.2.2.2.2.1)), ((sset_k _ _ (by decide)).trans (hm.2.2.2.2.2.2.2.1)), ((sset_k _ _ (by decide)).trans (hm.2.2.2.2.2.2.2.2.1)), ((sset_k _ _ (by decide)).trans (hm.2.2.2.2.2.2.2.2.2.1)), ((sset_k _ _ (by decide)).trans (hm.2.2.2.2.2.2.2.2.2.2.1)), ((sset_k _ _ (by decide)).trans (hm.2.2.2.2.2.2.2.2.2.2.2.1)), ((sset_k _ _ (by decide)).trans (hm.2.2.2.2.2.2.2.2.2.2.2.2.1)), ((sset_k _ _ (by decide)).trans (hm.2.2.2.2.2.2.2.2.2.2.2.2.2))⟩, rfl, by rw [ea]; exact hI.any _ _ _ _ _⟩, _, rfl, fun q => absurd q (by decide)⟩)
abbrev mX4_number : sMeth := (cX4_number, 2, RX4, wsX4_number, { frames := 6, cells := 0, slots := 0, locals := 147 }, (some .int), "number", [])
theorem in_X4_number_X4 : ∀ w ∈ wsX40, w ∈ wsX4_number := by decide +kernel
set_option maxHeartbeats 4000000 in
set_option maxRecDepth 100000 in
theorem c_X4_number (G : sG) (l : Launch) (hl : l.stackTraces = false) (ad : sAd) (M : sM) (c0 : Int32) (t0 : Nat) (hd : Nat → Int32) (on : Nat → Int32) (tw : Nat → Int32) (dp : Nat → Int32) (cl : Nat → Int32) (gr : Nat → Int32) (r0 : Nat) (kd : Nat → Int32) (fl : Nat → Int32) (co : Nat → Int32) (sm : Nat → Int32) (wk : Nat → Int64) (sp : Nat → Int64) (b0 : Bool) (mu : Nat → Int32) (hm : hMd G ad M (c0, t0, hd, on, tw, dp, cl, gr, r0, kd, fl, co, sm, wk, sp, b0, mu)) (α : sAl) (hA : AI α) (hI : RI α (c0, t0, hd, on, tw, dp, cl, gr, r0, kd, fl, co, sm, wk, sp, b0, mu)) (x v : Int32) (k : Nat) (α' : sAl) (hrel : nmRel α x k v α') : sMet G l yX4_number mX4_number [.ref (ad 12 0), .int x] ad M (mPost G ad M k v α') (fun _ _ _ => False) := by
  obtain ⟨i1, i2, i3, i4⟩ := id hI
  have hT := hA.1
  have hR60 := hA.2.1
  refine sMet.of hl (by decide +kernel) rfl rfl rfl rfl (Nat.le_of_ble_eq_true rfl) (fun X => ?_)
  refine s_lv (lv' := [some (.ref (ad 12 0)), some (.int x)]) rfl ?_
  refine s_aload_n dX4_number_0 rfl ?_
  refine s_iload_n dX4_number_1 rfl ?_
  refine s_i2l dX4_number_2 ?_
  refine s_ldc2 (v := -1000000) dX4_number_3 (by decide +kernel) ?_
  refine s_ldc2 (v := 1000000) dX4_number_6 (by decide +kernel) ?_
  refine s_callS (As := [.long x.toInt64, .long (-1000000), .long 1000000]) (rest := [.ref (ad 12 0)]) (n := 3) (fun l hl => c_X4_in G l hl ad M x.toInt64 (-1000000) 1000000) gX4_number_X4_in rfl (by decide +kernel) rfl ⟨(Nat.le_of_ble_eq_true rfl), (Nat.le_of_ble_eq_true rfl)⟩ ⟨(Nat.le_of_ble_eq_true rfl), (Nat.le_of_ble_eq_true rfl)⟩ (Nat.le_of_ble_eq_true rfl) dX4_number_9 rfl (fun r9 ad9 M9 h9 => ?_)
  obtain ⟨rfl, rfl, e9⟩ := h9
  obtain ⟨zi, e8, hzi⟩ := in_z (x := x) (a := (-1000000)) (b := 1000000) (A := (-1000000)) (B := 1000000) (by decide) (by decide)
  rw [e8] at e9
  subst e9
  refine s_if_ne 19 dX4_number_12 (by decide) (fun c12 => ?_) (fun c12 => ?_)
  · refine s_aload_n dX4_number_19 rfl ?_
    refine s_get (kd := 12) (ix := 0) (ci := 5) (fs := [.int c0, .int (nI t0), .ref (ad 13 0), .ref (ad 14 0), .ref (ad 15 0), .ref (ad 16 0), .ref (ad 17 0), .ref (ad 18 0), .int (nI r0), .ref (ad 19 0), .ref (ad 20 0), .ref (ad 21 0), .ref (ad 22 0), .ref (ad 23 0), .ref (ad 24 0), .int (jB b0), .ref (ad 25 0)])  hm.1 rfl in_X4_number_X4 1 (by decide) (by decide +kernel) rfl rfl dX4_number_20 ?_
    refine s_bipush (v := 120) dX4_number_23 (by decide) ?_
    refine s_icmp_ne 32 dX4_number_25 (by decide) (fun c25 => ?_) (fun c25 => ?_)
    · obtain ⟨rfl, ev, hT1, hx, m, ea⟩ := hrel.c0 (hzi.mp (Bool.of_not_eq_false (fun q => c12 (jB_0.mpr q)))) (fun z9 => c25 (by rw [show t0 = 120 by omega]; rfl))
      refine s_iconst (v := 0) dX4_number_32 (by decide) ?_
      refine s_put (kd := 12) (ix := 0) (ci := 5) (v := .int 0) (ty := tyX4 0) (fs := [.int c0, .int (nI t0), .ref (ad 13 0), .ref (ad 14 0), .ref (ad 15 0), .ref (ad 16 0), .ref (ad 17 0), .ref (ad 18 0), .int (nI r0), .ref (ad 19 0), .ref (ad 20 0), .ref (ad 21 0), .ref (ad 22 0), .ref (ad 23 0), .ref (ad 24 0), .int (jB b0), .ref (ad 25 0)])  tyX4 tyX4_ok nmX4 hm.1 rfl in_X4_number_X4 0 (by decide) (by decide +kernel) rfl rfl (tyX4_ok 0 (by decide)) (rfl) (rfl) (Nat.le_of_ble_eq_true rfl) dX4_number_33 ?_
      refine s_M (M' := (sset M 12 0 (.inr (5, [.int 0, .int (nI t0), .ref (ad 13 0), .ref (ad 14 0), .ref (ad 15 0), .ref (ad 16 0), .ref (ad 17 0), .ref (ad 18 0), .int (nI r0), .ref (ad 19 0), .ref (ad 20 0), .ref (ad 21 0), .ref (ad 22 0), .ref (ad 23 0), .ref (ad 24 0), .int (jB b0), .ref (ad 25 0)])))) rfl ?_
      refine s_aload_n dX4_number_36 rfl ?_
      refine s_get (kd := 12) (ix := 0) (ci := 5) (fs := [.int 0, .int (nI t0), .ref (ad 13 0), .ref (ad 14 0), .ref (ad 15 0), .ref (ad 16 0), .ref (ad 17 0), .ref (ad 18 0), .int (nI r0), .ref (ad 19 0), .ref (ad 20 0), .ref (ad 21 0), .ref (ad 22 0), .ref (ad 23 0), .ref (ad 24 0), .int (jB b0), .ref (ad 25 0)])  (sset_self _ _ _ _) rfl in_X4_number_X4 0 (by decide) (by decide +kernel) rfl rfl dX4_number_37 ?_
      refine s_if_le 47 dX4_number_40 (by decide) (fun c40 => ?_) (fun c40 => absurd (by decide) c40)
      refine s_aload_n dX4_number_47 rfl ?_
      refine s_bipush (v := -2) dX4_number_48 (by decide) ?_
      refine s_iload_n dX4_number_50 rfl ?_
      refine s_iconst (v := -1) dX4_number_51 (by decide) ?_
      refine s_iconst (v := 0) dX4_number_52 (by decide) ?_
      refine s_callV (As := [.int (-2), .int x, .int (-1), .int 0]) (rest := []) (n := 4) (kd := 12) (ix := 0) (fun l hl => c_X4_addM G l hl ad (sset M 12 0 (.inr (5, [.int 0, .int (nI t0), .ref (ad 13 0), .ref (ad 14 0), .ref (ad 15 0), .ref (ad 16 0), .ref (ad 17 0), .ref (ad 18 0), .int (nI r0), .ref (ad 19 0), .ref (ad 20 0), .ref (ad 21 0), .ref (ad 22 0), .ref (ad 23 0), .ref (ad 24 0), .int (jB b0), .ref (ad 25 0)]))) 0 t0 hd on tw dp cl gr r0 kd fl co sm wk sp b0 mu ⟨(sset_self _ _ _ _), ((sset_k _ _ (by decide)).trans (hm.2.1)), ((sset_k _ _ (by decide)).trans (hm.2.2.1)), ((sset_k _ _ (by decide)).trans (hm.2.2.2.1)), ((sset_k _ _ (by decide)).trans (hm.2.2.2.2.1)), ((sset_k _ _ (by decide)).trans (hm.2.2.2.2.2.1)), ((sset_k _ _ (by decide)).trans (hm.2.2.2.2.2.2.1)), ((sset_k _ _ (by decide)).trans (hm.2.2.2.2.2.2.2.1)), ((sset_k _ _ (by decide)).trans (hm.2.2.2.2.2.2.2.2.1)), ((sset_k _ _ (by decide)).trans (hm.2.2.2.2.2.2.2.2.2.1)), ((sset_k _ _ (by decide)).trans (hm.2.2.2.2.2.2.2.2.2.2.1)), ((sset_k _ _ (by decide)).trans (hm.2.2.2.2.2.2.2.2.2.2.2.1)), ((sset_k _ _ (by decide)).trans (hm.2.2.2.2.2.2.2.2.2.2.2.2.1)), ((sset_k _ _ (by decide)).trans (hm.2.2.2.2.2.2.2.2.2.2.2.2.2))⟩ α hA (hI.any _ _ _ _ _) rfl hT1 m x hx) gX4_number_X4_add rfl (by decide +kernel) (sset_self _ _ _ _) rfl rfl ⟨(Nat.le_of_ble_eq_true rfl), (Nat.le_of_ble_eq_true rfl)⟩ ⟨(Nat.le_of_ble_eq_true rfl), (Nat.le_of_ble_eq_true rfl)⟩ (Nat.le_of_ble_eq_true rfl) dX4_number_53 rfl (fun r9 ad9 M9 h9 => ?_)
      obtain ⟨rfl, hs9, hr9, b9, rfl, hb9⟩ := h9
      exact s_iret rfl (rfl) dX4_number_56 (Nat.le_of_ble_eq_true rfl) (Nat.le_of_ble_eq_true rfl) (⟨rfl, ((sSame.rfl |>.set (P := pMd) (by simp [pMd]) _)).trans hs9, by rw [ea]; exact hr9, b9, rfl, fun q => (hb9 rfl).trans ev.symm⟩)
    · obtain ⟨rfl, ea⟩ := hrel.c2 (hzi.mp (Bool.of_not_eq_false (fun q => c12 (jB_0.mpr q)))) (by have z9 := (nI_eq (a := t0) (b := 120) (by omega) (by omega)).mp c25; omega)
      refine s_iconst (v := 2) dX4_number_28 (by decide) ?_
      refine s_goto 33 dX4_number_29 (by decide) ?_
      refine s_put (kd := 12) (ix := 0) (ci := 5) (v := .int 2) (ty := tyX4 0) (fs := [.int c0, .int (nI t0), .ref (ad 13 0), .ref (ad 14 0), .ref (ad 15 0), .ref (ad 16 0), .ref (ad 17 0), .ref (ad 18 0), .int (nI r0), .ref (ad 19 0), .ref (ad 20 0), .ref (ad 21 0), .ref (ad 22 0), .ref (ad 23 0), .ref (ad 24 0), .int (jB b0), .ref (ad 25 0)])  tyX4 tyX4_ok nmX4 hm.1 rfl in_X4_number_X4 0 (by decide) (by decide +kernel) rfl rfl (tyX4_ok 0 (by decide)) (rfl) (rfl) (Nat.le_of_ble_eq_true rfl) dX4_number_33 ?_
      refine s_M (M' := (sset M 12 0 (.inr (5, [.int 2, .int (nI t0), .ref (ad 13 0), .ref (ad 14 0), .ref (ad 15 0), .ref (ad 16 0), .ref (ad 17 0), .ref (ad 18 0), .int (nI r0), .ref (ad 19 0), .ref (ad 20 0), .ref (ad 21 0), .ref (ad 22 0), .ref (ad 23 0), .ref (ad 24 0), .int (jB b0), .ref (ad 25 0)])))) rfl ?_
      refine s_aload_n dX4_number_36 rfl ?_
      refine s_get (kd := 12) (ix := 0) (ci := 5) (fs := [.int 2, .int (nI t0), .ref (ad 13 0), .ref (ad 14 0), .ref (ad 15 0), .ref (ad 16 0), .ref (ad 17 0), .ref (ad 18 0), .int (nI r0), .ref (ad 19 0), .ref (ad 20 0), .ref (ad 21 0), .ref (ad 22 0), .ref (ad 23 0), .ref (ad 24 0), .int (jB b0), .ref (ad 25 0)])  (sset_self _ _ _ _) rfl in_X4_number_X4 0 (by decide) (by decide +kernel) rfl rfl dX4_number_37 ?_
      refine s_if_le 47 dX4_number_40 (by decide) (fun c40 => absurd c40 (by decide)) (fun c40 => ?_)
      refine s_iconst (v := 0) dX4_number_43 (by decide) ?_
      refine s_goto 56 dX4_number_44 (by decide) ?_
      exact s_iret rfl (rfl) dX4_number_56 (Nat.le_of_ble_eq_true rfl) (Nat.le_of_ble_eq_true rfl) (⟨rfl, (sSame.rfl |>.set (P := pMd) (by simp [pMd]) _), ⟨(2, t0, hd, on, tw, dp, cl, gr, r0, kd, fl, co, sm, wk, sp, b0, mu), ⟨(sset_self _ _ _ _), ((sset_k _ _ (by decide)).trans (hm.2.1)), ((sset_k _ _ (by decide)).trans (hm.2.2.1)), ((sset_k _ _ (by decide)).trans (hm.2.2.2.1)), ((sset_k _ _ (by decide)).trans (hm.2.2.2.2.1)), ((sset_k _ _ (by decide)).trans (hm.2.2.2.2.2.1)), ((sset_k _ _ (by decide)).trans (hm.2.2.2.2.2.2.1)), ((sset_k _ _ (by decide)).trans (hm.2.2.2.2.2.2.2.1)), ((sset_k _ _ (by decide)).trans (hm.2.2.2.2.2.2.2.2.1)), ((sset_k _ _ (by decide)).trans (hm.2.2.2.2.2.2.2.2.2.1)), ((sset_k _ _ (by decide)).trans (hm.2.2.2.2.2.2.2.2.2.2.1)), ((sset_k _ _ (by decide)).trans (hm.2.2.2.2.2.2.2.2.2.2.2.1)), ((sset_k _ _ (by decide)).trans (hm.2.2.2.2.2.2.2.2.2.2.2.2.1)), ((sset_k _ _ (by decide)).trans (hm.2.2.2.2.2.2.2.2.2.2.2.2.2))⟩, rfl, by rw [ea]; exact hI.any _ _ _ _ _⟩, _, rfl, fun q => absurd q (by decide)⟩)
  · obtain ⟨rfl, ea⟩ := hrel.c1 (fun q => by have z9 := hzi.mpr q; rw [jB_0.mp c12] at z9; cases z9)
    refine s_iconst (v := 1) dX4_number_15 (by decide) ?_
    refine s_goto 33 dX4_number_16 (by decide) ?_
    refine s_put (kd := 12) (ix := 0) (ci := 5) (v := .int 1) (ty := tyX4 0) (fs := [.int c0, .int (nI t0), .ref (ad 13 0), .ref (ad 14 0), .ref (ad 15 0), .ref (ad 16 0), .ref (ad 17 0), .ref (ad 18 0), .int (nI r0), .ref (ad 19 0), .ref (ad 20 0), .ref (ad 21 0), .ref (ad 22 0), .ref (ad 23 0), .ref (ad 24 0), .int (jB b0), .ref (ad 25 0)])  tyX4 tyX4_ok nmX4 hm.1 rfl in_X4_number_X4 0 (by decide) (by decide +kernel) rfl rfl (tyX4_ok 0 (by decide)) (rfl) (rfl) (Nat.le_of_ble_eq_true rfl) dX4_number_33 ?_
    refine s_M (M' := (sset M 12 0 (.inr (5, [.int 1, .int (nI t0), .ref (ad 13 0), .ref (ad 14 0), .ref (ad 15 0), .ref (ad 16 0), .ref (ad 17 0), .ref (ad 18 0), .int (nI r0), .ref (ad 19 0), .ref (ad 20 0), .ref (ad 21 0), .ref (ad 22 0), .ref (ad 23 0), .ref (ad 24 0), .int (jB b0), .ref (ad 25 0)])))) rfl ?_
    refine s_aload_n dX4_number_36 rfl ?_
    refine s_get (kd := 12) (ix := 0) (ci := 5) (fs := [.int 1, .int (nI t0), .ref (ad 13 0), .ref (ad 14 0), .ref (ad 15 0), .ref (ad 16 0), .ref (ad 17 0), .ref (ad 18 0), .int (nI r0), .ref (ad 19 0), .ref (ad 20 0), .ref (ad 21 0), .ref (ad 22 0), .ref (ad 23 0), .ref (ad 24 0), .int (jB b0), .ref (ad 25 0)])  (sset_self _ _ _ _) rfl in_X4_number_X4 0 (by decide) (by decide +kernel) rfl rfl dX4_number_37 ?_
    refine s_if_le 47 dX4_number_40 (by decide) (fun c40 => absurd c40 (by decide)) (fun c40 => ?_)
    refine s_iconst (v := 0) dX4_number_43 (by decide) ?_
    refine s_goto 56 dX4_number_44 (by decide) ?_
    exact s_iret rfl (rfl) dX4_number_56 (Nat.le_of_ble_eq_true rfl) (Nat.le_of_ble_eq_true rfl) (⟨rfl, (sSame.rfl |>.set (P := pMd) (by simp [pMd]) _), ⟨(1, t0, hd, on, tw, dp, cl, gr, r0, kd, fl, co, sm, wk, sp, b0, mu), ⟨(sset_self _ _ _ _), ((sset_k _ _ (by decide)).trans (hm.2.1)), ((sset_k _ _ (by decide)).trans (hm.2.2.1)), ((sset_k _ _ (by decide)).trans (hm.2.2.2.1)), ((sset_k _ _ (by decide)).trans (hm.2.2.2.2.1)), ((sset_k _ _ (by decide)).trans (hm.2.2.2.2.2.1)), ((sset_k _ _ (by decide)).trans (hm.2.2.2.2.2.2.1)), ((sset_k _ _ (by decide)).trans (hm.2.2.2.2.2.2.2.1)), ((sset_k _ _ (by decide)).trans (hm.2.2.2.2.2.2.2.2.1)), ((sset_k _ _ (by decide)).trans (hm.2.2.2.2.2.2.2.2.2.1)), ((sset_k _ _ (by decide)).trans (hm.2.2.2.2.2.2.2.2.2.2.1)), ((sset_k _ _ (by decide)).trans (hm.2.2.2.2.2.2.2.2.2.2.2.1)), ((sset_k _ _ (by decide)).trans (hm.2.2.2.2.2.2.2.2.2.2.2.2.1)), ((sset_k _ _ (by decide)).trans (hm.2.2.2.2.2.2.2.2.2.2.2.2.2))⟩, rfl, by rw [ea]; exact hI.any _ _ _ _ _⟩, _, rfl, fun q => absurd q (by decide)⟩)
theorem i3_le {x : Int32} (h : ¬ x ≤ 2) : 3 ≤ x := by
  have := Int32.lt_iff_toInt_lt.mp (Int32.not_le.mp h)
  exact Int32.le_iff_toInt_le.mpr (show (3 : Int) ≤ x.toInt by have : (2 : Int) < x.toInt := this; omega)
abbrev mX4_node : sMeth := (cX4_node, 6, RX4, wsX4_node, { frames := 6, cells := 0, slots := 0, locals := 147 }, (some .int), "node", [])
theorem in_X4_node_X4 : ∀ w ∈ wsX40, w ∈ wsX4_node := by decide +kernel
set_option maxHeartbeats 4000000 in
set_option maxRecDepth 100000 in
theorem c_X4_node (G : sG) (l : Launch) (hl : l.stackTraces = false) (ad : sAd) (M : sM) (c0 : Int32) (t0 : Nat) (hd : Nat → Int32) (on : Nat → Int32) (tw : Nat → Int32) (dp : Nat → Int32) (cl : Nat → Int32) (gr : Nat → Int32) (r0 : Nat) (kd : Nat → Int32) (fl : Nat → Int32) (co : Nat → Int32) (sm : Nat → Int32) (wk : Nat → Int64) (sp : Nat → Int64) (b0 : Bool) (mu : Nat → Int32) (hm : hMd G ad M (c0, t0, hd, on, tw, dp, cl, gr, r0, kd, fl, co, sm, wk, sp, b0, mu)) (α : sAl) (hA : AI α) (hI : RI α (c0, t0, hd, on, tw, dp, cl, gr, r0, kd, fl, co, sm, wk, sp, b0, mu)) (x a b v : Int32) (k : Nat) (α' : sAl) (hrel : ndRel α x a b k v α') : sMet G l yX4_node mX4_node [.ref (ad 12 0), .int x, .int a, .int b] ad M (mPost G ad M k v α') (fun _ _ _ => False) := by
  obtain ⟨i1, i2, i3, i4⟩ := id hI
  have hT := hA.1
  have hR60 := hA.2.1
  refine sMet.of hl (by decide +kernel) rfl rfl rfl rfl (Nat.le_of_ble_eq_true rfl) (fun X => ?_)
  refine s_lv (lv' := [some (.ref (ad 12 0)), some (.int x), some (.int a), some (.int b), none, none]) rfl ?_
  refine s_iload_n dX4_node_0 rfl ?_
  refine s_iconst (v := 2) dX4_node_1 (by decide) ?_
  refine s_icmp_le 14 dX4_node_2 (by decide) (fun c2 => ?_) (fun c2 => ?_)
  · refine s_iconst (v := 0) dX4_node_14 (by decide) ?_
    refine s_istore dX4_node_15 rfl rfl ?_
    refine s_lv (lv' := [some (.ref (ad 12 0)), some (.int x), some (.int a), some (.int b), some (.int 0), none]) rfl ?_
    refine s_aload_n dX4_node_17 rfl ?_
    refine s_iload_n dX4_node_18 rfl ?_
    refine s_callV (As := [.int a]) (rest := []) (n := 1) (kd := 12) (ix := 0) (fun l hl => c_X4_isTree G l hl ad M c0 t0 hd on tw dp cl gr r0 kd fl co sm wk sp b0 mu ⟨hm.1, hm.2.1, hm.2.2.1, hm.2.2.2.1, hm.2.2.2.2.1, hm.2.2.2.2.2.1, hm.2.2.2.2.2.2.1, hm.2.2.2.2.2.2.2.1, hm.2.2.2.2.2.2.2.2.1, hm.2.2.2.2.2.2.2.2.2.1, hm.2.2.2.2.2.2.2.2.2.2.1, hm.2.2.2.2.2.2.2.2.2.2.2.1, hm.2.2.2.2.2.2.2.2.2.2.2.2.1, hm.2.2.2.2.2.2.2.2.2.2.2.2.2⟩ (by omega) a) gX4_node_X4_isTree rfl (by decide +kernel) hm.1 rfl rfl ⟨(Nat.le_of_ble_eq_true rfl), (Nat.le_of_ble_eq_true rfl)⟩ ⟨(Nat.le_of_ble_eq_true rfl), (Nat.le_of_ble_eq_true rfl)⟩ (Nat.le_of_ble_eq_true rfl) dX4_node_19 rfl (fun r9 ad9 M9 h9 => ?_)
    obtain ⟨rfl, rfl, za, rfl, hza⟩ := h9
    rw [i1] at hza
    refine s_if_eq 38 dX4_node_22 (by decide) (fun c22 => ?_) (fun c22 => ?_)
    · obtain ⟨rfl, ea⟩ := hrel.c1 (Or.inl (fun q => by have z9 := hza.mpr q; rw [jB_0.mp c22] at z9; cases z9))
      refine s_aload_n dX4_node_38 rfl ?_
      refine s_iconst (v := 1) dX4_node_39 (by decide) ?_
      refine s_callV (As := [.int 1]) (rest := []) (n := 1) (kd := 12) (ix := 0) (fun l hl => c_X4_raise G l hl ad M c0 t0 hd on tw dp cl gr r0 kd fl co sm wk sp b0 mu ⟨hm.1, hm.2.1, hm.2.2.1, hm.2.2.2.1, hm.2.2.2.2.1, hm.2.2.2.2.2.1, hm.2.2.2.2.2.2.1, hm.2.2.2.2.2.2.2.1, hm.2.2.2.2.2.2.2.2.1, hm.2.2.2.2.2.2.2.2.2.1, hm.2.2.2.2.2.2.2.2.2.2.1, hm.2.2.2.2.2.2.2.2.2.2.2.1, hm.2.2.2.2.2.2.2.2.2.2.2.2.1, hm.2.2.2.2.2.2.2.2.2.2.2.2.2⟩ 1) gX4_node_X4_raise rfl (by decide +kernel) hm.1 rfl rfl ⟨(Nat.le_of_ble_eq_true rfl), (Nat.le_of_ble_eq_true rfl)⟩ ⟨(Nat.le_of_ble_eq_true rfl), (Nat.le_of_ble_eq_true rfl)⟩ (Nat.le_of_ble_eq_true rfl) dX4_node_40 rfl (fun r9 ad9 M9 h9 => ?_)
      obtain ⟨rfl, rfl, hm9, hs9⟩ := h9
      exact s_iret rfl (rfl) dX4_node_43 (Nat.le_of_ble_eq_true rfl) (Nat.le_of_ble_eq_true rfl) (⟨rfl, (sSame.rfl.trans hs9), ⟨(1, t0, hd, on, tw, dp, cl, gr, r0, kd, fl, co, sm, wk, sp, b0, mu), hm9, rfl, by rw [ea]; exact hI.any _ _ _ _ _⟩, _, rfl, fun q => absurd q (by decide)⟩)
    · refine s_iload dX4_node_25 rfl ?_
      refine s_if_ne 44 dX4_node_27 (by decide) (fun c27 => absurd (rfl) c27) (fun c27 => ?_)
      refine s_aload_n dX4_node_30 rfl ?_
      refine s_iload_n dX4_node_31 rfl ?_
      refine s_callV (As := [.int b]) (rest := []) (n := 1) (kd := 12) (ix := 0) (fun l hl => c_X4_isTree G l hl ad M c0 t0 hd on tw dp cl gr r0 kd fl co sm wk sp b0 mu ⟨hm.1, hm.2.1, hm.2.2.1, hm.2.2.2.1, hm.2.2.2.2.1, hm.2.2.2.2.2.1, hm.2.2.2.2.2.2.1, hm.2.2.2.2.2.2.2.1, hm.2.2.2.2.2.2.2.2.1, hm.2.2.2.2.2.2.2.2.2.1, hm.2.2.2.2.2.2.2.2.2.2.1, hm.2.2.2.2.2.2.2.2.2.2.2.1, hm.2.2.2.2.2.2.2.2.2.2.2.2.1, hm.2.2.2.2.2.2.2.2.2.2.2.2.2⟩ (by omega) b) gX4_node_X4_isTree rfl (by decide +kernel) hm.1 rfl rfl ⟨(Nat.le_of_ble_eq_true rfl), (Nat.le_of_ble_eq_true rfl)⟩ ⟨(Nat.le_of_ble_eq_true rfl), (Nat.le_of_ble_eq_true rfl)⟩ (Nat.le_of_ble_eq_true rfl) dX4_node_32 rfl (fun r9 ad9 M9 h9 => ?_)
      obtain ⟨rfl, rfl, zb, rfl, hzb⟩ := h9
      rw [i1] at hzb
      refine s_if_ne 44 dX4_node_35 (by decide) (fun c35 => ?_) (fun c35 => ?_)
      · have hn1 : ¬ nC1 α x a b := fun z => z.elim (fun z => z (hza.mp (Bool.of_not_eq_false (fun q => c22 (jB_0.mpr q))))) (fun z => z.1 (hzb.mp (Bool.of_not_eq_false (fun q => c35 (jB_0.mpr q)))))
        obtain ⟨ja, hja, rfl⟩ := (hza.mp (Bool.of_not_eq_false (fun q => c22 (jB_0.mpr q))))
        obtain ⟨jb, hjb, rfl⟩ := (hzb.mp (Bool.of_not_eq_false (fun q => c35 (jB_0.mpr q))))
        have hDa : aD α ja ≤ 20 := (hA.2.2.1 ja hja).1.2
        have hDb : aD α jb ≤ 20 := (hA.2.2.1 jb hjb).1.2
        refine s_aload_n dX4_node_44 rfl ?_
        refine s_get (kd := 12) (ix := 0) (ci := 5) (fs := [.int c0, .int (nI t0), .ref (ad 13 0), .ref (ad 14 0), .ref (ad 15 0), .ref (ad 16 0), .ref (ad 17 0), .ref (ad 18 0), .int (nI r0), .ref (ad 19 0), .ref (ad 20 0), .ref (ad 21 0), .ref (ad 22 0), .ref (ad 23 0), .ref (ad 24 0), .int (jB b0), .ref (ad 25 0)])  hm.1 rfl in_X4_node_X4 5 (by decide) (by decide +kernel) rfl rfl dX4_node_45 ?_
        refine s_iload_n dX4_node_48 rfl ?_
        refine s_iald (kd := 16) (ix := 0) (n := 120) (f := dp) (j := ja) hm.2.2.2.2.1 (rfl) (by omega) (by decide) dX4_node_49 ?_
        refine s_eqi (y := nI (aD α ja)) ((i3 ja hja).2.2.2.1) ?_
        refine s_istore dX4_node_50 rfl rfl ?_
        refine s_lv (lv' := [some (.ref (ad 12 0)), some (.int x), some (.int (nI ja)), some (.int (nI jb)), some (.int 0), some (.int (nI (aD α ja)))]) rfl ?_
        refine s_iload_n dX4_node_52 rfl ?_
        refine s_iconst (v := -1) dX4_node_53 (by decide) ?_
        refine s_icmp_eq 76 dX4_node_54 (by decide) (fun c54 => absurd c54 (nI_m1' (j := jb) (by omega))) (fun c54 => ?_)
        refine s_aload_n dX4_node_57 rfl ?_
        refine s_get (kd := 12) (ix := 0) (ci := 5) (fs := [.int c0, .int (nI t0), .ref (ad 13 0), .ref (ad 14 0), .ref (ad 15 0), .ref (ad 16 0), .ref (ad 17 0), .ref (ad 18 0), .int (nI r0), .ref (ad 19 0), .ref (ad 20 0), .ref (ad 21 0), .ref (ad 22 0), .ref (ad 23 0), .ref (ad 24 0), .int (jB b0), .ref (ad 25 0)])  hm.1 rfl in_X4_node_X4 5 (by decide) (by decide +kernel) rfl rfl dX4_node_58 ?_
        refine s_iload_n dX4_node_61 rfl ?_
        refine s_iald (kd := 16) (ix := 0) (n := 120) (f := dp) (j := jb) hm.2.2.2.2.1 (rfl) (by omega) (by decide) dX4_node_62 ?_
        refine s_eqi (y := nI (aD α jb)) ((i3 jb hjb).2.2.2.1) ?_
        refine s_iload dX4_node_63 rfl ?_
        refine s_icmp_le 76 dX4_node_65 (by decide) (fun c65 => ?_) (fun c65 => ?_)
        · refine s_iload_n dX4_node_76 rfl ?_
          refine s_i2l dX4_node_77 ?_
          refine s_lconst (v := 0) dX4_node_78 (by decide) ?_
          refine s_ldc2 (v := 5) dX4_node_79 (by decide +kernel) ?_
          refine s_callS (As := [.long x.toInt64, .long 0, .long 5]) (rest := []) (n := 3) (fun l hl => c_X4_in G l hl ad M x.toInt64 0 5) gX4_node_X4_in rfl (by decide +kernel) rfl ⟨(Nat.le_of_ble_eq_true rfl), (Nat.le_of_ble_eq_true rfl)⟩ ⟨(Nat.le_of_ble_eq_true rfl), (Nat.le_of_ble_eq_true rfl)⟩ (Nat.le_of_ble_eq_true rfl) dX4_node_82 rfl (fun r9 ad9 M9 h9 => ?_)
          obtain ⟨rfl, rfl, e9⟩ := h9
          obtain ⟨zh, e8, hzh⟩ := in_z (x := x) (a := 0) (b := 5) (A := 0) (B := 5) (by decide) (by decide)
          rw [e8] at e9
          subst e9
          refine s_if_eq 105 dX4_node_85 (by decide) (fun c85 => ?_) (fun c85 => ?_)
          · obtain ⟨rfl, ea⟩ := hrel.c2 hn1 (fun q => absurd ((nd_two hA hja hjb).mp q).1 (fun q => by have z9 := hzh.mpr q; rw [jB_0.mp c85] at z9; cases z9))
            refine s_aload_n dX4_node_105 rfl ?_
            refine s_iconst (v := 2) dX4_node_106 (by decide) ?_
            refine s_callV (As := [.int 2]) (rest := []) (n := 1) (kd := 12) (ix := 0) (fun l hl => c_X4_raise G l hl ad M c0 t0 hd on tw dp cl gr r0 kd fl co sm wk sp b0 mu ⟨hm.1, hm.2.1, hm.2.2.1, hm.2.2.2.1, hm.2.2.2.2.1, hm.2.2.2.2.2.1, hm.2.2.2.2.2.2.1, hm.2.2.2.2.2.2.2.1, hm.2.2.2.2.2.2.2.2.1, hm.2.2.2.2.2.2.2.2.2.1, hm.2.2.2.2.2.2.2.2.2.2.1, hm.2.2.2.2.2.2.2.2.2.2.2.1, hm.2.2.2.2.2.2.2.2.2.2.2.2.1, hm.2.2.2.2.2.2.2.2.2.2.2.2.2⟩ 2) gX4_node_X4_raise rfl (by decide +kernel) hm.1 rfl rfl ⟨(Nat.le_of_ble_eq_true rfl), (Nat.le_of_ble_eq_true rfl)⟩ ⟨(Nat.le_of_ble_eq_true rfl), (Nat.le_of_ble_eq_true rfl)⟩ (Nat.le_of_ble_eq_true rfl) dX4_node_107 rfl (fun r9 ad9 M9 h9 => ?_)
            obtain ⟨rfl, rfl, hm9, hs9⟩ := h9
            exact s_iret rfl (rfl) dX4_node_110 (Nat.le_of_ble_eq_true rfl) (Nat.le_of_ble_eq_true rfl) (⟨rfl, (sSame.rfl.trans hs9), ⟨(2, t0, hd, on, tw, dp, cl, gr, r0, kd, fl, co, sm, wk, sp, b0, mu), hm9, rfl, by rw [ea]; exact hI.any _ _ _ _ _⟩, _, rfl, fun q => absurd q (by decide)⟩)
          · refine s_iload_n dX4_node_88 rfl ?_
            refine s_iconst (v := 2) dX4_node_89 (by decide) ?_
            refine s_icmp_le 98 dX4_node_90 (by decide) (fun c90 => ?_) (fun c90 => absurd (c2) c90)
            refine s_iload dX4_node_98 rfl ?_
            refine s_bipush (v := 19) dX4_node_100 (by decide) ?_
            refine s_icmp_le 111 dX4_node_102 (by decide) (fun c102 => ?_) (fun c102 => ?_)
            · have hok : ∃ hd ja' jb', ndOk α x (nI ja) (nI jb) hd ja' jb' := (nd_two hA hja hjb).mpr ⟨(hzh.mp (Bool.of_not_eq_false (fun q => c85 (jB_0.mpr q)))), c2, Nat.max_le.mpr ⟨by have := ((nI_le_iff (a := (aD α ja)) (b := 19) (by omega) (by omega)).mp c102); have := (nI_le_iff (a := aD α jb) (b := aD α ja) (by omega) (by omega)).mp c65; omega, by have := ((nI_le_iff (a := (aD α ja)) (b := 19) (by omega) (by omega)).mp c102); have := (nI_le_iff (a := aD α jb) (b := aD α ja) (by omega) (by omega)).mp c65; omega⟩⟩
              refine s_aload_n dX4_node_111 rfl ?_
              refine s_get (kd := 12) (ix := 0) (ci := 5) (fs := [.int c0, .int (nI t0), .ref (ad 13 0), .ref (ad 14 0), .ref (ad 15 0), .ref (ad 16 0), .ref (ad 17 0), .ref (ad 18 0), .int (nI r0), .ref (ad 19 0), .ref (ad 20 0), .ref (ad 21 0), .ref (ad 22 0), .ref (ad 23 0), .ref (ad 24 0), .int (jB b0), .ref (ad 25 0)])  hm.1 rfl in_X4_node_X4 1 (by decide) (by decide +kernel) rfl rfl dX4_node_112 ?_
              refine s_bipush (v := 120) dX4_node_115 (by decide) ?_
              refine s_icmp_ne 126 dX4_node_117 (by decide) (fun c117 => ?_) (fun c117 => ?_)
              · obtain ⟨rfl, ev, hT1, h6, ja2, jb2, g, P, m, ⟨⟨hh6, hx, hj2, hae, hk2, hbe⟩, hdp⟩, hnr, ea⟩ := hrel.c0 hok (fun z9 => c117 (by rw [show t0 = 120 by omega]; rfl))
                have e2 : ja = ja2 := (nI_eq (a := ja) (b := ja2) (by omega) (by omega)).mp hae
                subst e2
                have e3 : jb = jb2 := hbe.elim (fun q => (nI_eq (a := jb) (b := jb2) (by omega) (by omega)).mp q.2) (fun q => absurd q.2.1 (nI_m1' (j := jb) (by omega)))
                subst e3
                have ed : ndDp α ja jb = aD α ja + 1 := by unfold ndDp; have := (nI_le_iff (a := aD α jb) (b := aD α ja) (by omega) (by omega)).mp c65; omega
                refine s_aload_n dX4_node_126 rfl ?_
                refine s_iconst (v := 0) dX4_node_127 (by decide) ?_
                refine s_put (kd := 12) (ix := 0) (ci := 5) (v := .int 0) (ty := tyX4 0) (fs := [.int c0, .int (nI t0), .ref (ad 13 0), .ref (ad 14 0), .ref (ad 15 0), .ref (ad 16 0), .ref (ad 17 0), .ref (ad 18 0), .int (nI r0), .ref (ad 19 0), .ref (ad 20 0), .ref (ad 21 0), .ref (ad 22 0), .ref (ad 23 0), .ref (ad 24 0), .int (jB b0), .ref (ad 25 0)])  tyX4 tyX4_ok nmX4 hm.1 rfl in_X4_node_X4 0 (by decide) (by decide +kernel) rfl rfl (tyX4_ok 0 (by decide)) (rfl) (rfl) (Nat.le_of_ble_eq_true rfl) dX4_node_128 ?_
                refine s_M (M' := (sset M 12 0 (.inr (5, [.int 0, .int (nI t0), .ref (ad 13 0), .ref (ad 14 0), .ref (ad 15 0), .ref (ad 16 0), .ref (ad 17 0), .ref (ad 18 0), .int (nI r0), .ref (ad 19 0), .ref (ad 20 0), .ref (ad 21 0), .ref (ad 22 0), .ref (ad 23 0), .ref (ad 24 0), .int (jB b0), .ref (ad 25 0)])))) rfl ?_
                refine s_aload_n dX4_node_131 rfl ?_
                refine s_iload_n dX4_node_132 rfl ?_
                refine s_iload_n dX4_node_133 rfl ?_
                refine s_iload_n dX4_node_134 rfl ?_
                refine s_iload dX4_node_135 rfl ?_
                refine s_iconst (v := 1) dX4_node_137 (by decide) ?_
                refine s_iadd dX4_node_138 ?_
                refine s_eqi (y := nI (ndDp α ja jb)) (by rw [ed]; exact nI_1 _) ?_
                refine s_callV (As := [.int x, .int (nI ja), .int (nI jb), .int (nI (ndDp α ja jb))]) (rest := []) (n := 4) (kd := 12) (ix := 0) (fun l hl => c_X4_addN G l hl ad (sset M 12 0 (.inr (5, [.int 0, .int (nI t0), .ref (ad 13 0), .ref (ad 14 0), .ref (ad 15 0), .ref (ad 16 0), .ref (ad 17 0), .ref (ad 18 0), .int (nI r0), .ref (ad 19 0), .ref (ad 20 0), .ref (ad 21 0), .ref (ad 22 0), .ref (ad 23 0), .ref (ad 24 0), .int (jB b0), .ref (ad 25 0)]))) 0 t0 hd on tw dp cl gr r0 kd fl co sm wk sp b0 mu ⟨(sset_self _ _ _ _), ((sset_k _ _ (by decide)).trans (hm.2.1)), ((sset_k _ _ (by decide)).trans (hm.2.2.1)), ((sset_k _ _ (by decide)).trans (hm.2.2.2.1)), ((sset_k _ _ (by decide)).trans (hm.2.2.2.2.1)), ((sset_k _ _ (by decide)).trans (hm.2.2.2.2.2.1)), ((sset_k _ _ (by decide)).trans (hm.2.2.2.2.2.2.1)), ((sset_k _ _ (by decide)).trans (hm.2.2.2.2.2.2.2.1)), ((sset_k _ _ (by decide)).trans (hm.2.2.2.2.2.2.2.2.1)), ((sset_k _ _ (by decide)).trans (hm.2.2.2.2.2.2.2.2.2.1)), ((sset_k _ _ (by decide)).trans (hm.2.2.2.2.2.2.2.2.2.2.1)), ((sset_k _ _ (by decide)).trans (hm.2.2.2.2.2.2.2.2.2.2.2.1)), ((sset_k _ _ (by decide)).trans (hm.2.2.2.2.2.2.2.2.2.2.2.2.1)), ((sset_k _ _ (by decide)).trans (hm.2.2.2.2.2.2.2.2.2.2.2.2.2))⟩ α hA (hI.any _ _ _ _ _) rfl hT1 h6 ja jb m (ndDp α ja jb) g P x (nI ja) (nI jb) hh6 hx hj2 rfl hk2 hbe hnr) gX4_node_X4_add rfl (by decide +kernel) (sset_self _ _ _ _) rfl rfl ⟨(Nat.le_of_ble_eq_true rfl), (Nat.le_of_ble_eq_true rfl)⟩ ⟨(Nat.le_of_ble_eq_true rfl), (Nat.le_of_ble_eq_true rfl)⟩ (Nat.le_of_ble_eq_true rfl) dX4_node_139 rfl (fun r9 ad9 M9 h9 => ?_)
                obtain ⟨rfl, hs9, hr9, b9, rfl, hb9⟩ := h9
                exact s_iret rfl (rfl) dX4_node_142 (Nat.le_of_ble_eq_true rfl) (Nat.le_of_ble_eq_true rfl) (⟨rfl, ((sSame.rfl |>.set (P := pMd) (by simp [pMd]) _)).trans hs9, by rw [ea]; exact hr9, b9, rfl, fun q => (hb9 rfl).trans ev.symm⟩)
              · obtain ⟨rfl, ea⟩ := hrel.c3 hok (by have z9 := (nI_eq (a := t0) (b := 120) (by omega) (by omega)).mp c117; omega)
                refine s_aload_n dX4_node_120 rfl ?_
                refine s_iconst (v := 3) dX4_node_121 (by decide) ?_
                refine s_callV (As := [.int 3]) (rest := []) (n := 1) (kd := 12) (ix := 0) (fun l hl => c_X4_raise G l hl ad M c0 t0 hd on tw dp cl gr r0 kd fl co sm wk sp b0 mu ⟨hm.1, hm.2.1, hm.2.2.1, hm.2.2.2.1, hm.2.2.2.2.1, hm.2.2.2.2.2.1, hm.2.2.2.2.2.2.1, hm.2.2.2.2.2.2.2.1, hm.2.2.2.2.2.2.2.2.1, hm.2.2.2.2.2.2.2.2.2.1, hm.2.2.2.2.2.2.2.2.2.2.1, hm.2.2.2.2.2.2.2.2.2.2.2.1, hm.2.2.2.2.2.2.2.2.2.2.2.2.1, hm.2.2.2.2.2.2.2.2.2.2.2.2.2⟩ 3) gX4_node_X4_raise rfl (by decide +kernel) hm.1 rfl rfl ⟨(Nat.le_of_ble_eq_true rfl), (Nat.le_of_ble_eq_true rfl)⟩ ⟨(Nat.le_of_ble_eq_true rfl), (Nat.le_of_ble_eq_true rfl)⟩ (Nat.le_of_ble_eq_true rfl) dX4_node_122 rfl (fun r9 ad9 M9 h9 => ?_)
                obtain ⟨rfl, rfl, hm9, hs9⟩ := h9
                exact s_iret rfl (rfl) dX4_node_125 (Nat.le_of_ble_eq_true rfl) (Nat.le_of_ble_eq_true rfl) (⟨rfl, (sSame.rfl.trans hs9), ⟨(3, t0, hd, on, tw, dp, cl, gr, r0, kd, fl, co, sm, wk, sp, b0, mu), hm9, rfl, by rw [ea]; exact hI.any _ _ _ _ _⟩, _, rfl, fun q => absurd q (by decide)⟩)
            · obtain ⟨rfl, ea⟩ := hrel.c2 hn1 (fun q => c102 (nI_le (b := 19) (by have := ((nd_two hA hja hjb).mp q).2.2; omega) (by omega)))
              refine s_aload_n dX4_node_105 rfl ?_
              refine s_iconst (v := 2) dX4_node_106 (by decide) ?_
              refine s_callV (As := [.int 2]) (rest := []) (n := 1) (kd := 12) (ix := 0) (fun l hl => c_X4_raise G l hl ad M c0 t0 hd on tw dp cl gr r0 kd fl co sm wk sp b0 mu ⟨hm.1, hm.2.1, hm.2.2.1, hm.2.2.2.1, hm.2.2.2.2.1, hm.2.2.2.2.2.1, hm.2.2.2.2.2.2.1, hm.2.2.2.2.2.2.2.1, hm.2.2.2.2.2.2.2.2.1, hm.2.2.2.2.2.2.2.2.2.1, hm.2.2.2.2.2.2.2.2.2.2.1, hm.2.2.2.2.2.2.2.2.2.2.2.1, hm.2.2.2.2.2.2.2.2.2.2.2.2.1, hm.2.2.2.2.2.2.2.2.2.2.2.2.2⟩ 2) gX4_node_X4_raise rfl (by decide +kernel) hm.1 rfl rfl ⟨(Nat.le_of_ble_eq_true rfl), (Nat.le_of_ble_eq_true rfl)⟩ ⟨(Nat.le_of_ble_eq_true rfl), (Nat.le_of_ble_eq_true rfl)⟩ (Nat.le_of_ble_eq_true rfl) dX4_node_107 rfl (fun r9 ad9 M9 h9 => ?_)
              obtain ⟨rfl, rfl, hm9, hs9⟩ := h9
              exact s_iret rfl (rfl) dX4_node_110 (Nat.le_of_ble_eq_true rfl) (Nat.le_of_ble_eq_true rfl) (⟨rfl, (sSame.rfl.trans hs9), ⟨(2, t0, hd, on, tw, dp, cl, gr, r0, kd, fl, co, sm, wk, sp, b0, mu), hm9, rfl, by rw [ea]; exact hI.any _ _ _ _ _⟩, _, rfl, fun q => absurd q (by decide)⟩)
        · refine s_aload_n dX4_node_68 rfl ?_
          refine s_get (kd := 12) (ix := 0) (ci := 5) (fs := [.int c0, .int (nI t0), .ref (ad 13 0), .ref (ad 14 0), .ref (ad 15 0), .ref (ad 16 0), .ref (ad 17 0), .ref (ad 18 0), .int (nI r0), .ref (ad 19 0), .ref (ad 20 0), .ref (ad 21 0), .ref (ad 22 0), .ref (ad 23 0), .ref (ad 24 0), .int (jB b0), .ref (ad 25 0)])  hm.1 rfl in_X4_node_X4 5 (by decide) (by decide +kernel) rfl rfl dX4_node_69 ?_
          refine s_iload_n dX4_node_72 rfl ?_
          refine s_iald (kd := 16) (ix := 0) (n := 120) (f := dp) (j := jb) hm.2.2.2.2.1 (rfl) (by omega) (by decide) dX4_node_73 ?_
          refine s_eqi (y := nI (aD α jb)) ((i3 jb hjb).2.2.2.1) ?_
          refine s_istore dX4_node_74 rfl rfl ?_
          refine s_lv (lv' := [some (.ref (ad 12 0)), some (.int x), some (.int (nI ja)), some (.int (nI jb)), some (.int 0), some (.int (nI (aD α jb)))]) rfl ?_
          refine s_iload_n dX4_node_76 rfl ?_
          refine s_i2l dX4_node_77 ?_
          refine s_lconst (v := 0) dX4_node_78 (by decide) ?_
          refine s_ldc2 (v := 5) dX4_node_79 (by decide +kernel) ?_
          refine s_callS (As := [.long x.toInt64, .long 0, .long 5]) (rest := []) (n := 3) (fun l hl => c_X4_in G l hl ad M x.toInt64 0 5) gX4_node_X4_in rfl (by decide +kernel) rfl ⟨(Nat.le_of_ble_eq_true rfl), (Nat.le_of_ble_eq_true rfl)⟩ ⟨(Nat.le_of_ble_eq_true rfl), (Nat.le_of_ble_eq_true rfl)⟩ (Nat.le_of_ble_eq_true rfl) dX4_node_82 rfl (fun r9 ad9 M9 h9 => ?_)
          obtain ⟨rfl, rfl, e9⟩ := h9
          obtain ⟨zh, e8, hzh⟩ := in_z (x := x) (a := 0) (b := 5) (A := 0) (B := 5) (by decide) (by decide)
          rw [e8] at e9
          subst e9
          refine s_if_eq 105 dX4_node_85 (by decide) (fun c85 => ?_) (fun c85 => ?_)
          · obtain ⟨rfl, ea⟩ := hrel.c2 hn1 (fun q => absurd ((nd_two hA hja hjb).mp q).1 (fun q => by have z9 := hzh.mpr q; rw [jB_0.mp c85] at z9; cases z9))
            refine s_aload_n dX4_node_105 rfl ?_
            refine s_iconst (v := 2) dX4_node_106 (by decide) ?_
            refine s_callV (As := [.int 2]) (rest := []) (n := 1) (kd := 12) (ix := 0) (fun l hl => c_X4_raise G l hl ad M c0 t0 hd on tw dp cl gr r0 kd fl co sm wk sp b0 mu ⟨hm.1, hm.2.1, hm.2.2.1, hm.2.2.2.1, hm.2.2.2.2.1, hm.2.2.2.2.2.1, hm.2.2.2.2.2.2.1, hm.2.2.2.2.2.2.2.1, hm.2.2.2.2.2.2.2.2.1, hm.2.2.2.2.2.2.2.2.2.1, hm.2.2.2.2.2.2.2.2.2.2.1, hm.2.2.2.2.2.2.2.2.2.2.2.1, hm.2.2.2.2.2.2.2.2.2.2.2.2.1, hm.2.2.2.2.2.2.2.2.2.2.2.2.2⟩ 2) gX4_node_X4_raise rfl (by decide +kernel) hm.1 rfl rfl ⟨(Nat.le_of_ble_eq_true rfl), (Nat.le_of_ble_eq_true rfl)⟩ ⟨(Nat.le_of_ble_eq_true rfl), (Nat.le_of_ble_eq_true rfl)⟩ (Nat.le_of_ble_eq_true rfl) dX4_node_107 rfl (fun r9 ad9 M9 h9 => ?_)
            obtain ⟨rfl, rfl, hm9, hs9⟩ := h9
            exact s_iret rfl (rfl) dX4_node_110 (Nat.le_of_ble_eq_true rfl) (Nat.le_of_ble_eq_true rfl) (⟨rfl, (sSame.rfl.trans hs9), ⟨(2, t0, hd, on, tw, dp, cl, gr, r0, kd, fl, co, sm, wk, sp, b0, mu), hm9, rfl, by rw [ea]; exact hI.any _ _ _ _ _⟩, _, rfl, fun q => absurd q (by decide)⟩)
          · refine s_iload_n dX4_node_88 rfl ?_
            refine s_iconst (v := 2) dX4_node_89 (by decide) ?_
            refine s_icmp_le 98 dX4_node_90 (by decide) (fun c90 => ?_) (fun c90 => absurd (c2) c90)
            refine s_iload dX4_node_98 rfl ?_
            refine s_bipush (v := 19) dX4_node_100 (by decide) ?_
            refine s_icmp_le 111 dX4_node_102 (by decide) (fun c102 => ?_) (fun c102 => ?_)
            · have hok : ∃ hd ja' jb', ndOk α x (nI ja) (nI jb) hd ja' jb' := (nd_two hA hja hjb).mpr ⟨(hzh.mp (Bool.of_not_eq_false (fun q => c85 (jB_0.mpr q)))), c2, Nat.max_le.mpr ⟨by have := ((nI_le_iff (a := (aD α jb)) (b := 19) (by omega) (by omega)).mp c102); have q9 : ¬ aD α jb ≤ aD α ja := fun z => c65 ((nI_le_iff (by omega) (by omega)).mpr z); omega, by have := ((nI_le_iff (a := (aD α jb)) (b := 19) (by omega) (by omega)).mp c102); omega⟩⟩
              refine s_aload_n dX4_node_111 rfl ?_
              refine s_get (kd := 12) (ix := 0) (ci := 5) (fs := [.int c0, .int (nI t0), .ref (ad 13 0), .ref (ad 14 0), .ref (ad 15 0), .ref (ad 16 0), .ref (ad 17 0), .ref (ad 18 0), .int (nI r0), .ref (ad 19 0), .ref (ad 20 0), .ref (ad 21 0), .ref (ad 22 0), .ref (ad 23 0), .ref (ad 24 0), .int (jB b0), .ref (ad 25 0)])  hm.1 rfl in_X4_node_X4 1 (by decide) (by decide +kernel) rfl rfl dX4_node_112 ?_
              refine s_bipush (v := 120) dX4_node_115 (by decide) ?_
              refine s_icmp_ne 126 dX4_node_117 (by decide) (fun c117 => ?_) (fun c117 => ?_)
              · obtain ⟨rfl, ev, hT1, h6, ja2, jb2, g, P, m, ⟨⟨hh6, hx, hj2, hae, hk2, hbe⟩, hdp⟩, hnr, ea⟩ := hrel.c0 hok (fun z9 => c117 (by rw [show t0 = 120 by omega]; rfl))
                have e2 : ja = ja2 := (nI_eq (a := ja) (b := ja2) (by omega) (by omega)).mp hae
                subst e2
                have e3 : jb = jb2 := hbe.elim (fun q => (nI_eq (a := jb) (b := jb2) (by omega) (by omega)).mp q.2) (fun q => absurd q.2.1 (nI_m1' (j := jb) (by omega)))
                subst e3
                have ed : ndDp α ja jb = aD α jb + 1 := by unfold ndDp; have q9 : ¬ aD α jb ≤ aD α ja := fun z => c65 ((nI_le_iff (by omega) (by omega)).mpr z); omega
                refine s_aload_n dX4_node_126 rfl ?_
                refine s_iconst (v := 0) dX4_node_127 (by decide) ?_
                refine s_put (kd := 12) (ix := 0) (ci := 5) (v := .int 0) (ty := tyX4 0) (fs := [.int c0, .int (nI t0), .ref (ad 13 0), .ref (ad 14 0), .ref (ad 15 0), .ref (ad 16 0), .ref (ad 17 0), .ref (ad 18 0), .int (nI r0), .ref (ad 19 0), .ref (ad 20 0), .ref (ad 21 0), .ref (ad 22 0), .ref (ad 23 0), .ref (ad 24 0), .int (jB b0), .ref (ad 25 0)])  tyX4 tyX4_ok nmX4 hm.1 rfl in_X4_node_X4 0 (by decide) (by decide +kernel) rfl rfl (tyX4_ok 0 (by decide)) (rfl) (rfl) (Nat.le_of_ble_eq_true rfl) dX4_node_128 ?_
                refine s_M (M' := (sset M 12 0 (.inr (5, [.int 0, .int (nI t0), .ref (ad 13 0), .ref (ad 14 0), .ref (ad 15 0), .ref (ad 16 0), .ref (ad 17 0), .ref (ad 18 0), .int (nI r0), .ref (ad 19 0), .ref (ad 20 0), .ref (ad 21 0), .ref (ad 22 0), .ref (ad 23 0), .ref (ad 24 0), .int (jB b0), .ref (ad 25 0)])))) rfl ?_
                refine s_aload_n dX4_node_131 rfl ?_
                refine s_iload_n dX4_node_132 rfl ?_
                refine s_iload_n dX4_node_133 rfl ?_
                refine s_iload_n dX4_node_134 rfl ?_
                refine s_iload dX4_node_135 rfl ?_
                refine s_iconst (v := 1) dX4_node_137 (by decide) ?_
                refine s_iadd dX4_node_138 ?_
                refine s_eqi (y := nI (ndDp α ja jb)) (by rw [ed]; exact nI_1 _) ?_
                refine s_callV (As := [.int x, .int (nI ja), .int (nI jb), .int (nI (ndDp α ja jb))]) (rest := []) (n := 4) (kd := 12) (ix := 0) (fun l hl => c_X4_addN G l hl ad (sset M 12 0 (.inr (5, [.int 0, .int (nI t0), .ref (ad 13 0), .ref (ad 14 0), .ref (ad 15 0), .ref (ad 16 0), .ref (ad 17 0), .ref (ad 18 0), .int (nI r0), .ref (ad 19 0), .ref (ad 20 0), .ref (ad 21 0), .ref (ad 22 0), .ref (ad 23 0), .ref (ad 24 0), .int (jB b0), .ref (ad 25 0)]))) 0 t0 hd on tw dp cl gr r0 kd fl co sm wk sp b0 mu ⟨(sset_self _ _ _ _), ((sset_k _ _ (by decide)).trans (hm.2.1)), ((sset_k _ _ (by decide)).trans (hm.2.2.1)), ((sset_k _ _ (by decide)).trans (hm.2.2.2.1)), ((sset_k _ _ (by decide)).trans (hm.2.2.2.2.1)), ((sset_k _ _ (by decide)).trans (hm.2.2.2.2.2.1)), ((sset_k _ _ (by decide)).trans (hm.2.2.2.2.2.2.1)), ((sset_k _ _ (by decide)).trans (hm.2.2.2.2.2.2.2.1)), ((sset_k _ _ (by decide)).trans (hm.2.2.2.2.2.2.2.2.1)), ((sset_k _ _ (by decide)).trans (hm.2.2.2.2.2.2.2.2.2.1)), ((sset_k _ _ (by decide)).trans (hm.2.2.2.2.2.2.2.2.2.2.1)), ((sset_k _ _ (by decide)).trans (hm.2.2.2.2.2.2.2.2.2.2.2.1)), ((sset_k _ _ (by decide)).trans (hm.2.2.2.2.2.2.2.2.2.2.2.2.1)), ((sset_k _ _ (by decide)).trans (hm.2.2.2.2.2.2.2.2.2.2.2.2.2))⟩ α hA (hI.any _ _ _ _ _) rfl hT1 h6 ja jb m (ndDp α ja jb) g P x (nI ja) (nI jb) hh6 hx hj2 rfl hk2 hbe hnr) gX4_node_X4_add rfl (by decide +kernel) (sset_self _ _ _ _) rfl rfl ⟨(Nat.le_of_ble_eq_true rfl), (Nat.le_of_ble_eq_true rfl)⟩ ⟨(Nat.le_of_ble_eq_true rfl), (Nat.le_of_ble_eq_true rfl)⟩ (Nat.le_of_ble_eq_true rfl) dX4_node_139 rfl (fun r9 ad9 M9 h9 => ?_)
                obtain ⟨rfl, hs9, hr9, b9, rfl, hb9⟩ := h9
                exact s_iret rfl (rfl) dX4_node_142 (Nat.le_of_ble_eq_true rfl) (Nat.le_of_ble_eq_true rfl) (⟨rfl, ((sSame.rfl |>.set (P := pMd) (by simp [pMd]) _)).trans hs9, by rw [ea]; exact hr9, b9, rfl, fun q => (hb9 rfl).trans ev.symm⟩)
              · obtain ⟨rfl, ea⟩ := hrel.c3 hok (by have z9 := (nI_eq (a := t0) (b := 120) (by omega) (by omega)).mp c117; omega)
                refine s_aload_n dX4_node_120 rfl ?_
                refine s_iconst (v := 3) dX4_node_121 (by decide) ?_
                refine s_callV (As := [.int 3]) (rest := []) (n := 1) (kd := 12) (ix := 0) (fun l hl => c_X4_raise G l hl ad M c0 t0 hd on tw dp cl gr r0 kd fl co sm wk sp b0 mu ⟨hm.1, hm.2.1, hm.2.2.1, hm.2.2.2.1, hm.2.2.2.2.1, hm.2.2.2.2.2.1, hm.2.2.2.2.2.2.1, hm.2.2.2.2.2.2.2.1, hm.2.2.2.2.2.2.2.2.1, hm.2.2.2.2.2.2.2.2.2.1, hm.2.2.2.2.2.2.2.2.2.2.1, hm.2.2.2.2.2.2.2.2.2.2.2.1, hm.2.2.2.2.2.2.2.2.2.2.2.2.1, hm.2.2.2.2.2.2.2.2.2.2.2.2.2⟩ 3) gX4_node_X4_raise rfl (by decide +kernel) hm.1 rfl rfl ⟨(Nat.le_of_ble_eq_true rfl), (Nat.le_of_ble_eq_true rfl)⟩ ⟨(Nat.le_of_ble_eq_true rfl), (Nat.le_of_ble_eq_true rfl)⟩ (Nat.le_of_ble_eq_true rfl) dX4_node_122 rfl (fun r9 ad9 M9 h9 => ?_)
                obtain ⟨rfl, rfl, hm9, hs9⟩ := h9
                exact s_iret rfl (rfl) dX4_node_125 (Nat.le_of_ble_eq_true rfl) (Nat.le_of_ble_eq_true rfl) (⟨rfl, (sSame.rfl.trans hs9), ⟨(3, t0, hd, on, tw, dp, cl, gr, r0, kd, fl, co, sm, wk, sp, b0, mu), hm9, rfl, by rw [ea]; exact hI.any _ _ _ _ _⟩, _, rfl, fun q => absurd q (by decide)⟩)
            · obtain ⟨rfl, ea⟩ := hrel.c2 hn1 (fun q => c102 (nI_le (b := 19) (by have := ((nd_two hA hja hjb).mp q).2.2; omega) (by omega)))
              refine s_aload_n dX4_node_105 rfl ?_
              refine s_iconst (v := 2) dX4_node_106 (by decide) ?_
              refine s_callV (As := [.int 2]) (rest := []) (n := 1) (kd := 12) (ix := 0) (fun l hl => c_X4_raise G l hl ad M c0 t0 hd on tw dp cl gr r0 kd fl co sm wk sp b0 mu ⟨hm.1, hm.2.1, hm.2.2.1, hm.2.2.2.1, hm.2.2.2.2.1, hm.2.2.2.2.2.1, hm.2.2.2.2.2.2.1, hm.2.2.2.2.2.2.2.1, hm.2.2.2.2.2.2.2.2.1, hm.2.2.2.2.2.2.2.2.2.1, hm.2.2.2.2.2.2.2.2.2.2.1, hm.2.2.2.2.2.2.2.2.2.2.2.1, hm.2.2.2.2.2.2.2.2.2.2.2.2.1, hm.2.2.2.2.2.2.2.2.2.2.2.2.2⟩ 2) gX4_node_X4_raise rfl (by decide +kernel) hm.1 rfl rfl ⟨(Nat.le_of_ble_eq_true rfl), (Nat.le_of_ble_eq_true rfl)⟩ ⟨(Nat.le_of_ble_eq_true rfl), (Nat.le_of_ble_eq_true rfl)⟩ (Nat.le_of_ble_eq_true rfl) dX4_node_107 rfl (fun r9 ad9 M9 h9 => ?_)
              obtain ⟨rfl, rfl, hm9, hs9⟩ := h9
              exact s_iret rfl (rfl) dX4_node_110 (Nat.le_of_ble_eq_true rfl) (Nat.le_of_ble_eq_true rfl) (⟨rfl, (sSame.rfl.trans hs9), ⟨(2, t0, hd, on, tw, dp, cl, gr, r0, kd, fl, co, sm, wk, sp, b0, mu), hm9, rfl, by rw [ea]; exact hI.any _ _ _ _ _⟩, _, rfl, fun q => absurd q (by decide)⟩)
      · obtain ⟨rfl, ea⟩ := hrel.c1 (Or.inr ⟨(fun q => by have z9 := hzb.mpr q; rw [jB_0.mp c35] at z9; cases z9), (fun q => absurd q.1 (Int32.not_le.mpr (Int32.lt_of_le_of_lt c2 (by decide))))⟩)
        refine s_aload_n dX4_node_38 rfl ?_
        refine s_iconst (v := 1) dX4_node_39 (by decide) ?_
        refine s_callV (As := [.int 1]) (rest := []) (n := 1) (kd := 12) (ix := 0) (fun l hl => c_X4_raise G l hl ad M c0 t0 hd on tw dp cl gr r0 kd fl co sm wk sp b0 mu ⟨hm.1, hm.2.1, hm.2.2.1, hm.2.2.2.1, hm.2.2.2.2.1, hm.2.2.2.2.2.1, hm.2.2.2.2.2.2.1, hm.2.2.2.2.2.2.2.1, hm.2.2.2.2.2.2.2.2.1, hm.2.2.2.2.2.2.2.2.2.1, hm.2.2.2.2.2.2.2.2.2.2.1, hm.2.2.2.2.2.2.2.2.2.2.2.1, hm.2.2.2.2.2.2.2.2.2.2.2.2.1, hm.2.2.2.2.2.2.2.2.2.2.2.2.2⟩ 1) gX4_node_X4_raise rfl (by decide +kernel) hm.1 rfl rfl ⟨(Nat.le_of_ble_eq_true rfl), (Nat.le_of_ble_eq_true rfl)⟩ ⟨(Nat.le_of_ble_eq_true rfl), (Nat.le_of_ble_eq_true rfl)⟩ (Nat.le_of_ble_eq_true rfl) dX4_node_40 rfl (fun r9 ad9 M9 h9 => ?_)
        obtain ⟨rfl, rfl, hm9, hs9⟩ := h9
        exact s_iret rfl (rfl) dX4_node_43 (Nat.le_of_ble_eq_true rfl) (Nat.le_of_ble_eq_true rfl) (⟨rfl, (sSame.rfl.trans hs9), ⟨(1, t0, hd, on, tw, dp, cl, gr, r0, kd, fl, co, sm, wk, sp, b0, mu), hm9, rfl, by rw [ea]; exact hI.any _ _ _ _ _⟩, _, rfl, fun q => absurd q (by decide)⟩)
  · refine s_iload_n dX4_node_5 rfl ?_
    refine s_iconst (v := -1) dX4_node_6 (by decide) ?_
    refine s_icmp_ne 14 dX4_node_7 (by decide) (fun c7 => ?_) (fun c7 => ?_)
    · refine s_iconst (v := 0) dX4_node_14 (by decide) ?_
      refine s_istore dX4_node_15 rfl rfl ?_
      refine s_lv (lv' := [some (.ref (ad 12 0)), some (.int x), some (.int a), some (.int b), some (.int 0), none]) rfl ?_
      refine s_aload_n dX4_node_17 rfl ?_
      refine s_iload_n dX4_node_18 rfl ?_
      refine s_callV (As := [.int a]) (rest := []) (n := 1) (kd := 12) (ix := 0) (fun l hl => c_X4_isTree G l hl ad M c0 t0 hd on tw dp cl gr r0 kd fl co sm wk sp b0 mu ⟨hm.1, hm.2.1, hm.2.2.1, hm.2.2.2.1, hm.2.2.2.2.1, hm.2.2.2.2.2.1, hm.2.2.2.2.2.2.1, hm.2.2.2.2.2.2.2.1, hm.2.2.2.2.2.2.2.2.1, hm.2.2.2.2.2.2.2.2.2.1, hm.2.2.2.2.2.2.2.2.2.2.1, hm.2.2.2.2.2.2.2.2.2.2.2.1, hm.2.2.2.2.2.2.2.2.2.2.2.2.1, hm.2.2.2.2.2.2.2.2.2.2.2.2.2⟩ (by omega) a) gX4_node_X4_isTree rfl (by decide +kernel) hm.1 rfl rfl ⟨(Nat.le_of_ble_eq_true rfl), (Nat.le_of_ble_eq_true rfl)⟩ ⟨(Nat.le_of_ble_eq_true rfl), (Nat.le_of_ble_eq_true rfl)⟩ (Nat.le_of_ble_eq_true rfl) dX4_node_19 rfl (fun r9 ad9 M9 h9 => ?_)
      obtain ⟨rfl, rfl, za, rfl, hza⟩ := h9
      rw [i1] at hza
      refine s_if_eq 38 dX4_node_22 (by decide) (fun c22 => ?_) (fun c22 => ?_)
      · obtain ⟨rfl, ea⟩ := hrel.c1 (Or.inl (fun q => by have z9 := hza.mpr q; rw [jB_0.mp c22] at z9; cases z9))
        refine s_aload_n dX4_node_38 rfl ?_
        refine s_iconst (v := 1) dX4_node_39 (by decide) ?_
        refine s_callV (As := [.int 1]) (rest := []) (n := 1) (kd := 12) (ix := 0) (fun l hl => c_X4_raise G l hl ad M c0 t0 hd on tw dp cl gr r0 kd fl co sm wk sp b0 mu ⟨hm.1, hm.2.1, hm.2.2.1, hm.2.2.2.1, hm.2.2.2.2.1, hm.2.2.2.2.2.1, hm.2.2.2.2.2.2.1, hm.2.2.2.2.2.2.2.1, hm.2.2.2.2.2.2.2.2.1, hm.2.2.2.2.2.2.2.2.2.1, hm.2.2.2.2.2.2.2.2.2.2.1, hm.2.2.2.2.2.2.2.2.2.2.2.1, hm.2.2.2.2.2.2.2.2.2.2.2.2.1, hm.2.2.2.2.2.2.2.2.2.2.2.2.2⟩ 1) gX4_node_X4_raise rfl (by decide +kernel) hm.1 rfl rfl ⟨(Nat.le_of_ble_eq_true rfl), (Nat.le_of_ble_eq_true rfl)⟩ ⟨(Nat.le_of_ble_eq_true rfl), (Nat.le_of_ble_eq_true rfl)⟩ (Nat.le_of_ble_eq_true rfl) dX4_node_40 rfl (fun r9 ad9 M9 h9 => ?_)
        obtain ⟨rfl, rfl, hm9, hs9⟩ := h9
        exact s_iret rfl (rfl) dX4_node_43 (Nat.le_of_ble_eq_true rfl) (Nat.le_of_ble_eq_true rfl) (⟨rfl, (sSame.rfl.trans hs9), ⟨(1, t0, hd, on, tw, dp, cl, gr, r0, kd, fl, co, sm, wk, sp, b0, mu), hm9, rfl, by rw [ea]; exact hI.any _ _ _ _ _⟩, _, rfl, fun q => absurd q (by decide)⟩)
      · refine s_iload dX4_node_25 rfl ?_
        refine s_if_ne 44 dX4_node_27 (by decide) (fun c27 => absurd (rfl) c27) (fun c27 => ?_)
        refine s_aload_n dX4_node_30 rfl ?_
        refine s_iload_n dX4_node_31 rfl ?_
        refine s_callV (As := [.int b]) (rest := []) (n := 1) (kd := 12) (ix := 0) (fun l hl => c_X4_isTree G l hl ad M c0 t0 hd on tw dp cl gr r0 kd fl co sm wk sp b0 mu ⟨hm.1, hm.2.1, hm.2.2.1, hm.2.2.2.1, hm.2.2.2.2.1, hm.2.2.2.2.2.1, hm.2.2.2.2.2.2.1, hm.2.2.2.2.2.2.2.1, hm.2.2.2.2.2.2.2.2.1, hm.2.2.2.2.2.2.2.2.2.1, hm.2.2.2.2.2.2.2.2.2.2.1, hm.2.2.2.2.2.2.2.2.2.2.2.1, hm.2.2.2.2.2.2.2.2.2.2.2.2.1, hm.2.2.2.2.2.2.2.2.2.2.2.2.2⟩ (by omega) b) gX4_node_X4_isTree rfl (by decide +kernel) hm.1 rfl rfl ⟨(Nat.le_of_ble_eq_true rfl), (Nat.le_of_ble_eq_true rfl)⟩ ⟨(Nat.le_of_ble_eq_true rfl), (Nat.le_of_ble_eq_true rfl)⟩ (Nat.le_of_ble_eq_true rfl) dX4_node_32 rfl (fun r9 ad9 M9 h9 => ?_)
        obtain ⟨rfl, rfl, zb, rfl, hzb⟩ := h9
        rw [i1] at hzb
        refine s_if_ne 44 dX4_node_35 (by decide) (fun c35 => ?_) (fun c35 => ?_)
        · have hn1 : ¬ nC1 α x a b := fun z => z.elim (fun z => z (hza.mp (Bool.of_not_eq_false (fun q => c22 (jB_0.mpr q))))) (fun z => z.1 (hzb.mp (Bool.of_not_eq_false (fun q => c35 (jB_0.mpr q)))))
          obtain ⟨ja, hja, rfl⟩ := (hza.mp (Bool.of_not_eq_false (fun q => c22 (jB_0.mpr q))))
          obtain ⟨jb, hjb, rfl⟩ := (hzb.mp (Bool.of_not_eq_false (fun q => c35 (jB_0.mpr q))))
          have hDa : aD α ja ≤ 20 := (hA.2.2.1 ja hja).1.2
          have hDb : aD α jb ≤ 20 := (hA.2.2.1 jb hjb).1.2
          refine s_aload_n dX4_node_44 rfl ?_
          refine s_get (kd := 12) (ix := 0) (ci := 5) (fs := [.int c0, .int (nI t0), .ref (ad 13 0), .ref (ad 14 0), .ref (ad 15 0), .ref (ad 16 0), .ref (ad 17 0), .ref (ad 18 0), .int (nI r0), .ref (ad 19 0), .ref (ad 20 0), .ref (ad 21 0), .ref (ad 22 0), .ref (ad 23 0), .ref (ad 24 0), .int (jB b0), .ref (ad 25 0)])  hm.1 rfl in_X4_node_X4 5 (by decide) (by decide +kernel) rfl rfl dX4_node_45 ?_
          refine s_iload_n dX4_node_48 rfl ?_
          refine s_iald (kd := 16) (ix := 0) (n := 120) (f := dp) (j := ja) hm.2.2.2.2.1 (rfl) (by omega) (by decide) dX4_node_49 ?_
          refine s_eqi (y := nI (aD α ja)) ((i3 ja hja).2.2.2.1) ?_
          refine s_istore dX4_node_50 rfl rfl ?_
          refine s_lv (lv' := [some (.ref (ad 12 0)), some (.int x), some (.int (nI ja)), some (.int (nI jb)), some (.int 0), some (.int (nI (aD α ja)))]) rfl ?_
          refine s_iload_n dX4_node_52 rfl ?_
          refine s_iconst (v := -1) dX4_node_53 (by decide) ?_
          refine s_icmp_eq 76 dX4_node_54 (by decide) (fun c54 => absurd c54 (nI_m1' (j := jb) (by omega))) (fun c54 => ?_)
          refine s_aload_n dX4_node_57 rfl ?_
          refine s_get (kd := 12) (ix := 0) (ci := 5) (fs := [.int c0, .int (nI t0), .ref (ad 13 0), .ref (ad 14 0), .ref (ad 15 0), .ref (ad 16 0), .ref (ad 17 0), .ref (ad 18 0), .int (nI r0), .ref (ad 19 0), .ref (ad 20 0), .ref (ad 21 0), .ref (ad 22 0), .ref (ad 23 0), .ref (ad 24 0), .int (jB b0), .ref (ad 25 0)])  hm.1 rfl in_X4_node_X4 5 (by decide) (by decide +kernel) rfl rfl dX4_node_58 ?_
          refine s_iload_n dX4_node_61 rfl ?_
          refine s_iald (kd := 16) (ix := 0) (n := 120) (f := dp) (j := jb) hm.2.2.2.2.1 (rfl) (by omega) (by decide) dX4_node_62 ?_
          refine s_eqi (y := nI (aD α jb)) ((i3 jb hjb).2.2.2.1) ?_
          refine s_iload dX4_node_63 rfl ?_
          refine s_icmp_le 76 dX4_node_65 (by decide) (fun c65 => ?_) (fun c65 => ?_)
          · refine s_iload_n dX4_node_76 rfl ?_
            refine s_i2l dX4_node_77 ?_
            refine s_lconst (v := 0) dX4_node_78 (by decide) ?_
            refine s_ldc2 (v := 5) dX4_node_79 (by decide +kernel) ?_
            refine s_callS (As := [.long x.toInt64, .long 0, .long 5]) (rest := []) (n := 3) (fun l hl => c_X4_in G l hl ad M x.toInt64 0 5) gX4_node_X4_in rfl (by decide +kernel) rfl ⟨(Nat.le_of_ble_eq_true rfl), (Nat.le_of_ble_eq_true rfl)⟩ ⟨(Nat.le_of_ble_eq_true rfl), (Nat.le_of_ble_eq_true rfl)⟩ (Nat.le_of_ble_eq_true rfl) dX4_node_82 rfl (fun r9 ad9 M9 h9 => ?_)
            obtain ⟨rfl, rfl, e9⟩ := h9
            obtain ⟨zh, e8, hzh⟩ := in_z (x := x) (a := 0) (b := 5) (A := 0) (B := 5) (by decide) (by decide)
            rw [e8] at e9
            subst e9
            refine s_if_eq 105 dX4_node_85 (by decide) (fun c85 => ?_) (fun c85 => ?_)
            · obtain ⟨rfl, ea⟩ := hrel.c2 hn1 (fun q => absurd ((nd_two hA hja hjb).mp q).1 (fun q => by have z9 := hzh.mpr q; rw [jB_0.mp c85] at z9; cases z9))
              refine s_aload_n dX4_node_105 rfl ?_
              refine s_iconst (v := 2) dX4_node_106 (by decide) ?_
              refine s_callV (As := [.int 2]) (rest := []) (n := 1) (kd := 12) (ix := 0) (fun l hl => c_X4_raise G l hl ad M c0 t0 hd on tw dp cl gr r0 kd fl co sm wk sp b0 mu ⟨hm.1, hm.2.1, hm.2.2.1, hm.2.2.2.1, hm.2.2.2.2.1, hm.2.2.2.2.2.1, hm.2.2.2.2.2.2.1, hm.2.2.2.2.2.2.2.1, hm.2.2.2.2.2.2.2.2.1, hm.2.2.2.2.2.2.2.2.2.1, hm.2.2.2.2.2.2.2.2.2.2.1, hm.2.2.2.2.2.2.2.2.2.2.2.1, hm.2.2.2.2.2.2.2.2.2.2.2.2.1, hm.2.2.2.2.2.2.2.2.2.2.2.2.2⟩ 2) gX4_node_X4_raise rfl (by decide +kernel) hm.1 rfl rfl ⟨(Nat.le_of_ble_eq_true rfl), (Nat.le_of_ble_eq_true rfl)⟩ ⟨(Nat.le_of_ble_eq_true rfl), (Nat.le_of_ble_eq_true rfl)⟩ (Nat.le_of_ble_eq_true rfl) dX4_node_107 rfl (fun r9 ad9 M9 h9 => ?_)
              obtain ⟨rfl, rfl, hm9, hs9⟩ := h9
              exact s_iret rfl (rfl) dX4_node_110 (Nat.le_of_ble_eq_true rfl) (Nat.le_of_ble_eq_true rfl) (⟨rfl, (sSame.rfl.trans hs9), ⟨(2, t0, hd, on, tw, dp, cl, gr, r0, kd, fl, co, sm, wk, sp, b0, mu), hm9, rfl, by rw [ea]; exact hI.any _ _ _ _ _⟩, _, rfl, fun q => absurd q (by decide)⟩)
            · refine s_iload_n dX4_node_88 rfl ?_
              refine s_iconst (v := 2) dX4_node_89 (by decide) ?_
              refine s_icmp_le 98 dX4_node_90 (by decide) (fun c90 => absurd c90 (c2)) (fun c90 => ?_)
              refine s_iload_n dX4_node_93 rfl ?_
              refine s_iconst (v := -1) dX4_node_94 (by decide) ?_
              refine s_icmp_ne 105 dX4_node_95 (by decide) (fun c95 => ?_) (fun c95 => absurd c95 (nI_m1' (j := jb) (by omega)))
              obtain ⟨rfl, ea⟩ := hrel.c2 hn1 (fun q => c2 ((nd_two hA hja hjb).mp q).2.1)
              refine s_aload_n dX4_node_105 rfl ?_
              refine s_iconst (v := 2) dX4_node_106 (by decide) ?_
              refine s_callV (As := [.int 2]) (rest := []) (n := 1) (kd := 12) (ix := 0) (fun l hl => c_X4_raise G l hl ad M c0 t0 hd on tw dp cl gr r0 kd fl co sm wk sp b0 mu ⟨hm.1, hm.2.1, hm.2.2.1, hm.2.2.2.1, hm.2.2.2.2.1, hm.2.2.2.2.2.1, hm.2.2.2.2.2.2.1, hm.2.2.2.2.2.2.2.1, hm.2.2.2.2.2.2.2.2.1, hm.2.2.2.2.2.2.2.2.2.1, hm.2.2.2.2.2.2.2.2.2.2.1, hm.2.2.2.2.2.2.2.2.2.2.2.1, hm.2.2.2.2.2.2.2.2.2.2.2.2.1, hm.2.2.2.2.2.2.2.2.2.2.2.2.2⟩ 2) gX4_node_X4_raise rfl (by decide +kernel) hm.1 rfl rfl ⟨(Nat.le_of_ble_eq_true rfl), (Nat.le_of_ble_eq_true rfl)⟩ ⟨(Nat.le_of_ble_eq_true rfl), (Nat.le_of_ble_eq_true rfl)⟩ (Nat.le_of_ble_eq_true rfl) dX4_node_107 rfl (fun r9 ad9 M9 h9 => ?_)
              obtain ⟨rfl, rfl, hm9, hs9⟩ := h9
              exact s_iret rfl (rfl) dX4_node_110 (Nat.le_of_ble_eq_true rfl) (Nat.le_of_ble_eq_true rfl) (⟨rfl, (sSame.rfl.trans hs9), ⟨(2, t0, hd, on, tw, dp, cl, gr, r0, kd, fl, co, sm, wk, sp, b0, mu), hm9, rfl, by rw [ea]; exact hI.any _ _ _ _ _⟩, _, rfl, fun q => absurd q (by decide)⟩)
          · refine s_aload_n dX4_node_68 rfl ?_
            refine s_get (kd := 12) (ix := 0) (ci := 5) (fs := [.int c0, .int (nI t0), .ref (ad 13 0), .ref (ad 14 0), .ref (ad 15 0), .ref (ad 16 0), .ref (ad 17 0), .ref (ad 18 0), .int (nI r0), .ref (ad 19 0), .ref (ad 20 0), .ref (ad 21 0), .ref (ad 22 0), .ref (ad 23 0), .ref (ad 24 0), .int (jB b0), .ref (ad 25 0)])  hm.1 rfl in_X4_node_X4 5 (by decide) (by decide +kernel) rfl rfl dX4_node_69 ?_
            refine s_iload_n dX4_node_72 rfl ?_
            refine s_iald (kd := 16) (ix := 0) (n := 120) (f := dp) (j := jb) hm.2.2.2.2.1 (rfl) (by omega) (by decide) dX4_node_73 ?_
            refine s_eqi (y := nI (aD α jb)) ((i3 jb hjb).2.2.2.1) ?_
            refine s_istore dX4_node_74 rfl rfl ?_
            refine s_lv (lv' := [some (.ref (ad 12 0)), some (.int x), some (.int (nI ja)), some (.int (nI jb)), some (.int 0), some (.int (nI (aD α jb)))]) rfl ?_
            refine s_iload_n dX4_node_76 rfl ?_
            refine s_i2l dX4_node_77 ?_
            refine s_lconst (v := 0) dX4_node_78 (by decide) ?_
            refine s_ldc2 (v := 5) dX4_node_79 (by decide +kernel) ?_
            refine s_callS (As := [.long x.toInt64, .long 0, .long 5]) (rest := []) (n := 3) (fun l hl => c_X4_in G l hl ad M x.toInt64 0 5) gX4_node_X4_in rfl (by decide +kernel) rfl ⟨(Nat.le_of_ble_eq_true rfl), (Nat.le_of_ble_eq_true rfl)⟩ ⟨(Nat.le_of_ble_eq_true rfl), (Nat.le_of_ble_eq_true rfl)⟩ (Nat.le_of_ble_eq_true rfl) dX4_node_82 rfl (fun r9 ad9 M9 h9 => ?_)
            obtain ⟨rfl, rfl, e9⟩ := h9
            obtain ⟨zh, e8, hzh⟩ := in_z (x := x) (a := 0) (b := 5) (A := 0) (B := 5) (by decide) (by decide)
            rw [e8] at e9
            subst e9
            refine s_if_eq 105 dX4_node_85 (by decide) (fun c85 => ?_) (fun c85 => ?_)
            · obtain ⟨rfl, ea⟩ := hrel.c2 hn1 (fun q => absurd ((nd_two hA hja hjb).mp q).1 (fun q => by have z9 := hzh.mpr q; rw [jB_0.mp c85] at z9; cases z9))
              refine s_aload_n dX4_node_105 rfl ?_
              refine s_iconst (v := 2) dX4_node_106 (by decide) ?_
              refine s_callV (As := [.int 2]) (rest := []) (n := 1) (kd := 12) (ix := 0) (fun l hl => c_X4_raise G l hl ad M c0 t0 hd on tw dp cl gr r0 kd fl co sm wk sp b0 mu ⟨hm.1, hm.2.1, hm.2.2.1, hm.2.2.2.1, hm.2.2.2.2.1, hm.2.2.2.2.2.1, hm.2.2.2.2.2.2.1, hm.2.2.2.2.2.2.2.1, hm.2.2.2.2.2.2.2.2.1, hm.2.2.2.2.2.2.2.2.2.1, hm.2.2.2.2.2.2.2.2.2.2.1, hm.2.2.2.2.2.2.2.2.2.2.2.1, hm.2.2.2.2.2.2.2.2.2.2.2.2.1, hm.2.2.2.2.2.2.2.2.2.2.2.2.2⟩ 2) gX4_node_X4_raise rfl (by decide +kernel) hm.1 rfl rfl ⟨(Nat.le_of_ble_eq_true rfl), (Nat.le_of_ble_eq_true rfl)⟩ ⟨(Nat.le_of_ble_eq_true rfl), (Nat.le_of_ble_eq_true rfl)⟩ (Nat.le_of_ble_eq_true rfl) dX4_node_107 rfl (fun r9 ad9 M9 h9 => ?_)
              obtain ⟨rfl, rfl, hm9, hs9⟩ := h9
              exact s_iret rfl (rfl) dX4_node_110 (Nat.le_of_ble_eq_true rfl) (Nat.le_of_ble_eq_true rfl) (⟨rfl, (sSame.rfl.trans hs9), ⟨(2, t0, hd, on, tw, dp, cl, gr, r0, kd, fl, co, sm, wk, sp, b0, mu), hm9, rfl, by rw [ea]; exact hI.any _ _ _ _ _⟩, _, rfl, fun q => absurd q (by decide)⟩)
            · refine s_iload_n dX4_node_88 rfl ?_
              refine s_iconst (v := 2) dX4_node_89 (by decide) ?_
              refine s_icmp_le 98 dX4_node_90 (by decide) (fun c90 => absurd c90 (c2)) (fun c90 => ?_)
              refine s_iload_n dX4_node_93 rfl ?_
              refine s_iconst (v := -1) dX4_node_94 (by decide) ?_
              refine s_icmp_ne 105 dX4_node_95 (by decide) (fun c95 => ?_) (fun c95 => absurd c95 (nI_m1' (j := jb) (by omega)))
              obtain ⟨rfl, ea⟩ := hrel.c2 hn1 (fun q => c2 ((nd_two hA hja hjb).mp q).2.1)
              refine s_aload_n dX4_node_105 rfl ?_
              refine s_iconst (v := 2) dX4_node_106 (by decide) ?_
              refine s_callV (As := [.int 2]) (rest := []) (n := 1) (kd := 12) (ix := 0) (fun l hl => c_X4_raise G l hl ad M c0 t0 hd on tw dp cl gr r0 kd fl co sm wk sp b0 mu ⟨hm.1, hm.2.1, hm.2.2.1, hm.2.2.2.1, hm.2.2.2.2.1, hm.2.2.2.2.2.1, hm.2.2.2.2.2.2.1, hm.2.2.2.2.2.2.2.1, hm.2.2.2.2.2.2.2.2.1, hm.2.2.2.2.2.2.2.2.2.1, hm.2.2.2.2.2.2.2.2.2.2.1, hm.2.2.2.2.2.2.2.2.2.2.2.1, hm.2.2.2.2.2.2.2.2.2.2.2.2.1, hm.2.2.2.2.2.2.2.2.2.2.2.2.2⟩ 2) gX4_node_X4_raise rfl (by decide +kernel) hm.1 rfl rfl ⟨(Nat.le_of_ble_eq_true rfl), (Nat.le_of_ble_eq_true rfl)⟩ ⟨(Nat.le_of_ble_eq_true rfl), (Nat.le_of_ble_eq_true rfl)⟩ (Nat.le_of_ble_eq_true rfl) dX4_node_107 rfl (fun r9 ad9 M9 h9 => ?_)
              obtain ⟨rfl, rfl, hm9, hs9⟩ := h9
              exact s_iret rfl (rfl) dX4_node_110 (Nat.le_of_ble_eq_true rfl) (Nat.le_of_ble_eq_true rfl) (⟨rfl, (sSame.rfl.trans hs9), ⟨(2, t0, hd, on, tw, dp, cl, gr, r0, kd, fl, co, sm, wk, sp, b0, mu), hm9, rfl, by rw [ea]; exact hI.any _ _ _ _ _⟩, _, rfl, fun q => absurd q (by decide)⟩)
        · obtain ⟨rfl, ea⟩ := hrel.c1 (Or.inr ⟨(fun q => by have z9 := hzb.mpr q; rw [jB_0.mp c35] at z9; cases z9), (fun q => c7 q.2)⟩)
          refine s_aload_n dX4_node_38 rfl ?_
          refine s_iconst (v := 1) dX4_node_39 (by decide) ?_
          refine s_callV (As := [.int 1]) (rest := []) (n := 1) (kd := 12) (ix := 0) (fun l hl => c_X4_raise G l hl ad M c0 t0 hd on tw dp cl gr r0 kd fl co sm wk sp b0 mu ⟨hm.1, hm.2.1, hm.2.2.1, hm.2.2.2.1, hm.2.2.2.2.1, hm.2.2.2.2.2.1, hm.2.2.2.2.2.2.1, hm.2.2.2.2.2.2.2.1, hm.2.2.2.2.2.2.2.2.1, hm.2.2.2.2.2.2.2.2.2.1, hm.2.2.2.2.2.2.2.2.2.2.1, hm.2.2.2.2.2.2.2.2.2.2.2.1, hm.2.2.2.2.2.2.2.2.2.2.2.2.1, hm.2.2.2.2.2.2.2.2.2.2.2.2.2⟩ 1) gX4_node_X4_raise rfl (by decide +kernel) hm.1 rfl rfl ⟨(Nat.le_of_ble_eq_true rfl), (Nat.le_of_ble_eq_true rfl)⟩ ⟨(Nat.le_of_ble_eq_true rfl), (Nat.le_of_ble_eq_true rfl)⟩ (Nat.le_of_ble_eq_true rfl) dX4_node_40 rfl (fun r9 ad9 M9 h9 => ?_)
          obtain ⟨rfl, rfl, hm9, hs9⟩ := h9
          exact s_iret rfl (rfl) dX4_node_43 (Nat.le_of_ble_eq_true rfl) (Nat.le_of_ble_eq_true rfl) (⟨rfl, (sSame.rfl.trans hs9), ⟨(1, t0, hd, on, tw, dp, cl, gr, r0, kd, fl, co, sm, wk, sp, b0, mu), hm9, rfl, by rw [ea]; exact hI.any _ _ _ _ _⟩, _, rfl, fun q => absurd q (by decide)⟩)
    · refine s_iconst (v := 1) dX4_node_10 (by decide) ?_
      refine s_goto 15 dX4_node_11 (by decide) ?_
      refine s_istore dX4_node_15 rfl rfl ?_
      refine s_lv (lv' := [some (.ref (ad 12 0)), some (.int x), some (.int a), some (.int b), some (.int 1), none]) rfl ?_
      refine s_aload_n dX4_node_17 rfl ?_
      refine s_iload_n dX4_node_18 rfl ?_
      refine s_callV (As := [.int a]) (rest := []) (n := 1) (kd := 12) (ix := 0) (fun l hl => c_X4_isTree G l hl ad M c0 t0 hd on tw dp cl gr r0 kd fl co sm wk sp b0 mu ⟨hm.1, hm.2.1, hm.2.2.1, hm.2.2.2.1, hm.2.2.2.2.1, hm.2.2.2.2.2.1, hm.2.2.2.2.2.2.1, hm.2.2.2.2.2.2.2.1, hm.2.2.2.2.2.2.2.2.1, hm.2.2.2.2.2.2.2.2.2.1, hm.2.2.2.2.2.2.2.2.2.2.1, hm.2.2.2.2.2.2.2.2.2.2.2.1, hm.2.2.2.2.2.2.2.2.2.2.2.2.1, hm.2.2.2.2.2.2.2.2.2.2.2.2.2⟩ (by omega) a) gX4_node_X4_isTree rfl (by decide +kernel) hm.1 rfl rfl ⟨(Nat.le_of_ble_eq_true rfl), (Nat.le_of_ble_eq_true rfl)⟩ ⟨(Nat.le_of_ble_eq_true rfl), (Nat.le_of_ble_eq_true rfl)⟩ (Nat.le_of_ble_eq_true rfl) dX4_node_19 rfl (fun r9 ad9 M9 h9 => ?_)
      obtain ⟨rfl, rfl, za, rfl, hza⟩ := h9
      rw [i1] at hza
      refine s_if_eq 38 dX4_node_22 (by decide) (fun c22 => ?_) (fun c22 => ?_)
      · obtain ⟨rfl, ea⟩ := hrel.c1 (Or.inl (fun q => by have z9 := hza.mpr q; rw [jB_0.mp c22] at z9; cases z9))
        refine s_aload_n dX4_node_38 rfl ?_
        refine s_iconst (v := 1) dX4_node_39 (by decide) ?_
        refine s_callV (As := [.int 1]) (rest := []) (n := 1) (kd := 12) (ix := 0) (fun l hl => c_X4_raise G l hl ad M c0 t0 hd on tw dp cl gr r0 kd fl co sm wk sp b0 mu ⟨hm.1, hm.2.1, hm.2.2.1, hm.2.2.2.1, hm.2.2.2.2.1, hm.2.2.2.2.2.1, hm.2.2.2.2.2.2.1, hm.2.2.2.2.2.2.2.1, hm.2.2.2.2.2.2.2.2.1, hm.2.2.2.2.2.2.2.2.2.1, hm.2.2.2.2.2.2.2.2.2.2.1, hm.2.2.2.2.2.2.2.2.2.2.2.1, hm.2.2.2.2.2.2.2.2.2.2.2.2.1, hm.2.2.2.2.2.2.2.2.2.2.2.2.2⟩ 1) gX4_node_X4_raise rfl (by decide +kernel) hm.1 rfl rfl ⟨(Nat.le_of_ble_eq_true rfl), (Nat.le_of_ble_eq_true rfl)⟩ ⟨(Nat.le_of_ble_eq_true rfl), (Nat.le_of_ble_eq_true rfl)⟩ (Nat.le_of_ble_eq_true rfl) dX4_node_40 rfl (fun r9 ad9 M9 h9 => ?_)
        obtain ⟨rfl, rfl, hm9, hs9⟩ := h9
        exact s_iret rfl (rfl) dX4_node_43 (Nat.le_of_ble_eq_true rfl) (Nat.le_of_ble_eq_true rfl) (⟨rfl, (sSame.rfl.trans hs9), ⟨(1, t0, hd, on, tw, dp, cl, gr, r0, kd, fl, co, sm, wk, sp, b0, mu), hm9, rfl, by rw [ea]; exact hI.any _ _ _ _ _⟩, _, rfl, fun q => absurd q (by decide)⟩)
      · refine s_iload dX4_node_25 rfl ?_
        refine s_if_ne 44 dX4_node_27 (by decide) (fun c27 => ?_) (fun c27 => absurd c27 (by decide))
        have hn1 : ¬ nC1 α x a b := fun z => z.elim (fun z => z (hza.mp (Bool.of_not_eq_false (fun q => c22 (jB_0.mpr q))))) (fun z => z.2 ⟨i3_le c2, c7⟩)
        obtain ⟨ja, hja, rfl⟩ := (hza.mp (Bool.of_not_eq_false (fun q => c22 (jB_0.mpr q))))
        subst c7
        have hDa : aD α ja ≤ 20 := (hA.2.2.1 ja hja).1.2
        refine s_aload_n dX4_node_44 rfl ?_
        refine s_get (kd := 12) (ix := 0) (ci := 5) (fs := [.int c0, .int (nI t0), .ref (ad 13 0), .ref (ad 14 0), .ref (ad 15 0), .ref (ad 16 0), .ref (ad 17 0), .ref (ad 18 0), .int (nI r0), .ref (ad 19 0), .ref (ad 20 0), .ref (ad 21 0), .ref (ad 22 0), .ref (ad 23 0), .ref (ad 24 0), .int (jB b0), .ref (ad 25 0)])  hm.1 rfl in_X4_node_X4 5 (by decide) (by decide +kernel) rfl rfl dX4_node_45 ?_
        refine s_iload_n dX4_node_48 rfl ?_
        refine s_iald (kd := 16) (ix := 0) (n := 120) (f := dp) (j := ja) hm.2.2.2.2.1 (rfl) (by omega) (by decide) dX4_node_49 ?_
        refine s_eqi (y := nI (aD α ja)) ((i3 ja hja).2.2.2.1) ?_
        refine s_istore dX4_node_50 rfl rfl ?_
        refine s_lv (lv' := [some (.ref (ad 12 0)), some (.int x), some (.int (nI ja)), some (.int (-1)), some (.int 1), some (.int (nI (aD α ja)))]) rfl ?_
        refine s_iload_n dX4_node_52 rfl ?_
        refine s_iconst (v := -1) dX4_node_53 (by decide) ?_
        refine s_icmp_eq 76 dX4_node_54 (by decide) (fun c54 => ?_) (fun c54 => absurd (rfl) c54)
        refine s_iload_n dX4_node_76 rfl ?_
        refine s_i2l dX4_node_77 ?_
        refine s_lconst (v := 0) dX4_node_78 (by decide) ?_
        refine s_ldc2 (v := 5) dX4_node_79 (by decide +kernel) ?_
        refine s_callS (As := [.long x.toInt64, .long 0, .long 5]) (rest := []) (n := 3) (fun l hl => c_X4_in G l hl ad M x.toInt64 0 5) gX4_node_X4_in rfl (by decide +kernel) rfl ⟨(Nat.le_of_ble_eq_true rfl), (Nat.le_of_ble_eq_true rfl)⟩ ⟨(Nat.le_of_ble_eq_true rfl), (Nat.le_of_ble_eq_true rfl)⟩ (Nat.le_of_ble_eq_true rfl) dX4_node_82 rfl (fun r9 ad9 M9 h9 => ?_)
        obtain ⟨rfl, rfl, e9⟩ := h9
        obtain ⟨zh, e8, hzh⟩ := in_z (x := x) (a := 0) (b := 5) (A := 0) (B := 5) (by decide) (by decide)
        rw [e8] at e9
        subst e9
        refine s_if_eq 105 dX4_node_85 (by decide) (fun c85 => ?_) (fun c85 => ?_)
        · obtain ⟨rfl, ea⟩ := hrel.c2 hn1 (fun q => absurd ((nd_one hA c2 hja).mp q).1 (fun q => by have z9 := hzh.mpr q; rw [jB_0.mp c85] at z9; cases z9))
          refine s_aload_n dX4_node_105 rfl ?_
          refine s_iconst (v := 2) dX4_node_106 (by decide) ?_
          refine s_callV (As := [.int 2]) (rest := []) (n := 1) (kd := 12) (ix := 0) (fun l hl => c_X4_raise G l hl ad M c0 t0 hd on tw dp cl gr r0 kd fl co sm wk sp b0 mu ⟨hm.1, hm.2.1, hm.2.2.1, hm.2.2.2.1, hm.2.2.2.2.1, hm.2.2.2.2.2.1, hm.2.2.2.2.2.2.1, hm.2.2.2.2.2.2.2.1, hm.2.2.2.2.2.2.2.2.1, hm.2.2.2.2.2.2.2.2.2.1, hm.2.2.2.2.2.2.2.2.2.2.1, hm.2.2.2.2.2.2.2.2.2.2.2.1, hm.2.2.2.2.2.2.2.2.2.2.2.2.1, hm.2.2.2.2.2.2.2.2.2.2.2.2.2⟩ 2) gX4_node_X4_raise rfl (by decide +kernel) hm.1 rfl rfl ⟨(Nat.le_of_ble_eq_true rfl), (Nat.le_of_ble_eq_true rfl)⟩ ⟨(Nat.le_of_ble_eq_true rfl), (Nat.le_of_ble_eq_true rfl)⟩ (Nat.le_of_ble_eq_true rfl) dX4_node_107 rfl (fun r9 ad9 M9 h9 => ?_)
          obtain ⟨rfl, rfl, hm9, hs9⟩ := h9
          exact s_iret rfl (rfl) dX4_node_110 (Nat.le_of_ble_eq_true rfl) (Nat.le_of_ble_eq_true rfl) (⟨rfl, (sSame.rfl.trans hs9), ⟨(2, t0, hd, on, tw, dp, cl, gr, r0, kd, fl, co, sm, wk, sp, b0, mu), hm9, rfl, by rw [ea]; exact hI.any _ _ _ _ _⟩, _, rfl, fun q => absurd q (by decide)⟩)
        · refine s_iload_n dX4_node_88 rfl ?_
          refine s_iconst (v := 2) dX4_node_89 (by decide) ?_
          refine s_icmp_le 98 dX4_node_90 (by decide) (fun c90 => absurd c90 (c2)) (fun c90 => ?_)
          refine s_iload_n dX4_node_93 rfl ?_
          refine s_iconst (v := -1) dX4_node_94 (by decide) ?_
          refine s_icmp_ne 105 dX4_node_95 (by decide) (fun c95 => absurd (rfl) c95) (fun c95 => ?_)
          refine s_iload dX4_node_98 rfl ?_
          refine s_bipush (v := 19) dX4_node_100 (by decide) ?_
          refine s_icmp_le 111 dX4_node_102 (by decide) (fun c102 => ?_) (fun c102 => ?_)
          · have hok : ∃ hd ja' jb', ndOk α x (nI ja) (-1) hd ja' jb' := (nd_one hA c2 hja).mpr ⟨(hzh.mp (Bool.of_not_eq_false (fun q => c85 (jB_0.mpr q)))), (nI_le_iff (a := (aD α ja)) (b := 19) (by omega) (by omega)).mp c102⟩
            refine s_aload_n dX4_node_111 rfl ?_
            refine s_get (kd := 12) (ix := 0) (ci := 5) (fs := [.int c0, .int (nI t0), .ref (ad 13 0), .ref (ad 14 0), .ref (ad 15 0), .ref (ad 16 0), .ref (ad 17 0), .ref (ad 18 0), .int (nI r0), .ref (ad 19 0), .ref (ad 20 0), .ref (ad 21 0), .ref (ad 22 0), .ref (ad 23 0), .ref (ad 24 0), .int (jB b0), .ref (ad 25 0)])  hm.1 rfl in_X4_node_X4 1 (by decide) (by decide +kernel) rfl rfl dX4_node_112 ?_
            refine s_bipush (v := 120) dX4_node_115 (by decide) ?_
            refine s_icmp_ne 126 dX4_node_117 (by decide) (fun c117 => ?_) (fun c117 => ?_)
            · obtain ⟨rfl, ev, hT1, h6, ja2, jb2, g, P, m, ⟨⟨hh6, hx, hj2, hae, hk2, hbe⟩, hdp⟩, hnr, ea⟩ := hrel.c0 hok (fun z9 => c117 (by rw [show t0 = 120 by omega]; rfl))
              have e2 : ja = ja2 := (nI_eq (a := ja) (b := ja2) (by omega) (by omega)).mp hae
              subst e2
              have e3 : jb2 = ja := hbe.elim (fun q => absurd q.2.symm (nI_m1' (j := jb2) (by omega))) (fun q => q.2.2)
              subst e3
              have ed : ndDp α jb2 jb2 = aD α jb2 + 1 := by unfold ndDp; omega
              refine s_aload_n dX4_node_126 rfl ?_
              refine s_iconst (v := 0) dX4_node_127 (by decide) ?_
              refine s_put (kd := 12) (ix := 0) (ci := 5) (v := .int 0) (ty := tyX4 0) (fs := [.int c0, .int (nI t0), .ref (ad 13 0), .ref (ad 14 0), .ref (ad 15 0), .ref (ad 16 0), .ref (ad 17 0), .ref (ad 18 0), .int (nI r0), .ref (ad 19 0), .ref (ad 20 0), .ref (ad 21 0), .ref (ad 22 0), .ref (ad 23 0), .ref (ad 24 0), .int (jB b0), .ref (ad 25 0)])  tyX4 tyX4_ok nmX4 hm.1 rfl in_X4_node_X4 0 (by decide) (by decide +kernel) rfl rfl (tyX4_ok 0 (by decide)) (rfl) (rfl) (Nat.le_of_ble_eq_true rfl) dX4_node_128 ?_
              refine s_M (M' := (sset M 12 0 (.inr (5, [.int 0, .int (nI t0), .ref (ad 13 0), .ref (ad 14 0), .ref (ad 15 0), .ref (ad 16 0), .ref (ad 17 0), .ref (ad 18 0), .int (nI r0), .ref (ad 19 0), .ref (ad 20 0), .ref (ad 21 0), .ref (ad 22 0), .ref (ad 23 0), .ref (ad 24 0), .int (jB b0), .ref (ad 25 0)])))) rfl ?_
              refine s_aload_n dX4_node_131 rfl ?_
              refine s_iload_n dX4_node_132 rfl ?_
              refine s_iload_n dX4_node_133 rfl ?_
              refine s_iload_n dX4_node_134 rfl ?_
              refine s_iload dX4_node_135 rfl ?_
              refine s_iconst (v := 1) dX4_node_137 (by decide) ?_
              refine s_iadd dX4_node_138 ?_
              refine s_eqi (y := nI (ndDp α jb2 jb2)) (by rw [ed]; exact nI_1 _) ?_
              refine s_callV (As := [.int x, .int (nI jb2), .int (-1), .int (nI (ndDp α jb2 jb2))]) (rest := []) (n := 4) (kd := 12) (ix := 0) (fun l hl => c_X4_addN G l hl ad (sset M 12 0 (.inr (5, [.int 0, .int (nI t0), .ref (ad 13 0), .ref (ad 14 0), .ref (ad 15 0), .ref (ad 16 0), .ref (ad 17 0), .ref (ad 18 0), .int (nI r0), .ref (ad 19 0), .ref (ad 20 0), .ref (ad 21 0), .ref (ad 22 0), .ref (ad 23 0), .ref (ad 24 0), .int (jB b0), .ref (ad 25 0)]))) 0 t0 hd on tw dp cl gr r0 kd fl co sm wk sp b0 mu ⟨(sset_self _ _ _ _), ((sset_k _ _ (by decide)).trans (hm.2.1)), ((sset_k _ _ (by decide)).trans (hm.2.2.1)), ((sset_k _ _ (by decide)).trans (hm.2.2.2.1)), ((sset_k _ _ (by decide)).trans (hm.2.2.2.2.1)), ((sset_k _ _ (by decide)).trans (hm.2.2.2.2.2.1)), ((sset_k _ _ (by decide)).trans (hm.2.2.2.2.2.2.1)), ((sset_k _ _ (by decide)).trans (hm.2.2.2.2.2.2.2.1)), ((sset_k _ _ (by decide)).trans (hm.2.2.2.2.2.2.2.2.1)), ((sset_k _ _ (by decide)).trans (hm.2.2.2.2.2.2.2.2.2.1)), ((sset_k _ _ (by decide)).trans (hm.2.2.2.2.2.2.2.2.2.2.1)), ((sset_k _ _ (by decide)).trans (hm.2.2.2.2.2.2.2.2.2.2.2.1)), ((sset_k _ _ (by decide)).trans (hm.2.2.2.2.2.2.2.2.2.2.2.2.1)), ((sset_k _ _ (by decide)).trans (hm.2.2.2.2.2.2.2.2.2.2.2.2.2))⟩ α hA (hI.any _ _ _ _ _) rfl hT1 h6 jb2 jb2 m (ndDp α jb2 jb2) g P x (nI jb2) (-1) hh6 hx hj2 rfl hk2 hbe hnr) gX4_node_X4_add rfl (by decide +kernel) (sset_self _ _ _ _) rfl rfl ⟨(Nat.le_of_ble_eq_true rfl), (Nat.le_of_ble_eq_true rfl)⟩ ⟨(Nat.le_of_ble_eq_true rfl), (Nat.le_of_ble_eq_true rfl)⟩ (Nat.le_of_ble_eq_true rfl) dX4_node_139 rfl (fun r9 ad9 M9 h9 => ?_)
              obtain ⟨rfl, hs9, hr9, b9, rfl, hb9⟩ := h9
              exact s_iret rfl (rfl) dX4_node_142 (Nat.le_of_ble_eq_true rfl) (Nat.le_of_ble_eq_true rfl) (⟨rfl, ((sSame.rfl |>.set (P := pMd) (by simp [pMd]) _)).trans hs9, by rw [ea]; exact hr9, b9, rfl, fun q => (hb9 rfl).trans ev.symm⟩)
            · obtain ⟨rfl, ea⟩ := hrel.c3 hok (by have z9 := (nI_eq (a := t0) (b := 120) (by omega) (by omega)).mp c117; omega)
              refine s_aload_n dX4_node_120 rfl ?_
              refine s_iconst (v := 3) dX4_node_121 (by decide) ?_
              refine s_callV (As := [.int 3]) (rest := []) (n := 1) (kd := 12) (ix := 0) (fun l hl => c_X4_raise G l hl ad M c0 t0 hd on tw dp cl gr r0 kd fl co sm wk sp b0 mu ⟨hm.1, hm.2.1, hm.2.2.1, hm.2.2.2.1, hm.2.2.2.2.1, hm.2.2.2.2.2.1, hm.2.2.2.2.2.2.1, hm.2.2.2.2.2.2.2.1, hm.2.2.2.2.2.2.2.2.1, hm.2.2.2.2.2.2.2.2.2.1, hm.2.2.2.2.2.2.2.2.2.2.1, hm.2.2.2.2.2.2.2.2.2.2.2.1, hm.2.2.2.2.2.2.2.2.2.2.2.2.1, hm.2.2.2.2.2.2.2.2.2.2.2.2.2⟩ 3) gX4_node_X4_raise rfl (by decide +kernel) hm.1 rfl rfl ⟨(Nat.le_of_ble_eq_true rfl), (Nat.le_of_ble_eq_true rfl)⟩ ⟨(Nat.le_of_ble_eq_true rfl), (Nat.le_of_ble_eq_true rfl)⟩ (Nat.le_of_ble_eq_true rfl) dX4_node_122 rfl (fun r9 ad9 M9 h9 => ?_)
              obtain ⟨rfl, rfl, hm9, hs9⟩ := h9
              exact s_iret rfl (rfl) dX4_node_125 (Nat.le_of_ble_eq_true rfl) (Nat.le_of_ble_eq_true rfl) (⟨rfl, (sSame.rfl.trans hs9), ⟨(3, t0, hd, on, tw, dp, cl, gr, r0, kd, fl, co, sm, wk, sp, b0, mu), hm9, rfl, by rw [ea]; exact hI.any _ _ _ _ _⟩, _, rfl, fun q => absurd q (by decide)⟩)
          · obtain ⟨rfl, ea⟩ := hrel.c2 hn1 (fun q => c102 (nI_le (b := 19) ((nd_one hA c2 hja).mp q).2 (by omega)))
            refine s_aload_n dX4_node_105 rfl ?_
            refine s_iconst (v := 2) dX4_node_106 (by decide) ?_
            refine s_callV (As := [.int 2]) (rest := []) (n := 1) (kd := 12) (ix := 0) (fun l hl => c_X4_raise G l hl ad M c0 t0 hd on tw dp cl gr r0 kd fl co sm wk sp b0 mu ⟨hm.1, hm.2.1, hm.2.2.1, hm.2.2.2.1, hm.2.2.2.2.1, hm.2.2.2.2.2.1, hm.2.2.2.2.2.2.1, hm.2.2.2.2.2.2.2.1, hm.2.2.2.2.2.2.2.2.1, hm.2.2.2.2.2.2.2.2.2.1, hm.2.2.2.2.2.2.2.2.2.2.1, hm.2.2.2.2.2.2.2.2.2.2.2.1, hm.2.2.2.2.2.2.2.2.2.2.2.2.1, hm.2.2.2.2.2.2.2.2.2.2.2.2.2⟩ 2) gX4_node_X4_raise rfl (by decide +kernel) hm.1 rfl rfl ⟨(Nat.le_of_ble_eq_true rfl), (Nat.le_of_ble_eq_true rfl)⟩ ⟨(Nat.le_of_ble_eq_true rfl), (Nat.le_of_ble_eq_true rfl)⟩ (Nat.le_of_ble_eq_true rfl) dX4_node_107 rfl (fun r9 ad9 M9 h9 => ?_)
            obtain ⟨rfl, rfl, hm9, hs9⟩ := h9
            exact s_iret rfl (rfl) dX4_node_110 (Nat.le_of_ble_eq_true rfl) (Nat.le_of_ble_eq_true rfl) (⟨rfl, (sSame.rfl.trans hs9), ⟨(2, t0, hd, on, tw, dp, cl, gr, r0, kd, fl, co, sm, wk, sp, b0, mu), hm9, rfl, by rw [ea]; exact hI.any _ _ _ _ _⟩, _, rfl, fun q => absurd q (by decide)⟩)
