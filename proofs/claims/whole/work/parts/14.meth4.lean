abbrev mX1_wipe : sMeth := (cX1_wipe, 2, RX1, wsX1_wipe, { frames := 0, cells := 0, slots := 0, locals := 0 }, none, "wipe", [])
theorem in_X1_wipe_X1 : ∀ w ∈ wsX10, w ∈ wsX1_wipe := by decide +kernel
set_option maxHeartbeats 4000000 in
set_option maxRecDepth 100000 in
theorem l_X1_wipe (X : sMach) (G : sG) (ad : sAd) (M0 : sM) (e : Nat → Nat) (ks : Nat → Int32) (ns : Nat → Int64) (u : Nat) (th : Bool) (hu : u ≤ 220) (hk : ∀ a, a < u → good (e a) ∧ ks a = nI (e a)) : ∀ (k i : Nat) (M : sM) (lo : Nat → Int32) (h : hSh G ad M (lo, ks, ns, u, th)) (hs : sSame pSh M0 M), i + k = u → (∀ y, y < 1000 → (∀ a, i ≤ a → a < u → e a ≠ y) → lo y = 0) → sW X G mX1_wipe (sQ X G mX1_wipe (fun r ad' M' => ad = ad' ∧ r = none ∧ (∃ lo', hSh G ad M' (lo', ks, ns, 0, false) ∧ ∀ y, y < 1000 → lo' y = 0) ∧ sSame pSh M0 M') (fun _ _ _ => False)) ad M 0 0 [some (.ref (ad 1 0)), some (.int (nI i))] 2 [] := by
  intro k
  induction k with
  | zero =>
    intro i M lo h hs hi hv
    refine s_iload_n dX1_wipe_2 rfl ?_
    refine s_aload_n dX1_wipe_3 rfl ?_
    refine s_get (kd := 1) (ix := 0) (ci := 2) (fs := [.ref (ad 9 0), .ref (ad 10 0), .ref (ad 11 0), .int (nI u), .int (jB th)])  h.1 rfl in_X1_wipe_X1 3 (by decide) (by decide +kernel) rfl rfl dX1_wipe_4 ?_
    refine s_icmp_ge 28 dX1_wipe_7 (by decide) (fun c7 => ?_) (fun c7 => absurd (nI_le (by omega) (by omega)) c7)
    refine s_aload_n dX1_wipe_28 rfl ?_
    refine s_iconst (v := 0) dX1_wipe_29 (by decide) ?_
    refine s_put (kd := 1) (ix := 0) (ci := 2) (v := .int 0) (ty := tyX1 3) (fs := [.ref (ad 9 0), .ref (ad 10 0), .ref (ad 11 0), .int (nI u), .int (jB th)])  tyX1 tyX1_ok nmX1 h.1 rfl in_X1_wipe_X1 3 (by decide) (by decide +kernel) rfl rfl (tyX1_ok 3 (by decide)) (rfl) (rfl) (Nat.le_of_ble_eq_true rfl) dX1_wipe_30 ?_
    refine s_M (M' := (sset M 1 0 (.inr (2, [.ref (ad 9 0), .ref (ad 10 0), .ref (ad 11 0), .int 0, .int (jB th)])))) rfl ?_
    refine s_aload_n dX1_wipe_33 rfl ?_
    refine s_iconst (v := 0) dX1_wipe_34 (by decide) ?_
    refine s_put (kd := 1) (ix := 0) (ci := 2) (v := .int 0) (ty := tyX1 4) (fs := [.ref (ad 9 0), .ref (ad 10 0), .ref (ad 11 0), .int 0, .int (jB th)])  tyX1 tyX1_ok nmX1 (sset_self _ _ _ _) rfl in_X1_wipe_X1 4 (by decide) (by decide +kernel) rfl rfl (tyX1_ok 4 (by decide)) (rfl) (rfl) (Nat.le_of_ble_eq_true rfl) dX1_wipe_35 ?_
    refine s_M (M' := (sset (sset M 1 0 (.inr (2, [.ref (ad 9 0), .ref (ad 10 0), .ref (ad 11 0), .int 0, .int (jB th)]))) 1 0 (.inr (2, [.ref (ad 9 0), .ref (ad 10 0), .ref (ad 11 0), .int 0, .int 0])))) rfl ?_
    exact s_vret rfl dX1_wipe_38 (Nat.le_of_ble_eq_true rfl) (Nat.le_of_ble_eq_true rfl) (⟨rfl, rfl, ⟨lo, ⟨(sset_self _ _ _ _), ((sset_k _ _ (by decide)).trans ((sset_k _ _ (by decide)).trans (h.2.1))), ((sset_k _ _ (by decide)).trans ((sset_k _ _ (by decide)).trans (h.2.2.1))), ((sset_k _ _ (by decide)).trans ((sset_k _ _ (by decide)).trans (h.2.2.2)))⟩, fun y hy => hv y hy (fun a ha hb => by omega)⟩, ((hs).set (by simp [pSh]) _).set (by simp [pSh]) _⟩)
  | succ k ih =>
    intro i M lo h hs hi hv
    refine s_iload_n dX1_wipe_2 rfl ?_
    refine s_aload_n dX1_wipe_3 rfl ?_
    refine s_get (kd := 1) (ix := 0) (ci := 2) (fs := [.ref (ad 9 0), .ref (ad 10 0), .ref (ad 11 0), .int (nI u), .int (jB th)])  h.1 rfl in_X1_wipe_X1 3 (by decide) (by decide +kernel) rfl rfl dX1_wipe_4 ?_
    refine s_icmp_ge 28 dX1_wipe_7 (by decide) (fun c7 => absurd c7 (nI_ge (by omega) (by omega))) (fun c7 => ?_)
    refine s_aload_n dX1_wipe_10 rfl ?_
    refine s_get (kd := 1) (ix := 0) (ci := 2) (fs := [.ref (ad 9 0), .ref (ad 10 0), .ref (ad 11 0), .int (nI u), .int (jB th)])  h.1 rfl in_X1_wipe_X1 0 (by decide) (by decide +kernel) rfl rfl dX1_wipe_11 ?_
    refine s_aload_n dX1_wipe_14 rfl ?_
    refine s_get (kd := 1) (ix := 0) (ci := 2) (fs := [.ref (ad 9 0), .ref (ad 10 0), .ref (ad 11 0), .int (nI u), .int (jB th)])  h.1 rfl in_X1_wipe_X1 1 (by decide) (by decide +kernel) rfl rfl dX1_wipe_15 ?_
    refine s_iload_n dX1_wipe_18 rfl ?_
    refine s_iald (kd := 10) (ix := 0) (n := 220) (f := ks) (j := i) h.2.2.1 (rfl) (by omega) (by decide) dX1_wipe_19 ?_
    refine s_iconst (v := 0) dX1_wipe_20 (by decide) ?_
    refine s_iast (kd := 9) (ix := 0) (n := 1000) (f := lo) (j := e i) (x := 0) h.2.1  ((hk i (by omega)).2) ((hk i (by omega)).1.1) (by decide) dX1_wipe_21 ?_
    refine s_iinc (v := nI (i + 1)) dX1_wipe_22 rfl (nI_1 i) rfl ?_
    refine s_lv (lv' := [some (.ref (ad 1 0)), some (.int (nI (i + 1)))]) rfl ?_
    refine s_goto 2 dX1_wipe_25 (by decide) ?_
    exact ih (i + 1) (sset M 9 0 (.inl (gI G, 1000, .inl (upd lo (e i) 0)))) (upd lo (e i) 0) ⟨((sset_k _ _ (by decide)).trans (h.1)), (sset_self _ _ _ _), ((sset_k _ _ (by decide)).trans (h.2.2.1)), ((sset_k _ _ (by decide)).trans (h.2.2.2))⟩ ((hs).set (by simp [pSh]) _) (by omega) (fun y hy hn => by
      by_cases q : y = e i
      · rw [q, pk_us]
      · rw [pk_un q]
        refine hv y hy (fun a ha hb => ?_)
        by_cases q2 : a = i
        · rw [q2]; exact Ne.symm q
        · exact hn a (by omega) hb)
set_option maxHeartbeats 4000000 in
set_option maxRecDepth 100000 in
theorem c0_X1_wipe (G : sG) (l : Launch) (hl : l.stackTraces = false) (ad : sAd) (M : sM) (lo ks : Nat → Int32) (ns : Nat → Int64) (u : Nat) (th : Bool) (h : hSh G ad M (lo, ks, ns, u, th)) (f : Nat → Int) (hR : ShR (lo, ks, ns, u, th) f) : sMet G l yX1_wipe mX1_wipe [.ref (ad 1 0)] ad M (fun r ad' M' => ad = ad' ∧ r = none ∧ (∃ lo', hSh G ad M' (lo', ks, ns, 0, false) ∧ ∀ y, y < 1000 → lo' y = 0) ∧ sSame pSh M M') (fun _ _ _ => False) := by
  obtain ⟨e, hR⟩ := hR
  refine sMet.of hl (by decide +kernel) rfl rfl rfl rfl (Nat.le_of_ble_eq_true rfl) (fun X => ?_)
  refine s_lv (lv' := [some (.ref (ad 1 0)), none]) rfl ?_
  refine s_iconst (v := 0) dX1_wipe_0 (by decide) ?_
  refine s_istore_n dX1_wipe_1 rfl rfl ?_
  refine s_lv (lv' := [some (.ref (ad 1 0)), some (.int 0)]) rfl ?_
  exact l_X1_wipe X G ad M e ks ns u th hR.1 (fun a ha => ⟨(hR.2.1 a ha).1, (hR.2.1 a ha).2.1⟩) u 0 M lo h sSame.rfl (by omega) (fun y hy hn => hR.2.2.1 y hy (fun a ha => hn a (by omega) ha))
theorem c_X1_wipe (G : sG) (l : Launch) (hl : l.stackTraces = false) (ad : sAd) (M : sM) (lo ks : Nat → Int32) (ns : Nat → Int64) (u : Nat) (th : Bool) (h : hSh G ad M (lo, ks, ns, u, th)) (f : Nat → Int) (hR : ShR (lo, ks, ns, u, th) f) : sMet G l yX1_wipe mX1_wipe [.ref (ad 1 0)] ad M (fun r ad' M' => ad = ad' ∧ r = none ∧ (∃ lo', hSh G ad M' (lo', ks, ns, 0, false) ∧ ShR (lo', ks, ns, 0, false) (fun _ => 0)) ∧ sSame pSh M M') (fun _ _ _ => False) :=
  (c0_X1_wipe G l hl ad M lo ks ns u th h f hR).mono (fun r a m q => ⟨q.1, q.2.1, ⟨q.2.2.1.choose, q.2.2.1.choose_spec.1, ⟨fun _ => 0, Nat.zero_le _, fun i hi => absurd hi (Nat.not_lt_zero i), fun y hy _ => q.2.2.1.choose_spec.2 y hy, fun y hy => absurd rfl hy⟩⟩, q.2.2.2⟩) (fun _ _ _ q => q)
abbrev mX1_isZero : sMeth := (cX1_isZero, 2, RX1, wsX1_isZero, { frames := 0, cells := 0, slots := 0, locals := 0 }, (some .boolean), "isZero", [])
theorem in_X1_isZero_X1 : ∀ w ∈ wsX10, w ∈ wsX1_isZero := by decide +kernel
set_option maxHeartbeats 4000000 in
set_option maxRecDepth 100000 in
theorem l_X1_isZero (X : sMach) (G : sG) (ad : sAd) (M : sM) (lo ks : Nat → Int32) (ns : Nat → Int64) (u : Nat) (th : Bool) (h : hSh G ad M (lo, ks, ns, u, th)) (f : Nat → Int) (e : Nat → Nat) (hE : ShE (lo, ks, ns, u, th) e f) (hu : u ≤ 220) : ∀ (k i : Nat) , i + k = u → (∀ a, a < i → f (e a) = 0) → sW X G mX1_isZero (sQ X G mX1_isZero (fun r ad' M' => ad = ad' ∧ M = M' ∧ ∃ z : Bool, r = some (.int (jB z)) ∧ (z = true ↔ (∀ y, f y = 0) ∧ th = false)) (fun _ _ _ => False)) ad M 0 0 [some (.ref (ad 1 0)), some (.int (nI i))] 2 [] := by
  intro k
  induction k with
  | zero =>
    intro i  hi hv
    refine s_iload_n dX1_isZero_2 rfl ?_
    refine s_aload_n dX1_isZero_3 rfl ?_
    refine s_get (kd := 1) (ix := 0) (ci := 2) (fs := [.ref (ad 9 0), .ref (ad 10 0), .ref (ad 11 0), .int (nI u), .int (jB th)])  h.1 rfl in_X1_isZero_X1 3 (by decide) (by decide +kernel) rfl rfl dX1_isZero_4 ?_
    refine s_icmp_ge 29 dX1_isZero_7 (by decide) (fun c7 => ?_) (fun c7 => absurd (nI_le (by omega) (by omega)) c7)
    refine s_aload_n dX1_isZero_29 rfl ?_
    refine s_get (kd := 1) (ix := 0) (ci := 2) (fs := [.ref (ad 9 0), .ref (ad 10 0), .ref (ad 11 0), .int (nI u), .int (jB th)])  h.1 rfl in_X1_isZero_X1 4 (by decide) (by decide +kernel) rfl rfl dX1_isZero_30 ?_
    refine s_if_ne 40 dX1_isZero_33 (by decide) (fun c33 => ?_) (fun c33 => ?_)
    · refine s_iconst (v := 0) dX1_isZero_40 (by decide) ?_
      exact s_iret rfl (rfl) dX1_isZero_41 (Nat.le_of_ble_eq_true rfl) (Nat.le_of_ble_eq_true rfl) (⟨rfl, rfl, false, rfl, ⟨(fun q => nomatch q), fun q => absurd (by rw [q.2]; rfl) c33⟩⟩)
    · refine s_iconst (v := 1) dX1_isZero_36 (by decide) ?_
      refine s_goto 41 dX1_isZero_37 (by decide) ?_
      exact s_iret rfl (rfl) dX1_isZero_41 (Nat.le_of_ble_eq_true rfl) (Nat.le_of_ble_eq_true rfl) (⟨rfl, rfl, true, rfl, ⟨fun _ => ⟨fun y => by
      by_cases q : f y = 0
      · exact q
      · obtain ⟨a, ha, he⟩ := hE.2.2.2 y q
        rw [← he]; exact hv a (by have : a < u := ha; omega), jB_0.mp c33⟩, fun _ => rfl⟩⟩)
  | succ k ih =>
    intro i  hi hv
    refine s_iload_n dX1_isZero_2 rfl ?_
    refine s_aload_n dX1_isZero_3 rfl ?_
    refine s_get (kd := 1) (ix := 0) (ci := 2) (fs := [.ref (ad 9 0), .ref (ad 10 0), .ref (ad 11 0), .int (nI u), .int (jB th)])  h.1 rfl in_X1_isZero_X1 3 (by decide) (by decide +kernel) rfl rfl dX1_isZero_4 ?_
    refine s_icmp_ge 29 dX1_isZero_7 (by decide) (fun c7 => absurd c7 (nI_ge (by omega) (by omega))) (fun c7 => ?_)
    refine s_aload_n dX1_isZero_10 rfl ?_
    refine s_get (kd := 1) (ix := 0) (ci := 2) (fs := [.ref (ad 9 0), .ref (ad 10 0), .ref (ad 11 0), .int (nI u), .int (jB th)])  h.1 rfl in_X1_isZero_X1 2 (by decide) (by decide +kernel) rfl rfl dX1_isZero_11 ?_
    refine s_iload_n dX1_isZero_14 rfl ?_
    refine s_lald (kd := 11) (ix := 0) (n := 220) (f := ns) (j := i) h.2.2.2 (rfl) (by omega) (by decide) dX1_isZero_15 ?_
    refine s_lconst (v := 0) dX1_isZero_16 (by decide) ?_
    refine s_lcmp dX1_isZero_17 ?_
    refine s_if_eq 23 dX1_isZero_18 (by decide) (fun c18 => ?_) (fun c18 => ?_)
    · refine s_iinc (v := nI (i + 1)) dX1_isZero_23 rfl (nI_1 i) rfl ?_
      refine s_lv (lv' := [some (.ref (ad 1 0)), some (.int (nI (i + 1)))]) rfl ?_
      refine s_goto 2 dX1_isZero_26 (by decide) ?_
      exact ih (i + 1) (by omega) (fun a ha => by
        by_cases q : a = i
        · rw [q, ← (hE.2.1 i (by show i < u; omega)).2.2.2]
          show (ns i).toInt = 0
          rw [show ns i = 0 from (lg_cmp_eq _ _).mp c18]; rfl
        · exact hv a (by omega))
    · refine s_iconst (v := 0) dX1_isZero_21 (by decide) ?_
      exact s_iret rfl (rfl) dX1_isZero_22 (Nat.le_of_ble_eq_true rfl) (Nat.le_of_ble_eq_true rfl) (⟨rfl, rfl, false, rfl, ⟨(fun q => nomatch q), fun q => absurd (by have h1 := (hE.2.1 i (by show i < u; omega)).2.2.2; rw [q.1 (e i)] at h1; exact (lg_cmp_eq _ _).mpr (Int64.toInt_inj.mp h1)) c18⟩⟩)
set_option maxHeartbeats 4000000 in
set_option maxRecDepth 100000 in
theorem c_X1_isZero (G : sG) (l : Launch) (hl : l.stackTraces = false) (ad : sAd) (M : sM) (lo ks : Nat → Int32) (ns : Nat → Int64) (u : Nat) (th : Bool) (h : hSh G ad M (lo, ks, ns, u, th)) (f : Nat → Int) (hR : ShR (lo, ks, ns, u, th) f) : sMet G l yX1_isZero mX1_isZero [.ref (ad 1 0)] ad M (fun r ad' M' => ad = ad' ∧ M = M' ∧ ∃ z : Bool, r = some (.int (jB z)) ∧ (z = true ↔ (∀ y, f y = 0) ∧ th = false)) (fun _ _ _ => False) := by
  obtain ⟨e, hE⟩ := hR
  refine sMet.of hl (by decide +kernel) rfl rfl rfl rfl (Nat.le_of_ble_eq_true rfl) (fun X => ?_)
  refine s_lv (lv' := [some (.ref (ad 1 0)), none]) rfl ?_
  refine s_iconst (v := 0) dX1_isZero_0 (by decide) ?_
  refine s_istore_n dX1_isZero_1 rfl rfl ?_
  refine s_lv (lv' := [some (.ref (ad 1 0)), some (.int 0)]) rfl ?_
  exact l_X1_isZero X G ad M lo ks ns u th h f e hE hE.1 u 0 (by omega) (fun a ha => by omega)
