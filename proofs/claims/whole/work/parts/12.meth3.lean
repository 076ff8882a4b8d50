abbrev mX0_numberAt : sMeth := (cX0_numberAt, 3, RX0, wsX0_numberAt, { frames := 0, cells := 0, slots := 0, locals := 0 }, (some .int), "numberAt", [])
theorem in_X0_numberAt_X0 : ∀ w ∈ wsX00, w ∈ wsX0_numberAt := by decide +kernel
set_option maxHeartbeats 4000000 in
set_option maxRecDepth 100000 in
theorem l_X0_numberAt (X : sMach) (G : sG) (ad : sAd) (M : sM) (p n : Nat) (dg : Int32) (g : Bool) (ks ns : Nat → Int32) (h : hPo G ad M p (n, dg, g, ks, ns)) (hn : n ≤ 40) (key : Int32) : ∀ (k i : Nat) , i + k = n → (∀ a, a < i → ks a ≠ key) → sW X G mX0_numberAt (sQ X G mX0_numberAt (fun r ad' M' => ad = ad' ∧ M = M' ∧ ∃ v, r = some (.int v) ∧ ((∃ i, i < n ∧ ks i = key ∧ v = ns i) ∨ (v = 0 ∧ ∀ i, i < n → ks i ≠ key))) (fun _ _ _ => False)) ad M 0 0 [some (.ref (ad 3 p)), some (.int key), some (.int (nI i))] 2 [] := by
  intro k
  induction k with
  | zero =>
    intro i  hi hv
    refine s_iload_n dX0_numberAt_2 rfl ?_
    refine s_aload_n dX0_numberAt_3 rfl ?_
    refine s_get (kd := 3) (ix := p) (ci := 1) (fs := [.ref (ad 4 p), .ref (ad 5 p), .int (nI n), .int dg, .int (jB g)])  h.1 rfl in_X0_numberAt_X0 2 (by decide) (by decide +kernel) rfl rfl dX0_numberAt_4 ?_
    refine s_icmp_ge 33 dX0_numberAt_7 (by decide) (fun c7 => ?_) (fun c7 => absurd (nI_le (by omega) (by omega)) c7)
    refine s_iconst (v := 0) dX0_numberAt_33 (by decide) ?_
    exact s_iret rfl (rfl) dX0_numberAt_34 (Nat.le_of_ble_eq_true rfl) (Nat.le_of_ble_eq_true rfl) (⟨rfl, rfl, _, rfl, Or.inr ⟨rfl, fun a ha => hv a (by omega)⟩⟩)
  | succ k ih =>
    intro i  hi hv
    refine s_iload_n dX0_numberAt_2 rfl ?_
    refine s_aload_n dX0_numberAt_3 rfl ?_
    refine s_get (kd := 3) (ix := p) (ci := 1) (fs := [.ref (ad 4 p), .ref (ad 5 p), .int (nI n), .int dg, .int (jB g)])  h.1 rfl in_X0_numberAt_X0 2 (by decide) (by decide +kernel) rfl rfl dX0_numberAt_4 ?_
    refine s_icmp_ge 33 dX0_numberAt_7 (by decide) (fun c7 => absurd c7 (nI_ge (by omega) (by omega))) (fun c7 => ?_)
    refine s_aload_n dX0_numberAt_10 rfl ?_
    refine s_get (kd := 3) (ix := p) (ci := 1) (fs := [.ref (ad 4 p), .ref (ad 5 p), .int (nI n), .int dg, .int (jB g)])  h.1 rfl in_X0_numberAt_X0 0 (by decide) (by decide +kernel) rfl rfl dX0_numberAt_11 ?_
    refine s_iload_n dX0_numberAt_14 rfl ?_
    refine s_iald (kd := 4) (ix := p) (n := 40) (f := ks) (j := i) h.2.1 (rfl) (by omega) (by decide) dX0_numberAt_15 ?_
    refine s_iload_n dX0_numberAt_16 rfl ?_
    refine s_icmp_ne 27 dX0_numberAt_17 (by decide) (fun c17 => ?_) (fun c17 => ?_)
    · refine s_iinc (v := nI (i + 1)) dX0_numberAt_27 rfl (nI_1 i) rfl ?_
      refine s_lv (lv' := [some (.ref (ad 3 p)), some (.int key), some (.int (nI (i + 1)))]) rfl ?_
      refine s_goto 2 dX0_numberAt_30 (by decide) ?_
      exact ih (i + 1) (by omega) (fun a ha => by
        by_cases e : a = i
        · rw [e]; exact c17
        · exact hv a (by omega))
    · refine s_aload_n dX0_numberAt_20 rfl ?_
      refine s_get (kd := 3) (ix := p) (ci := 1) (fs := [.ref (ad 4 p), .ref (ad 5 p), .int (nI n), .int dg, .int (jB g)])  h.1 rfl in_X0_numberAt_X0 1 (by decide) (by decide +kernel) rfl rfl dX0_numberAt_21 ?_
      refine s_iload_n dX0_numberAt_24 rfl ?_
      refine s_iald (kd := 5) (ix := p) (n := 40) (f := ns) (j := i) h.2.2 (rfl) (by omega) (by decide) dX0_numberAt_25 ?_
      exact s_iret rfl (rfl) dX0_numberAt_26 (Nat.le_of_ble_eq_true rfl) (Nat.le_of_ble_eq_true rfl) (⟨rfl, rfl, _, rfl, Or.inl ⟨i, by omega, c17, rfl⟩⟩)
set_option maxHeartbeats 4000000 in
set_option maxRecDepth 100000 in
theorem c_X0_numberAt (G : sG) (l : Launch) (hl : l.stackTraces = false) (ad : sAd) (M : sM) (p n : Nat) (dg : Int32) (g : Bool) (ks ns : Nat → Int32) (h : hPo G ad M p (n, dg, g, ks, ns)) (hn : n ≤ 40) (key : Int32) : sMet G l yX0_numberAt mX0_numberAt [.ref (ad 3 p), .int key] ad M (fun r ad' M' => ad = ad' ∧ M = M' ∧ ∃ v, r = some (.int v) ∧ ((∃ i, i < n ∧ ks i = key ∧ v = ns i) ∨ (v = 0 ∧ ∀ i, i < n → ks i ≠ key))) (fun _ _ _ => False) := by
  refine sMet.of hl (by decide +kernel) rfl rfl rfl rfl (Nat.le_of_ble_eq_true rfl) (fun X => ?_)
  refine s_lv (lv' := [some (.ref (ad 3 p)), some (.int key), none]) rfl ?_
  refine s_iconst (v := 0) dX0_numberAt_0 (by decide) ?_
  refine s_istore_n dX0_numberAt_1 rfl rfl ?_
  refine s_lv (lv' := [some (.ref (ad 3 p)), some (.int key), some (.int 0)]) rfl ?_
  exact l_X0_numberAt X G ad M p n dg g ks ns h hn key n 0 (by omega) (fun a ha => by omega)
abbrev mX1_add : sMeth := (cX1_add, 4, RX1, wsX1_add, { frames := 0, cells := 0, slots := 0, locals := 0 }, none, "add", [])
theorem in_X1_add_X1 : ∀ w ∈ wsX10, w ∈ wsX1_add := by decide +kernel
set_option maxHeartbeats 4000000 in
set_option maxRecDepth 100000 in
theorem c_X1_add (G : sG) (l : Launch) (hl : l.stackTraces = false) (ad : sAd) (M : sM) (lo ks : Nat → Int32) (ns : Nat → Int64) (u : Nat) (th : Bool) (h : hSh G ad M (lo, ks, ns, u, th)) (f : Nat → Int) (hR : ShR (lo, ks, ns, u, th) f) (j : Nat) (hj : good j) (v : Int64) (hb : -(2 ^ 63) ≤ f j + v.toInt ∧ f j + v.toInt < 2 ^ 63) : sMet G l yX1_add mX1_add [.ref (ad 1 0), .int (nI j), .long v] ad M (fun r ad' M' => ad = ad' ∧ r = none ∧ (∃ lo' ks' ns' u', hSh G ad M' (lo', ks', ns', u', th) ∧ ShR (lo', ks', ns', u', th) (fAdd f j v.toInt)) ∧ sSame pSh M M') (fun _ _ _ => False) := by
  obtain ⟨e, hR⟩ := hR
  refine sMet.of hl (by decide +kernel) rfl rfl rfl rfl (Nat.le_of_ble_eq_true rfl) (fun X => ?_)
  refine s_lv (lv' := [some (.ref (ad 1 0)), some (.int (nI j)), some (.long v), none]) rfl ?_
  refine s_iload_n dX1_add_0 rfl ?_
  refine s_if_lt 11 dX1_add_1 (by decide) (fun c1 => absurd c1 (nI_pos (by have := hj.1; omega))) (fun c1 => ?_)
  refine s_iload_n dX1_add_4 rfl ?_
  refine s_sipush (v := 1000) dX1_add_5 (by decide) ?_
  refine s_icmp_lt 17 dX1_add_8 (by decide) (fun c8 => ?_) (fun c8 => absurd (show nI j < nI 1000 from nI_lt hj.1 (by decide)) c8)
  refine s_aload_n dX1_add_17 rfl ?_
  refine s_get (kd := 1) (ix := 0) (ci := 2) (fs := [.ref (ad 9 0), .ref (ad 10 0), .ref (ad 11 0), .int (nI u), .int (jB th)])  h.1 rfl in_X1_add_X1 0 (by decide) (by decide +kernel) rfl rfl dX1_add_18 ?_
  refine s_iload_n dX1_add_21 rfl ?_
  refine s_iald (kd := 9) (ix := 0) (n := 1000) (f := lo) (j := j) h.2.1 (rfl) (hj.1) (by decide) dX1_add_22 ?_
  refine s_if_le 44 dX1_add_23 (by decide) (fun c23 => ?_) (fun c23 => ?_)
  · have hu : u < 220 := hR.lt hj c23
    refine s_aload_n dX1_add_44 rfl ?_
    refine s_get (kd := 1) (ix := 0) (ci := 2) (fs := [.ref (ad 9 0), .ref (ad 10 0), .ref (ad 11 0), .int (nI u), .int (jB th)])  h.1 rfl in_X1_add_X1 3 (by decide) (by decide +kernel) rfl rfl dX1_add_45 ?_
    refine s_sipush (v := 220) dX1_add_48 (by decide) ?_
    refine s_icmp_lt 60 dX1_add_51 (by decide) (fun c51 => ?_) (fun c51 => absurd (show nI u < nI 220 from nI_lt hu (by decide)) c51)
    refine s_aload_n dX1_add_60 rfl ?_
    refine s_get (kd := 1) (ix := 0) (ci := 2) (fs := [.ref (ad 9 0), .ref (ad 10 0), .ref (ad 11 0), .int (nI u), .int (jB th)])  h.1 rfl in_X1_add_X1 1 (by decide) (by decide +kernel) rfl rfl dX1_add_61 ?_
    refine s_aload_n dX1_add_64 rfl ?_
    refine s_get (kd := 1) (ix := 0) (ci := 2) (fs := [.ref (ad 9 0), .ref (ad 10 0), .ref (ad 11 0), .int (nI u), .int (jB th)])  h.1 rfl in_X1_add_X1 3 (by decide) (by decide +kernel) rfl rfl dX1_add_65 ?_
    refine s_iload_n dX1_add_68 rfl ?_
    refine s_iast (kd := 10) (ix := 0) (n := 220) (f := ks) (j := u) (x := nI j) h.2.2.1  (rfl) (hu) (by decide) dX1_add_69 ?_
    refine s_aload_n dX1_add_70 rfl ?_
    refine s_get (kd := 1) (ix := 0) (ci := 2) (fs := [.ref (ad 9 0), .ref (ad 10 0), .ref (ad 11 0), .int (nI u), .int (jB th)])  ((sset_k _ _ (by decide)).trans (h.1)) rfl in_X1_add_X1 2 (by decide) (by decide +kernel) rfl rfl dX1_add_71 ?_
    refine s_aload_n dX1_add_74 rfl ?_
    refine s_get (kd := 1) (ix := 0) (ci := 2) (fs := [.ref (ad 9 0), .ref (ad 10 0), .ref (ad 11 0), .int (nI u), .int (jB th)])  ((sset_k _ _ (by decide)).trans (h.1)) rfl in_X1_add_X1 3 (by decide) (by decide +kernel) rfl rfl dX1_add_75 ?_
    refine s_lload_n dX1_add_78 rfl ?_
    refine s_last (kd := 11) (ix := 0) (n := 220) (f := ns) (j := u) (x := v) ((sset_k _ _ (by decide)).trans (h.2.2.2))  (rfl) (hu) (by decide) dX1_add_79 ?_
    refine s_aload_n dX1_add_80 rfl ?_
    refine s_dup dX1_add_81 rfl ?_
    refine s_get (kd := 1) (ix := 0) (ci := 2) (fs := [.ref (ad 9 0), .ref (ad 10 0), .ref (ad 11 0), .int (nI u), .int (jB th)])  ((sset_k _ _ (by decide)).trans ((sset_k _ _ (by decide)).trans (h.1))) rfl in_X1_add_X1 3 (by decide) (by decide +kernel) rfl rfl dX1_add_82 ?_
    refine s_iconst (v := 1) dX1_add_85 (by decide) ?_
    refine s_iadd dX1_add_86 ?_
    refine s_eqi (y := nI (u + 1)) (nI_1 u) ?_
    refine s_put (kd := 1) (ix := 0) (ci := 2) (v := .int (nI (u + 1))) (ty := tyX1 3) (fs := [.ref (ad 9 0), .ref (ad 10 0), .ref (ad 11 0), .int (nI u), .int (jB th)])  tyX1 tyX1_ok nmX1 ((sset_k _ _ (by decide)).trans ((sset_k _ _ (by decide)).trans (h.1))) rfl in_X1_add_X1 3 (by decide) (by decide +kernel) rfl rfl (tyX1_ok 3 (by decide)) (rfl) (rfl) (Nat.le_of_ble_eq_true rfl) dX1_add_87 ?_
    refine s_M (M' := (sset (sset (sset M 10 0 (.inl (gI G, 220, .inl (upd ks u (nI j))))) 11 0 (.inl (gJ G, 220, .inr (.inl (vp_updL ns u v))))) 1 0 (.inr (2, [.ref (ad 9 0), .ref (ad 10 0), .ref (ad 11 0), .int (nI (u + 1)), .int (jB th)])))) rfl ?_
    refine s_aload_n dX1_add_90 rfl ?_
    refine s_get (kd := 1) (ix := 0) (ci := 2) (fs := [.ref (ad 9 0), .ref (ad 10 0), .ref (ad 11 0), .int (nI (u + 1)), .int (jB th)])  (sset_self _ _ _ _) rfl in_X1_add_X1 0 (by decide) (by decide +kernel) rfl rfl dX1_add_91 ?_
    refine s_iload_n dX1_add_94 rfl ?_
    refine s_aload_n dX1_add_95 rfl ?_
    refine s_get (kd := 1) (ix := 0) (ci := 2) (fs := [.ref (ad 9 0), .ref (ad 10 0), .ref (ad 11 0), .int (nI (u + 1)), .int (jB th)])  (sset_self _ _ _ _) rfl in_X1_add_X1 3 (by decide) (by decide +kernel) rfl rfl dX1_add_96 ?_
    refine s_iast (kd := 9) (ix := 0) (n := 1000) (f := lo) (j := j) (x := nI (u + 1)) ((sset_k _ _ (by decide)).trans ((sset_k _ _ (by decide)).trans ((sset_k _ _ (by decide)).trans (h.2.1))))  (rfl) (hj.1) (by decide) dX1_add_99 ?_
    exact s_vret rfl dX1_add_100 (Nat.le_of_ble_eq_true rfl) (Nat.le_of_ble_eq_true rfl) (⟨rfl, rfl, ⟨upd lo j (nI (u + 1)), upd ks u (nI j), vp_updL ns u v, u + 1, ⟨((sset_k _ _ (by decide)).trans (sset_self _ _ _ _)), (sset_self _ _ _ _), ((sset_k _ _ (by decide)).trans ((sset_k _ _ (by decide)).trans ((sset_k _ _ (by decide)).trans (sset_self _ _ _ _)))), ((sset_k _ _ (by decide)).trans ((sset_k _ _ (by decide)).trans (sset_self _ _ _ _)))⟩, ⟨_, hR.ext hj c23 v⟩⟩, ((((sSame.rfl).set (by simp [pSh]) _).set (by simp [pSh]) _).set (by simp [pSh]) _).set (by simp [pSh]) _⟩)
  · obtain ⟨i, hi, hlo, he⟩ := hR.pos hj c23
    have hi : i < u := hi
    have hu : u ≤ 220 := hR.1
    refine s_aload_n dX1_add_26 rfl ?_
    refine s_get (kd := 1) (ix := 0) (ci := 2) (fs := [.ref (ad 9 0), .ref (ad 10 0), .ref (ad 11 0), .int (nI u), .int (jB th)])  h.1 rfl in_X1_add_X1 2 (by decide) (by decide +kernel) rfl rfl dX1_add_27 ?_
    refine s_aload_n dX1_add_30 rfl ?_
    refine s_get (kd := 1) (ix := 0) (ci := 2) (fs := [.ref (ad 9 0), .ref (ad 10 0), .ref (ad 11 0), .int (nI u), .int (jB th)])  h.1 rfl in_X1_add_X1 0 (by decide) (by decide +kernel) rfl rfl dX1_add_31 ?_
    refine s_iload_n dX1_add_34 rfl ?_
    refine s_iald (kd := 9) (ix := 0) (n := 1000) (f := lo) (j := j) h.2.1 (rfl) (hj.1) (by decide) dX1_add_35 ?_
    refine s_iconst (v := 1) dX1_add_36 (by decide) ?_
    refine s_isub dX1_add_37 ?_
    refine s_eqi (y := nI i) (by rw [show lo j = nI (i + 1) from hlo]; exact nI_pred i) ?_
    refine s_dup2_11 dX1_add_38 rfl rfl ?_
    refine s_lald (kd := 11) (ix := 0) (n := 220) (f := ns) (j := i) h.2.2.2 (rfl) (by omega) (by decide) dX1_add_39 ?_
    refine s_lload_n dX1_add_40 rfl ?_
    refine s_ladd dX1_add_41 ?_
    refine s_last (kd := 11) (ix := 0) (n := 220) (f := ns) (j := i) (x := (ns i) + v) h.2.2.2  (rfl) (by omega) (by decide) dX1_add_42 ?_
    exact s_vret rfl dX1_add_43 (Nat.le_of_ble_eq_true rfl) (Nat.le_of_ble_eq_true rfl) (⟨rfl, rfl, ⟨lo, ks, vp_updL ns i (ns i + v), u, ⟨((sset_k _ _ (by decide)).trans (h.1)), ((sset_k _ _ (by decide)).trans (h.2.1)), ((sset_k _ _ (by decide)).trans (h.2.2.1)), (sset_self _ _ _ _)⟩, ⟨e, hR.inc hi he v hb⟩⟩, (sSame.rfl).set (by simp [pSh]) _⟩)
