/-! counted, check, alike of the reference -/
abbrev mX4_counted : sMeth := (cX4_counted, 4, RX4, wsX4_counted, { frames := 2, cells := 0, slots := 0, locals := 46 }, (some .int), "counted", [])
theorem in_X4_counted_X4 : ∀ w ∈ wsX40, w ∈ wsX4_counted := by decide +kernel
set_option maxHeartbeats 4000000 in
set_option maxRecDepth 100000 in
theorem l_X4_counted (X : sMach) (G : sG) (ad : sAd) (M0 : sM) (c0 : Int32) (t0 : Nat) (hd : Nat → Int32) (on : Nat → Int32) (tw : Nat → Int32) (dp : Nat → Int32) (cl : Nat → Int32) (gr : Nat → Int32) (r0 : Nat) (kd : Nat → Int32) (fl : Nat → Int32) (co : Nat → Int32) (sm : Nat → Int32) (wk : Nat → Int64) (sp : Nat → Int64) (b0 : Bool) (mu : Nat → Int32) (α : sAl) (hA : AI α) (hI : RI α (c0, t0, hd, on, tw, dp, cl, gr, r0, kd, fl, co, sm, wk, sp, b0, mu)) (jr k0 : Nat) (hjr : jr < aR α) (hk7 : k0 < 7) (ek : aRw α jr 0 = nI k0) (hfl : ∀ a, a < tfN k0 → (aRw α jr (1 + a)).toNatClampNeg < aT α ∧ aRw α jr (1 + a) = nI (aRw α jr (1 + a)).toNatClampNeg) (hc : c0 = 0) (Q : State → Prop) (kont : ∀ (M : sM)  (n : Nat), hMd G ad M (c0, t0, hd, on, tw, dp, cl, gr, r0, kd, fl, co, sm, wk, sp, b0, mu) → sSame pMd M0 M → ((n : Int) = sN (fun a => cnt (aPf α (aRw α jr (1 + a)).toNatClampNeg)) (tfN k0)) → sW X G mX4_counted Q ad M 0 0 [some (.ref (ad 12 0)), some (.int (nI jr)), some (.int (nI n)), none] 64 []) : ∀ (k i : Nat) (M : sM)  (n : Nat), i + k = (tfN k0) → hMd G ad M (c0, t0, hd, on, tw, dp, cl, gr, r0, kd, fl, co, sm, wk, sp, b0, mu) → sSame pMd M0 M → ((n : Int) = sN (fun a => cnt (aPf α (aRw α jr (1 + a)).toNatClampNeg)) i) → sW X G mX4_counted Q ad M 0 0 [some (.ref (ad 12 0)), some (.int (nI jr)), some (.int (nI n)), some (.int (nI i))] 21 [] := by
  intro k
  induction k with
  | zero =>
    intro i M  n hi hm hs hv
    obtain ⟨i1, i2, i3, i4⟩ := id hI
    have hT := hA.1
    have hR60 := hA.2.1
    have htf3 := tfN_le k0
    refine s_aload_n dX4_counted_21 rfl ?_
    refine s_get (kd := 12) (ix := 0) (ci := 5) (fs := [.int c0, .int (nI t0), .ref (ad 13 0), .ref (ad 14 0), .ref (ad 15 0), .ref (ad 16 0), .ref (ad 17 0), .ref (ad 18 0), .int (nI r0), .ref (ad 19 0), .ref (ad 20 0), .ref (ad 21 0), .ref (ad 22 0), .ref (ad 23 0), .ref (ad 24 0), .int (jB b0), .ref (ad 25 0)])  hm.1 rfl in_X4_counted_X4 0 (by decide) (by decide +kernel) rfl rfl dX4_counted_22 ?_
    refine s_if_ne 64 dX4_counted_25 (by decide) (fun c25 => absurd (hc) c25) (fun c25 => ?_)
    refine s_iload_n dX4_counted_28 rfl ?_
    refine s_aload_n dX4_counted_29 rfl ?_
    refine s_get (kd := 12) (ix := 0) (ci := 5) (fs := [.int c0, .int (nI t0), .ref (ad 13 0), .ref (ad 14 0), .ref (ad 15 0), .ref (ad 16 0), .ref (ad 17 0), .ref (ad 18 0), .int (nI r0), .ref (ad 19 0), .ref (ad 20 0), .ref (ad 21 0), .ref (ad 22 0), .ref (ad 23 0), .ref (ad 24 0), .int (jB b0), .ref (ad 25 0)])  hm.1 rfl in_X4_counted_X4 9 (by decide) (by decide +kernel) rfl rfl dX4_counted_30 ?_
    refine s_iload_n dX4_counted_33 rfl ?_
    refine s_iald (kd := 19) (ix := 0) (n := 60) (f := kd) (j := jr) hm.2.2.2.2.2.2.2.1 (rfl) (by omega) (by decide) dX4_counted_34 ?_
    refine s_eqi (y := nI k0) ((i4 jr hjr).1.trans ek) ?_
    refine s_callS (As := [.int (nI k0)]) (rest := [.int (nI i)]) (n := 1) (fun l hl => c_X4_treesIn G l hl ad M k0 hk7) gX4_counted_X4_treesIn rfl (by decide +kernel) rfl ⟨(Nat.le_of_ble_eq_true rfl), (Nat.le_of_ble_eq_true rfl)⟩ ⟨(Nat.le_of_ble_eq_true rfl), (Nat.le_of_ble_eq_true rfl)⟩ (Nat.le_of_ble_eq_true rfl) dX4_counted_35 rfl (fun r9 ad9 M9 h9 => ?_)
    obtain ⟨rfl, rfl, rfl⟩ := h9
    refine s_icmp_ge 64 dX4_counted_38 (by decide) (fun c38 => ?_) (fun c38 => absurd (nI_le (by omega) (by omega)) c38)
    refine s_drop 3 ?_
    exact kont M  n hm hs (by rw [show i = (tfN k0) by omega] at hv; exact hv)
  | succ k ih =>
    intro i M  n hi hm hs hv
    obtain ⟨i1, i2, i3, i4⟩ := id hI
    have hT := hA.1
    have hR60 := hA.2.1
    have htf3 := tfN_le k0
    refine s_aload_n dX4_counted_21 rfl ?_
    refine s_get (kd := 12) (ix := 0) (ci := 5) (fs := [.int c0, .int (nI t0), .ref (ad 13 0), .ref (ad 14 0), .ref (ad 15 0), .ref (ad 16 0), .ref (ad 17 0), .ref (ad 18 0), .int (nI r0), .ref (ad 19 0), .ref (ad 20 0), .ref (ad 21 0), .ref (ad 22 0), .ref (ad 23 0), .ref (ad 24 0), .int (jB b0), .ref (ad 25 0)])  hm.1 rfl in_X4_counted_X4 0 (by decide) (by decide +kernel) rfl rfl dX4_counted_22 ?_
    refine s_if_ne 64 dX4_counted_25 (by decide) (fun c25 => absurd (hc) c25) (fun c25 => ?_)
    refine s_iload_n dX4_counted_28 rfl ?_
    refine s_aload_n dX4_counted_29 rfl ?_
    refine s_get (kd := 12) (ix := 0) (ci := 5) (fs := [.int c0, .int (nI t0), .ref (ad 13 0), .ref (ad 14 0), .ref (ad 15 0), .ref (ad 16 0), .ref (ad 17 0), .ref (ad 18 0), .int (nI r0), .ref (ad 19 0), .ref (ad 20 0), .ref (ad 21 0), .ref (ad 22 0), .ref (ad 23 0), .ref (ad 24 0), .int (jB b0), .ref (ad 25 0)])  hm.1 rfl in_X4_counted_X4 9 (by decide) (by decide +kernel) rfl rfl dX4_counted_30 ?_
    refine s_iload_n dX4_counted_33 rfl ?_
    refine s_iald (kd := 19) (ix := 0) (n := 60) (f := kd) (j := jr) hm.2.2.2.2.2.2.2.1 (rfl) (by omega) (by decide) dX4_counted_34 ?_
    refine s_eqi (y := nI k0) ((i4 jr hjr).1.trans ek) ?_
    refine s_callS (As := [.int (nI k0)]) (rest := [.int (nI i)]) (n := 1) (fun l hl => c_X4_treesIn G l hl ad M k0 hk7) gX4_counted_X4_treesIn rfl (by decide +kernel) rfl ⟨(Nat.le_of_ble_eq_true rfl), (Nat.le_of_ble_eq_true rfl)⟩ ⟨(Nat.le_of_ble_eq_true rfl), (Nat.le_of_ble_eq_true rfl)⟩ (Nat.le_of_ble_eq_true rfl) dX4_counted_35 rfl (fun r9 ad9 M9 h9 => ?_)
    obtain ⟨rfl, rfl, rfl⟩ := h9
    refine s_icmp_ge 64 dX4_counted_38 (by decide) (fun c38 => absurd c38 (nI_ge (by omega) (by omega))) (fun c38 => ?_)
    refine s_iload_n dX4_counted_41 rfl ?_
    refine s_aload_n dX4_counted_42 rfl ?_
    refine s_aload_n dX4_counted_43 rfl ?_
    refine s_get (kd := 12) (ix := 0) (ci := 5) (fs := [.int c0, .int (nI t0), .ref (ad 13 0), .ref (ad 14 0), .ref (ad 15 0), .ref (ad 16 0), .ref (ad 17 0), .ref (ad 18 0), .int (nI r0), .ref (ad 19 0), .ref (ad 20 0), .ref (ad 21 0), .ref (ad 22 0), .ref (ad 23 0), .ref (ad 24 0), .int (jB b0), .ref (ad 25 0)])  hm.1 rfl in_X4_counted_X4 10 (by decide) (by decide +kernel) rfl rfl dX4_counted_44 ?_
    refine s_iconst (v := 3) dX4_counted_47 (by decide) ?_
    refine s_iload_n dX4_counted_48 rfl ?_
    refine s_imul dX4_counted_49 ?_
    refine s_eqi (y := nI (3 * jr)) (nI_mul 3 jr) ?_
    refine s_iload_n dX4_counted_50 rfl ?_
    refine s_iadd dX4_counted_51 ?_
    refine s_eqi (y := nI (3 * jr + i)) (nI_add _ _) ?_
    refine s_iald (kd := 20) (ix := 0) (n := 180) (f := fl) (j := 3 * jr + i) hm.2.2.2.2.2.2.2.2.1 (rfl) (by omega) (by decide) dX4_counted_52 ?_
    refine s_eqi (y := nI ((aRw α jr (1 + i)).toNatClampNeg)) (((i4 jr hjr).2.1 i (by omega)).trans (hfl i (by omega)).2) ?_
    refine s_callV (As := [.int (nI ((aRw α jr (1 + i)).toNatClampNeg))]) (rest := [.int (nI n)]) (n := 1) (kd := 12) (ix := 0) (fun l hl => c_X4_many G l hl ad M c0 t0 hd on tw dp cl gr r0 kd fl co sm wk sp b0 mu ⟨hm.1, hm.2.1, hm.2.2.1, hm.2.2.2.1, hm.2.2.2.2.1, hm.2.2.2.2.2.1, hm.2.2.2.2.2.2.1, hm.2.2.2.2.2.2.2.1, hm.2.2.2.2.2.2.2.2.1, hm.2.2.2.2.2.2.2.2.2.1, hm.2.2.2.2.2.2.2.2.2.2.1, hm.2.2.2.2.2.2.2.2.2.2.2.1, hm.2.2.2.2.2.2.2.2.2.2.2.2.1, hm.2.2.2.2.2.2.2.2.2.2.2.2.2⟩ ((aRw α jr (1 + i)).toNatClampNeg) (by have := (hfl i (by omega)).1; omega) (aPf α ((aRw α jr (1 + i)).toNatClampNeg)) (hA.gz (hfl i (by omega)).1) (i3 ((aRw α jr (1 + i)).toNatClampNeg) (hfl i (by omega)).1).2.2.2.2.2) gX4_counted_X4_many rfl (by decide +kernel) hm.1 rfl rfl ⟨(Nat.le_of_ble_eq_true rfl), (Nat.le_of_ble_eq_true rfl)⟩ ⟨(Nat.le_of_ble_eq_true rfl), (Nat.le_of_ble_eq_true rfl)⟩ (Nat.le_of_ble_eq_true rfl) dX4_counted_53 rfl (fun r48 ad48 M48 h48 => ?_)
    obtain ⟨rfl, hm48, hs48, N48, rfl, hN48⟩ := h48
    refine s_iadd dX4_counted_56 ?_
    refine s_eqi (y := nI (n + N48)) (nI_add _ _) ?_
    refine s_istore_n dX4_counted_57 rfl rfl ?_
    refine s_lv (lv' := [some (.ref (ad 12 0)), some (.int (nI jr)), some (.int (nI (n + N48))), some (.int (nI i))]) rfl ?_
    refine s_iinc (v := nI (i + 1)) dX4_counted_58 rfl (nI_1 i) rfl ?_
    refine s_lv (lv' := [some (.ref (ad 12 0)), some (.int (nI jr)), some (.int (nI (n + N48))), some (.int (nI (i + 1)))]) rfl ?_
    refine s_goto 21 dX4_counted_61 (by decide) ?_
    exact ih (i + 1) M48  (n + N48) (by omega) hm48 (hs.trans hs48) (by have z9 := hN48; show ((n + N48 : Nat) : Int) = sN (fun a => cnt (aPf α (aRw α jr (1 + a)).toNatClampNeg)) i + cnt (aPf α (aRw α jr (1 + i)).toNatClampNeg); omega)
set_option maxHeartbeats 4000000 in
set_option maxRecDepth 100000 in
theorem c_X4_counted (G : sG) (l : Launch) (hl : l.stackTraces = false) (ad : sAd) (M : sM) (c0 : Int32) (t0 : Nat) (hd : Nat → Int32) (on : Nat → Int32) (tw : Nat → Int32) (dp : Nat → Int32) (cl : Nat → Int32) (gr : Nat → Int32) (r0 : Nat) (kd : Nat → Int32) (fl : Nat → Int32) (co : Nat → Int32) (sm : Nat → Int32) (wk : Nat → Int64) (sp : Nat → Int64) (b0 : Bool) (mu : Nat → Int32) (hm : hMd G ad M (c0, t0, hd, on, tw, dp, cl, gr, r0, kd, fl, co, sm, wk, sp, b0, mu)) (α : sAl) (hA : AI α) (hI : RI α (c0, t0, hd, on, tw, dp, cl, gr, r0, kd, fl, co, sm, wk, sp, b0, mu)) (x v : Int32) (k : Nat) (hrel : cdR α x k v) : sMet G l yX4_counted mX4_counted [.ref (ad 12 0), .int x] ad M (mPost G ad M k v α) (fun _ _ _ => False) := by
  obtain ⟨i1, i2, i3, i4⟩ := id hI
  have hT := hA.1
  have hR60 := hA.2.1
  refine sMet.of hl (by decide +kernel) rfl rfl rfl rfl (Nat.le_of_ble_eq_true rfl) (fun X => ?_)
  refine s_lv (lv' := [some (.ref (ad 12 0)), some (.int x), none, none]) rfl ?_
  refine s_aload_n dX4_counted_0 rfl ?_
  refine s_aload_n dX4_counted_1 rfl ?_
  refine s_iload_n dX4_counted_2 rfl ?_
  refine s_callV (As := [.int x]) (rest := [.ref (ad 12 0)]) (n := 1) (kd := 12) (ix := 0) (fun l hl => c_X4_isRow G l hl ad M c0 t0 hd on tw dp cl gr r0 kd fl co sm wk sp b0 mu ⟨hm.1, hm.2.1, hm.2.2.1, hm.2.2.2.1, hm.2.2.2.2.1, hm.2.2.2.2.2.1, hm.2.2.2.2.2.2.1, hm.2.2.2.2.2.2.2.1, hm.2.2.2.2.2.2.2.2.1, hm.2.2.2.2.2.2.2.2.2.1, hm.2.2.2.2.2.2.2.2.2.2.1, hm.2.2.2.2.2.2.2.2.2.2.2.1, hm.2.2.2.2.2.2.2.2.2.2.2.2.1, hm.2.2.2.2.2.2.2.2.2.2.2.2.2⟩ (by omega) x) gX4_counted_X4_isRow rfl (by decide +kernel) hm.1 rfl rfl ⟨(Nat.le_of_ble_eq_true rfl), (Nat.le_of_ble_eq_true rfl)⟩ ⟨(Nat.le_of_ble_eq_true rfl), (Nat.le_of_ble_eq_true rfl)⟩ (Nat.le_of_ble_eq_true rfl) dX4_counted_3 rfl (fun r9 ad9 M9 h9 => ?_)
  obtain ⟨rfl, rfl, zr, rfl, hzr⟩ := h9
  rw [i2] at hzr
  refine s_if_eq 13 dX4_counted_6 (by decide) (fun c6 => ?_) (fun c6 => ?_)
  · obtain rfl := hrel.c1 (fun q => by have z9 := hzr.mpr q; rw [jB_0.mp c6] at z9; cases z9)
    refine s_iconst (v := 1) dX4_counted_13 (by decide) ?_
    refine s_put (kd := 12) (ix := 0) (ci := 5) (v := .int 1) (ty := tyX4 0) (fs := [.int c0, .int (nI t0), .ref (ad 13 0), .ref (ad 14 0), .ref (ad 15 0), .ref (ad 16 0), .ref (ad 17 0), .ref (ad 18 0), .int (nI r0), .ref (ad 19 0), .ref (ad 20 0), .ref (ad 21 0), .ref (ad 22 0), .ref (ad 23 0), .ref (ad 24 0), .int (jB b0), .ref (ad 25 0)])  tyX4 tyX4_ok nmX4 hm.1 rfl in_X4_counted_X4 0 (by decide) (by decide +kernel) rfl rfl (tyX4_ok 0 (by decide)) (rfl) (rfl) (Nat.le_of_ble_eq_true rfl) dX4_counted_14 ?_
    refine s_M (M' := (sset M 12 0 (.inr (5, [.int 1, .int (nI t0), .ref (ad 13 0), .ref (ad 14 0), .ref (ad 15 0), .ref (ad 16 0), .ref (ad 17 0), .ref (ad 18 0), .int (nI r0), .ref (ad 19 0), .ref (ad 20 0), .ref (ad 21 0), .ref (ad 22 0), .ref (ad 23 0), .ref (ad 24 0), .int (jB b0), .ref (ad 25 0)])))) rfl ?_
    refine s_iconst (v := 0) dX4_counted_17 (by decide) ?_
    refine s_istore_n dX4_counted_18 rfl rfl ?_
    refine s_lv (lv' := [some (.ref (ad 12 0)), some (.int x), some (.int 0), none]) rfl ?_
    refine s_iconst (v := 0) dX4_counted_19 (by decide) ?_
    refine s_istore_n dX4_counted_20 rfl rfl ?_
    refine s_lv (lv' := [some (.ref (ad 12 0)), some (.int x), some (.int 0), some (.int 0)]) rfl ?_
    refine s_aload_n dX4_counted_21 rfl ?_
    refine s_get (kd := 12) (ix := 0) (ci := 5) (fs := [.int 1, .int (nI t0), .ref (ad 13 0), .ref (ad 14 0), .ref (ad 15 0), .ref (ad 16 0), .ref (ad 17 0), .ref (ad 18 0), .int (nI r0), .ref (ad 19 0), .ref (ad 20 0), .ref (ad 21 0), .ref (ad 22 0), .ref (ad 23 0), .ref (ad 24 0), .int (jB b0), .ref (ad 25 0)])  (sset_self _ _ _ _) rfl in_X4_counted_X4 0 (by decide) (by decide +kernel) rfl rfl dX4_counted_22 ?_
    refine s_if_ne 64 dX4_counted_25 (by decide) (fun c25 => ?_) (fun c25 => absurd c25 (by decide))
    refine s_iload_n dX4_counted_64 rfl ?_
    exact s_iret rfl (rfl) dX4_counted_65 (Nat.le_of_ble_eq_true rfl) (Nat.le_of_ble_eq_true rfl) (⟨rfl, (sSame.rfl |>.set (P := pMd) (by simp [pMd]) _), ⟨(1, t0, hd, on, tw, dp, cl, gr, r0, kd, fl, co, sm, wk, sp, b0, mu), ⟨(sset_self _ _ _ _), ((sset_k _ _ (by decide)).trans (hm.2.1)), ((sset_k _ _ (by decide)).trans (hm.2.2.1)), ((sset_k _ _ (by decide)).trans (hm.2.2.2.1)), ((sset_k _ _ (by decide)).trans (hm.2.2.2.2.1)), ((sset_k _ _ (by decide)).trans (hm.2.2.2.2.2.1)), ((sset_k _ _ (by decide)).trans (hm.2.2.2.2.2.2.1)), ((sset_k _ _ (by decide)).trans (hm.2.2.2.2.2.2.2.1)), ((sset_k _ _ (by decide)).trans (hm.2.2.2.2.2.2.2.2.1)), ((sset_k _ _ (by decide)).trans (hm.2.2.2.2.2.2.2.2.2.1)), ((sset_k _ _ (by decide)).trans (hm.2.2.2.2.2.2.2.2.2.2.1)), ((sset_k _ _ (by decide)).trans (hm.2.2.2.2.2.2.2.2.2.2.2.1)), ((sset_k _ _ (by decide)).trans (hm.2.2.2.2.2.2.2.2.2.2.2.2.1)), ((sset_k _ _ (by decide)).trans (hm.2.2.2.2.2.2.2.2.2.2.2.2.2))⟩, rfl, hI.any _ _ _ _ _⟩, _, rfl, fun q => absurd q (by decide)⟩)
  · obtain ⟨jr, hjr, rfl⟩ := (hzr.mp (Bool.of_not_eq_false (fun q => c6 (jB_0.mpr q))))
    obtain ⟨rfl, N9, ev, hN9⟩ := cdR.c0 hA hrel hjr
    obtain ⟨k0, hk7, ek, -⟩ := id (hA.2.2.2 jr hjr)
    have etf : tfI (aRw α jr 0) = tfN k0 := by rw [ek, tfI_in hk7]
    have hfl : ∀ a, a < tfN k0 → (aRw α jr (1 + a)).toNatClampNeg < aT α ∧ aRw α jr (1 + a) = nI (aRw α jr (1 + a)).toNatClampNeg := fun a ha => by
      obtain ⟨kd9, -, -, -, q⟩ := (hA.2.2.2 jr hjr).fld hT
      exact q a (by rw [etf]; exact ha)
    refine s_iconst (v := 0) dX4_counted_9 (by decide) ?_
    refine s_goto 14 dX4_counted_10 (by decide) ?_
    refine s_put (kd := 12) (ix := 0) (ci := 5) (v := .int 0) (ty := tyX4 0) (fs := [.int c0, .int (nI t0), .ref (ad 13 0), .ref (ad 14 0), .ref (ad 15 0), .ref (ad 16 0), .ref (ad 17 0), .ref (ad 18 0), .int (nI r0), .ref (ad 19 0), .ref (ad 20 0), .ref (ad 21 0), .ref (ad 22 0), .ref (ad 23 0), .ref (ad 24 0), .int (jB b0), .ref (ad 25 0)])  tyX4 tyX4_ok nmX4 hm.1 rfl in_X4_counted_X4 0 (by decide) (by decide +kernel) rfl rfl (tyX4_ok 0 (by decide)) (rfl) (rfl) (Nat.le_of_ble_eq_true rfl) dX4_counted_14 ?_
    refine s_M (M' := (sset M 12 0 (.inr (5, [.int 0, .int (nI t0), .ref (ad 13 0), .ref (ad 14 0), .ref (ad 15 0), .ref (ad 16 0), .ref (ad 17 0), .ref (ad 18 0), .int (nI r0), .ref (ad 19 0), .ref (ad 20 0), .ref (ad 21 0), .ref (ad 22 0), .ref (ad 23 0), .ref (ad 24 0), .int (jB b0), .ref (ad 25 0)])))) rfl ?_
    refine s_iconst (v := 0) dX4_counted_17 (by decide) ?_
    refine s_istore_n dX4_counted_18 rfl rfl ?_
    refine s_lv (lv' := [some (.ref (ad 12 0)), some (.int (nI jr)), some (.int 0), none]) rfl ?_
    refine s_iconst (v := 0) dX4_counted_19 (by decide) ?_
    refine s_istore_n dX4_counted_20 rfl rfl ?_
    refine s_lv (lv' := [some (.ref (ad 12 0)), some (.int (nI jr)), some (.int 0), some (.int 0)]) rfl ?_
    refine l_X4_counted X G ad M 0 t0 hd on tw dp cl gr r0 kd fl co sm wk sp b0 mu α hA (hI.any _ _ _ _ _) jr k0 hjr hk7 ek hfl rfl _ (fun M49  n49 hm49 hs49 hv49 => ?_) ((tfN k0)) 0 (sset M 12 0 (.inr (5, [.int 0, .int (nI t0), .ref (ad 13 0), .ref (ad 14 0), .ref (ad 15 0), .ref (ad 16 0), .ref (ad 17 0), .ref (ad 18 0), .int (nI r0), .ref (ad 19 0), .ref (ad 20 0), .ref (ad 21 0), .ref (ad 22 0), .ref (ad 23 0), .ref (ad 24 0), .int (jB b0), .ref (ad 25 0)])))  0 (by omega) ⟨(sset_self _ _ _ _), ((sset_k _ _ (by decide)).trans (hm.2.1)), ((sset_k _ _ (by decide)).trans (hm.2.2.1)), ((sset_k _ _ (by decide)).trans (hm.2.2.2.1)), ((sset_k _ _ (by decide)).trans (hm.2.2.2.2.1)), ((sset_k _ _ (by decide)).trans (hm.2.2.2.2.2.1)), ((sset_k _ _ (by decide)).trans (hm.2.2.2.2.2.2.1)), ((sset_k _ _ (by decide)).trans (hm.2.2.2.2.2.2.2.1)), ((sset_k _ _ (by decide)).trans (hm.2.2.2.2.2.2.2.2.1)), ((sset_k _ _ (by decide)).trans (hm.2.2.2.2.2.2.2.2.2.1)), ((sset_k _ _ (by decide)).trans (hm.2.2.2.2.2.2.2.2.2.2.1)), ((sset_k _ _ (by decide)).trans (hm.2.2.2.2.2.2.2.2.2.2.2.1)), ((sset_k _ _ (by decide)).trans (hm.2.2.2.2.2.2.2.2.2.2.2.2.1)), ((sset_k _ _ (by decide)).trans (hm.2.2.2.2.2.2.2.2.2.2.2.2.2))⟩ (sSame.rfl |>.set (P := pMd) (by simp [pMd]) _) (rfl)
    refine s_iload_n dX4_counted_64 rfl ?_
    exact s_iret rfl (rfl) dX4_counted_65 (Nat.le_of_ble_eq_true rfl) (Nat.le_of_ble_eq_true rfl) (⟨rfl, hs49, ⟨(0, t0, hd, on, tw, dp, cl, gr, r0, kd, fl, co, sm, wk, sp, b0, mu), hm49, rfl, hI.any _ _ _ _ _⟩, _, rfl, fun _ => by have z9 := hN9; unfold cdN at z9; rw [etf] at z9; have z8 := hv49; rw [ev, show N9 = n49 by omega]⟩)
theorem ckR.c1 {α : sAl} {fr to v : Int32} {k : Nat} (h : ckR α fr to k v) (hn : fr < 0 ∨ nI (aR α) < to) : k = 1 := by
  rcases h with ⟨h1, _⟩ | ⟨h1, h2, _⟩
  · exact h1
  · exact absurd hn h2
theorem ckR.c0 {α : sAl} {fr to v : Int32} {k : Nat} (h : ckR α fr to k v) (hn : ¬ (fr < 0 ∨ nI (aR α) < to)) : k = 0 ∧ ckRel α fr to v := by
  rcases h with ⟨h1, h2⟩ | ⟨h1, _, h2⟩
  · exact absurd h2 hn
  · exact ⟨h1, h2⟩
abbrev mX4_check : sMeth := (cX4_check, 4, RX4, wsX4_check, { frames := 6, cells := 0, slots := 0, locals := 148 }, (some .int), "check", [])
theorem in_X4_check_X4 : ∀ w ∈ wsX40, w ∈ wsX4_check := by decide +kernel
set_option maxHeartbeats 4000000 in
set_option maxRecDepth 100000 in
theorem l_X4_check (X : sMach) (G : sG) (ad : sAd) (M0 : sM) (c0 : Int32) (t0 : Nat) (hd : Nat → Int32) (on : Nat → Int32) (tw : Nat → Int32) (dp : Nat → Int32) (cl : Nat → Int32) (gr : Nat → Int32) (r0 : Nat) (kd : Nat → Int32) (fl : Nat → Int32) (co : Nat → Int32) (sm : Nat → Int32) (mu : Nat → Int32) (α : sAl) (hA : AI α) (fr to v : Int32) (hck : ckRel α fr to v) (hto : ¬ nI (aR α) < to) (hc : c0 = 0) : ∀ (k i : Nat) (M : sM) (wk sp : Nat → Int64) (b0 : Bool), i + k = aR α → fr ≤ nI i → hMd G ad M (c0, t0, hd, on, tw, dp, cl, gr, r0, kd, fl, co, sm, wk, sp, b0, mu) → RI α (c0, t0, hd, on, tw, dp, cl, gr, r0, kd, fl, co, sm, wk, sp, b0, mu) → sSame pMd M0 M → (∀ r, r < i → fr ≤ nI r → aHolds α (aRw α r)) → sW X G mX4_check (sQ X G mX4_check (mPost G ad M0 0 v α) (fun _ _ _ => False)) ad M 0 0 [some (.ref (ad 12 0)), some (.int fr), some (.int to), some (.int (nI i))] 23 [] := by
  have hR60 := hA.2.1
  intro k
  induction k with
  | zero =>
    intro i M wk sp b0 hi hfi hm hI hs hinv
    refine s_aload_n dX4_check_23 rfl ?_
    refine s_get (kd := 12) (ix := 0) (ci := 5) (fs := [.int c0, .int (nI t0), .ref (ad 13 0), .ref (ad 14 0), .ref (ad 15 0), .ref (ad 16 0), .ref (ad 17 0), .ref (ad 18 0), .int (nI r0), .ref (ad 19 0), .ref (ad 20 0), .ref (ad 21 0), .ref (ad 22 0), .ref (ad 23 0), .ref (ad 24 0), .int (jB b0), .ref (ad 25 0)])  hm.1 rfl in_X4_check_X4 0 (by decide) (by decide +kernel) rfl rfl dX4_check_24 ?_
    refine s_if_ne 53 dX4_check_27 (by decide) (fun c27 => absurd (hc) c27) (fun c27 => ?_)
    refine s_iload_n dX4_check_30 rfl ?_
    refine s_iload_n dX4_check_31 rfl ?_
    refine s_icmp_ge 53 dX4_check_32 (by decide) (fun c32 => ?_) (fun c32 => absurd (Int32.not_lt.mp (by rw [show i = aR α by omega]; exact hto)) c32)
    refine s_iconst (v := 0) dX4_check_53 (by decide) ?_
    exact s_iret rfl (rfl) dX4_check_54 (Nat.le_of_ble_eq_true rfl) (Nat.le_of_ble_eq_true rfl) (⟨rfl, hs, ⟨(c0, t0, hd, on, tw, dp, cl, gr, r0, kd, fl, co, sm, wk, sp, b0, mu), hm, hc, hI.any _ _ _ _ _⟩, _, rfl, fun _ => ckRel.uniq hA (Or.inl ⟨rfl, fun r hr h1 h2 => hinv r (nI_lt_mp (Int32.lt_of_lt_of_le h2 c32) (by omega) (by omega)) h1⟩) hck⟩)
  | succ k ih =>
    intro i M wk sp b0 hi hfi hm hI hs hinv
    refine s_aload_n dX4_check_23 rfl ?_
    refine s_get (kd := 12) (ix := 0) (ci := 5) (fs := [.int c0, .int (nI t0), .ref (ad 13 0), .ref (ad 14 0), .ref (ad 15 0), .ref (ad 16 0), .ref (ad 17 0), .ref (ad 18 0), .int (nI r0), .ref (ad 19 0), .ref (ad 20 0), .ref (ad 21 0), .ref (ad 22 0), .ref (ad 23 0), .ref (ad 24 0), .int (jB b0), .ref (ad 25 0)])  hm.1 rfl in_X4_check_X4 0 (by decide) (by decide +kernel) rfl rfl dX4_check_24 ?_
    refine s_if_ne 53 dX4_check_27 (by decide) (fun c27 => absurd (hc) c27) (fun c27 => ?_)
    refine s_iload_n dX4_check_30 rfl ?_
    refine s_iload_n dX4_check_31 rfl ?_
    refine s_icmp_ge 53 dX4_check_32 (by decide) (fun c32 => ?_) (fun c32 => ?_)
    · refine s_iconst (v := 0) dX4_check_53 (by decide) ?_
      exact s_iret rfl (rfl) dX4_check_54 (Nat.le_of_ble_eq_true rfl) (Nat.le_of_ble_eq_true rfl) (⟨rfl, hs, ⟨(c0, t0, hd, on, tw, dp, cl, gr, r0, kd, fl, co, sm, wk, sp, b0, mu), hm, hc, hI.any _ _ _ _ _⟩, _, rfl, fun _ => ckRel.uniq hA (Or.inl ⟨rfl, fun r hr h1 h2 => hinv r (nI_lt_mp (Int32.lt_of_lt_of_le h2 c32) (by omega) (by omega)) h1⟩) hck⟩)
    · refine s_aload_n dX4_check_35 rfl ?_
      refine s_iload_n dX4_check_36 rfl ?_
      refine s_callV (As := [.int (nI i)]) (rest := []) (n := 1) (kd := 12) (ix := 0) (fun l hl => c_X4_holds G l hl ad M c0 t0 hd on tw dp cl gr r0 kd fl co sm wk sp b0 mu ⟨hm.1, hm.2.1, hm.2.2.1, hm.2.2.2.1, hm.2.2.2.2.1, hm.2.2.2.2.2.1, hm.2.2.2.2.2.2.1, hm.2.2.2.2.2.2.2.1, hm.2.2.2.2.2.2.2.2.1, hm.2.2.2.2.2.2.2.2.2.1, hm.2.2.2.2.2.2.2.2.2.2.1, hm.2.2.2.2.2.2.2.2.2.2.2.1, hm.2.2.2.2.2.2.2.2.2.2.2.2.1, hm.2.2.2.2.2.2.2.2.2.2.2.2.2⟩ α hA hI i (by omega)) gX4_check_X4_holds rfl (by decide +kernel) hm.1 rfl rfl ⟨(Nat.le_of_ble_eq_true rfl), (Nat.le_of_ble_eq_true rfl)⟩ ⟨(Nat.le_of_ble_eq_true rfl), (Nat.le_of_ble_eq_true rfl)⟩ (Nat.le_of_ble_eq_true rfl) dX4_check_37 rfl (fun r50 ad50 M50 h50 => ?_)
      obtain ⟨rfl, wk50, sp50, b50, hm50, hs50, z50, rfl, hz50⟩ := h50
      refine s_if_ne 47 dX4_check_40 (by decide) (fun c40 => ?_) (fun c40 => ?_)
      · refine s_iinc (v := nI (i + 1)) dX4_check_47 rfl (nI_1 i) rfl ?_
        refine s_lv (lv' := [some (.ref (ad 12 0)), some (.int fr), some (.int to), some (.int (nI (i + 1)))]) rfl ?_
        refine s_goto 23 dX4_check_50 (by decide) ?_
        exact ih (i + 1) M50 wk50 sp50 b50 (by omega) (Int32.le_trans hfi ((nI_le_iff (by omega) (by omega)).mpr (by omega))) hm50 (hI.any _ _ _ _ _) (hs.trans hs50) (fun r hr h1 => by
          by_cases q : r = i
          · rw [q]; exact hz50.mp (Bool.of_not_eq_false (fun z => c40 (jB_0.mpr z)))
          · exact hinv r (by omega) h1)
      · refine s_iload_n dX4_check_43 rfl ?_
        refine s_iconst (v := 1) dX4_check_44 (by decide) ?_
        refine s_iadd dX4_check_45 ?_
        exact s_iret rfl (rfl) dX4_check_46 (Nat.le_of_ble_eq_true rfl) (Nat.le_of_ble_eq_true rfl) (⟨rfl, (hs.trans hs50), ⟨(c0, t0, hd, on, tw, dp, cl, gr, r0, kd, fl, co, sm, wk50, sp50, b50, mu), hm50, hc, hI.any _ _ _ _ _⟩, _, rfl, fun _ => ckRel.uniq hA (Or.inr ⟨i, by omega, hfi, Int32.not_le.mp c32, nI_1 i, (fun q => by have z9 := hz50.mpr q; rw [jB_0.mp c40] at z9; cases z9), hinv⟩) hck⟩)
set_option maxHeartbeats 4000000 in
set_option maxRecDepth 100000 in
theorem c_X4_check (G : sG) (l : Launch) (hl : l.stackTraces = false) (ad : sAd) (M : sM) (c0 : Int32) (t0 : Nat) (hd : Nat → Int32) (on : Nat → Int32) (tw : Nat → Int32) (dp : Nat → Int32) (cl : Nat → Int32) (gr : Nat → Int32) (r0 : Nat) (kd : Nat → Int32) (fl : Nat → Int32) (co : Nat → Int32) (sm : Nat → Int32) (wk : Nat → Int64) (sp : Nat → Int64) (b0 : Bool) (mu : Nat → Int32) (hm : hMd G ad M (c0, t0, hd, on, tw, dp, cl, gr, r0, kd, fl, co, sm, wk, sp, b0, mu)) (α : sAl) (hA : AI α) (hI : RI α (c0, t0, hd, on, tw, dp, cl, gr, r0, kd, fl, co, sm, wk, sp, b0, mu)) (fr to v : Int32) (k : Nat) (hrel : ckR α fr to k v) : sMet G l yX4_check mX4_check [.ref (ad 12 0), .int fr, .int to] ad M (mPost G ad M k v α) (fun _ _ _ => False) := by
  obtain ⟨i1, i2, i3, i4⟩ := id hI
  have hT := hA.1
  have hR60 := hA.2.1
  refine sMet.of hl (by decide +kernel) rfl rfl rfl rfl (Nat.le_of_ble_eq_true rfl) (fun X => ?_)
  refine s_lv (lv' := [some (.ref (ad 12 0)), some (.int fr), some (.int to), none]) rfl ?_
  refine s_aload_n dX4_check_0 rfl ?_
  refine s_iload_n dX4_check_1 rfl ?_
  refine s_if_lt 13 dX4_check_2 (by decide) (fun c2 => ?_) (fun c2 => ?_)
  · obtain rfl := hrel.c1 (Or.inl c2)
    refine s_iconst (v := 1) dX4_check_13 (by decide) ?_
    refine s_goto 18 dX4_check_14 (by decide) ?_
    refine s_put (kd := 12) (ix := 0) (ci := 5) (v := .int 1) (ty := tyX4 0) (fs := [.int c0, .int (nI t0), .ref (ad 13 0), .ref (ad 14 0), .ref (ad 15 0), .ref (ad 16 0), .ref (ad 17 0), .ref (ad 18 0), .int (nI r0), .ref (ad 19 0), .ref (ad 20 0), .ref (ad 21 0), .ref (ad 22 0), .ref (ad 23 0), .ref (ad 24 0), .int (jB b0), .ref (ad 25 0)])  tyX4 tyX4_ok nmX4 hm.1 rfl in_X4_check_X4 0 (by decide) (by decide +kernel) rfl rfl (tyX4_ok 0 (by decide)) (rfl) (rfl) (Nat.le_of_ble_eq_true rfl) dX4_check_18 ?_
    refine s_M (M' := (sset M 12 0 (.inr (5, [.int 1, .int (nI t0), .ref (ad 13 0), .ref (ad 14 0), .ref (ad 15 0), .ref (ad 16 0), .ref (ad 17 0), .ref (ad 18 0), .int (nI r0), .ref (ad 19 0), .ref (ad 20 0), .ref (ad 21 0), .ref (ad 22 0), .ref (ad 23 0), .ref (ad 24 0), .int (jB b0), .ref (ad 25 0)])))) rfl ?_
    refine s_iload_n dX4_check_21 rfl ?_
    refine s_istore_n dX4_check_22 rfl rfl ?_
    refine s_lv (lv' := [some (.ref (ad 12 0)), some (.int fr), some (.int to), some (.int fr)]) rfl ?_
    refine s_aload_n dX4_check_23 rfl ?_
    refine s_get (kd := 12) (ix := 0) (ci := 5) (fs := [.int 1, .int (nI t0), .ref (ad 13 0), .ref (ad 14 0), .ref (ad 15 0), .ref (ad 16 0), .ref (ad 17 0), .ref (ad 18 0), .int (nI r0), .ref (ad 19 0), .ref (ad 20 0), .ref (ad 21 0), .ref (ad 22 0), .ref (ad 23 0), .ref (ad 24 0), .int (jB b0), .ref (ad 25 0)])  (sset_self _ _ _ _) rfl in_X4_check_X4 0 (by decide) (by decide +kernel) rfl rfl dX4_check_24 ?_
    refine s_if_ne 53 dX4_check_27 (by decide) (fun c27 => ?_) (fun c27 => absurd c27 (by decide))
    refine s_iconst (v := 0) dX4_check_53 (by decide) ?_
    exact s_iret rfl (rfl) dX4_check_54 (Nat.le_of_ble_eq_true rfl) (Nat.le_of_ble_eq_true rfl) (⟨rfl, (sSame.rfl |>.set (P := pMd) (by simp [pMd]) _), ⟨(1, t0, hd, on, tw, dp, cl, gr, r0, kd, fl, co, sm, wk, sp, b0, mu), ⟨(sset_self _ _ _ _), ((sset_k _ _ (by decide)).trans (hm.2.1)), ((sset_k _ _ (by decide)).trans (hm.2.2.1)), ((sset_k _ _ (by decide)).trans (hm.2.2.2.1)), ((sset_k _ _ (by decide)).trans (hm.2.2.2.2.1)), ((sset_k _ _ (by decide)).trans (hm.2.2.2.2.2.1)), ((sset_k _ _ (by decide)).trans (hm.2.2.2.2.2.2.1)), ((sset_k _ _ (by decide)).trans (hm.2.2.2.2.2.2.2.1)), ((sset_k _ _ (by decide)).trans (hm.2.2.2.2.2.2.2.2.1)), ((sset_k _ _ (by decide)).trans (hm.2.2.2.2.2.2.2.2.2.1)), ((sset_k _ _ (by decide)).trans (hm.2.2.2.2.2.2.2.2.2.2.1)), ((sset_k _ _ (by decide)).trans (hm.2.2.2.2.2.2.2.2.2.2.2.1)), ((sset_k _ _ (by decide)).trans (hm.2.2.2.2.2.2.2.2.2.2.2.2.1)), ((sset_k _ _ (by decide)).trans (hm.2.2.2.2.2.2.2.2.2.2.2.2.2))⟩, rfl, hI.any _ _ _ _ _⟩, _, rfl, fun q => absurd q (by decide)⟩)
  · refine s_iload_n dX4_check_5 rfl ?_
    refine s_aload_n dX4_check_6 rfl ?_
    refine s_get (kd := 12) (ix := 0) (ci := 5) (fs := [.int c0, .int (nI t0), .ref (ad 13 0), .ref (ad 14 0), .ref (ad 15 0), .ref (ad 16 0), .ref (ad 17 0), .ref (ad 18 0), .int (nI r0), .ref (ad 19 0), .ref (ad 20 0), .ref (ad 21 0), .ref (ad 22 0), .ref (ad 23 0), .ref (ad 24 0), .int (jB b0), .ref (ad 25 0)])  hm.1 rfl in_X4_check_X4 8 (by decide) (by decide +kernel) rfl rfl dX4_check_7 ?_
    refine s_icmp_le 17 dX4_check_10 (by decide) (fun c10 => ?_) (fun c10 => ?_)
    · have hno : ¬ (fr < 0 ∨ nI (aR α) < to) := fun q => q.elim c2 (fun q => absurd (i2 ▸ c10) (Int32.not_le.mpr q))
      obtain ⟨rfl, hck⟩ := hrel.c0 hno
      refine s_iconst (v := 0) dX4_check_17 (by decide) ?_
      refine s_put (kd := 12) (ix := 0) (ci := 5) (v := .int 0) (ty := tyX4 0) (fs := [.int c0, .int (nI t0), .ref (ad 13 0), .ref (ad 14 0), .ref (ad 15 0), .ref (ad 16 0), .ref (ad 17 0), .ref (ad 18 0), .int (nI r0), .ref (ad 19 0), .ref (ad 20 0), .ref (ad 21 0), .ref (ad 22 0), .ref (ad 23 0), .ref (ad 24 0), .int (jB b0), .ref (ad 25 0)])  tyX4 tyX4_ok nmX4 hm.1 rfl in_X4_check_X4 0 (by decide) (by decide +kernel) rfl rfl (tyX4_ok 0 (by decide)) (rfl) (rfl) (Nat.le_of_ble_eq_true rfl) dX4_check_18 ?_
      refine s_M (M' := (sset M 12 0 (.inr (5, [.int 0, .int (nI t0), .ref (ad 13 0), .ref (ad 14 0), .ref (ad 15 0), .ref (ad 16 0), .ref (ad 17 0), .ref (ad 18 0), .int (nI r0), .ref (ad 19 0), .ref (ad 20 0), .ref (ad 21 0), .ref (ad 22 0), .ref (ad 23 0), .ref (ad 24 0), .int (jB b0), .ref (ad 25 0)])))) rfl ?_
      refine s_iload_n dX4_check_21 rfl ?_
      refine s_istore_n dX4_check_22 rfl rfl ?_
      refine s_lv (lv' := [some (.ref (ad 12 0)), some (.int fr), some (.int to), some (.int fr)]) rfl ?_
      obtain ⟨i0, hi0, rfl⟩ := nI_ofp c2
      rcases Nat.lt_or_ge i0 (aR α) with hlt | hge
      · exact l_X4_check X G ad M 0 t0 hd on tw dp cl gr r0 kd fl co sm mu α hA (nI i0) to v hck (fun q => hno (Or.inr q)) rfl (aR α - i0) i0 (sset M 12 0 (.inr (5, [.int 0, .int (nI t0), .ref (ad 13 0), .ref (ad 14 0), .ref (ad 15 0), .ref (ad 16 0), .ref (ad 17 0), .ref (ad 18 0), .int (nI r0), .ref (ad 19 0), .ref (ad 20 0), .ref (ad 21 0), .ref (ad 22 0), .ref (ad 23 0), .ref (ad 24 0), .int (jB b0), .ref (ad 25 0)]))) wk sp b0 (by omega) (Int32.le_refl _) ⟨(sset_self _ _ _ _), ((sset_k _ _ (by decide)).trans (hm.2.1)), ((sset_k _ _ (by decide)).trans (hm.2.2.1)), ((sset_k _ _ (by decide)).trans (hm.2.2.2.1)), ((sset_k _ _ (by decide)).trans (hm.2.2.2.2.1)), ((sset_k _ _ (by decide)).trans (hm.2.2.2.2.2.1)), ((sset_k _ _ (by decide)).trans (hm.2.2.2.2.2.2.1)), ((sset_k _ _ (by decide)).trans (hm.2.2.2.2.2.2.2.1)), ((sset_k _ _ (by decide)).trans (hm.2.2.2.2.2.2.2.2.1)), ((sset_k _ _ (by decide)).trans (hm.2.2.2.2.2.2.2.2.2.1)), ((sset_k _ _ (by decide)).trans (hm.2.2.2.2.2.2.2.2.2.2.1)), ((sset_k _ _ (by decide)).trans (hm.2.2.2.2.2.2.2.2.2.2.2.1)), ((sset_k _ _ (by decide)).trans (hm.2.2.2.2.2.2.2.2.2.2.2.2.1)), ((sset_k _ _ (by decide)).trans (hm.2.2.2.2.2.2.2.2.2.2.2.2.2))⟩ (hI.any _ _ _ _ _) (sSame.rfl |>.set (P := pMd) (by simp [pMd]) _) (fun r hr h1 => absurd ((nI_le_iff (by omega) (by omega)).mp h1) (by omega))
      · refine s_aload_n dX4_check_23 rfl ?_
        refine s_get (kd := 12) (ix := 0) (ci := 5) (fs := [.int 0, .int (nI t0), .ref (ad 13 0), .ref (ad 14 0), .ref (ad 15 0), .ref (ad 16 0), .ref (ad 17 0), .ref (ad 18 0), .int (nI r0), .ref (ad 19 0), .ref (ad 20 0), .ref (ad 21 0), .ref (ad 22 0), .ref (ad 23 0), .ref (ad 24 0), .int (jB b0), .ref (ad 25 0)])  (sset_self _ _ _ _) rfl in_X4_check_X4 0 (by decide) (by decide +kernel) rfl rfl dX4_check_24 ?_
        refine s_if_ne 53 dX4_check_27 (by decide) (fun c27 => absurd (rfl) c27) (fun c27 => ?_)
        refine s_iload_n dX4_check_30 rfl ?_
        refine s_iload_n dX4_check_31 rfl ?_
        refine s_icmp_ge 53 dX4_check_32 (by decide) (fun c32 => ?_) (fun c32 => absurd (Int32.le_trans (Int32.not_lt.mp (fun q => hno (Or.inr q))) ((nI_le_iff (by omega) (by omega)).mpr hge)) c32)
        refine s_iconst (v := 0) dX4_check_53 (by decide) ?_
        exact s_iret rfl (rfl) dX4_check_54 (Nat.le_of_ble_eq_true rfl) (Nat.le_of_ble_eq_true rfl) (⟨rfl, (sSame.rfl |>.set (P := pMd) (by simp [pMd]) _), ⟨(0, t0, hd, on, tw, dp, cl, gr, r0, kd, fl, co, sm, wk, sp, b0, mu), ⟨(sset_self _ _ _ _), ((sset_k _ _ (by decide)).trans (hm.2.1)), ((sset_k _ _ (by decide)).trans (hm.2.2.1)), ((sset_k _ _ (by decide)).trans (hm.2.2.2.1)), ((sset_k _ _ (by decide)).trans (hm.2.2.2.2.1)), ((sset_k _ _ (by decide)).trans (hm.2.2.2.2.2.1)), ((sset_k _ _ (by decide)).trans (hm.2.2.2.2.2.2.1)), ((sset_k _ _ (by decide)).trans (hm.2.2.2.2.2.2.2.1)), ((sset_k _ _ (by decide)).trans (hm.2.2.2.2.2.2.2.2.1)), ((sset_k _ _ (by decide)).trans (hm.2.2.2.2.2.2.2.2.2.1)), ((sset_k _ _ (by decide)).trans (hm.2.2.2.2.2.2.2.2.2.2.1)), ((sset_k _ _ (by decide)).trans (hm.2.2.2.2.2.2.2.2.2.2.2.1)), ((sset_k _ _ (by decide)).trans (hm.2.2.2.2.2.2.2.2.2.2.2.2.1)), ((sset_k _ _ (by decide)).trans (hm.2.2.2.2.2.2.2.2.2.2.2.2.2))⟩, rfl, hI.any _ _ _ _ _⟩, _, rfl, fun _ => ckRel.uniq hA (Or.inl ⟨rfl, fun r hr h1 h2 => absurd ((nI_le_iff (by omega) (by omega)).mp h1) (by omega)⟩) hck⟩)
    · obtain rfl := hrel.c1 (Or.inr (by rw [← i2]; exact Int32.not_le.mp c10))
      refine s_iconst (v := 1) dX4_check_13 (by decide) ?_
      refine s_goto 18 dX4_check_14 (by decide) ?_
      refine s_put (kd := 12) (ix := 0) (ci := 5) (v := .int 1) (ty := tyX4 0) (fs := [.int c0, .int (nI t0), .ref (ad 13 0), .ref (ad 14 0), .ref (ad 15 0), .ref (ad 16 0), .ref (ad 17 0), .ref (ad 18 0), .int (nI r0), .ref (ad 19 0), .ref (ad 20 0), .ref (ad 21 0), .ref (ad 22 0), .ref (ad 23 0), .ref (ad 24 0), .int (jB b0), .ref (ad 25 0)])  tyX4 tyX4_ok nmX4 hm.1 rfl in_X4_check_X4 0 (by decide) (by decide +kernel) rfl rfl (tyX4_ok 0 (by decide)) (rfl) (rfl) (Nat.le_of_ble_eq_true rfl) dX4_check_18 ?_
      refine s_M (M' := (sset M 12 0 (.inr (5, [.int 1, .int (nI t0), .ref (ad 13 0), .ref (ad 14 0), .ref (ad 15 0), .ref (ad 16 0), .ref (ad 17 0), .ref (ad 18 0), .int (nI r0), .ref (ad 19 0), .ref (ad 20 0), .ref (ad 21 0), .ref (ad 22 0), .ref (ad 23 0), .ref (ad 24 0), .int (jB b0), .ref (ad 25 0)])))) rfl ?_
      refine s_iload_n dX4_check_21 rfl ?_
      refine s_istore_n dX4_check_22 rfl rfl ?_
      refine s_lv (lv' := [some (.ref (ad 12 0)), some (.int fr), some (.int to), some (.int fr)]) rfl ?_
      refine s_aload_n dX4_check_23 rfl ?_
      refine s_get (kd := 12) (ix := 0) (ci := 5) (fs := [.int 1, .int (nI t0), .ref (ad 13 0), .ref (ad 14 0), .ref (ad 15 0), .ref (ad 16 0), .ref (ad 17 0), .ref (ad 18 0), .int (nI r0), .ref (ad 19 0), .ref (ad 20 0), .ref (ad 21 0), .ref (ad 22 0), .ref (ad 23 0), .ref (ad 24 0), .int (jB b0), .ref (ad 25 0)])  (sset_self _ _ _ _) rfl in_X4_check_X4 0 (by decide) (by decide +kernel) rfl rfl dX4_check_24 ?_
      refine s_if_ne 53 dX4_check_27 (by decide) (fun c27 => ?_) (fun c27 => absurd c27 (by decide))
      refine s_iconst (v := 0) dX4_check_53 (by decide) ?_
      exact s_iret rfl (rfl) dX4_check_54 (Nat.le_of_ble_eq_true rfl) (Nat.le_of_ble_eq_true rfl) (⟨rfl, (sSame.rfl |>.set (P := pMd) (by simp [pMd]) _), ⟨(1, t0, hd, on, tw, dp, cl, gr, r0, kd, fl, co, sm, wk, sp, b0, mu), ⟨(sset_self _ _ _ _), ((sset_k _ _ (by decide)).trans (hm.2.1)), ((sset_k _ _ (by decide)).trans (hm.2.2.1)), ((sset_k _ _ (by decide)).trans (hm.2.2.2.1)), ((sset_k _ _ (by decide)).trans (hm.2.2.2.2.1)), ((sset_k _ _ (by decide)).trans (hm.2.2.2.2.2.1)), ((sset_k _ _ (by decide)).trans (hm.2.2.2.2.2.2.1)), ((sset_k _ _ (by decide)).trans (hm.2.2.2.2.2.2.2.1)), ((sset_k _ _ (by decide)).trans (hm.2.2.2.2.2.2.2.2.1)), ((sset_k _ _ (by decide)).trans (hm.2.2.2.2.2.2.2.2.2.1)), ((sset_k _ _ (by decide)).trans (hm.2.2.2.2.2.2.2.2.2.2.1)), ((sset_k _ _ (by decide)).trans (hm.2.2.2.2.2.2.2.2.2.2.2.1)), ((sset_k _ _ (by decide)).trans (hm.2.2.2.2.2.2.2.2.2.2.2.2.1)), ((sset_k _ _ (by decide)).trans (hm.2.2.2.2.2.2.2.2.2.2.2.2.2))⟩, rfl, hI.any _ _ _ _ _⟩, _, rfl, fun q => absurd q (by decide)⟩)
