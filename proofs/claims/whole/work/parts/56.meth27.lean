abbrev mX4_holds : sMeth := (cX4_holds, 7, RX4, wsX4_holds, { frames := 5, cells := 0, slots := 0, locals := 122 }, (some .boolean), "holds", [])
theorem in_X4_holds_X4 : ∀ w ∈ wsX40, w ∈ wsX4_holds := by decide +kernel
set_option maxHeartbeats 4000000 in
set_option maxRecDepth 100000 in
theorem l_X4_holds (X : sMach) (G : sG) (ad : sAd) (M : sM) (c0 : Int32) (t0 : Nat) (hd : Nat → Int32) (on : Nat → Int32) (tw : Nat → Int32) (dp : Nat → Int32) (cl : Nat → Int32) (gr : Nat → Int32) (r0 : Nat) (kd : Nat → Int32) (fl : Nat → Int32) (co : Nat → Int32) (sm : Nat → Int32) (wk : Nat → Int64) (sp : Nat → Int64) (b0 : Bool) (mu : Nat → Int32) (hm : hMd G ad M (c0, t0, hd, on, tw, dp, cl, gr, r0, kd, fl, co, sm, wk, sp, b0, mu)) (α : sAl) (hA : AI α) (hI : RI α (c0, t0, hd, on, tw, dp, cl, gr, r0, kd, fl, co, sm, wk, sp, b0, mu)) (r : Nat) (hr : r < aR α) (k0 ja : Nat) (hk7 : k0 < 7) (etf : tfI (aRw α r 0) = tfN k0) (hfl : ∀ a, a < tfN k0 → (aRw α r (1 + a)).toNatClampNeg < aT α ∧ aRw α r (1 + a) = nI (aRw α r (1 + a)).toNatClampNeg) (kont : (∀ a, a < tfN k0 → ¬ aG α (aRw α r (1 + a))) → sW X G mX4_holds (sQ X G mX4_holds (fun r' ad' M' => ad = ad' ∧ ∃ wk' sp' b', hMd G ad M' (c0, t0, hd, on, tw, dp, cl, gr, r0, kd, fl, co, sm, wk', sp', b', mu) ∧ sSame pMd M M' ∧ ∃ z : Bool, r' = some (.int (jB z)) ∧ (z = true ↔ aHolds α (aRw α r))) (fun _ _ _ => False)) ad M 0 0 [some (.ref (ad 12 0)), some (.int (nI r)), some (.int (nI k0)), some (.int (nI ja)), some (.int (aRw α r 2)), some (.int (aRw α r 3)), none] 79 []) : ∀ (k i : Nat), i + k = tfN k0 → (∀ a, a < i → ¬ aG α (aRw α r (1 + a))) → sW X G mX4_holds (sQ X G mX4_holds (fun r' ad' M' => ad = ad' ∧ ∃ wk' sp' b', hMd G ad M' (c0, t0, hd, on, tw, dp, cl, gr, r0, kd, fl, co, sm, wk', sp', b', mu) ∧ sSame pMd M M' ∧ ∃ z : Bool, r' = some (.int (jB z)) ∧ (z = true ↔ aHolds α (aRw α r))) (fun _ _ _ => False)) ad M 0 0 [some (.ref (ad 12 0)), some (.int (nI r)), some (.int (nI k0)), some (.int (nI ja)), some (.int (aRw α r 2)), some (.int (aRw α r 3)), some (.int (nI i))] 43 [] := by
  obtain ⟨i1, i2, i3, i4⟩ := id hI
  have hT := hA.1
  have hR60 := hA.2.1
  obtain ⟨j0, jF, jC, jS⟩ := i4 r hr
  have htf3 := tfN_le k0
  intro k
  induction k with
  | zero =>
    intro i hi hv
    refine s_iload dX4_holds_43 rfl ?_
    refine s_iload_n dX4_holds_45 rfl ?_
    refine s_callS (As := [.int (nI k0)]) (rest := [.int (nI i)]) (n := 1) (fun l hl => c_X4_treesIn G l hl ad M k0 hk7) gX4_holds_X4_treesIn rfl (by decide +kernel) rfl ⟨(Nat.le_of_ble_eq_true rfl), (Nat.le_of_ble_eq_true rfl)⟩ ⟨(Nat.le_of_ble_eq_true rfl), (Nat.le_of_ble_eq_true rfl)⟩ (Nat.le_of_ble_eq_true rfl) dX4_holds_46 rfl (fun r9 ad9 M9 h9 => ?_)
    obtain ⟨rfl, rfl, rfl⟩ := h9
    refine s_icmp_ge 79 dX4_holds_49 (by decide) (fun c49 => ?_) (fun c49 => absurd (nI_le (by omega) (by omega)) c49)
    refine s_drop 6 ?_
    exact kont (by rw [show i = tfN k0 by omega] at hv; exact hv)
  | succ k ih =>
    intro i hi hv
    refine s_iload dX4_holds_43 rfl ?_
    refine s_iload_n dX4_holds_45 rfl ?_
    refine s_callS (As := [.int (nI k0)]) (rest := [.int (nI i)]) (n := 1) (fun l hl => c_X4_treesIn G l hl ad M k0 hk7) gX4_holds_X4_treesIn rfl (by decide +kernel) rfl ⟨(Nat.le_of_ble_eq_true rfl), (Nat.le_of_ble_eq_true rfl)⟩ ⟨(Nat.le_of_ble_eq_true rfl), (Nat.le_of_ble_eq_true rfl)⟩ (Nat.le_of_ble_eq_true rfl) dX4_holds_46 rfl (fun r9 ad9 M9 h9 => ?_)
    obtain ⟨rfl, rfl, rfl⟩ := h9
    refine s_icmp_ge 79 dX4_holds_49 (by decide) (fun c49 => absurd c49 (nI_ge (by omega) (by omega))) (fun c49 => ?_)
    refine s_aload_n dX4_holds_52 rfl ?_
    refine s_get (kd := 12) (ix := 0) (ci := 5) (fs := [.int c0, .int (nI t0), .ref (ad 13 0), .ref (ad 14 0), .ref (ad 15 0), .ref (ad 16 0), .ref (ad 17 0), .ref (ad 18 0), .int (nI r0), .ref (ad 19 0), .ref (ad 20 0), .ref (ad 21 0), .ref (ad 22 0), .ref (ad 23 0), .ref (ad 24 0), .int (jB b0), .ref (ad 25 0)])  hm.1 rfl in_X4_holds_X4 7 (by decide) (by decide +kernel) rfl rfl dX4_holds_53 ?_
    refine s_aload_n dX4_holds_56 rfl ?_
    refine s_get (kd := 12) (ix := 0) (ci := 5) (fs := [.int c0, .int (nI t0), .ref (ad 13 0), .ref (ad 14 0), .ref (ad 15 0), .ref (ad 16 0), .ref (ad 17 0), .ref (ad 18 0), .int (nI r0), .ref (ad 19 0), .ref (ad 20 0), .ref (ad 21 0), .ref (ad 22 0), .ref (ad 23 0), .ref (ad 24 0), .int (jB b0), .ref (ad 25 0)])  hm.1 rfl in_X4_holds_X4 10 (by decide) (by decide +kernel) rfl rfl dX4_holds_57 ?_
    refine s_iconst (v := 3) dX4_holds_60 (by decide) ?_
    refine s_iload_n dX4_holds_61 rfl ?_
    refine s_imul dX4_holds_62 ?_
    refine s_eqi (y := nI (3 * r)) (nI_mul 3 r) ?_
    refine s_iload dX4_holds_63 rfl ?_
    refine s_iadd dX4_holds_65 ?_
    refine s_eqi (y := nI (3 * r + i)) (nI_add _ _) ?_
    refine s_iald (kd := 20) (ix := 0) (n := 180) (f := fl) (j := 3 * r + i) hm.2.2.2.2.2.2.2.2.1 (rfl) (by omega) (by decide) dX4_holds_66 ?_
    refine s_eqi (y := nI ((aRw α r (1 + i)).toNatClampNeg)) ((jF i (by omega)).trans (hfl i (by omega)).2) ?_
    refine s_zald (kd := 18) (ix := 0) (n := 120) (f := gr) (j := (aRw α r (1 + i)).toNatClampNeg) hm.2.2.2.2.2.2.1 (rfl) (by have := (hfl i (by omega)).1; omega) (by decide) dX4_holds_67 ?_
    refine s_if_eq 73 dX4_holds_68 (by decide) (fun c68 => ?_) (fun c68 => ?_)
    · refine s_iinc (v := nI (i + 1)) dX4_holds_73 rfl (nI_1 i) rfl ?_
      refine s_lv (lv' := [some (.ref (ad 12 0)), some (.int (nI r)), some (.int (nI k0)), some (.int (nI ja)), some (.int (aRw α r 2)), some (.int (aRw α r 3)), some (.int (nI (i + 1)))]) rfl ?_
      refine s_goto 43 dX4_holds_76 (by decide) ?_
      exact ih (i + 1) (by omega) (fun a ha => by
        by_cases q : a = i
        · rw [q, (hfl i (by omega)).2, aG_j (hfl i (by omega)).1 hT]; exact fun z => ((i3 ((aRw α r (1 + i)).toNatClampNeg) (hfl i (by omega)).1).2.2.2.2.1.mpr z) c68
        · exact hv a (by omega))
    · refine s_iconst (v := 0) dX4_holds_71 (by decide) ?_
      exact s_iret rfl (rfl) dX4_holds_72 (Nat.le_of_ble_eq_true rfl) (Nat.le_of_ble_eq_true rfl) (⟨rfl, _, _, _, hm, sSame.rfl, false, rfl, (fun q => nomatch q), fun q => absurd ⟨i, by rw [etf]; omega, by rw [(hfl i (by omega)).2, aG_j (hfl i (by omega)).1 hT]; exact (i3 ((aRw α r (1 + i)).toNatClampNeg) (hfl i (by omega)).1).2.2.2.2.1.mp c68⟩ q.1⟩)
set_option maxHeartbeats 4000000 in
set_option maxRecDepth 100000 in
theorem c_X4_holds (G : sG) (l : Launch) (hl : l.stackTraces = false) (ad : sAd) (M : sM) (c0 : Int32) (t0 : Nat) (hd : Nat → Int32) (on : Nat → Int32) (tw : Nat → Int32) (dp : Nat → Int32) (cl : Nat → Int32) (gr : Nat → Int32) (r0 : Nat) (kd : Nat → Int32) (fl : Nat → Int32) (co : Nat → Int32) (sm : Nat → Int32) (wk : Nat → Int64) (sp : Nat → Int64) (b0 : Bool) (mu : Nat → Int32) (hm : hMd G ad M (c0, t0, hd, on, tw, dp, cl, gr, r0, kd, fl, co, sm, wk, sp, b0, mu)) (α : sAl) (hA : AI α) (hI : RI α (c0, t0, hd, on, tw, dp, cl, gr, r0, kd, fl, co, sm, wk, sp, b0, mu)) (r : Nat) (hr : r < aR α) : sMet G l yX4_holds mX4_holds [.ref (ad 12 0), .int (nI r)] ad M (fun r' ad' M' => ad = ad' ∧ ∃ wk' sp' b', hMd G ad M' (c0, t0, hd, on, tw, dp, cl, gr, r0, kd, fl, co, sm, wk', sp', b', mu) ∧ sSame pMd M M' ∧ ∃ z : Bool, r' = some (.int (jB z)) ∧ (z = true ↔ aHolds α (aRw α r))) (fun _ _ _ => False) := by
  obtain ⟨i1, i2, i3, i4⟩ := id hI
  have hT := hA.1
  have hR60 := hA.2.1
  obtain ⟨j0, jF, jC, jS⟩ := i4 r hr
  obtain ⟨k0, hk7, ek, ⟨ja, hja, ea⟩, hb4, hc5, hl6, hv7, hf8, hs9⟩ := hA.2.2.2 r hr
  have etf : tfI (aRw α r 0) = tfN k0 := by rw [ek, tfI_in hk7]
  have htf3 := tfN_le k0
  have ek0 : (aRw α r 0).toNatClampNeg = k0 := by rw [ek, nI_clamp (by omega)]
  have ej0 : (aRw α r 1).toNatClampNeg = ja := toNat_nI hT hja ea
  refine sMet.of hl (by decide +kernel) rfl rfl rfl rfl (Nat.le_of_ble_eq_true rfl) (fun X => ?_)
  refine s_lv (lv' := [some (.ref (ad 12 0)), some (.int (nI r)), none, none, none, none, none]) rfl ?_
  refine s_aload_n dX4_holds_0 rfl ?_
  refine s_get (kd := 12) (ix := 0) (ci := 5) (fs := [.int c0, .int (nI t0), .ref (ad 13 0), .ref (ad 14 0), .ref (ad 15 0), .ref (ad 16 0), .ref (ad 17 0), .ref (ad 18 0), .int (nI r0), .ref (ad 19 0), .ref (ad 20 0), .ref (ad 21 0), .ref (ad 22 0), .ref (ad 23 0), .ref (ad 24 0), .int (jB b0), .ref (ad 25 0)])  hm.1 rfl in_X4_holds_X4 9 (by decide) (by decide +kernel) rfl rfl dX4_holds_1 ?_
  refine s_iload_n dX4_holds_4 rfl ?_
  refine s_iald (kd := 19) (ix := 0) (n := 60) (f := kd) (j := r) hm.2.2.2.2.2.2.2.1 (rfl) (by omega) (by decide) dX4_holds_5 ?_
  refine s_eqi (y := nI k0) (j0.trans ek) ?_
  refine s_istore_n dX4_holds_6 rfl rfl ?_
  refine s_lv (lv' := [some (.ref (ad 12 0)), some (.int (nI r)), some (.int (nI k0)), none, none, none, none]) rfl ?_
  have jS0 : sm (3 * r) = aRw α r 5 := jS 0 (by omega)
  have jS1 : sm (3 * r + 1) = aRw α r 6 := jS 1 (by omega)
  have jS2 : sm (3 * r + 2) = aRw α r 7 := jS 2 (by omega)
  refine s_aload_n dX4_holds_7 rfl ?_
  refine s_get (kd := 12) (ix := 0) (ci := 5) (fs := [.int c0, .int (nI t0), .ref (ad 13 0), .ref (ad 14 0), .ref (ad 15 0), .ref (ad 16 0), .ref (ad 17 0), .ref (ad 18 0), .int (nI r0), .ref (ad 19 0), .ref (ad 20 0), .ref (ad 21 0), .ref (ad 22 0), .ref (ad 23 0), .ref (ad 24 0), .int (jB b0), .ref (ad 25 0)])  hm.1 rfl in_X4_holds_X4 10 (by decide) (by decide +kernel) rfl rfl dX4_holds_8 ?_
  refine s_iconst (v := 3) dX4_holds_11 (by decide) ?_
  refine s_iload_n dX4_holds_12 rfl ?_
  refine s_imul dX4_holds_13 ?_
  refine s_eqi (y := nI (3 * r)) (nI_mul 3 r) ?_
  refine s_iald (kd := 20) (ix := 0) (n := 180) (f := fl) (j := 3 * r) hm.2.2.2.2.2.2.2.2.1 (rfl) (by omega) (by decide) dX4_holds_14 ?_
  refine s_eqi (y := nI ja) ((jF 0 (by omega)).trans ea) ?_
  refine s_istore_n dX4_holds_15 rfl rfl ?_
  refine s_lv (lv' := [some (.ref (ad 12 0)), some (.int (nI r)), some (.int (nI k0)), some (.int (nI ja)), none, none, none]) rfl ?_
  refine s_aload_n dX4_holds_16 rfl ?_
  refine s_get (kd := 12) (ix := 0) (ci := 5) (fs := [.int c0, .int (nI t0), .ref (ad 13 0), .ref (ad 14 0), .ref (ad 15 0), .ref (ad 16 0), .ref (ad 17 0), .ref (ad 18 0), .int (nI r0), .ref (ad 19 0), .ref (ad 20 0), .ref (ad 21 0), .ref (ad 22 0), .ref (ad 23 0), .ref (ad 24 0), .int (jB b0), .ref (ad 25 0)])  hm.1 rfl in_X4_holds_X4 10 (by decide) (by decide +kernel) rfl rfl dX4_holds_17 ?_
  refine s_iconst (v := 3) dX4_holds_20 (by decide) ?_
  refine s_iload_n dX4_holds_21 rfl ?_
  refine s_imul dX4_holds_22 ?_
  refine s_eqi (y := nI (3 * r)) (nI_mul 3 r) ?_
  refine s_iconst (v := 1) dX4_holds_23 (by decide) ?_
  refine s_iadd dX4_holds_24 ?_
  refine s_eqi (y := nI (3 * r + 1)) (nI_add _ _) ?_
  refine s_iald (kd := 20) (ix := 0) (n := 180) (f := fl) (j := 3 * r + 1) hm.2.2.2.2.2.2.2.2.1 (rfl) (by omega) (by decide) dX4_holds_25 ?_
  refine s_eqi (y := aRw α r 2) (jF 1 (by omega)) ?_
  refine s_istore dX4_holds_26 rfl rfl ?_
  refine s_lv (lv' := [some (.ref (ad 12 0)), some (.int (nI r)), some (.int (nI k0)), some (.int (nI ja)), some (.int (aRw α r 2)), none, none]) rfl ?_
  refine s_aload_n dX4_holds_28 rfl ?_
  refine s_get (kd := 12) (ix := 0) (ci := 5) (fs := [.int c0, .int (nI t0), .ref (ad 13 0), .ref (ad 14 0), .ref (ad 15 0), .ref (ad 16 0), .ref (ad 17 0), .ref (ad 18 0), .int (nI r0), .ref (ad 19 0), .ref (ad 20 0), .ref (ad 21 0), .ref (ad 22 0), .ref (ad 23 0), .ref (ad 24 0), .int (jB b0), .ref (ad 25 0)])  hm.1 rfl in_X4_holds_X4 10 (by decide) (by decide +kernel) rfl rfl dX4_holds_29 ?_
  refine s_iconst (v := 3) dX4_holds_32 (by decide) ?_
  refine s_iload_n dX4_holds_33 rfl ?_
  refine s_imul dX4_holds_34 ?_
  refine s_eqi (y := nI (3 * r)) (nI_mul 3 r) ?_
  refine s_iconst (v := 2) dX4_holds_35 (by decide) ?_
  refine s_iadd dX4_holds_36 ?_
  refine s_eqi (y := nI (3 * r + 2)) (nI_add _ _) ?_
  refine s_iald (kd := 20) (ix := 0) (n := 180) (f := fl) (j := 3 * r + 2) hm.2.2.2.2.2.2.2.2.1 (rfl) (by omega) (by decide) dX4_holds_37 ?_
  refine s_eqi (y := aRw α r 3) (jF 2 (by omega)) ?_
  refine s_istore dX4_holds_38 rfl rfl ?_
  refine s_lv (lv' := [some (.ref (ad 12 0)), some (.int (nI r)), some (.int (nI k0)), some (.int (nI ja)), some (.int (aRw α r 2)), some (.int (aRw α r 3)), none]) rfl ?_
  refine s_iconst (v := 0) dX4_holds_40 (by decide) ?_
  refine s_istore dX4_holds_41 rfl rfl ?_
  refine s_lv (lv' := [some (.ref (ad 12 0)), some (.int (nI r)), some (.int (nI k0)), some (.int (nI ja)), some (.int (aRw α r 2)), some (.int (aRw α r 3)), some (.int 0)]) rfl ?_
  have hfl : ∀ a, a < tfN k0 → (aRw α r (1 + a)).toNatClampNeg < aT α ∧ aRw α r (1 + a) = nI (aRw α r (1 + a)).toNatClampNeg := fun a ha => by
    obtain ⟨kd9, -, -, -, q⟩ := (hA.2.2.2 r hr).fld hT
    exact q a (by rw [etf]; exact ha)
  refine l_X4_holds X G ad M c0 t0 hd on tw dp cl gr r0 kd fl co sm wk sp b0 mu hm α hA hI r hr k0 ja hk7 etf hfl (fun hng => ?_) (tfN k0) 0 (by omega) (fun a ha => absurd ha (Nat.not_lt_zero a))
  refine s_iload_n dX4_holds_79 rfl ?_
  rcases (show k0 = 0 ∨ k0 = 1 ∨ k0 = 2 ∨ k0 = 3 ∨ k0 = 4 ∨ k0 = 5 ∨ k0 = 6 by omega) with rfl | rfl | rfl | rfl | rfl | rfl | rfl
  · refine s_tableIn 120 dX4_holds_80 (by decide) (by decide) rfl (by decide) ?_
    obtain ⟨jb, hjb, eb⟩ := hb4 (by decide)
    have ejb : (aRw α r 2).toNatClampNeg = jb := toNat_nI hT hjb eb
    refine s_lv (lv' := [some (.ref (ad 12 0)), some (.int (nI r)), some (.int (nI 0)), some (.int (nI ja)), some (.int (nI jb)), some (.int (aRw α r 3)), none]) (by rw [eb]) ?_
    have hn4 : ¬ aG α (aRw α r 4) := by
      rcases hf8 with q | ⟨q, -⟩
      · rw [q]; exact aG_m1 hT
      · omega
    refine s_aload_n dX4_holds_120 rfl ?_
    refine s_iload_n dX4_holds_121 rfl ?_
    refine s_iload dX4_holds_122 rfl ?_
    refine s_callV (As := [.int (nI ja), .int (nI jb)]) (rest := []) (n := 2) (kd := 12) (ix := 0) (fun l hl => c_X4_isSame G l hl ad M c0 t0 hd on tw dp cl gr r0 kd fl co sm wk sp b0 mu ⟨hm.1, hm.2.1, hm.2.2.1, hm.2.2.2.1, hm.2.2.2.2.1, hm.2.2.2.2.2.1, hm.2.2.2.2.2.2.1, hm.2.2.2.2.2.2.2.1, hm.2.2.2.2.2.2.2.2.1, hm.2.2.2.2.2.2.2.2.2.1, hm.2.2.2.2.2.2.2.2.2.2.1, hm.2.2.2.2.2.2.2.2.2.2.2.1, hm.2.2.2.2.2.2.2.2.2.2.2.2.1, hm.2.2.2.2.2.2.2.2.2.2.2.2.2⟩ ja (by omega) (aPf α ja) (hA.gz hja) (i3 ja hja).2.2.2.2.2 jb (by omega) (aPf α jb) (hA.gz hjb) (i3 jb hjb).2.2.2.2.2) gX4_holds_X4_isSame rfl (by decide +kernel) hm.1 rfl rfl ⟨(Nat.le_of_ble_eq_true rfl), (Nat.le_of_ble_eq_true rfl)⟩ ⟨(Nat.le_of_ble_eq_true rfl), (Nat.le_of_ble_eq_true rfl)⟩ (Nat.le_of_ble_eq_true rfl) dX4_holds_124 rfl (fun r21 ad21 M21 h21 => ?_)
    obtain ⟨rfl, wk21, hm21, hs21, z21, rfl, hz21⟩ := h21
    exact s_iret rfl (jB_nar _) dX4_holds_127 (Nat.le_of_ble_eq_true rfl) (Nat.le_of_ble_eq_true rfl) (⟨rfl, _, _, _, hm21, (sSame.rfl.trans hs21), z21, rfl, ⟨fun q => ⟨fun ⟨a, ha, g⟩ => hng a (by rw [etf] at ha; exact ha) g, hn4, (by rw [ek0, ej0, ejb]; exact hz21.mp q)⟩, fun q => (by have z := q.2.2; rw [ek0, ej0, ejb] at z; exact hz21.mpr z)⟩⟩)
  · refine s_tableIn 128 dX4_holds_80 (by decide) (by decide) rfl (by decide) ?_
    obtain ⟨jb, hjb, eb⟩ := hb4 (by decide)
    have ejb : (aRw α r 2).toNatClampNeg = jb := toNat_nI hT hjb eb
    refine s_lv (lv' := [some (.ref (ad 12 0)), some (.int (nI r)), some (.int (nI 1)), some (.int (nI ja)), some (.int (nI jb)), some (.int (aRw α r 3)), none]) (by rw [eb]) ?_
    obtain ⟨lt, hl2, el⟩ := hl6 (by omega)
    have ejl : (aRw α r 3).toNatClampNeg = lt := toNat_nI (n := 3) (by omega) (by omega) el
    refine s_lv (lv' := [some (.ref (ad 12 0)), some (.int (nI r)), some (.int (nI 1)), some (.int (nI ja)), some (.int (nI jb)), some (.int (nI lt)), none]) (by rw [el]) ?_
    have hn4 : ¬ aG α (aRw α r 4) := by
      rcases hf8 with q | ⟨q, -⟩
      · rw [q]; exact aG_m1 hT
      · omega
    refine s_aload_n dX4_holds_128 rfl ?_
    refine s_iload_n dX4_holds_129 rfl ?_
    refine s_iload dX4_holds_130 rfl ?_
    refine s_iload dX4_holds_132 rfl ?_
    refine s_callV (As := [.int (nI ja), .int (nI jb), .int (nI lt)]) (rest := []) (n := 3) (kd := 12) (ix := 0) (fun l hl => c_X4_isSlope G l hl ad M c0 t0 hd on tw dp cl gr r0 kd fl co sm wk sp b0 mu ⟨hm.1, hm.2.1, hm.2.2.1, hm.2.2.2.1, hm.2.2.2.2.1, hm.2.2.2.2.2.1, hm.2.2.2.2.2.2.1, hm.2.2.2.2.2.2.2.1, hm.2.2.2.2.2.2.2.2.1, hm.2.2.2.2.2.2.2.2.2.1, hm.2.2.2.2.2.2.2.2.2.2.1, hm.2.2.2.2.2.2.2.2.2.2.2.1, hm.2.2.2.2.2.2.2.2.2.2.2.2.1, hm.2.2.2.2.2.2.2.2.2.2.2.2.2⟩ ja (by omega) (aPf α ja) (hA.gz hja) (i3 ja hja).2.2.2.2.2 (hA.bnd hja) jb (by omega) (aPf α jb) (hA.gz hjb) (i3 jb hjb).2.2.2.2.2 lt hl2) gX4_holds_X4_isSlope rfl (by decide +kernel) hm.1 rfl rfl ⟨(Nat.le_of_ble_eq_true rfl), (Nat.le_of_ble_eq_true rfl)⟩ ⟨(Nat.le_of_ble_eq_true rfl), (Nat.le_of_ble_eq_true rfl)⟩ (Nat.le_of_ble_eq_true rfl) dX4_holds_134 rfl (fun r22 ad22 M22 h22 => ?_)
    obtain ⟨rfl, wk22, hm22, hs22, z22, rfl, hz22⟩ := h22
    exact s_iret rfl (jB_nar _) dX4_holds_137 (Nat.le_of_ble_eq_true rfl) (Nat.le_of_ble_eq_true rfl) (⟨rfl, _, _, _, hm22, (sSame.rfl.trans hs22), z22, rfl, ⟨fun q => ⟨fun ⟨a, ha, g⟩ => hng a (by rw [etf] at ha; exact ha) g, hn4, (by rw [ek0, ej0, ejb, ejl]; exact hz22.mp q)⟩, fun q => (by have z := q.2.2; rw [ek0, ej0, ejb, ejl] at z; exact hz22.mpr z)⟩⟩)
  · refine s_tableIn 138 dX4_holds_80 (by decide) (by decide) rfl (by decide) ?_
    obtain ⟨jb, hjb, eb⟩ := hb4 (by decide)
    have ejb : (aRw α r 2).toNatClampNeg = jb := toNat_nI hT hjb eb
    refine s_lv (lv' := [some (.ref (ad 12 0)), some (.int (nI r)), some (.int (nI 2)), some (.int (nI ja)), some (.int (nI jb)), some (.int (aRw α r 3)), none]) (by rw [eb]) ?_
    obtain ⟨jc, hjc, ec⟩ := hc5 (by decide)
    have ejc : (aRw α r 3).toNatClampNeg = jc := toNat_nI hT hjc ec
    refine s_lv (lv' := [some (.ref (ad 12 0)), some (.int (nI r)), some (.int (nI 2)), some (.int (nI ja)), some (.int (nI jb)), some (.int (nI jc)), none]) (by rw [ec]) ?_
    have hn4 : ¬ aG α (aRw α r 4) := by
      rcases hf8 with q | ⟨q, -⟩
      · rw [q]; exact aG_m1 hT
      · omega
    refine s_aload_n dX4_holds_138 rfl ?_
    refine s_iload_n dX4_holds_139 rfl ?_
    refine s_iload dX4_holds_140 rfl ?_
    refine s_iload dX4_holds_142 rfl ?_
    refine s_callV (As := [.int (nI ja), .int (nI jb), .int (nI jc)]) (rest := []) (n := 3) (kd := 12) (ix := 0) (fun l hl => c_X4_isProduct G l hl ad M c0 t0 hd on tw dp cl gr r0 kd fl co sm wk sp b0 mu ⟨hm.1, hm.2.1, hm.2.2.1, hm.2.2.2.1, hm.2.2.2.2.1, hm.2.2.2.2.2.1, hm.2.2.2.2.2.2.1, hm.2.2.2.2.2.2.2.1, hm.2.2.2.2.2.2.2.2.1, hm.2.2.2.2.2.2.2.2.2.1, hm.2.2.2.2.2.2.2.2.2.2.1, hm.2.2.2.2.2.2.2.2.2.2.2.1, hm.2.2.2.2.2.2.2.2.2.2.2.2.1, hm.2.2.2.2.2.2.2.2.2.2.2.2.2⟩ ja (by omega) (aPf α ja) (hA.gz hja) (i3 ja hja).2.2.2.2.2 jb (by omega) (aPf α jb) (hA.gz hjb) (i3 jb hjb).2.2.2.2.2 (hA.bnd hjb) jc (by omega) (aPf α jc) (hA.gz hjc) (i3 jc hjc).2.2.2.2.2 (hA.bnd hjc)) gX4_holds_X4_isProduct rfl (by decide +kernel) hm.1 rfl rfl ⟨(Nat.le_of_ble_eq_true rfl), (Nat.le_of_ble_eq_true rfl)⟩ ⟨(Nat.le_of_ble_eq_true rfl), (Nat.le_of_ble_eq_true rfl)⟩ (Nat.le_of_ble_eq_true rfl) dX4_holds_144 rfl (fun r23 ad23 M23 h23 => ?_)
    obtain ⟨rfl, wk23, b023, hm23, hs23, z23, rfl, hz23⟩ := h23
    exact s_iret rfl (jB_nar _) dX4_holds_147 (Nat.le_of_ble_eq_true rfl) (Nat.le_of_ble_eq_true rfl) (⟨rfl, _, _, _, hm23, (sSame.rfl.trans hs23), z23, rfl, ⟨fun q => ⟨fun ⟨a, ha, g⟩ => hng a (by rw [etf] at ha; exact ha) g, hn4, (by rw [ek0, ej0, ejb, ejc]; exact hz23.mp q)⟩, fun q => (by have z := q.2.2; rw [ek0, ej0, ejb, ejc] at z; exact hz23.mpr z)⟩⟩)
  · refine s_tableIn 148 dX4_holds_80 (by decide) (by decide) rfl (by decide) ?_
    obtain ⟨lt, hl2, el⟩ := hl6 (by omega)
    have ejl : (aRw α r 3).toNatClampNeg = lt := toNat_nI (n := 3) (by omega) (by omega) el
    refine s_lv (lv' := [some (.ref (ad 12 0)), some (.int (nI r)), some (.int (nI 3)), some (.int (nI ja)), some (.int (aRw α r 2)), some (.int (nI lt)), none]) (by rw [el]) ?_
    have hn4 : ¬ aG α (aRw α r 4) := by
      rcases hf8 with q | ⟨q, -⟩
      · rw [q]; exact aG_m1 hT
      · omega
    refine s_aload_n dX4_holds_148 rfl ?_
    refine s_iload_n dX4_holds_149 rfl ?_
    refine s_iload dX4_holds_150 rfl ?_
    refine s_iload dX4_holds_152 rfl ?_
    refine s_callV (As := [.int (nI ja), .int (aRw α r 2), .int (nI lt)]) (rest := []) (n := 3) (kd := 12) (ix := 0) (fun l hl => c_X4_isZeroAt G l hl ad M c0 t0 hd on tw dp cl gr r0 kd fl co sm wk sp b0 mu ⟨hm.1, hm.2.1, hm.2.2.1, hm.2.2.2.1, hm.2.2.2.2.1, hm.2.2.2.2.2.1, hm.2.2.2.2.2.2.1, hm.2.2.2.2.2.2.2.1, hm.2.2.2.2.2.2.2.2.1, hm.2.2.2.2.2.2.2.2.2.1, hm.2.2.2.2.2.2.2.2.2.2.1, hm.2.2.2.2.2.2.2.2.2.2.2.1, hm.2.2.2.2.2.2.2.2.2.2.2.2.1, hm.2.2.2.2.2.2.2.2.2.2.2.2.2⟩ ja (by omega) (aPf α ja) (hA.gz hja) (i3 ja hja).2.2.2.2.2 (hA.bnd hja) (aRw α r 2) (hv7 rfl) lt hl2) gX4_holds_X4_isZeroAt rfl (by decide +kernel) hm.1 rfl rfl ⟨(Nat.le_of_ble_eq_true rfl), (Nat.le_of_ble_eq_true rfl)⟩ ⟨(Nat.le_of_ble_eq_true rfl), (Nat.le_of_ble_eq_true rfl)⟩ (Nat.le_of_ble_eq_true rfl) dX4_holds_154 rfl (fun r24 ad24 M24 h24 => ?_)
    obtain ⟨rfl, sp24, hm24, hs24, z24, rfl, hz24⟩ := h24
    exact s_iret rfl (jB_nar _) dX4_holds_157 (Nat.le_of_ble_eq_true rfl) (Nat.le_of_ble_eq_true rfl) (⟨rfl, _, _, _, hm24, (sSame.rfl.trans hs24), z24, rfl, ⟨fun q => ⟨fun ⟨a, ha, g⟩ => hng a (by rw [etf] at ha; exact ha) g, hn4, (by rw [ek0, ej0, ejl]; exact hz24.mp q)⟩, fun q => (by have z := q.2.2; rw [ek0, ej0, ejl] at z; exact hz24.mpr z)⟩⟩)
  · refine s_tableIn 158 dX4_holds_80 (by decide) (by decide) rfl (by decide) ?_
    obtain ⟨jb, hjb, eb⟩ := hb4 (by decide)
    have ejb : (aRw α r 2).toNatClampNeg = jb := toNat_nI hT hjb eb
    refine s_lv (lv' := [some (.ref (ad 12 0)), some (.int (nI r)), some (.int (nI 4)), some (.int (nI ja)), some (.int (nI jb)), some (.int (aRw α r 3)), none]) (by rw [eb]) ?_
    have hn4 : ¬ aG α (aRw α r 4) := by
      rcases hf8 with q | ⟨q, -⟩
      · rw [q]; exact aG_m1 hT
      · omega
    refine s_aload_n dX4_holds_158 rfl ?_
    refine s_iload_n dX4_holds_159 rfl ?_
    refine s_iload_n dX4_holds_160 rfl ?_
    refine s_callV (As := [.int (nI ja), .int (nI r)]) (rest := []) (n := 2) (kd := 12) (ix := 0) (fun l hl => c_X4_value G l hl ad M c0 t0 hd on tw dp cl gr r0 kd fl co sm wk sp b0 mu ⟨hm.1, hm.2.1, hm.2.2.1, hm.2.2.2.1, hm.2.2.2.2.1, hm.2.2.2.2.2.1, hm.2.2.2.2.2.2.1, hm.2.2.2.2.2.2.2.1, hm.2.2.2.2.2.2.2.2.1, hm.2.2.2.2.2.2.2.2.2.1, hm.2.2.2.2.2.2.2.2.2.2.1, hm.2.2.2.2.2.2.2.2.2.2.2.1, hm.2.2.2.2.2.2.2.2.2.2.2.2.1, hm.2.2.2.2.2.2.2.2.2.2.2.2.2⟩ ja (by omega) (aPf α ja) (hA.gz hja) (i3 ja hja).2.2.2.2.2 (hA.bnd hja) r (by omega) (by rw [jS0]; exact hs9 0 (by omega)) (by rw [jS1]; exact hs9 1 (by omega)) (by rw [jS2]; exact hs9 2 (by omega))) gX4_holds_X4_value rfl (by decide +kernel) hm.1 rfl rfl ⟨(Nat.le_of_ble_eq_true rfl), (Nat.le_of_ble_eq_true rfl)⟩ ⟨(Nat.le_of_ble_eq_true rfl), (Nat.le_of_ble_eq_true rfl)⟩ (Nat.le_of_ble_eq_true rfl) dX4_holds_161 rfl (fun r25 ad25 M25 h25 => ?_)
    obtain ⟨rfl, hm25, hs25, q25, rfl, hq25⟩ := h25
    refine s_aload_n dX4_holds_164 rfl ?_
    refine s_iload dX4_holds_165 rfl ?_
    refine s_iload_n dX4_holds_167 rfl ?_
    refine s_callV (As := [.int (nI jb), .int (nI r)]) (rest := [.long q25]) (n := 2) (kd := 12) (ix := 0) (fun l hl => c_X4_value G l hl ad M25 c0 t0 hd on tw dp cl gr r0 kd fl co sm wk sp b0 mu ⟨hm25.1, hm25.2.1, hm25.2.2.1, hm25.2.2.2.1, hm25.2.2.2.2.1, hm25.2.2.2.2.2.1, hm25.2.2.2.2.2.2.1, hm25.2.2.2.2.2.2.2.1, hm25.2.2.2.2.2.2.2.2.1, hm25.2.2.2.2.2.2.2.2.2.1, hm25.2.2.2.2.2.2.2.2.2.2.1, hm25.2.2.2.2.2.2.2.2.2.2.2.1, hm25.2.2.2.2.2.2.2.2.2.2.2.2.1, hm25.2.2.2.2.2.2.2.2.2.2.2.2.2⟩ jb (by omega) (aPf α jb) (hA.gz hjb) (i3 jb hjb).2.2.2.2.2 (hA.bnd hjb) r (by omega) (by rw [jS0]; exact hs9 0 (by omega)) (by rw [jS1]; exact hs9 1 (by omega)) (by rw [jS2]; exact hs9 2 (by omega))) gX4_holds_X4_value rfl (by decide +kernel) hm25.1 rfl rfl ⟨(Nat.le_of_ble_eq_true rfl), (Nat.le_of_ble_eq_true rfl)⟩ ⟨(Nat.le_of_ble_eq_true rfl), (Nat.le_of_ble_eq_true rfl)⟩ (Nat.le_of_ble_eq_true rfl) dX4_holds_168 rfl (fun r26 ad26 M26 h26 => ?_)
    obtain ⟨rfl, hm26, hs26, q26, rfl, hq26⟩ := h26
    refine s_lcmp dX4_holds_171 ?_
    refine s_if_ne 179 dX4_holds_172 (by decide) (fun c172 => ?_) (fun c172 => ?_)
    · refine s_iconst (v := 0) dX4_holds_179 (by decide) ?_
      exact s_iret rfl (rfl) dX4_holds_180 (Nat.le_of_ble_eq_true rfl) (Nat.le_of_ble_eq_true rfl) (⟨rfl, _, _, _, hm26, ((sSame.rfl.trans hs25).trans hs26), false, rfl, (fun q => nomatch q), fun q => absurd ((lg_cmp_eq _ _).mpr (Int64.toInt_inj.mp (by rw [hq25, hq26, jS0, jS1, jS2]; have z := q.2.2; rw [ek0, ej0, ejb] at z; exact z))) c172⟩)
    · refine s_iconst (v := 1) dX4_holds_175 (by decide) ?_
      refine s_goto 180 dX4_holds_176 (by decide) ?_
      exact s_iret rfl (rfl) dX4_holds_180 (Nat.le_of_ble_eq_true rfl) (Nat.le_of_ble_eq_true rfl) (⟨rfl, _, _, _, hm26, ((sSame.rfl.trans hs25).trans hs26), true, rfl, ⟨fun q => ⟨fun ⟨a, ha, g⟩ => hng a (by rw [etf] at ha; exact ha) g, hn4, (by rw [ek0, ej0, ejb]; exact (show val3 _ _ _ _ = val3 _ _ _ _ by rw [← jS0, ← jS1, ← jS2, ← hq25, ← hq26, (lg_cmp_eq _ _).mp c172]))⟩, fun q => rfl⟩⟩)
  · refine s_tableIn 181 dX4_holds_80 (by decide) (by decide) rfl (by decide) ?_
    have hn4 : ¬ aG α (aRw α r 4) := by
      rcases hf8 with q | ⟨q, -⟩
      · rw [q]; exact aG_m1 hT
      · omega
    refine s_aload_n dX4_holds_181 rfl ?_
    refine s_iload_n dX4_holds_182 rfl ?_
    refine s_iload_n dX4_holds_183 rfl ?_
    refine s_callV (As := [.int (nI ja), .int (nI r)]) (rest := []) (n := 2) (kd := 12) (ix := 0) (fun l hl => c_X4_value G l hl ad M c0 t0 hd on tw dp cl gr r0 kd fl co sm wk sp b0 mu ⟨hm.1, hm.2.1, hm.2.2.1, hm.2.2.2.1, hm.2.2.2.2.1, hm.2.2.2.2.2.1, hm.2.2.2.2.2.2.1, hm.2.2.2.2.2.2.2.1, hm.2.2.2.2.2.2.2.2.1, hm.2.2.2.2.2.2.2.2.2.1, hm.2.2.2.2.2.2.2.2.2.2.1, hm.2.2.2.2.2.2.2.2.2.2.2.1, hm.2.2.2.2.2.2.2.2.2.2.2.2.1, hm.2.2.2.2.2.2.2.2.2.2.2.2.2⟩ ja (by omega) (aPf α ja) (hA.gz hja) (i3 ja hja).2.2.2.2.2 (hA.bnd hja) r (by omega) (by rw [jS0]; exact hs9 0 (by omega)) (by rw [jS1]; exact hs9 1 (by omega)) (by rw [jS2]; exact hs9 2 (by omega))) gX4_holds_X4_value rfl (by decide +kernel) hm.1 rfl rfl ⟨(Nat.le_of_ble_eq_true rfl), (Nat.le_of_ble_eq_true rfl)⟩ ⟨(Nat.le_of_ble_eq_true rfl), (Nat.le_of_ble_eq_true rfl)⟩ (Nat.le_of_ble_eq_true rfl) dX4_holds_184 rfl (fun r27 ad27 M27 h27 => ?_)
    obtain ⟨rfl, hm27, hs27, q27, rfl, hq27⟩ := h27
    refine s_lconst (v := 0) dX4_holds_187 (by decide) ?_
    refine s_lcmp dX4_holds_188 ?_
    refine s_if_le 196 dX4_holds_189 (by decide) (fun c189 => ?_) (fun c189 => ?_)
    · refine s_iconst (v := 0) dX4_holds_196 (by decide) ?_
      exact s_iret rfl (rfl) dX4_holds_197 (Nat.le_of_ble_eq_true rfl) (Nat.le_of_ble_eq_true rfl) (⟨rfl, _, _, _, hm27, (sSame.rfl.trans hs27), false, rfl, (fun q => nomatch q), fun q => absurd ((lg_cmp_le _ _).mp c189) (fun w => by have z := q.2.2; rw [ek0, ej0] at z; have z2 : 0 < val3 (aPf α ja) (aRw α r 5).toInt (aRw α r 6).toInt (aRw α r 7).toInt := z; have w2 := Int64.le_iff_toInt_le.mp w; rw [hq27, jS0, jS1, jS2, show (0 : Int64).toInt = 0 from rfl] at w2; omega)⟩)
    · refine s_iconst (v := 1) dX4_holds_192 (by decide) ?_
      refine s_goto 197 dX4_holds_193 (by decide) ?_
      exact s_iret rfl (rfl) dX4_holds_197 (Nat.le_of_ble_eq_true rfl) (Nat.le_of_ble_eq_true rfl) (⟨rfl, _, _, _, hm27, (sSame.rfl.trans hs27), true, rfl, ⟨fun q => ⟨fun ⟨a, ha, g⟩ => hng a (by rw [etf] at ha; exact ha) g, hn4, (by rw [ek0, ej0]; exact (show 0 < val3 _ _ _ _ by have w2 := Int64.lt_iff_toInt_lt.mp (Int64.not_le.mp (fun z => c189 ((lg_cmp_le _ _).mpr z))); rw [hq27, jS0, jS1, jS2, show (0 : Int64).toInt = 0 from rfl] at w2; exact w2))⟩, fun q => rfl⟩⟩)
  · refine s_tableOut 198 dX4_holds_80 (by decide) (by decide) ?_
    obtain ⟨jb, hjb, eb⟩ := hb4 (by decide)
    have ejb : (aRw α r 2).toNatClampNeg = jb := toNat_nI hT hjb eb
    refine s_lv (lv' := [some (.ref (ad 12 0)), some (.int (nI r)), some (.int (nI 6)), some (.int (nI ja)), some (.int (nI jb)), some (.int (aRw α r 3)), none]) (by rw [eb]) ?_
    refine s_aload_n dX4_holds_198 rfl ?_
    refine s_get (kd := 12) (ix := 0) (ci := 5) (fs := [.int c0, .int (nI t0), .ref (ad 13 0), .ref (ad 14 0), .ref (ad 15 0), .ref (ad 16 0), .ref (ad 17 0), .ref (ad 18 0), .int (nI r0), .ref (ad 19 0), .ref (ad 20 0), .ref (ad 21 0), .ref (ad 22 0), .ref (ad 23 0), .ref (ad 24 0), .int (jB b0), .ref (ad 25 0)])  hm.1 rfl in_X4_holds_X4 11 (by decide) (by decide +kernel) rfl rfl dX4_holds_199 ?_
    refine s_iload_n dX4_holds_202 rfl ?_
    refine s_iald (kd := 21) (ix := 0) (n := 60) (f := co) (j := r) hm.2.2.2.2.2.2.2.2.2.1 (rfl) (by omega) (by decide) dX4_holds_203 ?_
    refine s_eqi (y := aRw α r 4) (jC) ?_
    refine s_iconst (v := -1) dX4_holds_204 (by decide) ?_
    refine s_icmp_eq 251 dX4_holds_205 (by decide) (fun c205 => ?_) (fun c205 => ?_)
    · refine s_iconst (v := 0) dX4_holds_251 (by decide) ?_
      exact s_iret rfl (rfl) dX4_holds_252 (Nat.le_of_ble_eq_true rfl) (Nat.le_of_ble_eq_true rfl) (⟨rfl, _, _, _, hm, sSame.rfl, false, rfl, (fun q => nomatch q), fun q => absurd c205 (by have z := q.2.2; rw [ek0, ej0, ejb] at z; exact z.1)⟩)
    · obtain ⟨jf, hjf, ef⟩ : ∃ jf, jf < aT α ∧ aRw α r 4 = nI jf := hf8.elim (fun q => absurd q c205) (fun q => q.2)
      have ejf : (aRw α r 4).toNatClampNeg = jf := toNat_nI hT hjf ef
      refine s_aload_n dX4_holds_208 rfl ?_
      refine s_get (kd := 12) (ix := 0) (ci := 5) (fs := [.int c0, .int (nI t0), .ref (ad 13 0), .ref (ad 14 0), .ref (ad 15 0), .ref (ad 16 0), .ref (ad 17 0), .ref (ad 18 0), .int (nI r0), .ref (ad 19 0), .ref (ad 20 0), .ref (ad 21 0), .ref (ad 22 0), .ref (ad 23 0), .ref (ad 24 0), .int (jB b0), .ref (ad 25 0)])  hm.1 rfl in_X4_holds_X4 7 (by decide) (by decide +kernel) rfl rfl dX4_holds_209 ?_
      refine s_aload_n dX4_holds_212 rfl ?_
      refine s_get (kd := 12) (ix := 0) (ci := 5) (fs := [.int c0, .int (nI t0), .ref (ad 13 0), .ref (ad 14 0), .ref (ad 15 0), .ref (ad 16 0), .ref (ad 17 0), .ref (ad 18 0), .int (nI r0), .ref (ad 19 0), .ref (ad 20 0), .ref (ad 21 0), .ref (ad 22 0), .ref (ad 23 0), .ref (ad 24 0), .int (jB b0), .ref (ad 25 0)])  hm.1 rfl in_X4_holds_X4 11 (by decide) (by decide +kernel) rfl rfl dX4_holds_213 ?_
      refine s_iload_n dX4_holds_216 rfl ?_
      refine s_iald (kd := 21) (ix := 0) (n := 60) (f := co) (j := r) hm.2.2.2.2.2.2.2.2.2.1 (rfl) (by omega) (by decide) dX4_holds_217 ?_
      refine s_eqi (y := nI jf) (jC.trans ef) ?_
      refine s_zald (kd := 18) (ix := 0) (n := 120) (f := gr) (j := jf) hm.2.2.2.2.2.2.1 (rfl) (by omega) (by decide) dX4_holds_218 ?_
      refine s_if_ne 251 dX4_holds_219 (by decide) (fun c219 => ?_) (fun c219 => ?_)
      · refine s_iconst (v := 0) dX4_holds_251 (by decide) ?_
        exact s_iret rfl (rfl) dX4_holds_252 (Nat.le_of_ble_eq_true rfl) (Nat.le_of_ble_eq_true rfl) (⟨rfl, _, _, _, hm, sSame.rfl, false, rfl, (fun q => nomatch q), fun q => absurd (by rw [ef, aG_j hjf hT]; exact (i3 jf hjf).2.2.2.2.1.mp c219) q.2.1⟩)
      · refine s_aload_n dX4_holds_222 rfl ?_
        refine s_iload dX4_holds_223 rfl ?_
        refine s_callV (As := [.int (nI jb)]) (rest := []) (n := 1) (kd := 12) (ix := 0) (fun l hl => c_X4_isNone G l hl ad M c0 t0 hd on tw dp cl gr r0 kd fl co sm wk sp b0 mu ⟨hm.1, hm.2.1, hm.2.2.1, hm.2.2.2.1, hm.2.2.2.2.1, hm.2.2.2.2.2.1, hm.2.2.2.2.2.2.1, hm.2.2.2.2.2.2.2.1, hm.2.2.2.2.2.2.2.2.1, hm.2.2.2.2.2.2.2.2.2.1, hm.2.2.2.2.2.2.2.2.2.2.1, hm.2.2.2.2.2.2.2.2.2.2.2.1, hm.2.2.2.2.2.2.2.2.2.2.2.2.1, hm.2.2.2.2.2.2.2.2.2.2.2.2.2⟩ jb (by omega) (aPf α jb) (hA.gz hjb) (i3 jb hjb).2.2.2.2.2) gX4_holds_X4_isNone rfl (by decide +kernel) hm.1 rfl rfl ⟨(Nat.le_of_ble_eq_true rfl), (Nat.le_of_ble_eq_true rfl)⟩ ⟨(Nat.le_of_ble_eq_true rfl), (Nat.le_of_ble_eq_true rfl)⟩ (Nat.le_of_ble_eq_true rfl) dX4_holds_225 rfl (fun r28 ad28 M28 h28 => ?_)
        obtain ⟨rfl, rfl, zn, rfl, hzn⟩ := h28
        refine s_if_ne 251 dX4_holds_228 (by decide) (fun c228 => ?_) (fun c228 => ?_)
        · refine s_iconst (v := 0) dX4_holds_251 (by decide) ?_
          exact s_iret rfl (rfl) dX4_holds_252 (Nat.le_of_ble_eq_true rfl) (Nat.le_of_ble_eq_true rfl) (⟨rfl, _, _, _, hm, sSame.rfl, false, rfl, (fun q => nomatch q), fun q => absurd (hzn.mp (Bool.of_not_eq_false (fun z => c228 (jB_0.mpr z)))) (fun w => (by have z := q.2.2; rw [ek0, ej0, ejb] at z; exact z.2.1.elim (fun y hy => hy (w y))))⟩)
        · refine s_aload_n dX4_holds_231 rfl ?_
          refine s_iload_n dX4_holds_232 rfl ?_
          refine s_iload dX4_holds_233 rfl ?_
          refine s_aload_n dX4_holds_235 rfl ?_
          refine s_get (kd := 12) (ix := 0) (ci := 5) (fs := [.int c0, .int (nI t0), .ref (ad 13 0), .ref (ad 14 0), .ref (ad 15 0), .ref (ad 16 0), .ref (ad 17 0), .ref (ad 18 0), .int (nI r0), .ref (ad 19 0), .ref (ad 20 0), .ref (ad 21 0), .ref (ad 22 0), .ref (ad 23 0), .ref (ad 24 0), .int (jB b0), .ref (ad 25 0)])  hm.1 rfl in_X4_holds_X4 11 (by decide) (by decide +kernel) rfl rfl dX4_holds_236 ?_
          refine s_iload_n dX4_holds_239 rfl ?_
          refine s_iald (kd := 21) (ix := 0) (n := 60) (f := co) (j := r) hm.2.2.2.2.2.2.2.2.2.1 (rfl) (by omega) (by decide) dX4_holds_240 ?_
          refine s_eqi (y := nI jf) (jC.trans ef) ?_
          refine s_callV (As := [.int (nI ja), .int (nI jb), .int (nI jf)]) (rest := []) (n := 3) (kd := 12) (ix := 0) (fun l hl => c_X4_isProduct G l hl ad M c0 t0 hd on tw dp cl gr r0 kd fl co sm wk sp b0 mu ⟨hm.1, hm.2.1, hm.2.2.1, hm.2.2.2.1, hm.2.2.2.2.1, hm.2.2.2.2.2.1, hm.2.2.2.2.2.2.1, hm.2.2.2.2.2.2.2.1, hm.2.2.2.2.2.2.2.2.1, hm.2.2.2.2.2.2.2.2.2.1, hm.2.2.2.2.2.2.2.2.2.2.1, hm.2.2.2.2.2.2.2.2.2.2.2.1, hm.2.2.2.2.2.2.2.2.2.2.2.2.1, hm.2.2.2.2.2.2.2.2.2.2.2.2.2⟩ ja (by omega) (aPf α ja) (hA.gz hja) (i3 ja hja).2.2.2.2.2 jb (by omega) (aPf α jb) (hA.gz hjb) (i3 jb hjb).2.2.2.2.2 (hA.bnd hjb) jf (by omega) (aPf α jf) (hA.gz hjf) (i3 jf hjf).2.2.2.2.2 (hA.bnd hjf)) gX4_holds_X4_isProduct rfl (by decide +kernel) hm.1 rfl rfl ⟨(Nat.le_of_ble_eq_true rfl), (Nat.le_of_ble_eq_true rfl)⟩ ⟨(Nat.le_of_ble_eq_true rfl), (Nat.le_of_ble_eq_true rfl)⟩ (Nat.le_of_ble_eq_true rfl) dX4_holds_241 rfl (fun r29 ad29 M29 h29 => ?_)
          obtain ⟨rfl, wk29, b029, hm29, hs29, z29, rfl, hz29⟩ := h29
          refine s_if_eq 251 dX4_holds_244 (by decide) (fun c244 => ?_) (fun c244 => ?_)
          · refine s_iconst (v := 0) dX4_holds_251 (by decide) ?_
            exact s_iret rfl (rfl) dX4_holds_252 (Nat.le_of_ble_eq_true rfl) (Nat.le_of_ble_eq_true rfl) (⟨rfl, _, _, _, hm29, (sSame.rfl.trans hs29), false, rfl, (fun q => nomatch q), fun q => by
              have z := q.2.2
              rw [ek0, ej0, ejb, ejf] at z
              rw [hz29.mpr z.2.2] at c244
              exact absurd c244 (by decide)⟩)
          · refine s_iconst (v := 1) dX4_holds_247 (by decide) ?_
            refine s_goto 252 dX4_holds_248 (by decide) ?_
            exact s_iret rfl (rfl) dX4_holds_252 (Nat.le_of_ble_eq_true rfl) (Nat.le_of_ble_eq_true rfl) (⟨rfl, _, _, _, hm29, (sSame.rfl.trans hs29), true, rfl, fun _ => ⟨fun ⟨a, ha, g⟩ => hng a (by rw [etf] at ha; exact ha) g, by rw [ef, aG_j hjf hT]; exact fun w => (i3 jf hjf).2.2.2.2.1.mpr w c219, by rw [ek0, ej0, ejb, ejf]; exact ⟨c205, Classical.byContradiction (fun w => by rw [hzn.mpr (fun y => Classical.byContradiction (fun z => w ⟨y, z⟩))] at c228; exact absurd c228 (by decide)), hz29.mp (Bool.of_not_eq_false (fun w => c244 (jB_0.mpr w)))⟩⟩, fun _ => rfl⟩)
