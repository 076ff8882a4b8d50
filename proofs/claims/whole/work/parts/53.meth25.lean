abbrev mX4_isProduct : sMeth := (cX4_isProduct, 4, RX4, wsX4_isProduct, { frames := 4, cells := 0, slots := 0, locals := 99 }, (some .boolean), "isProduct", [])
theorem in_X4_isProduct_X4 : ∀ w ∈ wsX40, w ∈ wsX4_isProduct := by decide +kernel
set_option maxHeartbeats 4000000 in
set_option maxRecDepth 100000 in
theorem c_X4_isProduct (G : sG) (l : Launch) (hl : l.stackTraces = false) (ad : sAd) (M : sM) (c0 : Int32) (t0 : Nat) (hd : Nat → Int32) (on : Nat → Int32) (tw : Nat → Int32) (dp : Nat → Int32) (cl : Nat → Int32) (gr : Nat → Int32) (r0 : Nat) (kd : Nat → Int32) (fl : Nat → Int32) (co : Nat → Int32) (sm : Nat → Int32) (wk : Nat → Int64) (sp : Nat → Int64) (b0 : Bool) (mu : Nat → Int32) (hm : hMd G ad M (c0, t0, hd, on, tw, dp, cl, gr, r0, kd, fl, co, sm, wk, sp, b0, mu)) (t : Nat) (htt : t < 120) (P : Nat → Int) (hg : gz P) (hcr : CRk cl t P) (tb : Nat) (htb : tb < 120) (P2 : Nat → Int) (hg2 : gz P2) (hcr2 : CRk cl tb P2) (hpb2 : ∀ y, -1000000 ≤ P2 y ∧ P2 y ≤ 1000000) (tc : Nat) (htc : tc < 120) (P3 : Nat → Int) (hg3 : gz P3) (hcr3 : CRk cl tc P3) (hpb3 : ∀ y, -1000000 ≤ P3 y ∧ P3 y ≤ 1000000) : sMet G l yX4_isProduct mX4_isProduct [.ref (ad 12 0), .int (nI t), .int (nI tb), .int (nI tc)] ad M (fun r ad' M' => ad = ad' ∧ ∃ wk' b', hMd G ad M' (c0, t0, hd, on, tw, dp, cl, gr, r0, kd, fl, co, sm, wk', sp, b', mu) ∧ sSame pMd M M' ∧ ∃ z : Bool, r = some (.int (jB z)) ∧ (z = true ↔ dOK P2 P3 ∧ ∀ y, P y = mul P2 P3 y)) (fun _ _ _ => False) := by
  refine sMet.of hl (by decide +kernel) rfl rfl rfl rfl (Nat.le_of_ble_eq_true rfl) (fun X => ?_)
  refine s_lv (lv' := [some (.ref (ad 12 0)), some (.int (nI t)), some (.int (nI tb)), some (.int (nI tc))]) rfl ?_
  refine s_aload_n dX4_isProduct_0 rfl ?_
  refine s_iconst (v := 0) dX4_isProduct_1 (by decide) ?_
  refine s_eqi (y := jB false) rfl ?_
  refine s_put (kd := 12) (ix := 0) (ci := 5) (v := .int (jB false)) (ty := tyX4 15) (fs := [.int c0, .int (nI t0), .ref (ad 13 0), .ref (ad 14 0), .ref (ad 15 0), .ref (ad 16 0), .ref (ad 17 0), .ref (ad 18 0), .int (nI r0), .ref (ad 19 0), .ref (ad 20 0), .ref (ad 21 0), .ref (ad 22 0), .ref (ad 23 0), .ref (ad 24 0), .int (jB b0), .ref (ad 25 0)])  tyX4 tyX4_ok nmX4 hm.1 rfl in_X4_isProduct_X4 15 (by decide) (by decide +kernel) rfl rfl (tyX4_ok 15 (by decide)) (rfl) (rfl) (Nat.le_of_ble_eq_true rfl) dX4_isProduct_2 ?_
  refine s_M (M' := (sset M 12 0 (.inr (5, [.int c0, .int (nI t0), .ref (ad 13 0), .ref (ad 14 0), .ref (ad 15 0), .ref (ad 16 0), .ref (ad 17 0), .ref (ad 18 0), .int (nI r0), .ref (ad 19 0), .ref (ad 20 0), .ref (ad 21 0), .ref (ad 22 0), .ref (ad 23 0), .ref (ad 24 0), .int (jB false), .ref (ad 25 0)])))) rfl ?_
  refine s_aload_n dX4_isProduct_5 rfl ?_
  refine s_iload_n dX4_isProduct_6 rfl ?_
  refine s_iload_n dX4_isProduct_7 rfl ?_
  refine s_callV (As := [.int (nI tb), .int (nI tc)]) (rest := []) (n := 2) (kd := 12) (ix := 0) (fun l hl => c_X4_multiply G l hl ad (sset M 12 0 (.inr (5, [.int c0, .int (nI t0), .ref (ad 13 0), .ref (ad 14 0), .ref (ad 15 0), .ref (ad 16 0), .ref (ad 17 0), .ref (ad 18 0), .int (nI r0), .ref (ad 19 0), .ref (ad 20 0), .ref (ad 21 0), .ref (ad 22 0), .ref (ad 23 0), .ref (ad 24 0), .int (jB false), .ref (ad 25 0)]))) c0 t0 hd on tw dp cl gr r0 kd fl co sm wk sp false mu ⟨(sset_self _ _ _ _), ((sset_k _ _ (by decide)).trans (hm.2.1)), ((sset_k _ _ (by decide)).trans (hm.2.2.1)), ((sset_k _ _ (by decide)).trans (hm.2.2.2.1)), ((sset_k _ _ (by decide)).trans (hm.2.2.2.2.1)), ((sset_k _ _ (by decide)).trans (hm.2.2.2.2.2.1)), ((sset_k _ _ (by decide)).trans (hm.2.2.2.2.2.2.1)), ((sset_k _ _ (by decide)).trans (hm.2.2.2.2.2.2.2.1)), ((sset_k _ _ (by decide)).trans (hm.2.2.2.2.2.2.2.2.1)), ((sset_k _ _ (by decide)).trans (hm.2.2.2.2.2.2.2.2.2.1)), ((sset_k _ _ (by decide)).trans (hm.2.2.2.2.2.2.2.2.2.2.1)), ((sset_k _ _ (by decide)).trans (hm.2.2.2.2.2.2.2.2.2.2.2.1)), ((sset_k _ _ (by decide)).trans (hm.2.2.2.2.2.2.2.2.2.2.2.2.1)), ((sset_k _ _ (by decide)).trans (hm.2.2.2.2.2.2.2.2.2.2.2.2.2))⟩ tb htb P2 hg2 hcr2 hpb2 tc htc P3 hg3 hcr3 hpb3) gX4_isProduct_X4_multiply rfl (by decide +kernel) (sset_self _ _ _ _) rfl rfl ⟨(Nat.le_of_ble_eq_true rfl), (Nat.le_of_ble_eq_true rfl)⟩ ⟨(Nat.le_of_ble_eq_true rfl), (Nat.le_of_ble_eq_true rfl)⟩ (Nat.le_of_ble_eq_true rfl) dX4_isProduct_8 rfl (fun r12 ad12 M12 h12 => ?_)
  obtain ⟨rfl, rfl, wk12, b12, hm12, hs12, hb12, hw12⟩ := h12
  refine s_aload_n dX4_isProduct_11 rfl ?_
  refine s_get (kd := 12) (ix := 0) (ci := 5) (fs := [.int c0, .int (nI t0), .ref (ad 13 0), .ref (ad 14 0), .ref (ad 15 0), .ref (ad 16 0), .ref (ad 17 0), .ref (ad 18 0), .int (nI r0), .ref (ad 19 0), .ref (ad 20 0), .ref (ad 21 0), .ref (ad 22 0), .ref (ad 23 0), .ref (ad 24 0), .int (jB b12), .ref (ad 25 0)])  hm12.1 rfl in_X4_isProduct_X4 15 (by decide) (by decide +kernel) rfl rfl dX4_isProduct_12 ?_
  refine s_if_ne 30 dX4_isProduct_15 (by decide) (fun c15 => ?_) (fun c15 => ?_)
  · refine s_iconst (v := 0) dX4_isProduct_30 (by decide) ?_
    exact s_iret rfl (rfl) dX4_isProduct_31 (Nat.le_of_ble_eq_true rfl) (Nat.le_of_ble_eq_true rfl) (⟨rfl, _, _, hm12, ((sSame.rfl |>.set (P := pMd) (by simp [pMd]) _).trans hs12), false, rfl, (fun q => nomatch q), fun q => absurd q.1 ((hb12.mp (Bool.of_not_eq_false (fun z => c15 (jB_0.mpr z)))).elim (fun q => nomatch q) id)⟩)
  · have hbf : b12 = false := jB_0.mp c15
    have hw9 : WRk wk12 (mul P2 P3) ∧ gz (mul P2 P3) := hw12.elim (fun q => by rw [hbf] at q; cases q.1) (fun q => q.2)
    have hdk : dOK P2 P3 := Classical.byContradiction (fun q => by rw [hb12.mpr (Or.inr q)] at hbf; cases hbf)
    refine s_aload_n dX4_isProduct_18 rfl ?_
    refine s_iload_n dX4_isProduct_19 rfl ?_
    refine s_callV (As := [.int (nI t)]) (rest := []) (n := 1) (kd := 12) (ix := 0) (fun l hl => c_X4_isWork G l hl ad M12 c0 t0 hd on tw dp cl gr r0 kd fl co sm wk12 sp b12 mu ⟨hm12.1, hm12.2.1, hm12.2.2.1, hm12.2.2.2.1, hm12.2.2.2.2.1, hm12.2.2.2.2.2.1, hm12.2.2.2.2.2.2.1, hm12.2.2.2.2.2.2.2.1, hm12.2.2.2.2.2.2.2.2.1, hm12.2.2.2.2.2.2.2.2.2.1, hm12.2.2.2.2.2.2.2.2.2.2.1, hm12.2.2.2.2.2.2.2.2.2.2.2.1, hm12.2.2.2.2.2.2.2.2.2.2.2.2.1, hm12.2.2.2.2.2.2.2.2.2.2.2.2.2⟩ t htt P hg hcr (mul P2 P3) hw9.2 hw9.1) gX4_isProduct_X4_isWork rfl (by decide +kernel) hm12.1 rfl rfl ⟨(Nat.le_of_ble_eq_true rfl), (Nat.le_of_ble_eq_true rfl)⟩ ⟨(Nat.le_of_ble_eq_true rfl), (Nat.le_of_ble_eq_true rfl)⟩ (Nat.le_of_ble_eq_true rfl) dX4_isProduct_20 rfl (fun r13 ad13 M13 h13 => ?_)
    obtain ⟨rfl, hm13, hs13, z13, rfl, hz13⟩ := h13
    refine s_if_eq 30 dX4_isProduct_23 (by decide) (fun c23 => ?_) (fun c23 => ?_)
    · refine s_iconst (v := 0) dX4_isProduct_30 (by decide) ?_
      exact s_iret rfl (rfl) dX4_isProduct_31 (Nat.le_of_ble_eq_true rfl) (Nat.le_of_ble_eq_true rfl) (⟨rfl, _, _, hm13, (((sSame.rfl |>.set (P := pMd) (by simp [pMd]) _).trans hs12).trans hs13), false, rfl, (fun q => nomatch q), fun q => by rw [hz13.mpr (fun y => (q.2 y).symm)] at c23; exact absurd c23 (by decide)⟩)
    · refine s_iconst (v := 1) dX4_isProduct_26 (by decide) ?_
      refine s_goto 31 dX4_isProduct_27 (by decide) ?_
      exact s_iret rfl (rfl) dX4_isProduct_31 (Nat.le_of_ble_eq_true rfl) (Nat.le_of_ble_eq_true rfl) (⟨rfl, _, _, hm13, (((sSame.rfl |>.set (P := pMd) (by simp [pMd]) _).trans hs12).trans hs13), true, rfl, fun _ => ⟨hdk, fun y => (hz13.mp (Bool.of_not_eq_false (fun z => c23 (jB_0.mpr z))) y).symm⟩, fun _ => rfl⟩)
abbrev mX4_value : sMeth := (cX4_value, 10, RX4, wsX4_value, { frames := 2, cells := 0, slots := 0, locals := 42 }, (some .long), "value", [])
theorem in_X4_value_X4 : ∀ w ∈ wsX40, w ∈ wsX4_value := by decide +kernel
set_option maxHeartbeats 4000000 in
set_option maxRecDepth 100000 in
theorem l_X4_value (X : sMach) (G : sG) (ad : sAd) (M0 : sM) (c0 : Int32) (t0 : Nat) (hd : Nat → Int32) (on : Nat → Int32) (tw : Nat → Int32) (dp : Nat → Int32) (cl : Nat → Int32) (gr : Nat → Int32) (r0 : Nat) (kd : Nat → Int32) (fl : Nat → Int32) (co : Nat → Int32) (sm : Nat → Int32) (wk : Nat → Int64) (sp : Nat → Int64) (b0 : Bool) (mu : Nat → Int32) (t : Nat) (htt : t < 120) (P : Nat → Int) (hg : gz P) (hcr : CRk cl t P) (hpb : ∀ y, -1000000 ≤ P y ∧ P y ≤ 1000000) (rw9 : Nat) (hrw : rw9 < 60) (hs0 : -10 ≤ (sm (3 * rw9)).toInt ∧ (sm (3 * rw9)).toInt ≤ 10) (hs1 : -10 ≤ (sm (3 * rw9 + 1)).toInt ∧ (sm (3 * rw9 + 1)).toInt ≤ 10) (hs2 : -10 ≤ (sm (3 * rw9 + 2)).toInt ∧ (sm (3 * rw9 + 2)).toInt ≤ 10) (Q : State → Prop) (kont : ∀ (M : sM)  (q : Int64), hMd G ad M (c0, t0, hd, on, tw, dp, cl, gr, r0, kd, fl, co, sm, wk, sp, b0, mu) → sSame pMd M0 M → (q.toInt = sN (valT P (sm (3 * rw9)).toInt (sm (3 * rw9 + 1)).toInt (sm (3 * rw9 + 2)).toInt) 1000) → sW X G mX4_value Q ad M 0 0 [some (.ref (ad 12 0)), some (.int (nI t)), some (.int (nI rw9)), some (.long q), none, none, none, none, none, none] 143 []) : ∀ (n x y z : Nat) (M : sM)  (q : Int64), x + y ≤ 9 → x + y + z ≤ 9 + 1 → 1400 ≤ 121 * x + 11 * y + z + n → hMd G ad M (c0, t0, hd, on, tw, dp, cl, gr, r0, kd, fl, co, sm, wk, sp, b0, mu) → sSame pMd M0 M → (q.toInt = sN (valT P (sm (3 * rw9)).toInt (sm (3 * rw9 + 1)).toInt (sm (3 * rw9 + 2)).toInt) (100 * x + 10 * y + z)) → sW X G mX4_value Q ad M 0 0 [some (.ref (ad 12 0)), some (.int (nI t)), some (.int (nI rw9)), some (.long q), none, some (.int (nI x)), some (.int (nI y)), some (.int (nI z)), none, none] 28 [] := by
  intro n
  induction n with
  | zero => intro x y z M  q hxy hxyz hn; exact absurd hn (by omega)
  | succ n ih =>
    intro x y z M  q hxy hxyz hn hm hs hv
    rcases Nat.lt_or_ge 9 (x + y + z) with hB | hB
    · rcases Nat.lt_or_ge 9 (x + y + 1) with hB2 | hB2
      · rcases Nat.lt_or_ge 9 (x + 1) with hB3 | hB3
        · refine s_iload dX4_value_28 rfl ?_
          refine s_iload dX4_value_30 rfl ?_
          refine s_iadd dX4_value_32 ?_
          refine s_eqi (y := nI (x + y)) (nI_add _ _) ?_
          refine s_iload dX4_value_33 rfl ?_
          refine s_iadd dX4_value_35 ?_
          refine s_eqi (y := nI ((x + y) + z)) (nI_add _ _) ?_
          refine s_bipush (v := 10) dX4_value_36 (by decide) ?_
          refine s_icmp_ge 131 dX4_value_38 (by decide) (fun c38 => ?_) (fun c38 => absurd (nI_le (a := 10) (by omega) (by omega)) c38)
          refine s_iinc (v := nI (y + 1)) dX4_value_131 rfl (nI_1 _) rfl ?_
          refine s_lv (lv' := [some (.ref (ad 12 0)), some (.int (nI t)), some (.int (nI rw9)), some (.long q), none, some (.int (nI x)), some (.int (nI (y + 1))), some (.int (nI z)), none, none]) rfl ?_
          refine s_goto 15 dX4_value_134 (by decide) ?_
          refine s_iload dX4_value_15 rfl ?_
          refine s_iload dX4_value_17 rfl ?_
          refine s_iadd dX4_value_19 ?_
          refine s_eqi (y := nI (x + (y + 1))) (nI_add _ _) ?_
          refine s_bipush (v := 10) dX4_value_20 (by decide) ?_
          refine s_icmp_ge 137 dX4_value_22 (by decide) (fun c22 => ?_) (fun c22 => absurd (nI_le (a := 10) (by omega) (by omega)) c22)
          refine s_iinc (v := nI (x + 1)) dX4_value_137 rfl (nI_1 _) rfl ?_
          refine s_lv (lv' := [some (.ref (ad 12 0)), some (.int (nI t)), some (.int (nI rw9)), some (.long q), none, some (.int (nI (x + 1))), some (.int (nI (y + 1))), some (.int (nI z)), none, none]) rfl ?_
          refine s_goto 5 dX4_value_140 (by decide) ?_
          refine s_iload dX4_value_5 rfl ?_
          refine s_bipush (v := 10) dX4_value_7 (by decide) ?_
          refine s_icmp_ge 143 dX4_value_9 (by decide) (fun c9 => ?_) (fun c9 => absurd (nI_le (a := 10) (by omega) (by omega)) c9)
          refine s_drop 5 ?_
          refine s_drop 6 ?_
          refine s_drop 7 ?_
          exact kont M  q hm hs (hv.trans (sN_skip (f := valT P (sm (3 * rw9)).toInt (sm (3 * rw9 + 1)).toInt (sm (3 * rw9 + 2)).toInt) (by omega) (fun w h1 h2 => valT_0 (Classical.byContradiction (fun q => absurd (hg w q).2 (by have := (skp3 hB hB2 hB3 (by omega)) w h1 h2; omega))))).symm)
        · refine s_iload dX4_value_28 rfl ?_
          refine s_iload dX4_value_30 rfl ?_
          refine s_iadd dX4_value_32 ?_
          refine s_eqi (y := nI (x + y)) (nI_add _ _) ?_
          refine s_iload dX4_value_33 rfl ?_
          refine s_iadd dX4_value_35 ?_
          refine s_eqi (y := nI ((x + y) + z)) (nI_add _ _) ?_
          refine s_bipush (v := 10) dX4_value_36 (by decide) ?_
          refine s_icmp_ge 131 dX4_value_38 (by decide) (fun c38 => ?_) (fun c38 => absurd (nI_le (a := 10) (by omega) (by omega)) c38)
          refine s_iinc (v := nI (y + 1)) dX4_value_131 rfl (nI_1 _) rfl ?_
          refine s_lv (lv' := [some (.ref (ad 12 0)), some (.int (nI t)), some (.int (nI rw9)), some (.long q), none, some (.int (nI x)), some (.int (nI (y + 1))), some (.int (nI z)), none, none]) rfl ?_
          refine s_goto 15 dX4_value_134 (by decide) ?_
          refine s_iload dX4_value_15 rfl ?_
          refine s_iload dX4_value_17 rfl ?_
          refine s_iadd dX4_value_19 ?_
          refine s_eqi (y := nI (x + (y + 1))) (nI_add _ _) ?_
          refine s_bipush (v := 10) dX4_value_20 (by decide) ?_
          refine s_icmp_ge 137 dX4_value_22 (by decide) (fun c22 => ?_) (fun c22 => absurd (nI_le (a := 10) (by omega) (by omega)) c22)
          refine s_iinc (v := nI (x + 1)) dX4_value_137 rfl (nI_1 _) rfl ?_
          refine s_lv (lv' := [some (.ref (ad 12 0)), some (.int (nI t)), some (.int (nI rw9)), some (.long q), none, some (.int (nI (x + 1))), some (.int (nI (y + 1))), some (.int (nI z)), none, none]) rfl ?_
          refine s_goto 5 dX4_value_140 (by decide) ?_
          refine s_iload dX4_value_5 rfl ?_
          refine s_bipush (v := 10) dX4_value_7 (by decide) ?_
          refine s_icmp_ge 143 dX4_value_9 (by decide) (fun c9 => absurd c9 (nI_ge (b := 10) (by omega) (by omega))) (fun c9 => ?_)
          refine s_iconst (v := 0) dX4_value_12 (by decide) ?_
          refine s_istore dX4_value_13 rfl rfl ?_
          refine s_lv (lv' := [some (.ref (ad 12 0)), some (.int (nI t)), some (.int (nI rw9)), some (.long q), none, some (.int (nI (x + 1))), some (.int 0), some (.int (nI z)), none, none]) rfl ?_
          refine s_iload dX4_value_15 rfl ?_
          refine s_iload dX4_value_17 rfl ?_
          refine s_iadd dX4_value_19 ?_
          refine s_eqi (y := nI ((x + 1) + 0)) (nI_add _ _) ?_
          refine s_bipush (v := 10) dX4_value_20 (by decide) ?_
          refine s_icmp_ge 137 dX4_value_22 (by decide) (fun c22 => absurd c22 (nI_ge (b := 10) (by omega) (by omega))) (fun c22 => ?_)
          refine s_iconst (v := 0) dX4_value_25 (by decide) ?_
          refine s_istore dX4_value_26 rfl rfl ?_
          refine s_lv (lv' := [some (.ref (ad 12 0)), some (.int (nI t)), some (.int (nI rw9)), some (.long q), none, some (.int (nI (x + 1))), some (.int 0), some (.int 0), none, none]) rfl ?_
          exact ih (x + 1) 0 0 M  q (by omega) (by omega) (by omega) hm hs (hv.trans (sN_skip (f := valT P (sm (3 * rw9)).toInt (sm (3 * rw9 + 1)).toInt (sm (3 * rw9 + 2)).toInt) (by omega) (fun w h1 h2 => valT_0 (Classical.byContradiction (fun q => absurd (hg w q).2 (by have := (skp2 hB hB2 (by omega)) w h1 h2; omega))))).symm)
      · refine s_iload dX4_value_28 rfl ?_
        refine s_iload dX4_value_30 rfl ?_
        refine s_iadd dX4_value_32 ?_
        refine s_eqi (y := nI (x + y)) (nI_add _ _) ?_
        refine s_iload dX4_value_33 rfl ?_
        refine s_iadd dX4_value_35 ?_
        refine s_eqi (y := nI ((x + y) + z)) (nI_add _ _) ?_
        refine s_bipush (v := 10) dX4_value_36 (by decide) ?_
        refine s_icmp_ge 131 dX4_value_38 (by decide) (fun c38 => ?_) (fun c38 => absurd (nI_le (a := 10) (by omega) (by omega)) c38)
        refine s_iinc (v := nI (y + 1)) dX4_value_131 rfl (nI_1 _) rfl ?_
        refine s_lv (lv' := [some (.ref (ad 12 0)), some (.int (nI t)), some (.int (nI rw9)), some (.long q), none, some (.int (nI x)), some (.int (nI (y + 1))), some (.int (nI z)), none, none]) rfl ?_
        refine s_goto 15 dX4_value_134 (by decide) ?_
        refine s_iload dX4_value_15 rfl ?_
        refine s_iload dX4_value_17 rfl ?_
        refine s_iadd dX4_value_19 ?_
        refine s_eqi (y := nI (x + (y + 1))) (nI_add _ _) ?_
        refine s_bipush (v := 10) dX4_value_20 (by decide) ?_
        refine s_icmp_ge 137 dX4_value_22 (by decide) (fun c22 => absurd c22 (nI_ge (b := 10) (by omega) (by omega))) (fun c22 => ?_)
        refine s_iconst (v := 0) dX4_value_25 (by decide) ?_
        refine s_istore dX4_value_26 rfl rfl ?_
        refine s_lv (lv' := [some (.ref (ad 12 0)), some (.int (nI t)), some (.int (nI rw9)), some (.long q), none, some (.int (nI x)), some (.int (nI (y + 1))), some (.int 0), none, none]) rfl ?_
        exact ih x (y + 1) 0 M  q (by omega) (by omega) (by omega) hm hs (hv.trans (sN_skip (f := valT P (sm (3 * rw9)).toInt (sm (3 * rw9 + 1)).toInt (sm (3 * rw9 + 2)).toInt) (by omega) (fun w h1 h2 => valT_0 (Classical.byContradiction (fun q => absurd (hg w q).2 (by have := (skp1 hB (by omega)) w h1 h2; omega))))).symm)
    · have hgd : good (100 * x + 10 * y + z) := good_dig (by omega)
      have hpd2 := pl_dig (i := x) (j := y) (k := z) (by omega) (by omega)
      have hplt := (pl_facts hgd).1
      rw [hpd2] at hplt
      have hcv := hcr.at hgd
      rw [hpd2] at hcv
      have hg1 := hgd.1
      obtain ⟨hd0, hd1, hd2⟩ := dg3_dig (x := x) (y := y) (z := z) (by omega) (by omega)
      refine s_iload dX4_value_28 rfl ?_
      refine s_iload dX4_value_30 rfl ?_
      refine s_iadd dX4_value_32 ?_
      refine s_eqi (y := nI (x + y)) (nI_add _ _) ?_
      refine s_iload dX4_value_33 rfl ?_
      refine s_iadd dX4_value_35 ?_
      refine s_eqi (y := nI ((x + y) + z)) (nI_add _ _) ?_
      refine s_bipush (v := 10) dX4_value_36 (by decide) ?_
      refine s_icmp_ge 131 dX4_value_38 (by decide) (fun c38 => absurd c38 (nI_ge (b := 10) (by omega) (by omega))) (fun c38 => ?_)
      refine s_aload_n dX4_value_41 rfl ?_
      refine s_get (kd := 12) (ix := 0) (ci := 5) (fs := [.int c0, .int (nI t0), .ref (ad 13 0), .ref (ad 14 0), .ref (ad 15 0), .ref (ad 16 0), .ref (ad 17 0), .ref (ad 18 0), .int (nI r0), .ref (ad 19 0), .ref (ad 20 0), .ref (ad 21 0), .ref (ad 22 0), .ref (ad 23 0), .ref (ad 24 0), .int (jB b0), .ref (ad 25 0)])  hm.1 rfl in_X4_value_X4 6 (by decide) (by decide +kernel) rfl rfl dX4_value_42 ?_
      refine s_sipush (v := 220) dX4_value_45 (by decide) ?_
      refine s_iload_n dX4_value_48 rfl ?_
      refine s_imul dX4_value_49 ?_
      refine s_eqi (y := nI (220 * t)) (nI_mul 220 t) ?_
      refine s_iload dX4_value_50 rfl ?_
      refine s_iload dX4_value_52 rfl ?_
      refine s_iload dX4_value_54 rfl ?_
      refine s_callS (As := [.int (nI x), .int (nI y), .int (nI z)]) (rest := [.int (nI (220 * t)), .ref (ad 17 0)]) (n := 3) (fun l hl => c_X4_place G l hl ad M x y z (by omega)) gX4_value_X4_place rfl (by decide +kernel) rfl ⟨(Nat.le_of_ble_eq_true rfl), (Nat.le_of_ble_eq_true rfl)⟩ ⟨(Nat.le_of_ble_eq_true rfl), (Nat.le_of_ble_eq_true rfl)⟩ (Nat.le_of_ble_eq_true rfl) dX4_value_56 rfl (fun r9 ad9 M9 h9 => ?_)
      obtain ⟨rfl, rfl, rfl⟩ := h9
      refine s_iadd dX4_value_59 ?_
      refine s_eqi (y := nI (220 * t + pl3 x y z)) (nI_add _ _) ?_
      refine s_iald (kd := 17) (ix := 0) (n := 26400) (f := cl) (j := 220 * t + pl3 x y z) hm.2.2.2.2.2.1 (rfl) (by omega) (by decide) dX4_value_60 ?_
      refine s_i2l dX4_value_61 ?_
      refine s_lstore dX4_value_62 rfl rfl ?_
      refine s_lv (lv' := [some (.ref (ad 12 0)), some (.int (nI t)), some (.int (nI rw9)), some (.long q), none, some (.int (nI x)), some (.int (nI y)), some (.int (nI z)), some (.long ((cl (220 * t + pl3 x y z)).toInt64)), none]) rfl ?_
      refine s_lload dX4_value_64 rfl ?_
      refine s_lconst (v := 0) dX4_value_66 (by decide) ?_
      refine s_lcmp dX4_value_67 ?_
      refine s_if_eq 125 dX4_value_68 (by decide) (fun c68 => ?_) (fun c68 => ?_)
      · refine s_iinc (v := nI (z + 1)) dX4_value_125 rfl (nI_1 _) rfl ?_
        refine s_lv (lv' := [some (.ref (ad 12 0)), some (.int (nI t)), some (.int (nI rw9)), some (.long q), none, some (.int (nI x)), some (.int (nI y)), some (.int (nI (z + 1))), some (.long ((cl (220 * t + pl3 x y z)).toInt64)), none]) rfl ?_
        refine s_goto 28 dX4_value_128 (by decide) ?_
        refine s_drop 8 ?_
        exact ih x y (z + 1) M  q (by omega) (by omega) (by omega) hm hs (hv.trans (by show _ = sN _ (100 * x + 10 * y + z) + valT P (sm (3 * rw9)).toInt (sm (3 * rw9 + 1)).toInt (sm (3 * rw9 + 2)).toInt (100 * x + 10 * y + z); rw [valT_0 (by rw [← hcv, ← i32_64, (lg_cmp_eq _ _).mp c68]; rfl)]; omega))
      · refine s_lload_n dX4_value_71 rfl ?_
        refine s_lload dX4_value_72 rfl ?_
        refine s_aload_n dX4_value_74 rfl ?_
        refine s_get (kd := 12) (ix := 0) (ci := 5) (fs := [.int c0, .int (nI t0), .ref (ad 13 0), .ref (ad 14 0), .ref (ad 15 0), .ref (ad 16 0), .ref (ad 17 0), .ref (ad 18 0), .int (nI r0), .ref (ad 19 0), .ref (ad 20 0), .ref (ad 21 0), .ref (ad 22 0), .ref (ad 23 0), .ref (ad 24 0), .int (jB b0), .ref (ad 25 0)])  hm.1 rfl in_X4_value_X4 12 (by decide) (by decide +kernel) rfl rfl dX4_value_75 ?_
        refine s_iconst (v := 3) dX4_value_78 (by decide) ?_
        refine s_iload_n dX4_value_79 rfl ?_
        refine s_imul dX4_value_80 ?_
        refine s_eqi (y := nI (3 * rw9)) (nI_mul 3 rw9) ?_
        refine s_iald (kd := 22) (ix := 0) (n := 180) (f := sm) (j := 3 * rw9) hm.2.2.2.2.2.2.2.2.2.2.1 (rfl) (by omega) (by decide) dX4_value_81 ?_
        refine s_i2l dX4_value_82 ?_
        refine s_iload dX4_value_83 rfl ?_
        refine s_callS (As := [.long ((sm (3 * rw9)).toInt64), .int (nI x)]) (rest := [.long ((cl (220 * t + pl3 x y z)).toInt64), .long q]) (n := 2) (fun l hl => c_X4_power G l hl ad M ((sm (3 * rw9)).toInt64) (by rw [i32_64]; exact hs0) x (by omega)) gX4_value_X4_power rfl (by decide +kernel) rfl ⟨(Nat.le_of_ble_eq_true rfl), (Nat.le_of_ble_eq_true rfl)⟩ ⟨(Nat.le_of_ble_eq_true rfl), (Nat.le_of_ble_eq_true rfl)⟩ (Nat.le_of_ble_eq_true rfl) dX4_value_85 rfl (fun r9 ad9 M9 h9 => ?_)
        obtain ⟨rfl, rfl, pv0, rfl, hpv0⟩ := h9
        refine s_lmul dX4_value_88 ?_
        refine s_aload_n dX4_value_89 rfl ?_
        refine s_get (kd := 12) (ix := 0) (ci := 5) (fs := [.int c0, .int (nI t0), .ref (ad 13 0), .ref (ad 14 0), .ref (ad 15 0), .ref (ad 16 0), .ref (ad 17 0), .ref (ad 18 0), .int (nI r0), .ref (ad 19 0), .ref (ad 20 0), .ref (ad 21 0), .ref (ad 22 0), .ref (ad 23 0), .ref (ad 24 0), .int (jB b0), .ref (ad 25 0)])  hm.1 rfl in_X4_value_X4 12 (by decide) (by decide +kernel) rfl rfl dX4_value_90 ?_
        refine s_iconst (v := 3) dX4_value_93 (by decide) ?_
        refine s_iload_n dX4_value_94 rfl ?_
        refine s_imul dX4_value_95 ?_
        refine s_eqi (y := nI (3 * rw9)) (nI_mul 3 rw9) ?_
        refine s_iconst (v := 1) dX4_value_96 (by decide) ?_
        refine s_iadd dX4_value_97 ?_
        refine s_eqi (y := nI (3 * rw9 + 1)) (nI_add _ _) ?_
        refine s_iald (kd := 22) (ix := 0) (n := 180) (f := sm) (j := 3 * rw9 + 1) hm.2.2.2.2.2.2.2.2.2.2.1 (rfl) (by omega) (by decide) dX4_value_98 ?_
        refine s_i2l dX4_value_99 ?_
        refine s_iload dX4_value_100 rfl ?_
        refine s_callS (As := [.long ((sm (3 * rw9 + 1)).toInt64), .int (nI y)]) (rest := [.long (((cl (220 * t + pl3 x y z)).toInt64) * pv0), .long q]) (n := 2) (fun l hl => c_X4_power G l hl ad M ((sm (3 * rw9 + 1)).toInt64) (by rw [i32_64]; exact hs1) y (by omega)) gX4_value_X4_power rfl (by decide +kernel) rfl ⟨(Nat.le_of_ble_eq_true rfl), (Nat.le_of_ble_eq_true rfl)⟩ ⟨(Nat.le_of_ble_eq_true rfl), (Nat.le_of_ble_eq_true rfl)⟩ (Nat.le_of_ble_eq_true rfl) dX4_value_102 rfl (fun r9 ad9 M9 h9 => ?_)
        obtain ⟨rfl, rfl, pv1, rfl, hpv1⟩ := h9
        refine s_lmul dX4_value_105 ?_
        refine s_aload_n dX4_value_106 rfl ?_
        refine s_get (kd := 12) (ix := 0) (ci := 5) (fs := [.int c0, .int (nI t0), .ref (ad 13 0), .ref (ad 14 0), .ref (ad 15 0), .ref (ad 16 0), .ref (ad 17 0), .ref (ad 18 0), .int (nI r0), .ref (ad 19 0), .ref (ad 20 0), .ref (ad 21 0), .ref (ad 22 0), .ref (ad 23 0), .ref (ad 24 0), .int (jB b0), .ref (ad 25 0)])  hm.1 rfl in_X4_value_X4 12 (by decide) (by decide +kernel) rfl rfl dX4_value_107 ?_
        refine s_iconst (v := 3) dX4_value_110 (by decide) ?_
        refine s_iload_n dX4_value_111 rfl ?_
        refine s_imul dX4_value_112 ?_
        refine s_eqi (y := nI (3 * rw9)) (nI_mul 3 rw9) ?_
        refine s_iconst (v := 2) dX4_value_113 (by decide) ?_
        refine s_iadd dX4_value_114 ?_
        refine s_eqi (y := nI (3 * rw9 + 2)) (nI_add _ _) ?_
        refine s_iald (kd := 22) (ix := 0) (n := 180) (f := sm) (j := 3 * rw9 + 2) hm.2.2.2.2.2.2.2.2.2.2.1 (rfl) (by omega) (by decide) dX4_value_115 ?_
        refine s_i2l dX4_value_116 ?_
        refine s_iload dX4_value_117 rfl ?_
        refine s_callS (As := [.long ((sm (3 * rw9 + 2)).toInt64), .int (nI z)]) (rest := [.long ((((cl (220 * t + pl3 x y z)).toInt64) * pv0) * pv1), .long q]) (n := 2) (fun l hl => c_X4_power G l hl ad M ((sm (3 * rw9 + 2)).toInt64) (by rw [i32_64]; exact hs2) z (by omega)) gX4_value_X4_power rfl (by decide +kernel) rfl ⟨(Nat.le_of_ble_eq_true rfl), (Nat.le_of_ble_eq_true rfl)⟩ ⟨(Nat.le_of_ble_eq_true rfl), (Nat.le_of_ble_eq_true rfl)⟩ (Nat.le_of_ble_eq_true rfl) dX4_value_119 rfl (fun r9 ad9 M9 h9 => ?_)
        obtain ⟨rfl, rfl, pv2, rfl, hpv2⟩ := h9
        refine s_lmul dX4_value_122 ?_
        refine s_ladd dX4_value_123 ?_
        refine s_lstore_n dX4_value_124 rfl rfl ?_
        refine s_lv (lv' := [some (.ref (ad 12 0)), some (.int (nI t)), some (.int (nI rw9)), some (.long (q + (((((cl (220 * t + pl3 x y z)).toInt64) * pv0) * pv1) * pv2))), none, some (.int (nI x)), some (.int (nI y)), some (.int (nI z)), some (.long ((cl (220 * t + pl3 x y z)).toInt64)), none]) rfl ?_
        refine s_iinc (v := nI (z + 1)) dX4_value_125 rfl (nI_1 _) rfl ?_
        refine s_lv (lv' := [some (.ref (ad 12 0)), some (.int (nI t)), some (.int (nI rw9)), some (.long (q + (((((cl (220 * t + pl3 x y z)).toInt64) * pv0) * pv1) * pv2))), none, some (.int (nI x)), some (.int (nI y)), some (.int (nI (z + 1))), some (.long ((cl (220 * t + pl3 x y z)).toInt64)), none]) rfl ?_
        refine s_goto 28 dX4_value_128 (by decide) ?_
        have hx9 : ((cl (220 * t + pl3 x y z)).toInt64 * pv0 * pv1 * pv2).toInt = valT P (sm (3 * rw9)).toInt (sm (3 * rw9 + 1)).toInt (sm (3 * rw9 + 2)).toInt (100 * x + 10 * y + z) := by
          unfold valT
          rw [hd0, hd1, hd2]
          exact v3 (by rw [i32_64]; exact hcv) (by rw [hpv0, i32_64]) (by rw [hpv1, i32_64]) (by rw [hpv2, i32_64]) (hpb _) hs0 hs1 hs2 (by omega)
        have hq1 := sN_abs (g := valT P (sm (3 * rw9)).toInt (sm (3 * rw9 + 1)).toInt (sm (3 * rw9 + 2)).toInt) (W := 1000000 * 10 ^ 9) (n := (100 * x + 10 * y + z)) (fun a _ => valT_b hpb hg hs0 hs1 hs2 a)
        have hq2 := valT_b hpb hg hs0 hs1 hs2 (100 * x + 10 * y + z)
        refine s_drop 8 ?_
        exact ih x y (z + 1) M  (q + (((((cl (220 * t + pl3 x y z)).toInt64) * pv0) * pv1) * pv2)) (by omega) (by omega) (by omega) hm hs (by
          rw [i64_add (by rw [hv, hx9]; omega) (by rw [hv, hx9]; omega), hv, hx9]
          rfl)
set_option maxHeartbeats 4000000 in
set_option maxRecDepth 100000 in
theorem c_X4_value (G : sG) (l : Launch) (hl : l.stackTraces = false) (ad : sAd) (M : sM) (c0 : Int32) (t0 : Nat) (hd : Nat → Int32) (on : Nat → Int32) (tw : Nat → Int32) (dp : Nat → Int32) (cl : Nat → Int32) (gr : Nat → Int32) (r0 : Nat) (kd : Nat → Int32) (fl : Nat → Int32) (co : Nat → Int32) (sm : Nat → Int32) (wk : Nat → Int64) (sp : Nat → Int64) (b0 : Bool) (mu : Nat → Int32) (hm : hMd G ad M (c0, t0, hd, on, tw, dp, cl, gr, r0, kd, fl, co, sm, wk, sp, b0, mu)) (t : Nat) (htt : t < 120) (P : Nat → Int) (hg : gz P) (hcr : CRk cl t P) (hpb : ∀ y, -1000000 ≤ P y ∧ P y ≤ 1000000) (rw9 : Nat) (hrw : rw9 < 60) (hs0 : -10 ≤ (sm (3 * rw9)).toInt ∧ (sm (3 * rw9)).toInt ≤ 10) (hs1 : -10 ≤ (sm (3 * rw9 + 1)).toInt ∧ (sm (3 * rw9 + 1)).toInt ≤ 10) (hs2 : -10 ≤ (sm (3 * rw9 + 2)).toInt ∧ (sm (3 * rw9 + 2)).toInt ≤ 10) : sMet G l yX4_value mX4_value [.ref (ad 12 0), .int (nI t), .int (nI rw9)] ad M (fun r ad' M' => ad = ad' ∧ hMd G ad M' (c0, t0, hd, on, tw, dp, cl, gr, r0, kd, fl, co, sm, wk, sp, b0, mu) ∧ sSame pMd M M' ∧ ∃ q : Int64, r = some (.long q) ∧ q.toInt = val3 P (sm (3 * rw9)).toInt (sm (3 * rw9 + 1)).toInt (sm (3 * rw9 + 2)).toInt) (fun _ _ _ => False) := by
  refine sMet.of hl (by decide +kernel) rfl rfl rfl rfl (Nat.le_of_ble_eq_true rfl) (fun X => ?_)
  refine s_lv (lv' := [some (.ref (ad 12 0)), some (.int (nI t)), some (.int (nI rw9)), none, none, none, none, none, none, none]) rfl ?_
  refine s_lconst (v := 0) dX4_value_0 (by decide) ?_
  refine s_lstore_n dX4_value_1 rfl rfl ?_
  refine s_lv (lv' := [some (.ref (ad 12 0)), some (.int (nI t)), some (.int (nI rw9)), some (.long 0), none, none, none, none, none, none]) rfl ?_
  refine s_iconst (v := 0) dX4_value_2 (by decide) ?_
  refine s_istore dX4_value_3 rfl rfl ?_
  refine s_lv (lv' := [some (.ref (ad 12 0)), some (.int (nI t)), some (.int (nI rw9)), some (.long 0), none, some (.int 0), none, none, none, none]) rfl ?_
  refine s_iload dX4_value_5 rfl ?_
  refine s_bipush (v := 10) dX4_value_7 (by decide) ?_
  refine s_icmp_ge 143 dX4_value_9 (by decide) (fun c9 => absurd c9 (by decide)) (fun c9 => ?_)
  refine s_iconst (v := 0) dX4_value_12 (by decide) ?_
  refine s_istore dX4_value_13 rfl rfl ?_
  refine s_lv (lv' := [some (.ref (ad 12 0)), some (.int (nI t)), some (.int (nI rw9)), some (.long 0), none, some (.int 0), some (.int 0), none, none, none]) rfl ?_
  refine s_iload dX4_value_15 rfl ?_
  refine s_iload dX4_value_17 rfl ?_
  refine s_iadd dX4_value_19 ?_
  refine s_eqi (y := nI (0 + 0)) (nI_add _ _) ?_
  refine s_bipush (v := 10) dX4_value_20 (by decide) ?_
  refine s_icmp_ge 137 dX4_value_22 (by decide) (fun c22 => absurd c22 (nI_ge (b := 10) (by omega) (by omega))) (fun c22 => ?_)
  refine s_iconst (v := 0) dX4_value_25 (by decide) ?_
  refine s_istore dX4_value_26 rfl rfl ?_
  refine s_lv (lv' := [some (.ref (ad 12 0)), some (.int (nI t)), some (.int (nI rw9)), some (.long 0), none, some (.int 0), some (.int 0), some (.int 0), none, none]) rfl ?_
  refine l_X4_value X G ad M c0 t0 hd on tw dp cl gr r0 kd fl co sm wk sp b0 mu t htt P hg hcr hpb rw9 hrw hs0 hs1 hs2 _ (fun M14  q14 hm14 hs14 hv14 => ?_) 1400 0 0 0 M  0 (by omega) (by omega) (by omega) ⟨hm.1, hm.2.1, hm.2.2.1, hm.2.2.2.1, hm.2.2.2.2.1, hm.2.2.2.2.2.1, hm.2.2.2.2.2.2.1, hm.2.2.2.2.2.2.2.1, hm.2.2.2.2.2.2.2.2.1, hm.2.2.2.2.2.2.2.2.2.1, hm.2.2.2.2.2.2.2.2.2.2.1, hm.2.2.2.2.2.2.2.2.2.2.2.1, hm.2.2.2.2.2.2.2.2.2.2.2.2.1, hm.2.2.2.2.2.2.2.2.2.2.2.2.2⟩ sSame.rfl (rfl)
  refine s_lload_n dX4_value_143 rfl ?_
  exact s_lret rfl dX4_value_144 (Nat.le_of_ble_eq_true rfl) (Nat.le_of_ble_eq_true rfl) (⟨rfl, hm14, hs14, q14, rfl, hv14⟩)
abbrev mX4_isSlope : sMeth := (cX4_isSlope, 9, RX4, wsX4_isSlope, { frames := 2, cells := 0, slots := 0, locals := 42 }, (some .boolean), "isSlope", [])
theorem in_X4_isSlope_X4 : ∀ w ∈ wsX40, w ∈ wsX4_isSlope := by decide +kernel
set_option maxHeartbeats 4000000 in
set_option maxRecDepth 100000 in
theorem l_X4_isSlope0 (X : sMach) (G : sG) (ad : sAd) (M0 : sM) (c0 : Int32) (t0 : Nat) (hd : Nat → Int32) (on : Nat → Int32) (tw : Nat → Int32) (dp : Nat → Int32) (cl : Nat → Int32) (gr : Nat → Int32) (r0 : Nat) (kd : Nat → Int32) (fl : Nat → Int32) (co : Nat → Int32) (sm : Nat → Int32) (sp : Nat → Int64) (b0 : Bool) (mu : Nat → Int32) (t tb lt : Nat) (Q : State → Prop) (kont : ∀ (M : sM) (wk : Nat → Int64) , hMd G ad M (c0, t0, hd, on, tw, dp, cl, gr, r0, kd, fl, co, sm, wk, sp, b0, mu) → sSame pMd M0 M → z220 wk 220 → sW X G mX4_isSlope Q ad M 0 0 [some (.ref (ad 12 0)), some (.int (nI t)), some (.int (nI tb)), some (.int (nI lt)), none, none, none, none, none] 25 []) : ∀ (k i : Nat) (M : sM) (wk : Nat → Int64) , i + k = 220 → hMd G ad M (c0, t0, hd, on, tw, dp, cl, gr, r0, kd, fl, co, sm, wk, sp, b0, mu) → sSame pMd M0 M → z220 wk i → sW X G mX4_isSlope Q ad M 0 0 [some (.ref (ad 12 0)), some (.int (nI t)), some (.int (nI tb)), some (.int (nI lt)), some (.int (nI i)), none, none, none, none] 3 [] := by
  intro k
  induction k with
  | zero =>
    intro i M wk  hi hm hs hv
    refine s_iload dX4_isSlope_3 rfl ?_
    refine s_sipush (v := 220) dX4_isSlope_5 (by decide) ?_
    refine s_icmp_ge 25 dX4_isSlope_8 (by decide) (fun c8 => ?_) (fun c8 => absurd (nI_le (a := 220) (by omega) (by omega)) c8)
    refine s_drop 4 ?_
    exact kont M wk  hm hs (by rw [show i = 220 by omega] at hv; exact hv)
  | succ k ih =>
    intro i M wk  hi hm hs hv
    refine s_iload dX4_isSlope_3 rfl ?_
    refine s_sipush (v := 220) dX4_isSlope_5 (by decide) ?_
    refine s_icmp_ge 25 dX4_isSlope_8 (by decide) (fun c8 => absurd c8 (nI_ge (b := 220) (by omega) (by omega))) (fun c8 => ?_)
    refine s_aload_n dX4_isSlope_11 rfl ?_
    refine s_get (kd := 12) (ix := 0) (ci := 5) (fs := [.int c0, .int (nI t0), .ref (ad 13 0), .ref (ad 14 0), .ref (ad 15 0), .ref (ad 16 0), .ref (ad 17 0), .ref (ad 18 0), .int (nI r0), .ref (ad 19 0), .ref (ad 20 0), .ref (ad 21 0), .ref (ad 22 0), .ref (ad 23 0), .ref (ad 24 0), .int (jB b0), .ref (ad 25 0)])  hm.1 rfl in_X4_isSlope_X4 13 (by decide) (by decide +kernel) rfl rfl dX4_isSlope_12 ?_
    refine s_iload dX4_isSlope_15 rfl ?_
    refine s_lconst (v := 0) dX4_isSlope_17 (by decide) ?_
    refine s_last (kd := 23) (ix := 0) (n := 220) (f := wk) (j := i) (x := 0) hm.2.2.2.2.2.2.2.2.2.2.2.1  (rfl) (by omega) (by decide) dX4_isSlope_18 ?_
    refine s_iinc (v := nI (i + 1)) dX4_isSlope_19 rfl (nI_1 i) rfl ?_
    refine s_lv (lv' := [some (.ref (ad 12 0)), some (.int (nI t)), some (.int (nI tb)), some (.int (nI lt)), some (.int (nI (i + 1))), none, none, none, none]) rfl ?_
    refine s_goto 3 dX4_isSlope_22 (by decide) ?_
    exact ih (i + 1) (sset M 23 0 (.inl (gJ G, 220, .inr (.inl (vp_updL wk i 0))))) (vp_updL wk i 0)  (by omega) ⟨((sset_k _ _ (by decide)).trans (hm.1)), ((sset_k _ _ (by decide)).trans (hm.2.1)), ((sset_k _ _ (by decide)).trans (hm.2.2.1)), ((sset_k _ _ (by decide)).trans (hm.2.2.2.1)), ((sset_k _ _ (by decide)).trans (hm.2.2.2.2.1)), ((sset_k _ _ (by decide)).trans (hm.2.2.2.2.2.1)), ((sset_k _ _ (by decide)).trans (hm.2.2.2.2.2.2.1)), ((sset_k _ _ (by decide)).trans (hm.2.2.2.2.2.2.2.1)), ((sset_k _ _ (by decide)).trans (hm.2.2.2.2.2.2.2.2.1)), ((sset_k _ _ (by decide)).trans (hm.2.2.2.2.2.2.2.2.2.1)), ((sset_k _ _ (by decide)).trans (hm.2.2.2.2.2.2.2.2.2.2.1)), (sset_self _ _ _ _), ((sset_k _ _ (by decide)).trans (hm.2.2.2.2.2.2.2.2.2.2.2.2.1)), ((sset_k _ _ (by decide)).trans (hm.2.2.2.2.2.2.2.2.2.2.2.2.2))⟩ (hs |>.set (P := pMd) (by simp [pMd]) _) (hv.step)
set_option maxHeartbeats 4000000 in
set_option maxRecDepth 100000 in
theorem l_X4_isSlope (X : sMach) (G : sG) (ad : sAd) (M0 : sM) (c0 : Int32) (t0 : Nat) (hd : Nat → Int32) (on : Nat → Int32) (tw : Nat → Int32) (dp : Nat → Int32) (cl : Nat → Int32) (gr : Nat → Int32) (r0 : Nat) (kd : Nat → Int32) (fl : Nat → Int32) (co : Nat → Int32) (sm : Nat → Int32) (sp : Nat → Int64) (b0 : Bool) (mu : Nat → Int32) (t : Nat) (htt : t < 120) (P : Nat → Int) (hg : gz P) (hcr : CRk cl t P) (hpb : ∀ y, -1000000 ≤ P y ∧ P y ≤ 1000000) (tb lt : Nat) (hl2 : lt ≤ 2) (Q : State → Prop) (kont : ∀ (M : sM) (wk : Nat → Int64) , hMd G ad M (c0, t0, hd, on, tw, dp, cl, gr, r0, kd, fl, co, sm, wk, sp, b0, mu) → sSame pMd M0 M → WRk wk (fun u9 => 0 + sN ((derT lt P) u9) 1000) → sW X G mX4_isSlope Q ad M 0 0 [some (.ref (ad 12 0)), some (.int (nI t)), some (.int (nI tb)), some (.int (nI lt)), none, none, none, none, none] 195 []) : ∀ (n x y z : Nat) (M : sM) (wk : Nat → Int64) , x + y ≤ 9 → x + y + z ≤ 9 + 1 → 1400 ≤ 121 * x + 11 * y + z + n → hMd G ad M (c0, t0, hd, on, tw, dp, cl, gr, r0, kd, fl, co, sm, wk, sp, b0, mu) → sSame pMd M0 M → WRk wk (fun u9 => 0 + sN ((derT lt P) u9) (100 * x + 10 * y + z)) → sW X G mX4_isSlope Q ad M 0 0 [some (.ref (ad 12 0)), some (.int (nI t)), some (.int (nI tb)), some (.int (nI lt)), some (.int (nI x)), some (.int (nI y)), some (.int (nI z)), none, none] 51 [] := by
  intro n
  induction n with
  | zero => intro x y z M wk  hxy hxyz hn; exact absurd hn (by omega)
  | succ n ih =>
    intro x y z M wk  hxy hxyz hn hm hs hv
    rcases Nat.lt_or_ge 9 (x + y + z) with hB | hB
    · rcases Nat.lt_or_ge 9 (x + y + 1) with hB2 | hB2
      · rcases Nat.lt_or_ge 9 (x + 1) with hB3 | hB3
        · refine s_iload dX4_isSlope_51 rfl ?_
          refine s_iload dX4_isSlope_53 rfl ?_
          refine s_iadd dX4_isSlope_55 ?_
          refine s_eqi (y := nI (x + y)) (nI_add _ _) ?_
          refine s_iload dX4_isSlope_56 rfl ?_
          refine s_iadd dX4_isSlope_58 ?_
          refine s_eqi (y := nI ((x + y) + z)) (nI_add _ _) ?_
          refine s_bipush (v := 10) dX4_isSlope_59 (by decide) ?_
          refine s_icmp_ge 183 dX4_isSlope_61 (by decide) (fun c61 => ?_) (fun c61 => absurd (nI_le (a := 10) (by omega) (by omega)) c61)
          refine s_iinc (v := nI (y + 1)) dX4_isSlope_183 rfl (nI_1 _) rfl ?_
          refine s_lv (lv' := [some (.ref (ad 12 0)), some (.int (nI t)), some (.int (nI tb)), some (.int (nI lt)), some (.int (nI x)), some (.int (nI (y + 1))), some (.int (nI z)), none, none]) rfl ?_
          refine s_goto 38 dX4_isSlope_186 (by decide) ?_
          refine s_iload dX4_isSlope_38 rfl ?_
          refine s_iload dX4_isSlope_40 rfl ?_
          refine s_iadd dX4_isSlope_42 ?_
          refine s_eqi (y := nI (x + (y + 1))) (nI_add _ _) ?_
          refine s_bipush (v := 10) dX4_isSlope_43 (by decide) ?_
          refine s_icmp_ge 189 dX4_isSlope_45 (by decide) (fun c45 => ?_) (fun c45 => absurd (nI_le (a := 10) (by omega) (by omega)) c45)
          refine s_iinc (v := nI (x + 1)) dX4_isSlope_189 rfl (nI_1 _) rfl ?_
          refine s_lv (lv' := [some (.ref (ad 12 0)), some (.int (nI t)), some (.int (nI tb)), some (.int (nI lt)), some (.int (nI (x + 1))), some (.int (nI (y + 1))), some (.int (nI z)), none, none]) rfl ?_
          refine s_goto 28 dX4_isSlope_192 (by decide) ?_
          refine s_iload dX4_isSlope_28 rfl ?_
          refine s_bipush (v := 10) dX4_isSlope_30 (by decide) ?_
          refine s_icmp_ge 195 dX4_isSlope_32 (by decide) (fun c32 => ?_) (fun c32 => absurd (nI_le (a := 10) (by omega) (by omega)) c32)
          refine s_drop 4 ?_
          refine s_drop 5 ?_
          refine s_drop 6 ?_
          exact kont M wk  hm hs (WRk.skip (T := (derT lt P)) (f := fun _ => 0) (B := 9) hv (by omega) (skp3 hB hB2 hB3 (by omega)) (fun y w hw => derT_0 (Classical.byContradiction (fun q => absurd (hg w q).2 (by omega))) y))
        · refine s_iload dX4_isSlope_51 rfl ?_
          refine s_iload dX4_isSlope_53 rfl ?_
          refine s_iadd dX4_isSlope_55 ?_
          refine s_eqi (y := nI (x + y)) (nI_add _ _) ?_
          refine s_iload dX4_isSlope_56 rfl ?_
          refine s_iadd dX4_isSlope_58 ?_
          refine s_eqi (y := nI ((x + y) + z)) (nI_add _ _) ?_
          refine s_bipush (v := 10) dX4_isSlope_59 (by decide) ?_
          refine s_icmp_ge 183 dX4_isSlope_61 (by decide) (fun c61 => ?_) (fun c61 => absurd (nI_le (a := 10) (by omega) (by omega)) c61)
          refine s_iinc (v := nI (y + 1)) dX4_isSlope_183 rfl (nI_1 _) rfl ?_
          refine s_lv (lv' := [some (.ref (ad 12 0)), some (.int (nI t)), some (.int (nI tb)), some (.int (nI lt)), some (.int (nI x)), some (.int (nI (y + 1))), some (.int (nI z)), none, none]) rfl ?_
          refine s_goto 38 dX4_isSlope_186 (by decide) ?_
          refine s_iload dX4_isSlope_38 rfl ?_
          refine s_iload dX4_isSlope_40 rfl ?_
          refine s_iadd dX4_isSlope_42 ?_
          refine s_eqi (y := nI (x + (y + 1))) (nI_add _ _) ?_
          refine s_bipush (v := 10) dX4_isSlope_43 (by decide) ?_
          refine s_icmp_ge 189 dX4_isSlope_45 (by decide) (fun c45 => ?_) (fun c45 => absurd (nI_le (a := 10) (by omega) (by omega)) c45)
          refine s_iinc (v := nI (x + 1)) dX4_isSlope_189 rfl (nI_1 _) rfl ?_
          refine s_lv (lv' := [some (.ref (ad 12 0)), some (.int (nI t)), some (.int (nI tb)), some (.int (nI lt)), some (.int (nI (x + 1))), some (.int (nI (y + 1))), some (.int (nI z)), none, none]) rfl ?_
          refine s_goto 28 dX4_isSlope_192 (by decide) ?_
          refine s_iload dX4_isSlope_28 rfl ?_
          refine s_bipush (v := 10) dX4_isSlope_30 (by decide) ?_
          refine s_icmp_ge 195 dX4_isSlope_32 (by decide) (fun c32 => absurd c32 (nI_ge (b := 10) (by omega) (by omega))) (fun c32 => ?_)
          refine s_iconst (v := 0) dX4_isSlope_35 (by decide) ?_
          refine s_istore dX4_isSlope_36 rfl rfl ?_
          refine s_lv (lv' := [some (.ref (ad 12 0)), some (.int (nI t)), some (.int (nI tb)), some (.int (nI lt)), some (.int (nI (x + 1))), some (.int 0), some (.int (nI z)), none, none]) rfl ?_
          refine s_iload dX4_isSlope_38 rfl ?_
          refine s_iload dX4_isSlope_40 rfl ?_
          refine s_iadd dX4_isSlope_42 ?_
          refine s_eqi (y := nI ((x + 1) + 0)) (nI_add _ _) ?_
          refine s_bipush (v := 10) dX4_isSlope_43 (by decide) ?_
          refine s_icmp_ge 189 dX4_isSlope_45 (by decide) (fun c45 => absurd c45 (nI_ge (b := 10) (by omega) (by omega))) (fun c45 => ?_)
          refine s_iconst (v := 0) dX4_isSlope_48 (by decide) ?_
          refine s_istore dX4_isSlope_49 rfl rfl ?_
          refine s_lv (lv' := [some (.ref (ad 12 0)), some (.int (nI t)), some (.int (nI tb)), some (.int (nI lt)), some (.int (nI (x + 1))), some (.int 0), some (.int 0), none, none]) rfl ?_
          exact ih (x + 1) 0 0 M wk  (by omega) (by omega) (by omega) hm hs (WRk.skip (T := (derT lt P)) (f := fun _ => 0) (B := 9) hv (by omega) (skp2 hB hB2 (by omega)) (fun y w hw => derT_0 (Classical.byContradiction (fun q => absurd (hg w q).2 (by omega))) y))
      · refine s_iload dX4_isSlope_51 rfl ?_
        refine s_iload dX4_isSlope_53 rfl ?_
        refine s_iadd dX4_isSlope_55 ?_
        refine s_eqi (y := nI (x + y)) (nI_add _ _) ?_
        refine s_iload dX4_isSlope_56 rfl ?_
        refine s_iadd dX4_isSlope_58 ?_
        refine s_eqi (y := nI ((x + y) + z)) (nI_add _ _) ?_
        refine s_bipush (v := 10) dX4_isSlope_59 (by decide) ?_
        refine s_icmp_ge 183 dX4_isSlope_61 (by decide) (fun c61 => ?_) (fun c61 => absurd (nI_le (a := 10) (by omega) (by omega)) c61)
        refine s_iinc (v := nI (y + 1)) dX4_isSlope_183 rfl (nI_1 _) rfl ?_
        refine s_lv (lv' := [some (.ref (ad 12 0)), some (.int (nI t)), some (.int (nI tb)), some (.int (nI lt)), some (.int (nI x)), some (.int (nI (y + 1))), some (.int (nI z)), none, none]) rfl ?_
        refine s_goto 38 dX4_isSlope_186 (by decide) ?_
        refine s_iload dX4_isSlope_38 rfl ?_
        refine s_iload dX4_isSlope_40 rfl ?_
        refine s_iadd dX4_isSlope_42 ?_
        refine s_eqi (y := nI (x + (y + 1))) (nI_add _ _) ?_
        refine s_bipush (v := 10) dX4_isSlope_43 (by decide) ?_
        refine s_icmp_ge 189 dX4_isSlope_45 (by decide) (fun c45 => absurd c45 (nI_ge (b := 10) (by omega) (by omega))) (fun c45 => ?_)
        refine s_iconst (v := 0) dX4_isSlope_48 (by decide) ?_
        refine s_istore dX4_isSlope_49 rfl rfl ?_
        refine s_lv (lv' := [some (.ref (ad 12 0)), some (.int (nI t)), some (.int (nI tb)), some (.int (nI lt)), some (.int (nI x)), some (.int (nI (y + 1))), some (.int 0), none, none]) rfl ?_
        exact ih x (y + 1) 0 M wk  (by omega) (by omega) (by omega) hm hs (WRk.skip (T := (derT lt P)) (f := fun _ => 0) (B := 9) hv (by omega) (skp1 hB (by omega)) (fun y w hw => derT_0 (Classical.byContradiction (fun q => absurd (hg w q).2 (by omega))) y))
    · have hgd : good (100 * x + 10 * y + z) := good_dig (by omega)
      have hpd2 := pl_dig (i := x) (j := y) (k := z) (by omega) (by omega)
      have hplt := (pl_facts hgd).1
      rw [hpd2] at hplt
      have hcv := hcr.at hgd
      rw [hpd2] at hcv
      have hg1 := hgd.1
      obtain ⟨hd0, hd1, hd2⟩ := dg3_dig (x := x) (y := y) (z := z) (by omega) (by omega)
      refine s_iload dX4_isSlope_51 rfl ?_
      refine s_iload dX4_isSlope_53 rfl ?_
      refine s_iadd dX4_isSlope_55 ?_
      refine s_eqi (y := nI (x + y)) (nI_add _ _) ?_
      refine s_iload dX4_isSlope_56 rfl ?_
      refine s_iadd dX4_isSlope_58 ?_
      refine s_eqi (y := nI ((x + y) + z)) (nI_add _ _) ?_
      refine s_bipush (v := 10) dX4_isSlope_59 (by decide) ?_
      refine s_icmp_ge 183 dX4_isSlope_61 (by decide) (fun c61 => absurd c61 (nI_ge (b := 10) (by omega) (by omega))) (fun c61 => ?_)
      refine s_iload_n dX4_isSlope_64 rfl ?_
      refine s_if_ne 73 dX4_isSlope_65 (by decide) (fun c65 => ?_) (fun c65 => ?_)
      · refine s_iload_n dX4_isSlope_73 rfl ?_
        refine s_iconst (v := 1) dX4_isSlope_74 (by decide) ?_
        refine s_icmp_ne 83 dX4_isSlope_75 (by decide) (fun c75 => ?_) (fun c75 => ?_)
        · refine s_iload dX4_isSlope_83 rfl ?_
          refine s_istore dX4_isSlope_85 rfl rfl ?_
          refine s_lv (lv' := [some (.ref (ad 12 0)), some (.int (nI t)), some (.int (nI tb)), some (.int (nI lt)), some (.int (nI x)), some (.int (nI y)), some (.int (nI z)), some (.int (nI z)), none]) rfl ?_
          refine s_iload dX4_isSlope_87 rfl ?_
          refine s_if_ne 95 dX4_isSlope_89 (by decide) (fun c89 => ?_) (fun c89 => ?_)
          · have hlt : lt = 2 := (by have q1 : lt ≠ 0 := fun e => c65 (by rw [e]; rfl); have q2 : lt ≠ 1 := fun e => c75 (by rw [e]; rfl); omega : lt = 2)
            have hd9 : 1 ≤ z := Nat.pos_of_ne_zero (fun e => c89 (by rw [e]; rfl))
            refine s_iload_n dX4_isSlope_95 rfl ?_
            refine s_if_ne 113 dX4_isSlope_96 (by decide) (fun c96 => ?_) (fun c96 => absurd c96 (c65))
            refine s_iload_n dX4_isSlope_113 rfl ?_
            refine s_iconst (v := 1) dX4_isSlope_114 (by decide) ?_
            refine s_icmp_ne 132 dX4_isSlope_115 (by decide) (fun c115 => ?_) (fun c115 => absurd c115 (c75))
            refine s_iload dX4_isSlope_132 rfl ?_
            refine s_iload dX4_isSlope_134 rfl ?_
            refine s_iload dX4_isSlope_136 rfl ?_
            refine s_iconst (v := 1) dX4_isSlope_138 (by decide) ?_
            refine s_isub dX4_isSlope_139 ?_
            refine s_eqi (y := nI (z - 1)) (nI_sub (by omega)) ?_
            refine s_callS (As := [.int (nI x), .int (nI y), .int (nI (z - 1))]) (rest := []) (n := 3) (fun l hl => c_X4_place G l hl ad M x y (z - 1) (by omega)) gX4_isSlope_X4_place rfl (by decide +kernel) rfl ⟨(Nat.le_of_ble_eq_true rfl), (Nat.le_of_ble_eq_true rfl)⟩ ⟨(Nat.le_of_ble_eq_true rfl), (Nat.le_of_ble_eq_true rfl)⟩ (Nat.le_of_ble_eq_true rfl) dX4_isSlope_140 rfl (fun r9 ad9 M9 h9 => ?_)
            obtain ⟨rfl, rfl, rfl⟩ := h9
            refine s_istore dX4_isSlope_143 rfl rfl ?_
            refine s_lv (lv' := [some (.ref (ad 12 0)), some (.int (nI t)), some (.int (nI tb)), some (.int (nI lt)), some (.int (nI x)), some (.int (nI y)), some (.int (nI z)), some (.int (nI z)), some (.int (nI (pl3 x y (z - 1))))]) rfl ?_
            have hgq : good (100 * x + 10 * y + (z - 1)) := good_dig (by omega)
            have hpq := pl_dig (i := x) (j := y) (k := z - 1) (by omega) (by omega)
            have hql := (pl_facts hgq).1
            rw [hpq] at hql
            refine s_aload_n dX4_isSlope_145 rfl ?_
            refine s_get (kd := 12) (ix := 0) (ci := 5) (fs := [.int c0, .int (nI t0), .ref (ad 13 0), .ref (ad 14 0), .ref (ad 15 0), .ref (ad 16 0), .ref (ad 17 0), .ref (ad 18 0), .int (nI r0), .ref (ad 19 0), .ref (ad 20 0), .ref (ad 21 0), .ref (ad 22 0), .ref (ad 23 0), .ref (ad 24 0), .int (jB b0), .ref (ad 25 0)])  hm.1 rfl in_X4_isSlope_X4 13 (by decide) (by decide +kernel) rfl rfl dX4_isSlope_146 ?_
            refine s_iload dX4_isSlope_149 rfl ?_
            refine s_iload dX4_isSlope_151 rfl ?_
            refine s_i2l dX4_isSlope_153 ?_
            refine s_aload_n dX4_isSlope_154 rfl ?_
            refine s_get (kd := 12) (ix := 0) (ci := 5) (fs := [.int c0, .int (nI t0), .ref (ad 13 0), .ref (ad 14 0), .ref (ad 15 0), .ref (ad 16 0), .ref (ad 17 0), .ref (ad 18 0), .int (nI r0), .ref (ad 19 0), .ref (ad 20 0), .ref (ad 21 0), .ref (ad 22 0), .ref (ad 23 0), .ref (ad 24 0), .int (jB b0), .ref (ad 25 0)])  hm.1 rfl in_X4_isSlope_X4 6 (by decide) (by decide +kernel) rfl rfl dX4_isSlope_155 ?_
            refine s_sipush (v := 220) dX4_isSlope_158 (by decide) ?_
            refine s_iload_n dX4_isSlope_161 rfl ?_
            refine s_imul dX4_isSlope_162 ?_
            refine s_eqi (y := nI (220 * t)) (nI_mul 220 t) ?_
            refine s_iload dX4_isSlope_163 rfl ?_
            refine s_iload dX4_isSlope_165 rfl ?_
            refine s_iload dX4_isSlope_167 rfl ?_
            refine s_callS (As := [.int (nI x), .int (nI y), .int (nI z)]) (rest := [.int (nI (220 * t)), .ref (ad 17 0), .long ((nI z).toInt64), .int (nI (pl3 x y (z - 1))), .ref (ad 23 0)]) (n := 3) (fun l hl => c_X4_place G l hl ad M x y z (by omega)) gX4_isSlope_X4_place rfl (by decide +kernel) rfl ⟨(Nat.le_of_ble_eq_true rfl), (Nat.le_of_ble_eq_true rfl)⟩ ⟨(Nat.le_of_ble_eq_true rfl), (Nat.le_of_ble_eq_true rfl)⟩ (Nat.le_of_ble_eq_true rfl) dX4_isSlope_169 rfl (fun r9 ad9 M9 h9 => ?_)
            obtain ⟨rfl, rfl, rfl⟩ := h9
            refine s_iadd dX4_isSlope_172 ?_
            refine s_eqi (y := nI (220 * t + pl3 x y z)) (nI_add _ _) ?_
            refine s_iald (kd := 17) (ix := 0) (n := 26400) (f := cl) (j := 220 * t + pl3 x y z) hm.2.2.2.2.2.1 (rfl) (by omega) (by decide) dX4_isSlope_173 ?_
            refine s_i2l dX4_isSlope_174 ?_
            refine s_lmul dX4_isSlope_175 ?_
            refine s_last (kd := 23) (ix := 0) (n := 220) (f := wk) (j := pl3 x y (z - 1)) (x := ((nI z).toInt64) * ((cl (220 * t + pl3 x y z)).toInt64)) hm.2.2.2.2.2.2.2.2.2.2.2.1  (rfl) (hql) (by decide) dX4_isSlope_176 ?_
            refine s_iinc (v := nI (z + 1)) dX4_isSlope_177 rfl (nI_1 _) rfl ?_
            refine s_lv (lv' := [some (.ref (ad 12 0)), some (.int (nI t)), some (.int (nI tb)), some (.int (nI lt)), some (.int (nI x)), some (.int (nI y)), some (.int (nI (z + 1))), some (.int (nI z)), some (.int (nI (pl3 x y (z - 1))))]) rfl ?_
            refine s_goto 51 dX4_isSlope_180 (by decide) ?_
            have hqe : (100 * x + 10 * y + z) - kl3 lt = (100 * x + 10 * y + (z - 1)) := by
              rw [hlt]
              show (100 * x + 10 * y + z) - 1 = (100 * x + 10 * y + (z - 1))
              omega
            have hpx := hpb (100 * x + 10 * y + z)
            have hdv : dg3 lt (100 * x + 10 * y + z) = z := by rw [hlt]; exact hd2
            have hmb := mul_bnd (A := 9) (B := 1000000) (x := (z : Int)) (by omega) (by omega) (by omega) hpx
            have hnew : ((nI z).toInt64 * (cl (220 * t + pl3 x y z)).toInt64).toInt = 0 + sN ((derT lt P) (100 * x + 10 * y + (z - 1))) (100 * x + 10 * y + z) + (derT lt P) (100 * x + 10 * y + (z - 1)) (100 * x + 10 * y + z) := by
              rw [← hqe, derT_low (by omega) (by rw [hlt]; show 1 ≤ (100 * x + 10 * y + z); omega), show (derT lt P) ((100 * x + 10 * y + z) - kl3 lt) (100 * x + 10 * y + z) = (dg3 lt (100 * x + 10 * y + z) : Int) * P (100 * x + 10 * y + z) from if_pos rfl, hdv]
              rw [i64_mul (by rw [i32_64, i32_64, hcv, nI_toInt (by omega)]; omega) (by rw [i32_64, i32_64, hcv, nI_toInt (by omega)]; omega), i32_64, i32_64, hcv, nI_toInt (by omega)]
              omega
            refine s_drop 7 ?_
            refine s_drop 8 ?_
            exact ih x y (z + 1) (sset M 23 0 (.inl (gJ G, 220, .inr (.inl (vp_updL wk (pl3 x y (z - 1)) (((nI z).toInt64) * ((cl (220 * t + pl3 x y z)).toInt64))))))) (vp_updL wk (pl3 x y (z - 1)) (((nI z).toInt64) * ((cl (220 * t + pl3 x y z)).toInt64)))  (by omega) (by omega) (by omega) ⟨((sset_k _ _ (by decide)).trans (hm.1)), ((sset_k _ _ (by decide)).trans (hm.2.1)), ((sset_k _ _ (by decide)).trans (hm.2.2.1)), ((sset_k _ _ (by decide)).trans (hm.2.2.2.1)), ((sset_k _ _ (by decide)).trans (hm.2.2.2.2.1)), ((sset_k _ _ (by decide)).trans (hm.2.2.2.2.2.1)), ((sset_k _ _ (by decide)).trans (hm.2.2.2.2.2.2.1)), ((sset_k _ _ (by decide)).trans (hm.2.2.2.2.2.2.2.1)), ((sset_k _ _ (by decide)).trans (hm.2.2.2.2.2.2.2.2.1)), ((sset_k _ _ (by decide)).trans (hm.2.2.2.2.2.2.2.2.2.1)), ((sset_k _ _ (by decide)).trans (hm.2.2.2.2.2.2.2.2.2.2.1)), (sset_self _ _ _ _), ((sset_k _ _ (by decide)).trans (hm.2.2.2.2.2.2.2.2.2.2.2.2.1)), ((sset_k _ _ (by decide)).trans (hm.2.2.2.2.2.2.2.2.2.2.2.2.2))⟩ (hs |>.set (P := pMd) (by simp [pMd]) _) (by
              have z9 := WRk.put (T := (derT lt P)) (f := fun _ => 0) (Y := (100 * x + 10 * y + z)) (q := (100 * x + 10 * y + (z - 1))) hv hgq hnew (fun w hw => if_neg (fun e => hw (by rw [← e]; exact hqe)))
              rw [hpq] at z9
              exact z9)
          · refine s_goto 177 dX4_isSlope_92 (by decide) ?_
            refine s_iinc (v := nI (z + 1)) dX4_isSlope_177 rfl (nI_1 _) rfl ?_
            refine s_lv (lv' := [some (.ref (ad 12 0)), some (.int (nI t)), some (.int (nI tb)), some (.int (nI lt)), some (.int (nI x)), some (.int (nI y)), some (.int (nI (z + 1))), some (.int (nI z)), none]) rfl ?_
            refine s_goto 51 dX4_isSlope_180 (by decide) ?_
            refine s_drop 7 ?_
            exact ih x y (z + 1) M wk  (by omega) (by omega) (by omega) hm hs (WRk.non (T := (derT lt P)) (f := fun _ => 0) (Y := (100 * x + 10 * y + z)) hv (fun u9 => derT_d (by rw [(by have q1 : lt ≠ 0 := fun e => c65 (by rw [e]; rfl); have q2 : lt ≠ 1 := fun e => c75 (by rw [e]; rfl); omega : lt = 2), hd2]; exact (nI_eq (a := z) (b := 0) (by omega) (by omega)).mp c89) u9))
        · refine s_iload dX4_isSlope_78 rfl ?_
          refine s_goto 85 dX4_isSlope_80 (by decide) ?_
          refine s_istore dX4_isSlope_85 rfl rfl ?_
          refine s_lv (lv' := [some (.ref (ad 12 0)), some (.int (nI t)), some (.int (nI tb)), some (.int (nI lt)), some (.int (nI x)), some (.int (nI y)), some (.int (nI z)), some (.int (nI y)), none]) rfl ?_
          refine s_iload dX4_isSlope_87 rfl ?_
          refine s_if_ne 95 dX4_isSlope_89 (by decide) (fun c89 => ?_) (fun c89 => ?_)
          · have hlt : lt = 1 := (nI_eq (a := lt) (b := 1) (by omega) (by omega)).mp c75
            have hd9 : 1 ≤ y := Nat.pos_of_ne_zero (fun e => c89 (by rw [e]; rfl))
            refine s_iload_n dX4_isSlope_95 rfl ?_
            refine s_if_ne 113 dX4_isSlope_96 (by decide) (fun c96 => ?_) (fun c96 => absurd c96 (c65))
            refine s_iload_n dX4_isSlope_113 rfl ?_
            refine s_iconst (v := 1) dX4_isSlope_114 (by decide) ?_
            refine s_icmp_ne 132 dX4_isSlope_115 (by decide) (fun c115 => absurd (c75) c115) (fun c115 => ?_)
            refine s_iload dX4_isSlope_118 rfl ?_
            refine s_iload dX4_isSlope_120 rfl ?_
            refine s_iconst (v := 1) dX4_isSlope_122 (by decide) ?_
            refine s_isub dX4_isSlope_123 ?_
            refine s_eqi (y := nI (y - 1)) (nI_sub (by omega)) ?_
            refine s_iload dX4_isSlope_124 rfl ?_
            refine s_callS (As := [.int (nI x), .int (nI (y - 1)), .int (nI z)]) (rest := []) (n := 3) (fun l hl => c_X4_place G l hl ad M x (y - 1) z (by omega)) gX4_isSlope_X4_place rfl (by decide +kernel) rfl ⟨(Nat.le_of_ble_eq_true rfl), (Nat.le_of_ble_eq_true rfl)⟩ ⟨(Nat.le_of_ble_eq_true rfl), (Nat.le_of_ble_eq_true rfl)⟩ (Nat.le_of_ble_eq_true rfl) dX4_isSlope_126 rfl (fun r9 ad9 M9 h9 => ?_)
            obtain ⟨rfl, rfl, rfl⟩ := h9
            refine s_goto 143 dX4_isSlope_129 (by decide) ?_
            refine s_istore dX4_isSlope_143 rfl rfl ?_
            refine s_lv (lv' := [some (.ref (ad 12 0)), some (.int (nI t)), some (.int (nI tb)), some (.int (nI lt)), some (.int (nI x)), some (.int (nI y)), some (.int (nI z)), some (.int (nI y)), some (.int (nI (pl3 x (y - 1) z)))]) rfl ?_
            have hgq : good (100 * x + 10 * (y - 1) + z) := good_dig (by omega)
            have hpq := pl_dig (i := x) (j := y - 1) (k := z) (by omega) (by omega)
            have hql := (pl_facts hgq).1
            rw [hpq] at hql
            refine s_aload_n dX4_isSlope_145 rfl ?_
            refine s_get (kd := 12) (ix := 0) (ci := 5) (fs := [.int c0, .int (nI t0), .ref (ad 13 0), .ref (ad 14 0), .ref (ad 15 0), .ref (ad 16 0), .ref (ad 17 0), .ref (ad 18 0), .int (nI r0), .ref (ad 19 0), .ref (ad 20 0), .ref (ad 21 0), .ref (ad 22 0), .ref (ad 23 0), .ref (ad 24 0), .int (jB b0), .ref (ad 25 0)])  hm.1 rfl in_X4_isSlope_X4 13 (by decide) (by decide +kernel) rfl rfl dX4_isSlope_146 ?_
            refine s_iload dX4_isSlope_149 rfl ?_
            refine s_iload dX4_isSlope_151 rfl ?_
            refine s_i2l dX4_isSlope_153 ?_
            refine s_aload_n dX4_isSlope_154 rfl ?_
            refine s_get (kd := 12) (ix := 0) (ci := 5) (fs := [.int c0, .int (nI t0), .ref (ad 13 0), .ref (ad 14 0), .ref (ad 15 0), .ref (ad 16 0), .ref (ad 17 0), .ref (ad 18 0), .int (nI r0), .ref (ad 19 0), .ref (ad 20 0), .ref (ad 21 0), .ref (ad 22 0), .ref (ad 23 0), .ref (ad 24 0), .int (jB b0), .ref (ad 25 0)])  hm.1 rfl in_X4_isSlope_X4 6 (by decide) (by decide +kernel) rfl rfl dX4_isSlope_155 ?_
            refine s_sipush (v := 220) dX4_isSlope_158 (by decide) ?_
            refine s_iload_n dX4_isSlope_161 rfl ?_
            refine s_imul dX4_isSlope_162 ?_
            refine s_eqi (y := nI (220 * t)) (nI_mul 220 t) ?_
            refine s_iload dX4_isSlope_163 rfl ?_
            refine s_iload dX4_isSlope_165 rfl ?_
            refine s_iload dX4_isSlope_167 rfl ?_
            refine s_callS (As := [.int (nI x), .int (nI y), .int (nI z)]) (rest := [.int (nI (220 * t)), .ref (ad 17 0), .long ((nI y).toInt64), .int (nI (pl3 x (y - 1) z)), .ref (ad 23 0)]) (n := 3) (fun l hl => c_X4_place G l hl ad M x y z (by omega)) gX4_isSlope_X4_place rfl (by decide +kernel) rfl ⟨(Nat.le_of_ble_eq_true rfl), (Nat.le_of_ble_eq_true rfl)⟩ ⟨(Nat.le_of_ble_eq_true rfl), (Nat.le_of_ble_eq_true rfl)⟩ (Nat.le_of_ble_eq_true rfl) dX4_isSlope_169 rfl (fun r9 ad9 M9 h9 => ?_)
            obtain ⟨rfl, rfl, rfl⟩ := h9
            refine s_iadd dX4_isSlope_172 ?_
            refine s_eqi (y := nI (220 * t + pl3 x y z)) (nI_add _ _) ?_
            refine s_iald (kd := 17) (ix := 0) (n := 26400) (f := cl) (j := 220 * t + pl3 x y z) hm.2.2.2.2.2.1 (rfl) (by omega) (by decide) dX4_isSlope_173 ?_
            refine s_i2l dX4_isSlope_174 ?_
            refine s_lmul dX4_isSlope_175 ?_
            refine s_last (kd := 23) (ix := 0) (n := 220) (f := wk) (j := pl3 x (y - 1) z) (x := ((nI y).toInt64) * ((cl (220 * t + pl3 x y z)).toInt64)) hm.2.2.2.2.2.2.2.2.2.2.2.1  (rfl) (hql) (by decide) dX4_isSlope_176 ?_
            refine s_iinc (v := nI (z + 1)) dX4_isSlope_177 rfl (nI_1 _) rfl ?_
            refine s_lv (lv' := [some (.ref (ad 12 0)), some (.int (nI t)), some (.int (nI tb)), some (.int (nI lt)), some (.int (nI x)), some (.int (nI y)), some (.int (nI (z + 1))), some (.int (nI y)), some (.int (nI (pl3 x (y - 1) z)))]) rfl ?_
            refine s_goto 51 dX4_isSlope_180 (by decide) ?_
            have hqe : (100 * x + 10 * y + z) - kl3 lt = (100 * x + 10 * (y - 1) + z) := by
              rw [hlt]
              show (100 * x + 10 * y + z) - 10 = (100 * x + 10 * (y - 1) + z)
              omega
            have hpx := hpb (100 * x + 10 * y + z)
            have hdv : dg3 lt (100 * x + 10 * y + z) = y := by rw [hlt]; exact hd1
            have hmb := mul_bnd (A := 9) (B := 1000000) (x := (y : Int)) (by omega) (by omega) (by omega) hpx
            have hnew : ((nI y).toInt64 * (cl (220 * t + pl3 x y z)).toInt64).toInt = 0 + sN ((derT lt P) (100 * x + 10 * (y - 1) + z)) (100 * x + 10 * y + z) + (derT lt P) (100 * x + 10 * (y - 1) + z) (100 * x + 10 * y + z) := by
              rw [← hqe, derT_low (by omega) (by rw [hlt]; show 10 ≤ (100 * x + 10 * y + z); omega), show (derT lt P) ((100 * x + 10 * y + z) - kl3 lt) (100 * x + 10 * y + z) = (dg3 lt (100 * x + 10 * y + z) : Int) * P (100 * x + 10 * y + z) from if_pos rfl, hdv]
              rw [i64_mul (by rw [i32_64, i32_64, hcv, nI_toInt (by omega)]; omega) (by rw [i32_64, i32_64, hcv, nI_toInt (by omega)]; omega), i32_64, i32_64, hcv, nI_toInt (by omega)]
              omega
            refine s_drop 7 ?_
            refine s_drop 8 ?_
            exact ih x y (z + 1) (sset M 23 0 (.inl (gJ G, 220, .inr (.inl (vp_updL wk (pl3 x (y - 1) z) (((nI y).toInt64) * ((cl (220 * t + pl3 x y z)).toInt64))))))) (vp_updL wk (pl3 x (y - 1) z) (((nI y).toInt64) * ((cl (220 * t + pl3 x y z)).toInt64)))  (by omega) (by omega) (by omega) ⟨((sset_k _ _ (by decide)).trans (hm.1)), ((sset_k _ _ (by decide)).trans (hm.2.1)), ((sset_k _ _ (by decide)).trans (hm.2.2.1)), ((sset_k _ _ (by decide)).trans (hm.2.2.2.1)), ((sset_k _ _ (by decide)).trans (hm.2.2.2.2.1)), ((sset_k _ _ (by decide)).trans (hm.2.2.2.2.2.1)), ((sset_k _ _ (by decide)).trans (hm.2.2.2.2.2.2.1)), ((sset_k _ _ (by decide)).trans (hm.2.2.2.2.2.2.2.1)), ((sset_k _ _ (by decide)).trans (hm.2.2.2.2.2.2.2.2.1)), ((sset_k _ _ (by decide)).trans (hm.2.2.2.2.2.2.2.2.2.1)), ((sset_k _ _ (by decide)).trans (hm.2.2.2.2.2.2.2.2.2.2.1)), (sset_self _ _ _ _), ((sset_k _ _ (by decide)).trans (hm.2.2.2.2.2.2.2.2.2.2.2.2.1)), ((sset_k _ _ (by decide)).trans (hm.2.2.2.2.2.2.2.2.2.2.2.2.2))⟩ (hs |>.set (P := pMd) (by simp [pMd]) _) (by
              have z9 := WRk.put (T := (derT lt P)) (f := fun _ => 0) (Y := (100 * x + 10 * y + z)) (q := (100 * x + 10 * (y - 1) + z)) hv hgq hnew (fun w hw => if_neg (fun e => hw (by rw [← e]; exact hqe)))
              rw [hpq] at z9
              exact z9)
          · refine s_goto 177 dX4_isSlope_92 (by decide) ?_
            refine s_iinc (v := nI (z + 1)) dX4_isSlope_177 rfl (nI_1 _) rfl ?_
            refine s_lv (lv' := [some (.ref (ad 12 0)), some (.int (nI t)), some (.int (nI tb)), some (.int (nI lt)), some (.int (nI x)), some (.int (nI y)), some (.int (nI (z + 1))), some (.int (nI y)), none]) rfl ?_
            refine s_goto 51 dX4_isSlope_180 (by decide) ?_
            refine s_drop 7 ?_
            exact ih x y (z + 1) M wk  (by omega) (by omega) (by omega) hm hs (WRk.non (T := (derT lt P)) (f := fun _ => 0) (Y := (100 * x + 10 * y + z)) hv (fun u9 => derT_d (by rw [(nI_eq (a := lt) (b := 1) (by omega) (by omega)).mp c75, hd1]; exact (nI_eq (a := y) (b := 0) (by omega) (by omega)).mp c89) u9))
      · refine s_iload dX4_isSlope_68 rfl ?_
        refine s_goto 85 dX4_isSlope_70 (by decide) ?_
        refine s_istore dX4_isSlope_85 rfl rfl ?_
        refine s_lv (lv' := [some (.ref (ad 12 0)), some (.int (nI t)), some (.int (nI tb)), some (.int (nI lt)), some (.int (nI x)), some (.int (nI y)), some (.int (nI z)), some (.int (nI x)), none]) rfl ?_
        refine s_iload dX4_isSlope_87 rfl ?_
        refine s_if_ne 95 dX4_isSlope_89 (by decide) (fun c89 => ?_) (fun c89 => ?_)
        · have hlt : lt = 0 := (nI_eq (a := lt) (b := 0) (by omega) (by omega)).mp c65
          have hd9 : 1 ≤ x := Nat.pos_of_ne_zero (fun e => c89 (by rw [e]; rfl))
          refine s_iload_n dX4_isSlope_95 rfl ?_
          refine s_if_ne 113 dX4_isSlope_96 (by decide) (fun c96 => absurd (c65) c96) (fun c96 => ?_)
          refine s_iload dX4_isSlope_99 rfl ?_
          refine s_iconst (v := 1) dX4_isSlope_101 (by decide) ?_
          refine s_isub dX4_isSlope_102 ?_
          refine s_eqi (y := nI (x - 1)) (nI_sub (by omega)) ?_
          refine s_iload dX4_isSlope_103 rfl ?_
          refine s_iload dX4_isSlope_105 rfl ?_
          refine s_callS (As := [.int (nI (x - 1)), .int (nI y), .int (nI z)]) (rest := []) (n := 3) (fun l hl => c_X4_place G l hl ad M (x - 1) y z (by omega)) gX4_isSlope_X4_place rfl (by decide +kernel) rfl ⟨(Nat.le_of_ble_eq_true rfl), (Nat.le_of_ble_eq_true rfl)⟩ ⟨(Nat.le_of_ble_eq_true rfl), (Nat.le_of_ble_eq_true rfl)⟩ (Nat.le_of_ble_eq_true rfl) dX4_isSlope_107 rfl (fun r9 ad9 M9 h9 => ?_)
          obtain ⟨rfl, rfl, rfl⟩ := h9
          refine s_goto 143 dX4_isSlope_110 (by decide) ?_
          refine s_istore dX4_isSlope_143 rfl rfl ?_
          refine s_lv (lv' := [some (.ref (ad 12 0)), some (.int (nI t)), some (.int (nI tb)), some (.int (nI lt)), some (.int (nI x)), some (.int (nI y)), some (.int (nI z)), some (.int (nI x)), some (.int (nI (pl3 (x - 1) y z)))]) rfl ?_
          have hgq : good (100 * (x - 1) + 10 * y + z) := good_dig (by omega)
          have hpq := pl_dig (i := x - 1) (j := y) (k := z) (by omega) (by omega)
          have hql := (pl_facts hgq).1
          rw [hpq] at hql
          refine s_aload_n dX4_isSlope_145 rfl ?_
          refine s_get (kd := 12) (ix := 0) (ci := 5) (fs := [.int c0, .int (nI t0), .ref (ad 13 0), .ref (ad 14 0), .ref (ad 15 0), .ref (ad 16 0), .ref (ad 17 0), .ref (ad 18 0), .int (nI r0), .ref (ad 19 0), .ref (ad 20 0), .ref (ad 21 0), .ref (ad 22 0), .ref (ad 23 0), .ref (ad 24 0), .int (jB b0), .ref (ad 25 0)])  hm.1 rfl in_X4_isSlope_X4 13 (by decide) (by decide +kernel) rfl rfl dX4_isSlope_146 ?_
          refine s_iload dX4_isSlope_149 rfl ?_
          refine s_iload dX4_isSlope_151 rfl ?_
          refine s_i2l dX4_isSlope_153 ?_
          refine s_aload_n dX4_isSlope_154 rfl ?_
          refine s_get (kd := 12) (ix := 0) (ci := 5) (fs := [.int c0, .int (nI t0), .ref (ad 13 0), .ref (ad 14 0), .ref (ad 15 0), .ref (ad 16 0), .ref (ad 17 0), .ref (ad 18 0), .int (nI r0), .ref (ad 19 0), .ref (ad 20 0), .ref (ad 21 0), .ref (ad 22 0), .ref (ad 23 0), .ref (ad 24 0), .int (jB b0), .ref (ad 25 0)])  hm.1 rfl in_X4_isSlope_X4 6 (by decide) (by decide +kernel) rfl rfl dX4_isSlope_155 ?_
          refine s_sipush (v := 220) dX4_isSlope_158 (by decide) ?_
          refine s_iload_n dX4_isSlope_161 rfl ?_
          refine s_imul dX4_isSlope_162 ?_
          refine s_eqi (y := nI (220 * t)) (nI_mul 220 t) ?_
          refine s_iload dX4_isSlope_163 rfl ?_
          refine s_iload dX4_isSlope_165 rfl ?_
          refine s_iload dX4_isSlope_167 rfl ?_
          refine s_callS (As := [.int (nI x), .int (nI y), .int (nI z)]) (rest := [.int (nI (220 * t)), .ref (ad 17 0), .long ((nI x).toInt64), .int (nI (pl3 (x - 1) y z)), .ref (ad 23 0)]) (n := 3) (fun l hl => c_X4_place G l hl ad M x y z (by omega)) gX4_isSlope_X4_place rfl (by decide +kernel) rfl ⟨(Nat.le_of_ble_eq_true rfl), (Nat.le_of_ble_eq_true rfl)⟩ ⟨(Nat.le_of_ble_eq_true rfl), (Nat.le_of_ble_eq_true rfl)⟩ (Nat.le_of_ble_eq_true rfl) dX4_isSlope_169 rfl (fun r9 ad9 M9 h9 => ?_)
          obtain ⟨rfl, rfl, rfl⟩ := h9
          refine s_iadd dX4_isSlope_172 ?_
          refine s_eqi (y := nI (220 * t + pl3 x y z)) (nI_add _ _) ?_
          refine s_iald (kd := 17) (ix := 0) (n := 26400) (f := cl) (j := 220 * t + pl3 x y z) hm.2.2.2.2.2.1 (rfl) (by omega) (by decide) dX4_isSlope_173 ?_
          refine s_i2l dX4_isSlope_174 ?_
          refine s_lmul dX4_isSlope_175 ?_
          refine s_last (kd := 23) (ix := 0) (n := 220) (f := wk) (j := pl3 (x - 1) y z) (x := ((nI x).toInt64) * ((cl (220 * t + pl3 x y z)).toInt64)) hm.2.2.2.2.2.2.2.2.2.2.2.1  (rfl) (hql) (by decide) dX4_isSlope_176 ?_
          refine s_iinc (v := nI (z + 1)) dX4_isSlope_177 rfl (nI_1 _) rfl ?_
          refine s_lv (lv' := [some (.ref (ad 12 0)), some (.int (nI t)), some (.int (nI tb)), some (.int (nI lt)), some (.int (nI x)), some (.int (nI y)), some (.int (nI (z + 1))), some (.int (nI x)), some (.int (nI (pl3 (x - 1) y z)))]) rfl ?_
          refine s_goto 51 dX4_isSlope_180 (by decide) ?_
          have hqe : (100 * x + 10 * y + z) - kl3 lt = (100 * (x - 1) + 10 * y + z) := by
            rw [hlt]
            show (100 * x + 10 * y + z) - 100 = (100 * (x - 1) + 10 * y + z)
            omega
          have hpx := hpb (100 * x + 10 * y + z)
          have hdv : dg3 lt (100 * x + 10 * y + z) = x := by rw [hlt]; exact hd0
          have hmb := mul_bnd (A := 9) (B := 1000000) (x := (x : Int)) (by omega) (by omega) (by omega) hpx
          have hnew : ((nI x).toInt64 * (cl (220 * t + pl3 x y z)).toInt64).toInt = 0 + sN ((derT lt P) (100 * (x - 1) + 10 * y + z)) (100 * x + 10 * y + z) + (derT lt P) (100 * (x - 1) + 10 * y + z) (100 * x + 10 * y + z) := by
            rw [← hqe, derT_low (by omega) (by rw [hlt]; show 100 ≤ (100 * x + 10 * y + z); omega), show (derT lt P) ((100 * x + 10 * y + z) - kl3 lt) (100 * x + 10 * y + z) = (dg3 lt (100 * x + 10 * y + z) : Int) * P (100 * x + 10 * y + z) from if_pos rfl, hdv]
            rw [i64_mul (by rw [i32_64, i32_64, hcv, nI_toInt (by omega)]; omega) (by rw [i32_64, i32_64, hcv, nI_toInt (by omega)]; omega), i32_64, i32_64, hcv, nI_toInt (by omega)]
            omega
          refine s_drop 7 ?_
          refine s_drop 8 ?_
          exact ih x y (z + 1) (sset M 23 0 (.inl (gJ G, 220, .inr (.inl (vp_updL wk (pl3 (x - 1) y z) (((nI x).toInt64) * ((cl (220 * t + pl3 x y z)).toInt64))))))) (vp_updL wk (pl3 (x - 1) y z) (((nI x).toInt64) * ((cl (220 * t + pl3 x y z)).toInt64)))  (by omega) (by omega) (by omega) ⟨((sset_k _ _ (by decide)).trans (hm.1)), ((sset_k _ _ (by decide)).trans (hm.2.1)), ((sset_k _ _ (by decide)).trans (hm.2.2.1)), ((sset_k _ _ (by decide)).trans (hm.2.2.2.1)), ((sset_k _ _ (by decide)).trans (hm.2.2.2.2.1)), ((sset_k _ _ (by decide)).trans (hm.2.2.2.2.2.1)), ((sset_k _ _ (by decide)).trans (hm.2.2.2.2.2.2.1)), ((sset_k _ _ (by decide)).trans (hm.2.2.2.2.2.2.2.1)), ((sset_k _ _ (by decide)).trans (hm.2.2.2.2.2.2.2.2.1)), ((sset_k _ _ (by decide)).trans (hm.2.2.2.2.2.2.2.2.2.1)), ((sset_k _ _ (by decide)).trans (hm.2.2.2.2.2.2.2.2.2.2.1)), (sset_self _ _ _ _), ((sset_k _ _ (by decide)).trans (hm.2.2.2.2.2.2.2.2.2.2.2.2.1)), ((sset_k _ _ (by decide)).trans (hm.2.2.2.2.2.2.2.2.2.2.2.2.2))⟩ (hs |>.set (P := pMd) (by simp [pMd]) _) (by
            have z9 := WRk.put (T := (derT lt P)) (f := fun _ => 0) (Y := (100 * x + 10 * y + z)) (q := (100 * (x - 1) + 10 * y + z)) hv hgq hnew (fun w hw => if_neg (fun e => hw (by rw [← e]; exact hqe)))
            rw [hpq] at z9
            exact z9)
        · refine s_goto 177 dX4_isSlope_92 (by decide) ?_
          refine s_iinc (v := nI (z + 1)) dX4_isSlope_177 rfl (nI_1 _) rfl ?_
          refine s_lv (lv' := [some (.ref (ad 12 0)), some (.int (nI t)), some (.int (nI tb)), some (.int (nI lt)), some (.int (nI x)), some (.int (nI y)), some (.int (nI (z + 1))), some (.int (nI x)), none]) rfl ?_
          refine s_goto 51 dX4_isSlope_180 (by decide) ?_
          refine s_drop 7 ?_
          exact ih x y (z + 1) M wk  (by omega) (by omega) (by omega) hm hs (WRk.non (T := (derT lt P)) (f := fun _ => 0) (Y := (100 * x + 10 * y + z)) hv (fun u9 => derT_d (by rw [(nI_eq (a := lt) (b := 0) (by omega) (by omega)).mp c65, hd0]; exact (nI_eq (a := x) (b := 0) (by omega) (by omega)).mp c89) u9))
set_option maxHeartbeats 4000000 in
set_option maxRecDepth 100000 in
theorem c_X4_isSlope (G : sG) (l : Launch) (hl : l.stackTraces = false) (ad : sAd) (M : sM) (c0 : Int32) (t0 : Nat) (hd : Nat → Int32) (on : Nat → Int32) (tw : Nat → Int32) (dp : Nat → Int32) (cl : Nat → Int32) (gr : Nat → Int32) (r0 : Nat) (kd : Nat → Int32) (fl : Nat → Int32) (co : Nat → Int32) (sm : Nat → Int32) (wk : Nat → Int64) (sp : Nat → Int64) (b0 : Bool) (mu : Nat → Int32) (hm : hMd G ad M (c0, t0, hd, on, tw, dp, cl, gr, r0, kd, fl, co, sm, wk, sp, b0, mu)) (t : Nat) (htt : t < 120) (P : Nat → Int) (hg : gz P) (hcr : CRk cl t P) (hpb : ∀ y, -1000000 ≤ P y ∧ P y ≤ 1000000) (tb : Nat) (htb : tb < 120) (P2 : Nat → Int) (hg2 : gz P2) (hcr2 : CRk cl tb P2) (lt : Nat) (hl2 : lt ≤ 2) : sMet G l yX4_isSlope mX4_isSlope [.ref (ad 12 0), .int (nI t), .int (nI tb), .int (nI lt)] ad M (fun r ad' M' => ad = ad' ∧ ∃ wk', hMd G ad M' (c0, t0, hd, on, tw, dp, cl, gr, r0, kd, fl, co, sm, wk', sp, b0, mu) ∧ sSame pMd M M' ∧ ∃ z : Bool, r = some (.int (jB z)) ∧ (z = true ↔ ∀ y, P2 y = derv lt P y)) (fun _ _ _ => False) := by
  refine sMet.of hl (by decide +kernel) rfl rfl rfl rfl (Nat.le_of_ble_eq_true rfl) (fun X => ?_)
  refine s_lv (lv' := [some (.ref (ad 12 0)), some (.int (nI t)), some (.int (nI tb)), some (.int (nI lt)), none, none, none, none, none]) rfl ?_
  refine s_iconst (v := 0) dX4_isSlope_0 (by decide) ?_
  refine s_istore dX4_isSlope_1 rfl rfl ?_
  refine s_lv (lv' := [some (.ref (ad 12 0)), some (.int (nI t)), some (.int (nI tb)), some (.int (nI lt)), some (.int 0), none, none, none, none]) rfl ?_
  refine l_X4_isSlope0 X G ad M c0 t0 hd on tw dp cl gr r0 kd fl co sm sp b0 mu t tb lt _ (fun M15 wk15  hm15 hs15 hv15 => ?_) (220) 0 M wk  (by omega) ⟨hm.1, hm.2.1, hm.2.2.1, hm.2.2.2.1, hm.2.2.2.2.1, hm.2.2.2.2.2.1, hm.2.2.2.2.2.2.1, hm.2.2.2.2.2.2.2.1, hm.2.2.2.2.2.2.2.2.1, hm.2.2.2.2.2.2.2.2.2.1, hm.2.2.2.2.2.2.2.2.2.2.1, hm.2.2.2.2.2.2.2.2.2.2.2.1, hm.2.2.2.2.2.2.2.2.2.2.2.2.1, hm.2.2.2.2.2.2.2.2.2.2.2.2.2⟩ sSame.rfl (fun k hk => absurd hk (Nat.not_lt_zero k))
  have hz9 := hv15
  refine s_iconst (v := 0) dX4_isSlope_25 (by decide) ?_
  refine s_istore dX4_isSlope_26 rfl rfl ?_
  refine s_lv (lv' := [some (.ref (ad 12 0)), some (.int (nI t)), some (.int (nI tb)), some (.int (nI lt)), some (.int 0), none, none, none, none]) rfl ?_
  refine s_iload dX4_isSlope_28 rfl ?_
  refine s_bipush (v := 10) dX4_isSlope_30 (by decide) ?_
  refine s_icmp_ge 195 dX4_isSlope_32 (by decide) (fun c32 => absurd c32 (by decide)) (fun c32 => ?_)
  refine s_iconst (v := 0) dX4_isSlope_35 (by decide) ?_
  refine s_istore dX4_isSlope_36 rfl rfl ?_
  refine s_lv (lv' := [some (.ref (ad 12 0)), some (.int (nI t)), some (.int (nI tb)), some (.int (nI lt)), some (.int 0), some (.int 0), none, none, none]) rfl ?_
  refine s_iload dX4_isSlope_38 rfl ?_
  refine s_iload dX4_isSlope_40 rfl ?_
  refine s_iadd dX4_isSlope_42 ?_
  refine s_eqi (y := nI (0 + 0)) (nI_add _ _) ?_
  refine s_bipush (v := 10) dX4_isSlope_43 (by decide) ?_
  refine s_icmp_ge 189 dX4_isSlope_45 (by decide) (fun c45 => absurd c45 (nI_ge (b := 10) (by omega) (by omega))) (fun c45 => ?_)
  refine s_iconst (v := 0) dX4_isSlope_48 (by decide) ?_
  refine s_istore dX4_isSlope_49 rfl rfl ?_
  refine s_lv (lv' := [some (.ref (ad 12 0)), some (.int (nI t)), some (.int (nI tb)), some (.int (nI lt)), some (.int 0), some (.int 0), some (.int 0), none, none]) rfl ?_
  refine l_X4_isSlope X G ad M c0 t0 hd on tw dp cl gr r0 kd fl co sm sp b0 mu t htt P hg hcr hpb tb lt hl2 _ (fun M16 wk16  hm16 hs16 hv16 => ?_) 1400 0 0 0 M15 wk15  (by omega) (by omega) (by omega) ⟨hm15.1, hm15.2.1, hm15.2.2.1, hm15.2.2.2.1, hm15.2.2.2.2.1, hm15.2.2.2.2.2.1, hm15.2.2.2.2.2.2.1, hm15.2.2.2.2.2.2.2.1, hm15.2.2.2.2.2.2.2.2.1, hm15.2.2.2.2.2.2.2.2.2.1, hm15.2.2.2.2.2.2.2.2.2.2.1, hm15.2.2.2.2.2.2.2.2.2.2.2.1, hm15.2.2.2.2.2.2.2.2.2.2.2.2.1, hm15.2.2.2.2.2.2.2.2.2.2.2.2.2⟩ hs15 (hz9.wr.ext (fun _ => rfl))
  refine s_aload_n dX4_isSlope_195 rfl ?_
  refine s_iload_n dX4_isSlope_196 rfl ?_
  refine s_callV (As := [.int (nI tb)]) (rest := []) (n := 1) (kd := 12) (ix := 0) (fun l hl => c_X4_isWork G l hl ad M16 c0 t0 hd on tw dp cl gr r0 kd fl co sm wk16 sp b0 mu ⟨hm16.1, hm16.2.1, hm16.2.2.1, hm16.2.2.2.1, hm16.2.2.2.2.1, hm16.2.2.2.2.2.1, hm16.2.2.2.2.2.2.1, hm16.2.2.2.2.2.2.2.1, hm16.2.2.2.2.2.2.2.2.1, hm16.2.2.2.2.2.2.2.2.2.1, hm16.2.2.2.2.2.2.2.2.2.2.1, hm16.2.2.2.2.2.2.2.2.2.2.2.1, hm16.2.2.2.2.2.2.2.2.2.2.2.2.1, hm16.2.2.2.2.2.2.2.2.2.2.2.2.2⟩ tb htb P2 hg2 hcr2 (derv lt P) (derv_gz hg hl2) (hv16.ext (fun u9 => by rw [Int.zero_add]; rfl))) gX4_isSlope_X4_isWork rfl (by decide +kernel) hm16.1 rfl rfl ⟨(Nat.le_of_ble_eq_true rfl), (Nat.le_of_ble_eq_true rfl)⟩ ⟨(Nat.le_of_ble_eq_true rfl), (Nat.le_of_ble_eq_true rfl)⟩ (Nat.le_of_ble_eq_true rfl) dX4_isSlope_197 rfl (fun r17 ad17 M17 h17 => ?_)
  obtain ⟨rfl, hm17, hs17, z17, rfl, hz17⟩ := h17
  exact s_iret rfl (jB_nar _) dX4_isSlope_200 (Nat.le_of_ble_eq_true rfl) (Nat.le_of_ble_eq_true rfl) (⟨rfl, _, hm17, (hs16.trans hs17), z17, rfl, hz17.trans ⟨fun q y => (q y).symm, fun q y => (q y).symm⟩⟩)
