/-! the value at a sample; fits; fillRow -/
def val3 (P : Nat → Int) (s0 s1 s2 : Int) : Int := sN (fun a => P a * s0 ^ dg3 0 a * s1 ^ dg3 1 a * s2 ^ dg3 2 a) 1000
theorem pw_nat {x : Int} {a : Nat} (h : -10 ≤ x ∧ x ≤ 10) : (x ^ a).natAbs ≤ 10 ^ a := by
  rw [Int.natAbs_pow]
  exact Nat.pow_le_pow_left (by omega) a
theorem tri_bnd {A s0 s1 s2 : Int} {a b c : Nat} (hA : -1000000 ≤ A ∧ A ≤ 1000000) (h0 : -10 ≤ s0 ∧ s0 ≤ 10) (h1 : -10 ≤ s1 ∧ s1 ≤ 10) (h2 : -10 ≤ s2 ∧ s2 ≤ 10) (hd : a + b + c ≤ 9) :
    (A * s0 ^ a).natAbs ≤ 1000000 * 10 ^ 9 ∧ (A * s0 ^ a * s1 ^ b).natAbs ≤ 1000000 * 10 ^ 9 ∧ (A * s0 ^ a * s1 ^ b * s2 ^ c).natAbs ≤ 1000000 * 10 ^ 9 := by
  have k1 : (A * s0 ^ a).natAbs ≤ 1000000 * 10 ^ a := by
    rw [Int.natAbs_mul]
    exact Nat.mul_le_mul (by omega) (pw_nat h0)
  have k2 : (A * s0 ^ a * s1 ^ b).natAbs ≤ 1000000 * 10 ^ (a + b) := by
    rw [Int.natAbs_mul, Nat.pow_add, ← Nat.mul_assoc]
    exact Nat.mul_le_mul k1 (pw_nat h1)
  have k3 : (A * s0 ^ a * s1 ^ b * s2 ^ c).natAbs ≤ 1000000 * 10 ^ (a + b + c) := by
    rw [Int.natAbs_mul, Nat.pow_add, ← Nat.mul_assoc]
    exact Nat.mul_le_mul k2 (pw_nat h2)
  have q : ∀ m, m ≤ 9 → 10 ^ m ≤ 10 ^ 9 := fun m hm => Nat.pow_le_pow_right (by decide) hm
  exact ⟨Nat.le_trans k1 (Nat.mul_le_mul_left _ (q a (by omega))), Nat.le_trans k2 (Nat.mul_le_mul_left _ (q (a + b) (by omega))), Nat.le_trans k3 (Nat.mul_le_mul_left _ (q _ hd))⟩
theorem v3 {a p q r : Int64} {A s0 s1 s2 : Int} {i j k : Nat} (ha : a.toInt = A) (hp : p.toInt = s0 ^ i) (hq : q.toInt = s1 ^ j) (hr : r.toInt = s2 ^ k) (hA : -1000000 ≤ A ∧ A ≤ 1000000) (h0 : -10 ≤ s0 ∧ s0 ≤ 10) (h1 : -10 ≤ s1 ∧ s1 ≤ 10) (h2 : -10 ≤ s2 ∧ s2 ≤ 10) (hd : i + j + k ≤ 9) : (a * p * q * r).toInt = A * s0 ^ i * s1 ^ j * s2 ^ k := by
  obtain ⟨b1, b2, b3⟩ := tri_bnd hA h0 h1 h2 hd
  have e1 : (a * p).toInt = A * s0 ^ i := by rw [i64_mul (by rw [ha, hp]; omega) (by rw [ha, hp]; omega), ha, hp]
  have e2 : (a * p * q).toInt = A * s0 ^ i * s1 ^ j := by rw [i64_mul (by rw [e1, hq]; omega) (by rw [e1, hq]; omega), e1, hq]
  rw [i64_mul (by rw [e2, hr]; omega) (by rw [e2, hr]; omega), e2, hr]
theorem gdeg_dg (x : Nat) : dg3 0 x + dg3 1 x + dg3 2 x = gdeg x := rfl
abbrev mX3_valueAt : sMeth := (cX3_valueAt, 8, RX3, wsX3_valueAt, { frames := 1, cells := 0, slots := 0, locals := 24 }, (some .long), "valueAt", [])
theorem in_X3_valueAt_X0 : ∀ w ∈ wsX00, w ∈ wsX3_valueAt := by decide +kernel
set_option maxHeartbeats 4000000 in
set_option maxRecDepth 100000 in
theorem l_X3_valueAt (X : sMach) (G : sG) (ad : sAd) (M : sM) (p n d : Nat) (pk pn : Nat → Int32) (hp : hPo G ad M p (n, nI d, false, pk, pn)) (P : Nat → Int) (e : Nat → Nat) (hP : PE (n, nI d, false, pk, pn) e P) (ri : Nat) (rr : Nat → Int32) (hw : M 6 ri = some (.inl (gI G, 8, .inl rr))) (hs0 : -10 ≤ (rr 5).toInt ∧ (rr 5).toInt ≤ 10) (hs1 : -10 ≤ (rr 6).toInt ∧ (rr 6).toInt ≤ 10) (hs2 : -10 ≤ (rr 7).toInt ∧ (rr 7).toInt ≤ 10) : ∀ (k i : Nat) (v : Int64), i + k = n → (v.toInt = sN (fun a => (fun a => P a * (rr 5).toInt ^ dg3 0 a * (rr 6).toInt ^ dg3 1 a * (rr 7).toInt ^ dg3 2 a) (e a)) i) → sW X G mX3_valueAt (sQ X G mX3_valueAt (fun r ad' M' => ad = ad' ∧ M = M' ∧ ∃ v : Int64, r = some (.long v) ∧ v.toInt = sN (fun a => (fun a => P a * (rr 5).toInt ^ dg3 0 a * (rr 6).toInt ^ dg3 1 a * (rr 7).toInt ^ dg3 2 a) (e a)) n) (fun _ _ _ => False)) ad M 0 0 [some (.ref (ad 3 p)), some (.ref (ad 6 ri)), some (.long v), none, some (.int (nI i)), none, none, none] 5 [] := by
  intro k
  induction k with
  | zero =>
    intro i v hi hv
    have hn40 : n ≤ 40 := hP.1
    refine s_iload dX3_valueAt_5 rfl ?_
    refine s_aload_n dX3_valueAt_7 rfl ?_
    refine s_getN (kd := 3) (ix := p) (ci := 1) (fs := [.ref (ad 4 p), .ref (ad 5 p), .int (nI n), .int (nI d), .int (jB false)]) (host := "SmallChecker") hp.1 rfl in_X3_valueAt_X0 2 (by decide) (by decide +kernel) rfl rfl dX3_valueAt_8 ?_
    refine s_icmp_ge 76 dX3_valueAt_11 (by decide) (fun c11 => ?_) (fun c11 => absurd (nI_le (by omega) (by omega)) c11)
    refine s_lload_n dX3_valueAt_76 rfl ?_
    exact s_lret rfl dX3_valueAt_77 (Nat.le_of_ble_eq_true rfl) (Nat.le_of_ble_eq_true rfl) (⟨rfl, rfl, v, rfl, by rw [hv, show i = n by omega]⟩)
  | succ k ih =>
    intro i v hi hv
    have hn40 : n ≤ 40 := hP.1
    refine s_iload dX3_valueAt_5 rfl ?_
    refine s_aload_n dX3_valueAt_7 rfl ?_
    refine s_getN (kd := 3) (ix := p) (ci := 1) (fs := [.ref (ad 4 p), .ref (ad 5 p), .int (nI n), .int (nI d), .int (jB false)]) (host := "SmallChecker") hp.1 rfl in_X3_valueAt_X0 2 (by decide) (by decide +kernel) rfl rfl dX3_valueAt_8 ?_
    refine s_icmp_ge 76 dX3_valueAt_11 (by decide) (fun c11 => absurd c11 (nI_ge (by omega) (by omega))) (fun c11 => ?_)
    refine s_aload_n dX3_valueAt_14 rfl ?_
    refine s_getN (kd := 3) (ix := p) (ci := 1) (fs := [.ref (ad 4 p), .ref (ad 5 p), .int (nI n), .int (nI d), .int (jB false)]) (host := "SmallChecker") hp.1 rfl in_X3_valueAt_X0 1 (by decide) (by decide +kernel) rfl rfl dX3_valueAt_15 ?_
    refine s_iload dX3_valueAt_18 rfl ?_
    refine s_iald (kd := 5) (ix := p) (n := 40) (f := pn) (j := i) hp.2.2 (rfl) (by omega) (by decide) dX3_valueAt_20 ?_
    refine s_i2l dX3_valueAt_21 ?_
    refine s_lstore dX3_valueAt_22 rfl rfl ?_
    refine s_lv (lv' := [some (.ref (ad 3 p)), some (.ref (ad 6 ri)), some (.long v), none, some (.int (nI i)), some (.long ((pn i).toInt64)), none, none]) rfl ?_
    refine s_iconst (v := 0) dX3_valueAt_24 (by decide) ?_
    refine s_istore dX3_valueAt_25 rfl rfl ?_
    refine s_lv (lv' := [some (.ref (ad 3 p)), some (.ref (ad 6 ri)), some (.long v), none, some (.int (nI i)), some (.long ((pn i).toInt64)), none, some (.int 0)]) rfl ?_
    refine s_iload dX3_valueAt_27 rfl ?_
    refine s_iconst (v := 3) dX3_valueAt_29 (by decide) ?_
    refine s_icmp_ge 65 dX3_valueAt_30 (by decide) (fun c30 => absurd c30 (by decide)) (fun c30 => ?_)
    refine s_lload dX3_valueAt_33 rfl ?_
    refine s_aload_n dX3_valueAt_35 rfl ?_
    refine s_iconst (v := 5) dX3_valueAt_36 (by decide) ?_
    refine s_iload dX3_valueAt_37 rfl ?_
    refine s_iadd dX3_valueAt_39 ?_
    refine s_iald (kd := 6) (ix := ri) (n := 8) (f := rr) (j := 5) hw (by decide) (by decide) (by decide) dX3_valueAt_40 ?_
    refine s_aload_n dX3_valueAt_41 rfl ?_
    refine s_getN (kd := 3) (ix := p) (ci := 1) (fs := [.ref (ad 4 p), .ref (ad 5 p), .int (nI n), .int (nI d), .int (jB false)]) (host := "SmallChecker") hp.1 rfl in_X3_valueAt_X0 0 (by decide) (by decide +kernel) rfl rfl dX3_valueAt_42 ?_
    refine s_iload dX3_valueAt_45 rfl ?_
    refine s_iald (kd := 4) (ix := p) (n := 40) (f := pk) (j := i) hp.2.1 (rfl) (by omega) (by decide) dX3_valueAt_47 ?_
    refine s_eqi (y := nI (e i)) ((hP.2.2.1 i (by show i < n; omega)).2.1) ?_
    refine s_iload dX3_valueAt_48 rfl ?_
    refine s_callS (As := [.int (nI (e i)), .int 0]) (rest := [.int (rr 5), .long ((pn i).toInt64)]) (n := 2) (fun l hl => c_X3_powerIn G l hl ad M (nI (e i)) 0) gX3_valueAt_X3_powerIn rfl (by decide +kernel) rfl ⟨(Nat.le_of_ble_eq_true rfl), (Nat.le_of_ble_eq_true rfl)⟩ ⟨(Nat.le_of_ble_eq_true rfl), (Nat.le_of_ble_eq_true rfl)⟩ (Nat.le_of_ble_eq_true rfl) dX3_valueAt_50 rfl (fun r9 ad9 M9 h9 => ?_)
    obtain ⟨rfl, rfl, rfl⟩ := h9
    refine s_eqi (y := nI (dg3 0 (e i))) (jPowerIn_eq (l := 0) (hP.2.2.1 i (by show i < n; omega)).1.1 (by omega)) ?_
    refine s_callS (As := [.int (rr 5), .int (nI (dg3 0 (e i)))]) (rest := [.long ((pn i).toInt64)]) (n := 2) (fun l hl => c_X3_power G l hl ad M (rr 5) hs0 (dg3 0 (e i)) (dg3_le (hP.2.2.1 i (by show i < n; omega)).1)) gX3_valueAt_X3_power rfl (by decide +kernel) rfl ⟨(Nat.le_of_ble_eq_true rfl), (Nat.le_of_ble_eq_true rfl)⟩ ⟨(Nat.le_of_ble_eq_true rfl), (Nat.le_of_ble_eq_true rfl)⟩ (Nat.le_of_ble_eq_true rfl) dX3_valueAt_53 rfl (fun r9 ad9 M9 h9 => ?_)
    obtain ⟨rfl, rfl, pv0, rfl, hpv0⟩ := h9
    refine s_lmul dX3_valueAt_56 ?_
    refine s_lstore dX3_valueAt_57 rfl rfl ?_
    refine s_lv (lv' := [some (.ref (ad 3 p)), some (.ref (ad 6 ri)), some (.long v), none, some (.int (nI i)), some (.long (((pn i).toInt64) * pv0)), none, some (.int 0)]) rfl ?_
    refine s_iinc (v := 1) dX3_valueAt_59 rfl (by decide) rfl ?_
    refine s_lv (lv' := [some (.ref (ad 3 p)), some (.ref (ad 6 ri)), some (.long v), none, some (.int (nI i)), some (.long (((pn i).toInt64) * pv0)), none, some (.int 1)]) rfl ?_
    refine s_goto 27 dX3_valueAt_62 (by decide) ?_
    refine s_iload dX3_valueAt_27 rfl ?_
    refine s_iconst (v := 3) dX3_valueAt_29 (by decide) ?_
    refine s_icmp_ge 65 dX3_valueAt_30 (by decide) (fun c30 => absurd c30 (by decide)) (fun c30 => ?_)
    refine s_lload dX3_valueAt_33 rfl ?_
    refine s_aload_n dX3_valueAt_35 rfl ?_
    refine s_iconst (v := 5) dX3_valueAt_36 (by decide) ?_
    refine s_iload dX3_valueAt_37 rfl ?_
    refine s_iadd dX3_valueAt_39 ?_
    refine s_iald (kd := 6) (ix := ri) (n := 8) (f := rr) (j := 6) hw (by decide) (by decide) (by decide) dX3_valueAt_40 ?_
    refine s_aload_n dX3_valueAt_41 rfl ?_
    refine s_getN (kd := 3) (ix := p) (ci := 1) (fs := [.ref (ad 4 p), .ref (ad 5 p), .int (nI n), .int (nI d), .int (jB false)]) (host := "SmallChecker") hp.1 rfl in_X3_valueAt_X0 0 (by decide) (by decide +kernel) rfl rfl dX3_valueAt_42 ?_
    refine s_iload dX3_valueAt_45 rfl ?_
    refine s_iald (kd := 4) (ix := p) (n := 40) (f := pk) (j := i) hp.2.1 (rfl) (by omega) (by decide) dX3_valueAt_47 ?_
    refine s_eqi (y := nI (e i)) ((hP.2.2.1 i (by show i < n; omega)).2.1) ?_
    refine s_iload dX3_valueAt_48 rfl ?_
    refine s_callS (As := [.int (nI (e i)), .int 1]) (rest := [.int (rr 6), .long (((pn i).toInt64) * pv0)]) (n := 2) (fun l hl => c_X3_powerIn G l hl ad M (nI (e i)) 1) gX3_valueAt_X3_powerIn rfl (by decide +kernel) rfl ⟨(Nat.le_of_ble_eq_true rfl), (Nat.le_of_ble_eq_true rfl)⟩ ⟨(Nat.le_of_ble_eq_true rfl), (Nat.le_of_ble_eq_true rfl)⟩ (Nat.le_of_ble_eq_true rfl) dX3_valueAt_50 rfl (fun r9 ad9 M9 h9 => ?_)
    obtain ⟨rfl, rfl, rfl⟩ := h9
    refine s_eqi (y := nI (dg3 1 (e i))) (jPowerIn_eq (l := 1) (hP.2.2.1 i (by show i < n; omega)).1.1 (by omega)) ?_
    refine s_callS (As := [.int (rr 6), .int (nI (dg3 1 (e i)))]) (rest := [.long (((pn i).toInt64) * pv0)]) (n := 2) (fun l hl => c_X3_power G l hl ad M (rr 6) hs1 (dg3 1 (e i)) (dg3_le (hP.2.2.1 i (by show i < n; omega)).1)) gX3_valueAt_X3_power rfl (by decide +kernel) rfl ⟨(Nat.le_of_ble_eq_true rfl), (Nat.le_of_ble_eq_true rfl)⟩ ⟨(Nat.le_of_ble_eq_true rfl), (Nat.le_of_ble_eq_true rfl)⟩ (Nat.le_of_ble_eq_true rfl) dX3_valueAt_53 rfl (fun r9 ad9 M9 h9 => ?_)
    obtain ⟨rfl, rfl, pv1, rfl, hpv1⟩ := h9
    refine s_lmul dX3_valueAt_56 ?_
    refine s_lstore dX3_valueAt_57 rfl rfl ?_
    refine s_lv (lv' := [some (.ref (ad 3 p)), some (.ref (ad 6 ri)), some (.long v), none, some (.int (nI i)), some (.long ((((pn i).toInt64) * pv0) * pv1)), none, some (.int 1)]) rfl ?_
    refine s_iinc (v := 2) dX3_valueAt_59 rfl (by decide) rfl ?_
    refine s_lv (lv' := [some (.ref (ad 3 p)), some (.ref (ad 6 ri)), some (.long v), none, some (.int (nI i)), some (.long ((((pn i).toInt64) * pv0) * pv1)), none, some (.int 2)]) rfl ?_
    refine s_goto 27 dX3_valueAt_62 (by decide) ?_
    refine s_iload dX3_valueAt_27 rfl ?_
    refine s_iconst (v := 3) dX3_valueAt_29 (by decide) ?_
    refine s_icmp_ge 65 dX3_valueAt_30 (by decide) (fun c30 => absurd c30 (by decide)) (fun c30 => ?_)
    refine s_lload dX3_valueAt_33 rfl ?_
    refine s_aload_n dX3_valueAt_35 rfl ?_
    refine s_iconst (v := 5) dX3_valueAt_36 (by decide) ?_
    refine s_iload dX3_valueAt_37 rfl ?_
    refine s_iadd dX3_valueAt_39 ?_
    refine s_iald (kd := 6) (ix := ri) (n := 8) (f := rr) (j := 7) hw (by decide) (by decide) (by decide) dX3_valueAt_40 ?_
    refine s_aload_n dX3_valueAt_41 rfl ?_
    refine s_getN (kd := 3) (ix := p) (ci := 1) (fs := [.ref (ad 4 p), .ref (ad 5 p), .int (nI n), .int (nI d), .int (jB false)]) (host := "SmallChecker") hp.1 rfl in_X3_valueAt_X0 0 (by decide) (by decide +kernel) rfl rfl dX3_valueAt_42 ?_
    refine s_iload dX3_valueAt_45 rfl ?_
    refine s_iald (kd := 4) (ix := p) (n := 40) (f := pk) (j := i) hp.2.1 (rfl) (by omega) (by decide) dX3_valueAt_47 ?_
    refine s_eqi (y := nI (e i)) ((hP.2.2.1 i (by show i < n; omega)).2.1) ?_
    refine s_iload dX3_valueAt_48 rfl ?_
    refine s_callS (As := [.int (nI (e i)), .int 2]) (rest := [.int (rr 7), .long ((((pn i).toInt64) * pv0) * pv1)]) (n := 2) (fun l hl => c_X3_powerIn G l hl ad M (nI (e i)) 2) gX3_valueAt_X3_powerIn rfl (by decide +kernel) rfl ⟨(Nat.le_of_ble_eq_true rfl), (Nat.le_of_ble_eq_true rfl)⟩ ⟨(Nat.le_of_ble_eq_true rfl), (Nat.le_of_ble_eq_true rfl)⟩ (Nat.le_of_ble_eq_true rfl) dX3_valueAt_50 rfl (fun r9 ad9 M9 h9 => ?_)
    obtain ⟨rfl, rfl, rfl⟩ := h9
    refine s_eqi (y := nI (dg3 2 (e i))) (jPowerIn_eq (l := 2) (hP.2.2.1 i (by show i < n; omega)).1.1 (by omega)) ?_
    refine s_callS (As := [.int (rr 7), .int (nI (dg3 2 (e i)))]) (rest := [.long ((((pn i).toInt64) * pv0) * pv1)]) (n := 2) (fun l hl => c_X3_power G l hl ad M (rr 7) hs2 (dg3 2 (e i)) (dg3_le (hP.2.2.1 i (by show i < n; omega)).1)) gX3_valueAt_X3_power rfl (by decide +kernel) rfl ⟨(Nat.le_of_ble_eq_true rfl), (Nat.le_of_ble_eq_true rfl)⟩ ⟨(Nat.le_of_ble_eq_true rfl), (Nat.le_of_ble_eq_true rfl)⟩ (Nat.le_of_ble_eq_true rfl) dX3_valueAt_53 rfl (fun r9 ad9 M9 h9 => ?_)
    obtain ⟨rfl, rfl, pv2, rfl, hpv2⟩ := h9
    refine s_lmul dX3_valueAt_56 ?_
    refine s_lstore dX3_valueAt_57 rfl rfl ?_
    refine s_lv (lv' := [some (.ref (ad 3 p)), some (.ref (ad 6 ri)), some (.long v), none, some (.int (nI i)), some (.long (((((pn i).toInt64) * pv0) * pv1) * pv2)), none, some (.int 2)]) rfl ?_
    refine s_iinc (v := 3) dX3_valueAt_59 rfl (by decide) rfl ?_
    refine s_lv (lv' := [some (.ref (ad 3 p)), some (.ref (ad 6 ri)), some (.long v), none, some (.int (nI i)), some (.long (((((pn i).toInt64) * pv0) * pv1) * pv2)), none, some (.int 3)]) rfl ?_
    refine s_goto 27 dX3_valueAt_62 (by decide) ?_
    refine s_iload dX3_valueAt_27 rfl ?_
    refine s_iconst (v := 3) dX3_valueAt_29 (by decide) ?_
    refine s_icmp_ge 65 dX3_valueAt_30 (by decide) (fun c30 => ?_) (fun c30 => absurd (by decide) c30)
    refine s_lload_n dX3_valueAt_65 rfl ?_
    refine s_lload dX3_valueAt_66 rfl ?_
    refine s_ladd dX3_valueAt_68 ?_
    refine s_lstore_n dX3_valueAt_69 rfl rfl ?_
    refine s_lv (lv' := [some (.ref (ad 3 p)), some (.ref (ad 6 ri)), some (.long (v + (((((pn i).toInt64) * pv0) * pv1) * pv2))), none, some (.int (nI i)), some (.long (((((pn i).toInt64) * pv0) * pv1) * pv2)), none, some (.int 3)]) rfl ?_
    refine s_iinc (v := nI (i + 1)) dX3_valueAt_70 rfl (nI_1 i) rfl ?_
    refine s_lv (lv' := [some (.ref (ad 3 p)), some (.ref (ad 6 ri)), some (.long (v + (((((pn i).toInt64) * pv0) * pv1) * pv2))), none, some (.int (nI (i + 1))), some (.long (((((pn i).toInt64) * pv0) * pv1) * pv2)), none, some (.int 3)]) rfl ?_
    refine s_goto 5 dX3_valueAt_73 (by decide) ?_
    have hx9 : ((pn i).toInt64 * pv0 * pv1 * pv2).toInt = (fun a => P a * (rr 5).toInt ^ dg3 0 a * (rr 6).toInt ^ dg3 1 a * (rr 7).toInt ^ dg3 2 a) (e i) := v3 (by rw [Int32.toInt_toInt64]; exact (hP.2.2.1 i (by show i < n; omega)).2.2.1) hpv0 hpv1 hpv2 (hP.bnd (e i)) hs0 hs1 hs2 (by have := (hP.2.2.1 i (by show i < n; omega)).1.2; rw [← gdeg_dg] at this; exact this)
    have hb9 : ∀ a, a < n → -(1000000 * 10 ^ 9) ≤ (fun a => P a * (rr 5).toInt ^ dg3 0 a * (rr 6).toInt ^ dg3 1 a * (rr 7).toInt ^ dg3 2 a) (e a) ∧ (fun a => P a * (rr 5).toInt ^ dg3 0 a * (rr 6).toInt ^ dg3 1 a * (rr 7).toInt ^ dg3 2 a) (e a) ≤ 1000000 * 10 ^ 9 := fun a ha => by
      have q := (tri_bnd (hP.bnd (e a)) hs0 hs1 hs2 (a := dg3 0 (e a)) (b := dg3 1 (e a)) (c := dg3 2 (e a)) (by have := (hP.2.2.1 a ha).1.2; rw [← gdeg_dg] at this; exact this)).2.2
      dsimp only
      omega
    refine s_drop 5 ?_
    refine s_drop 7 ?_
    refine s_lv (lv' := [some (.ref (ad 3 p)), some (.ref (ad 6 ri)), some (.long (v + (((((pn i).toInt64) * pv0) * pv1) * pv2))), none, some (.int (nI (i + 1))), none, none, none]) rfl ?_
    exact ih (i + 1) (v + (((((pn i).toInt64) * pv0) * pv1) * pv2)) (by omega) (by
      have q1 := sN_abs (g := fun a => (fun a => P a * (rr 5).toInt ^ dg3 0 a * (rr 6).toInt ^ dg3 1 a * (rr 7).toInt ^ dg3 2 a) (e a)) (W := 1000000 * 10 ^ 9) (n := i) (fun a ha => hb9 a (by omega))
      have q2 := hb9 i (by omega)
      have q3 : (1000000 * 10 ^ 9 : Int) * i ≤ 1000000 * 10 ^ 9 * 40 := Int.mul_le_mul_of_nonneg_left (by omega) (by decide)
      rw [i64_add (by rw [hv, hx9]; omega) (by rw [hv, hx9]; omega), hv, hx9]
      rfl)
set_option maxHeartbeats 4000000 in
set_option maxRecDepth 100000 in
theorem c_X3_valueAt (G : sG) (l : Launch) (hl : l.stackTraces = false) (ad : sAd) (M : sM) (p n d : Nat) (pk pn : Nat → Int32) (hp : hPo G ad M p (n, nI d, false, pk, pn)) (P : Nat → Int) (hP : PR (n, nI d, false, pk, pn) P) (ri : Nat) (rr : Nat → Int32) (hw : M 6 ri = some (.inl (gI G, 8, .inl rr))) (hs0 : -10 ≤ (rr 5).toInt ∧ (rr 5).toInt ≤ 10) (hs1 : -10 ≤ (rr 6).toInt ∧ (rr 6).toInt ≤ 10) (hs2 : -10 ≤ (rr 7).toInt ∧ (rr 7).toInt ≤ 10) : sMet G l yX3_valueAt mX3_valueAt [.ref (ad 3 p), .ref (ad 6 ri)] ad M (fun r ad' M' => ad = ad' ∧ M = M' ∧ ∃ v : Int64, r = some (.long v) ∧ v.toInt = val3 P (rr 5).toInt (rr 6).toInt (rr 7).toInt) (fun _ _ _ => False) := by
  obtain ⟨e, hP⟩ := hP
  have hfin : val3 P (rr 5).toInt (rr 6).toInt (rr 7).toInt = sN (fun a => (fun a => P a * (rr 5).toInt ^ dg3 0 a * (rr 6).toInt ^ dg3 1 a * (rr 7).toInt ^ dg3 2 a) (e a)) n := (sN_enum (F := (fun a => P a * (rr 5).toInt ^ dg3 0 a * (rr 6).toInt ^ dg3 1 a * (rr 7).toInt ^ dg3 2 a)) (N := 1000) (fun i hi => (hP.2.2.1 i hi).1.1) hP.2.2.2.1 (fun x _ hn => by
    have : P x = 0 := by
      by_cases q : P x = 0
      · exact q
      · obtain ⟨i, hi, he⟩ := hP.2.2.2.2.1 x q
        exact absurd he (hn i hi)
    show P x * _ * _ * _ = 0
    rw [this, Int.zero_mul, Int.zero_mul, Int.zero_mul])).symm
  rw [hfin]
  refine sMet.of hl (by decide +kernel) rfl rfl rfl rfl (Nat.le_of_ble_eq_true rfl) (fun X => ?_)
  refine s_lv (lv' := [some (.ref (ad 3 p)), some (.ref (ad 6 ri)), none, none, none, none, none, none]) rfl ?_
  refine s_lconst (v := 0) dX3_valueAt_0 (by decide) ?_
  refine s_lstore_n dX3_valueAt_1 rfl rfl ?_
  refine s_lv (lv' := [some (.ref (ad 3 p)), some (.ref (ad 6 ri)), some (.long 0), none, none, none, none, none]) rfl ?_
  refine s_iconst (v := 0) dX3_valueAt_2 (by decide) ?_
  refine s_istore dX3_valueAt_3 rfl rfl ?_
  refine s_lv (lv' := [some (.ref (ad 3 p)), some (.ref (ad 6 ri)), some (.long 0), none, some (.int 0), none, none, none]) rfl ?_
  exact l_X3_valueAt X G ad M p n d pk pn hp P e hP ri rr hw hs0 hs1 hs2 n 0 0 (by omega) rfl
