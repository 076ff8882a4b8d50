abbrev mX1_addDerivation : sMeth := (cX1_addDerivation, 5, RX1, wsX1_addDerivation, { frames := 1, cells := 0, slots := 0, locals := 23 }, none, "addDerivation", [])
theorem in_X1_addDerivation_X0 : ∀ w ∈ wsX00, w ∈ wsX1_addDerivation := by decide +kernel
set_option maxHeartbeats 4000000 in
set_option maxRecDepth 100000 in
theorem l_X1_addDerivation (X : sMach) (G : sG) (ad : sAd) (M0 : sM) (p n : Nat) (dg : Int32) (g : Bool) (pk pn : Nat → Int32) (hp0 : hPo G ad M0 p (n, dg, g, pk, pn)) (e : Nat → Nat) (P : Nat → Int) (hP : PE (n, dg, g, pk, pn) e P) (th : Bool) (f : Nat → Int) (B : Int) (hf : ∀ y, -B ≤ f y ∧ f y ≤ B) (hB : 0 ≤ B ∧ B ≤ 2 ^ 62) (lt : Nat) (hl2 : lt ≤ 2) : ∀ (k i : Nat) (M : sM) (lo ks : Nat → Int32) (ns : Nat → Int64) (u : Nat) (h : hSh G ad M (lo, ks, ns, u, th)) (hs : sSame pSh M0 M), i + k = n → ShR (lo, ks, ns, u, th) (gth f e (fun a => a - kl3 lt) (fun a => (dg3 lt a : Int) * P a) i) → sW X G mX1_addDerivation (sQ X G mX1_addDerivation (fun r ad' M' => ad = ad' ∧ r = none ∧ (∃ lo' ks' ns' u', hSh G ad M' (lo', ks', ns', u', th) ∧ ShR (lo', ks', ns', u', th) (gth f e (fun a => a - kl3 lt) (fun a => (dg3 lt a : Int) * P a) n)) ∧ sSame pSh M0 M') (fun _ _ _ => False)) ad M 0 0 [some (.ref (ad 1 0)), some (.ref (ad 3 p)), some (.int (nI lt)), some (.int (nI i)), none] 2 [] := by
  intro k
  induction k with
  | zero =>
    intro i M lo ks ns u h hs hi hv
    have hn40 : n ≤ 40 := hP.1
    have hp := hp0.same hs (by simp [pSh]) (by simp [pSh]) (by simp [pSh])
    refine s_iload_n dX1_addDerivation_2 rfl ?_
    refine s_aload_n dX1_addDerivation_3 rfl ?_
    refine s_getN (kd := 3) (ix := p) (ci := 1) (fs := [.ref (ad 4 p), .ref (ad 5 p), .int (nI n), .int dg, .int (jB g)]) (host := "SmallChecker") hp.1 rfl in_X1_addDerivation_X0 2 (by decide) (by decide +kernel) rfl rfl dX1_addDerivation_4 ?_
    refine s_icmp_ge 59 dX1_addDerivation_7 (by decide) (fun c7 => ?_) (fun c7 => absurd (nI_le (by omega) (by omega)) c7)
    exact s_vret rfl dX1_addDerivation_59 (Nat.le_of_ble_eq_true rfl) (Nat.le_of_ble_eq_true rfl) (⟨rfl, rfl, ⟨lo, ks, ns, u, h, by rw [show i = n by omega] at hv; exact hv⟩, hs⟩)
  | succ k ih =>
    intro i M lo ks ns u h hs hi hv
    have hn40 : n ≤ 40 := hP.1
    have hp := hp0.same hs (by simp [pSh]) (by simp [pSh]) (by simp [pSh])
    refine s_iload_n dX1_addDerivation_2 rfl ?_
    refine s_aload_n dX1_addDerivation_3 rfl ?_
    refine s_getN (kd := 3) (ix := p) (ci := 1) (fs := [.ref (ad 4 p), .ref (ad 5 p), .int (nI n), .int dg, .int (jB g)]) (host := "SmallChecker") hp.1 rfl in_X1_addDerivation_X0 2 (by decide) (by decide +kernel) rfl rfl dX1_addDerivation_4 ?_
    refine s_icmp_ge 59 dX1_addDerivation_7 (by decide) (fun c7 => absurd c7 (nI_ge (by omega) (by omega))) (fun c7 => ?_)
    refine s_aload_n dX1_addDerivation_10 rfl ?_
    refine s_getN (kd := 3) (ix := p) (ci := 1) (fs := [.ref (ad 4 p), .ref (ad 5 p), .int (nI n), .int dg, .int (jB g)]) (host := "SmallChecker") hp.1 rfl in_X1_addDerivation_X0 0 (by decide) (by decide +kernel) rfl rfl dX1_addDerivation_11 ?_
    refine s_iload_n dX1_addDerivation_14 rfl ?_
    refine s_iald (kd := 4) (ix := p) (n := 40) (f := pk) (j := i) hp.2.1 (rfl) (by omega) (by decide) dX1_addDerivation_15 ?_
    refine s_eqi (y := nI (e i)) ((hP.2.2.1 i (by show i < n; omega)).2.1) ?_
    refine s_iload_n dX1_addDerivation_16 rfl ?_
    refine s_callSN (As := [.int (nI (e i)), .int (nI lt)]) (rest := []) (n := 2) (fun l hl => c_X3_powerIn G l hl ad M (nI (e i)) (nI lt)) gX1_addDerivation_X3_powerIn_n45 rfl (host := "SmallChecker") (by decide +kernel) (by decide +kernel) (by decide +kernel) (by decide +kernel) rfl ⟨(Nat.le_of_ble_eq_true rfl), (Nat.le_of_ble_eq_true rfl)⟩ ⟨(Nat.le_of_ble_eq_true rfl), (Nat.le_of_ble_eq_true rfl)⟩ (Nat.le_of_ble_eq_true rfl) dX1_addDerivation_17 rfl (fun r9 ad9 M9 h9 => ?_)
    obtain ⟨rfl, rfl, rfl⟩ := h9
    refine s_eqi (y := nI (dg3 lt (e i))) (jPowerIn_eq (hP.2.2.1 i (by show i < n; omega)).1.1 hl2) ?_
    refine s_istore dX1_addDerivation_20 rfl rfl ?_
    refine s_lv (lv' := [some (.ref (ad 1 0)), some (.ref (ad 3 p)), some (.int (nI lt)), some (.int (nI i)), some (.int (nI (dg3 lt (e i))))]) rfl ?_
    refine s_iload dX1_addDerivation_22 rfl ?_
    refine s_if_le 53 dX1_addDerivation_24 (by decide) (fun c24 => ?_) (fun c24 => ?_)
    · refine s_iinc (v := nI (i + 1)) dX1_addDerivation_53 rfl (nI_1 i) rfl ?_
      refine s_lv (lv' := [some (.ref (ad 1 0)), some (.ref (ad 3 p)), some (.int (nI lt)), some (.int (nI (i + 1))), some (.int (nI (dg3 lt (e i))))]) rfl ?_
      refine s_goto 2 dX1_addDerivation_56 (by decide) ?_
      refine s_drop 4 ?_
      refine s_lv (lv' := [some (.ref (ad 1 0)), some (.ref (ad 3 p)), some (.int (nI lt)), some (.int (nI (i + 1))), none]) rfl ?_
      exact ih (i + 1) M lo ks ns u h hs (by omega) (by
        rw [← gth_skip f e (fun a => a - kl3 lt) (fun a => (dg3 lt a : Int) * P a) i (by
          have hd9 := dg3_le (l := lt) (hP.2.2.1 i (by show i < n; omega)).1
          have q : dg3 lt (e i) = 0 := by
            have := (nI_leI (a := dg3 lt (e i)) (b := 0) (by omega) (by omega)).mp c24
            omega
          show (dg3 lt (e i) : Int) * P (e i) = 0
          rw [q]; omega)]
        exact hv)
    · have hd9 := dg3_le (l := lt) (hP.2.2.1 i (by show i < n; omega)).1
      have hdp : 1 ≤ dg3 lt (e i) := by
        rcases Nat.eq_zero_or_pos (dg3 lt (e i)) with q | q
        · exact absurd (by rw [q]; decide) c24
        · exact q
      have hx9 : ((nI (dg3 lt (e i))).toInt64 * (pn i).toInt64).toInt = (dg3 lt (e i) : Int) * P (e i) := by
        rw [i64_mul32, nI_toInt (by omega)]; exact congrArg (fun z => (dg3 lt (e i) : Int) * z) (hP.2.2.1 i (by show i < n; omega)).2.2.1
      have hw9 : -(9 * 1000000) ≤ (dg3 lt (e i) : Int) * P (e i) ∧ (dg3 lt (e i) : Int) * P (e i) ≤ 9 * 1000000 := mul_bnd (by omega) (by omega) (by omega) (hP.bnd (e i))
      refine s_aload_n dX1_addDerivation_27 rfl ?_
      refine s_aload_n dX1_addDerivation_28 rfl ?_
      refine s_getN (kd := 3) (ix := p) (ci := 1) (fs := [.ref (ad 4 p), .ref (ad 5 p), .int (nI n), .int dg, .int (jB g)]) (host := "SmallChecker") hp.1 rfl in_X1_addDerivation_X0 0 (by decide) (by decide +kernel) rfl rfl dX1_addDerivation_29 ?_
      refine s_iload_n dX1_addDerivation_32 rfl ?_
      refine s_iald (kd := 4) (ix := p) (n := 40) (f := pk) (j := i) hp.2.1 (rfl) (by omega) (by decide) dX1_addDerivation_33 ?_
      refine s_eqi (y := nI (e i)) ((hP.2.2.1 i (by show i < n; omega)).2.1) ?_
      refine s_iload_n dX1_addDerivation_34 rfl ?_
      refine s_callSN (As := [.int (nI lt)]) (rest := [.int (nI (e i)), .ref (ad 1 0)]) (n := 1) (fun l hl => c_X3_keyOfLetter G l hl ad M (nI lt)) gX1_addDerivation_X3_keyOfLetter_n49 rfl (host := "SmallChecker") (by decide +kernel) (by decide +kernel) (by decide +kernel) (by decide +kernel) rfl ⟨(Nat.le_of_ble_eq_true rfl), (Nat.le_of_ble_eq_true rfl)⟩ ⟨(Nat.le_of_ble_eq_true rfl), (Nat.le_of_ble_eq_true rfl)⟩ (Nat.le_of_ble_eq_true rfl) dX1_addDerivation_35 rfl (fun r9 ad9 M9 h9 => ?_)
      obtain ⟨rfl, rfl, rfl⟩ := h9
      refine s_eqi (y := nI (kl3 lt)) (jKeyOf_eq hl2) ?_
      refine s_isub dX1_addDerivation_38 ?_
      refine s_eqi (y := nI (e i - kl3 lt)) (pk_sub (by have q := (good_less (m := 1) (hP.2.2.1 i (by show i < n; omega)).1 hl2 hdp).1; omega)) ?_
      refine s_iload dX1_addDerivation_39 rfl ?_
      refine s_i2l dX1_addDerivation_41 ?_
      refine s_aload_n dX1_addDerivation_42 rfl ?_
      refine s_getN (kd := 3) (ix := p) (ci := 1) (fs := [.ref (ad 4 p), .ref (ad 5 p), .int (nI n), .int dg, .int (jB g)]) (host := "SmallChecker") hp.1 rfl in_X1_addDerivation_X0 1 (by decide) (by decide +kernel) rfl rfl dX1_addDerivation_43 ?_
      refine s_iload_n dX1_addDerivation_46 rfl ?_
      refine s_iald (kd := 5) (ix := p) (n := 40) (f := pn) (j := i) hp.2.2 (rfl) (by omega) (by decide) dX1_addDerivation_47 ?_
      refine s_i2l dX1_addDerivation_48 ?_
      refine s_lmul dX1_addDerivation_49 ?_
      refine s_callV (As := [.int (nI (e i - kl3 lt)), .long (((nI (dg3 lt (e i))).toInt64) * ((pn i).toInt64))]) (rest := []) (n := 2) (kd := 1) (ix := 0) (fun l hl => c_X1_add G l hl ad M lo ks ns u th h (gth f e (fun a => a - kl3 lt) (fun a => (dg3 lt a : Int) * P a) i) hv (e i - kl3 lt) (by have q := (good_less (m := 1) (hP.2.2.1 i (by show i < n; omega)).1 hl2 hdp).2; rw [Nat.one_mul] at q; exact q) (((nI (dg3 lt (e i))).toInt64) * ((pn i).toInt64)) (by have q1 := gth_bound (κ := fun a => a - kl3 lt) (w := fun a => (dg3 lt a : Int) * P a) (n := 40) hf (by decide : (0 : Int) ≤ 9 * 1000000) (i := i) (fun a ha => by have q1 := hP.bnd (e a); have q2 := dg3_le (l := lt) (hP.2.2.1 a (by show a < n; omega)).1; have q3 := mul_bnd (x := (dg3 lt (e a) : Int)) (y := P (e a)) (A := 9) (B := 1000000) (by omega) (by omega) (by omega) q1; exact q3) (by omega) (e i - kl3 lt); rw [hx9]; have q4 := hw9; omega)) gX1_addDerivation_X1_add rfl (by decide +kernel) h.1 rfl rfl ⟨(Nat.le_of_ble_eq_true rfl), (Nat.le_of_ble_eq_true rfl)⟩ ⟨(Nat.le_of_ble_eq_true rfl), (Nat.le_of_ble_eq_true rfl)⟩ (Nat.le_of_ble_eq_true rfl) dX1_addDerivation_50 rfl (fun r9 ad9 M9 h9 => ?_)
      obtain ⟨rfl, rfl, ⟨lo1, ks1, ns1, u1, h1, hR1⟩, hs1⟩ := h9
      refine s_iinc (v := nI (i + 1)) dX1_addDerivation_53 rfl (nI_1 i) rfl ?_
      refine s_lv (lv' := [some (.ref (ad 1 0)), some (.ref (ad 3 p)), some (.int (nI lt)), some (.int (nI (i + 1))), some (.int (nI (dg3 lt (e i))))]) rfl ?_
      refine s_goto 2 dX1_addDerivation_56 (by decide) ?_
      refine s_drop 4 ?_
      refine s_lv (lv' := [some (.ref (ad 1 0)), some (.ref (ad 3 p)), some (.int (nI lt)), some (.int (nI (i + 1))), none]) rfl ?_
      exact ih (i + 1) M9 lo1 ks1 ns1 u1 h1 (hs.trans hs1) (by omega) (by rw [hx9] at hR1; exact (gth_step f e (fun a => a - kl3 lt) (fun a => (dg3 lt a : Int) * P a) i) ▸ hR1)
set_option maxHeartbeats 4000000 in
set_option maxRecDepth 100000 in
theorem c_X1_addDerivation (G : sG) (l : Launch) (hl : l.stackTraces = false) (ad : sAd) (M : sM) (p n : Nat) (dg : Int32) (g : Bool) (pk pn : Nat → Int32) (hp : hPo G ad M p (n, dg, g, pk, pn)) (P : Nat → Int) (hP : PR (n, dg, g, pk, pn) P) (lo ks : Nat → Int32) (ns : Nat → Int64) (u : Nat) (th : Bool) (h : hSh G ad M (lo, ks, ns, u, th)) (f : Nat → Int) (hR : ShR (lo, ks, ns, u, th) f) (B : Int) (hf : ∀ y, -B ≤ f y ∧ f y ≤ B) (hB : 0 ≤ B ∧ B ≤ 2 ^ 62) (lt : Nat) (hl2 : lt ≤ 2) : sMet G l yX1_addDerivation mX1_addDerivation [.ref (ad 1 0), .ref (ad 3 p), .int (nI lt)] ad M (fun r ad' M' => ad = ad' ∧ r = none ∧ (∃ lo' ks' ns' u', hSh G ad M' (lo', ks', ns', u', th) ∧ ShR (lo', ks', ns', u', th) (fun y => f y + derv lt P y)) ∧ sSame pSh M M') (fun _ _ _ => False) := by
  obtain ⟨e, hP⟩ := hP
  have hfin : (fun y => f y + derv lt P y) = gth f e (fun a => a - kl3 lt) (fun a => (dg3 lt a : Int) * P a) n := by
    rw [gth_end (π := (n, dg, g, pk, pn)) hP (fun a ha => by rw [ha]; omega)]
    rfl
  rw [hfin]
  refine sMet.of hl (by decide +kernel) rfl rfl rfl rfl (Nat.le_of_ble_eq_true rfl) (fun X => ?_)
  refine s_lv (lv' := [some (.ref (ad 1 0)), some (.ref (ad 3 p)), some (.int (nI lt)), none, none]) rfl ?_
  refine s_iconst (v := 0) dX1_addDerivation_0 (by decide) ?_
  refine s_istore_n dX1_addDerivation_1 rfl rfl ?_
  refine s_lv (lv' := [some (.ref (ad 1 0)), some (.ref (ad 3 p)), some (.int (nI lt)), some (.int 0), none]) rfl ?_
  exact l_X1_addDerivation X G ad M p n dg g pk pn hp e P hP th f B hf hB lt hl2 n 0 M lo ks ns u h sSame.rfl (by omega) (by rw [gth_0]; exact hR)
abbrev mX1_addWithNumber : sMeth := (cX1_addWithNumber, 6, RX1, wsX1_addWithNumber, { frames := 1, cells := 0, slots := 0, locals := 24 }, none, "addWithNumber", [])
theorem in_X1_addWithNumber_X0 : ∀ w ∈ wsX00, w ∈ wsX1_addWithNumber := by decide +kernel
set_option maxHeartbeats 4000000 in
set_option maxRecDepth 100000 in
theorem l_X1_addWithNumber (X : sMach) (G : sG) (ad : sAd) (M0 : sM) (p n : Nat) (dg : Int32) (g : Bool) (pk pn : Nat → Int32) (hp0 : hPo G ad M0 p (n, dg, g, pk, pn)) (e : Nat → Nat) (P : Nat → Int) (hP : PE (n, dg, g, pk, pn) e P) (th : Bool) (f : Nat → Int) (B : Int) (hf : ∀ y, -B ≤ f y ∧ f y ≤ B) (hB : 0 ≤ B ∧ B ≤ 2 ^ 62) (lt : Nat) (hl2 : lt ≤ 2) (v : Int32) (hv10 : -10 ≤ v.toInt ∧ v.toInt ≤ 10) : ∀ (k i : Nat) (M : sM) (lo ks : Nat → Int32) (ns : Nat → Int64) (u : Nat) (h : hSh G ad M (lo, ks, ns, u, th)) (hs : sSame pSh M0 M), i + k = n → ShR (lo, ks, ns, u, th) (gth f e (fun a => a - dg3 lt a * kl3 lt) (fun a => P a * v.toInt ^ dg3 lt a) i) → sW X G mX1_addWithNumber (sQ X G mX1_addWithNumber (fun r ad' M' => ad = ad' ∧ r = none ∧ (∃ lo' ks' ns' u', hSh G ad M' (lo', ks', ns', u', th) ∧ ShR (lo', ks', ns', u', th) (gth f e (fun a => a - dg3 lt a * kl3 lt) (fun a => P a * v.toInt ^ dg3 lt a) n)) ∧ sSame pSh M0 M') (fun _ _ _ => False)) ad M 0 0 [some (.ref (ad 1 0)), some (.ref (ad 3 p)), some (.int v), some (.int (nI lt)), some (.int (nI i)), none] 3 [] := by
  intro k
  induction k with
  | zero =>
    intro i M lo ks ns u h hs hi hv
    have hn40 : n ≤ 40 := hP.1
    have hp := hp0.same hs (by simp [pSh]) (by simp [pSh]) (by simp [pSh])
    refine s_iload dX1_addWithNumber_3 rfl ?_
    refine s_aload_n dX1_addWithNumber_5 rfl ?_
    refine s_getN (kd := 3) (ix := p) (ci := 1) (fs := [.ref (ad 4 p), .ref (ad 5 p), .int (nI n), .int dg, .int (jB g)]) (host := "SmallChecker") hp.1 rfl in_X1_addWithNumber_X0 2 (by decide) (by decide +kernel) rfl rfl dX1_addWithNumber_6 ?_
    refine s_icmp_ge 65 dX1_addWithNumber_9 (by decide) (fun c9 => ?_) (fun c9 => absurd (nI_le (by omega) (by omega)) c9)
    exact s_vret rfl dX1_addWithNumber_65 (Nat.le_of_ble_eq_true rfl) (Nat.le_of_ble_eq_true rfl) (⟨rfl, rfl, ⟨lo, ks, ns, u, h, by rw [show i = n by omega] at hv; exact hv⟩, hs⟩)
  | succ k ih =>
    intro i M lo ks ns u h hs hi hv
    have hn40 : n ≤ 40 := hP.1
    have hp := hp0.same hs (by simp [pSh]) (by simp [pSh]) (by simp [pSh])
    refine s_iload dX1_addWithNumber_3 rfl ?_
    refine s_aload_n dX1_addWithNumber_5 rfl ?_
    refine s_getN (kd := 3) (ix := p) (ci := 1) (fs := [.ref (ad 4 p), .ref (ad 5 p), .int (nI n), .int dg, .int (jB g)]) (host := "SmallChecker") hp.1 rfl in_X1_addWithNumber_X0 2 (by decide) (by decide +kernel) rfl rfl dX1_addWithNumber_6 ?_
    refine s_icmp_ge 65 dX1_addWithNumber_9 (by decide) (fun c9 => absurd c9 (nI_ge (by omega) (by omega))) (fun c9 => ?_)
    refine s_aload_n dX1_addWithNumber_12 rfl ?_
    refine s_getN (kd := 3) (ix := p) (ci := 1) (fs := [.ref (ad 4 p), .ref (ad 5 p), .int (nI n), .int dg, .int (jB g)]) (host := "SmallChecker") hp.1 rfl in_X1_addWithNumber_X0 0 (by decide) (by decide +kernel) rfl rfl dX1_addWithNumber_13 ?_
    refine s_iload dX1_addWithNumber_16 rfl ?_
    refine s_iald (kd := 4) (ix := p) (n := 40) (f := pk) (j := i) hp.2.1 (rfl) (by omega) (by decide) dX1_addWithNumber_18 ?_
    refine s_eqi (y := nI (e i)) ((hP.2.2.1 i (by show i < n; omega)).2.1) ?_
    refine s_iload_n dX1_addWithNumber_19 rfl ?_
    refine s_callSN (As := [.int (nI (e i)), .int (nI lt)]) (rest := []) (n := 2) (fun l hl => c_X3_powerIn G l hl ad M (nI (e i)) (nI lt)) gX1_addWithNumber_X3_powerIn_n45 rfl (host := "SmallChecker") (by decide +kernel) (by decide +kernel) (by decide +kernel) (by decide +kernel) rfl ⟨(Nat.le_of_ble_eq_true rfl), (Nat.le_of_ble_eq_true rfl)⟩ ⟨(Nat.le_of_ble_eq_true rfl), (Nat.le_of_ble_eq_true rfl)⟩ (Nat.le_of_ble_eq_true rfl) dX1_addWithNumber_20 rfl (fun r9 ad9 M9 h9 => ?_)
    obtain ⟨rfl, rfl, rfl⟩ := h9
    refine s_eqi (y := nI (dg3 lt (e i))) (jPowerIn_eq (hP.2.2.1 i (by show i < n; omega)).1.1 hl2) ?_
    refine s_istore dX1_addWithNumber_23 rfl rfl ?_
    refine s_lv (lv' := [some (.ref (ad 1 0)), some (.ref (ad 3 p)), some (.int v), some (.int (nI lt)), some (.int (nI i)), some (.int (nI (dg3 lt (e i))))]) rfl ?_
    have hw9 : -(1000000 * 1000000000) ≤ P (e i) * v.toInt ^ dg3 lt (e i) ∧ P (e i) * v.toInt ^ dg3 lt (e i) ≤ 1000000 * 1000000000 := mul_bnd (by omega) (by omega) (hP.bnd (e i)) (pw_bnd hv10 (dg3_le (hP.2.2.1 i (by show i < n; omega)).1))
    refine s_aload_n dX1_addWithNumber_25 rfl ?_
    refine s_aload_n dX1_addWithNumber_26 rfl ?_
    refine s_getN (kd := 3) (ix := p) (ci := 1) (fs := [.ref (ad 4 p), .ref (ad 5 p), .int (nI n), .int dg, .int (jB g)]) (host := "SmallChecker") hp.1 rfl in_X1_addWithNumber_X0 0 (by decide) (by decide +kernel) rfl rfl dX1_addWithNumber_27 ?_
    refine s_iload dX1_addWithNumber_30 rfl ?_
    refine s_iald (kd := 4) (ix := p) (n := 40) (f := pk) (j := i) hp.2.1 (rfl) (by omega) (by decide) dX1_addWithNumber_32 ?_
    refine s_eqi (y := nI (e i)) ((hP.2.2.1 i (by show i < n; omega)).2.1) ?_
    refine s_iload dX1_addWithNumber_33 rfl ?_
    refine s_iload_n dX1_addWithNumber_35 rfl ?_
    refine s_callSN (As := [.int (nI lt)]) (rest := [.int (nI (dg3 lt (e i))), .int (nI (e i)), .ref (ad 1 0)]) (n := 1) (fun l hl => c_X3_keyOfLetter G l hl ad M (nI lt)) gX1_addWithNumber_X3_keyOfLetter_n49 rfl (host := "SmallChecker") (by decide +kernel) (by decide +kernel) (by decide +kernel) (by decide +kernel) rfl ⟨(Nat.le_of_ble_eq_true rfl), (Nat.le_of_ble_eq_true rfl)⟩ ⟨(Nat.le_of_ble_eq_true rfl), (Nat.le_of_ble_eq_true rfl)⟩ (Nat.le_of_ble_eq_true rfl) dX1_addWithNumber_36 rfl (fun r9 ad9 M9 h9 => ?_)
    obtain ⟨rfl, rfl, rfl⟩ := h9
    refine s_eqi (y := nI (kl3 lt)) (jKeyOf_eq hl2) ?_
    refine s_imul dX1_addWithNumber_39 ?_
    refine s_eqi (y := nI (dg3 lt (e i) * kl3 lt)) (pk_mul _ _) ?_
    refine s_isub dX1_addWithNumber_40 ?_
    refine s_eqi (y := nI (e i - dg3 lt (e i) * kl3 lt)) (pk_sub (good_less (hP.2.2.1 i (by show i < n; omega)).1 hl2 (Nat.le_refl _)).1) ?_
    refine s_aload_n dX1_addWithNumber_41 rfl ?_
    refine s_getN (kd := 3) (ix := p) (ci := 1) (fs := [.ref (ad 4 p), .ref (ad 5 p), .int (nI n), .int dg, .int (jB g)]) (host := "SmallChecker") hp.1 rfl in_X1_addWithNumber_X0 1 (by decide) (by decide +kernel) rfl rfl dX1_addWithNumber_42 ?_
    refine s_iload dX1_addWithNumber_45 rfl ?_
    refine s_iald (kd := 5) (ix := p) (n := 40) (f := pn) (j := i) hp.2.2 (rfl) (by omega) (by decide) dX1_addWithNumber_47 ?_
    refine s_i2l dX1_addWithNumber_48 ?_
    refine s_iload_n dX1_addWithNumber_49 rfl ?_
    refine s_iload dX1_addWithNumber_50 rfl ?_
    refine s_callSN (As := [.int v, .int (nI (dg3 lt (e i)))]) (rest := [.long ((pn i).toInt64), .int (nI (e i - dg3 lt (e i) * kl3 lt)), .ref (ad 1 0)]) (n := 2) (fun l hl => c_X3_power G l hl ad M v hv10 (dg3 lt (e i)) (dg3_le (hP.2.2.1 i (by show i < n; omega)).1)) gX1_addWithNumber_X3_power_n53 rfl (host := "SmallChecker") (by decide +kernel) (by decide +kernel) (by decide +kernel) (by decide +kernel) rfl ⟨(Nat.le_of_ble_eq_true rfl), (Nat.le_of_ble_eq_true rfl)⟩ ⟨(Nat.le_of_ble_eq_true rfl), (Nat.le_of_ble_eq_true rfl)⟩ (Nat.le_of_ble_eq_true rfl) dX1_addWithNumber_52 rfl (fun r9 ad9 M9 h9 => ?_)
    obtain ⟨rfl, rfl, pv, rfl, hpv⟩ := h9
    have hx9 : ((pn i).toInt64 * pv).toInt = P (e i) * v.toInt ^ dg3 lt (e i) := by
        rw [i64_mul (by rw [Int32.toInt_toInt64, hpv, (hP.2.2.1 i (by show i < n; omega)).2.2.1]; have := hw9; omega) (by rw [Int32.toInt_toInt64, hpv, (hP.2.2.1 i (by show i < n; omega)).2.2.1]; have := hw9; omega), Int32.toInt_toInt64, hpv, (hP.2.2.1 i (by show i < n; omega)).2.2.1]
    refine s_lmul dX1_addWithNumber_55 ?_
    refine s_callV (As := [.int (nI (e i - dg3 lt (e i) * kl3 lt)), .long (((pn i).toInt64) * pv)]) (rest := []) (n := 2) (kd := 1) (ix := 0) (fun l hl => c_X1_add G l hl ad M lo ks ns u th h (gth f e (fun a => a - dg3 lt a * kl3 lt) (fun a => P a * v.toInt ^ dg3 lt a) i) hv (e i - dg3 lt (e i) * kl3 lt) ((good_less (hP.2.2.1 i (by show i < n; omega)).1 hl2 (Nat.le_refl _)).2) (((pn i).toInt64) * pv) (by have q1 := gth_bound (κ := (fun a => a - dg3 lt a * kl3 lt)) (w := (fun a => P a * v.toInt ^ dg3 lt a)) (n := 40) hf (by decide : (0 : Int) ≤ 1000000 * 1000000000) (i := i) (fun a ha => mul_bnd (A := 1000000) (B := 1000000000) (by omega) (by omega) (hP.bnd (e a)) (pw_bnd hv10 (dg3_le (hP.2.2.1 a (by show a < n; omega)).1))) (by omega) (e i - dg3 lt (e i) * kl3 lt); rw [hx9]; have q4 := hw9; omega)) gX1_addWithNumber_X1_add rfl (by decide +kernel) h.1 rfl rfl ⟨(Nat.le_of_ble_eq_true rfl), (Nat.le_of_ble_eq_true rfl)⟩ ⟨(Nat.le_of_ble_eq_true rfl), (Nat.le_of_ble_eq_true rfl)⟩ (Nat.le_of_ble_eq_true rfl) dX1_addWithNumber_56 rfl (fun r9 ad9 M9 h9 => ?_)
    obtain ⟨rfl, rfl, ⟨lo1, ks1, ns1, u1, h1, hR1⟩, hs1⟩ := h9
    refine s_iinc (v := nI (i + 1)) dX1_addWithNumber_59 rfl (nI_1 i) rfl ?_
    refine s_lv (lv' := [some (.ref (ad 1 0)), some (.ref (ad 3 p)), some (.int v), some (.int (nI lt)), some (.int (nI (i + 1))), some (.int (nI (dg3 lt (e i))))]) rfl ?_
    refine s_goto 3 dX1_addWithNumber_62 (by decide) ?_
    refine s_drop 5 ?_
    refine s_lv (lv' := [some (.ref (ad 1 0)), some (.ref (ad 3 p)), some (.int v), some (.int (nI lt)), some (.int (nI (i + 1))), none]) rfl ?_
    exact ih (i + 1) M9 lo1 ks1 ns1 u1 h1 (hs.trans hs1) (by omega) (by rw [hx9] at hR1; exact (gth_step f e (fun a => a - dg3 lt a * kl3 lt) (fun a => P a * v.toInt ^ dg3 lt a) i) ▸ hR1)
set_option maxHeartbeats 4000000 in
set_option maxRecDepth 100000 in
theorem c_X1_addWithNumber (G : sG) (l : Launch) (hl : l.stackTraces = false) (ad : sAd) (M : sM) (p n : Nat) (dg : Int32) (g : Bool) (pk pn : Nat → Int32) (hp : hPo G ad M p (n, dg, g, pk, pn)) (P : Nat → Int) (hP : PR (n, dg, g, pk, pn) P) (lo ks : Nat → Int32) (ns : Nat → Int64) (u : Nat) (th : Bool) (h : hSh G ad M (lo, ks, ns, u, th)) (f : Nat → Int) (hR : ShR (lo, ks, ns, u, th) f) (B : Int) (hf : ∀ y, -B ≤ f y ∧ f y ≤ B) (hB : 0 ≤ B ∧ B ≤ 2 ^ 62) (lt : Nat) (hl2 : lt ≤ 2) (v : Int32) (hv10 : -10 ≤ v.toInt ∧ v.toInt ≤ 10) : sMet G l yX1_addWithNumber mX1_addWithNumber [.ref (ad 1 0), .ref (ad 3 p), .int v, .int (nI lt)] ad M (fun r ad' M' => ad = ad' ∧ r = none ∧ (∃ lo' ks' ns' u', hSh G ad M' (lo', ks', ns', u', th) ∧ ShR (lo', ks', ns', u', th) (fun y => f y + subs lt v.toInt P y)) ∧ sSame pSh M M') (fun _ _ _ => False) := by
  obtain ⟨e, hP⟩ := hP
  have hfin : (fun y => f y + subs lt v.toInt P y) = gth f e (fun a => a - dg3 lt a * kl3 lt) (fun a => P a * v.toInt ^ dg3 lt a) n := by
    rw [gth_end (π := (n, dg, g, pk, pn)) hP (fun a ha => by rw [ha]; omega)]
    rfl
  rw [hfin]
  refine sMet.of hl (by decide +kernel) rfl rfl rfl rfl (Nat.le_of_ble_eq_true rfl) (fun X => ?_)
  refine s_lv (lv' := [some (.ref (ad 1 0)), some (.ref (ad 3 p)), some (.int v), some (.int (nI lt)), none, none]) rfl ?_
  refine s_iconst (v := 0) dX1_addWithNumber_0 (by decide) ?_
  refine s_istore dX1_addWithNumber_1 rfl rfl ?_
  refine s_lv (lv' := [some (.ref (ad 1 0)), some (.ref (ad 3 p)), some (.int v), some (.int (nI lt)), some (.int 0), none]) rfl ?_
  exact l_X1_addWithNumber X G ad M p n dg g pk pn hp e P hP th f B hf hB lt hl2 v hv10 n 0 M lo ks ns u h sSame.rfl (by omega) (by rw [gth_0]; exact hR)
