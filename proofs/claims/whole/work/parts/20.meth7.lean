abbrev mX1_copyTo : sMeth := (cX1_copyTo, 3, RX1, wsX1_copyTo, { frames := 3, cells := 0, slots := 0, locals := 64 }, none, "copyTo", [])
theorem in_X1_copyTo_X1 : ∀ w ∈ wsX10, w ∈ wsX1_copyTo := by decide +kernel
set_option maxHeartbeats 4000000 in
set_option maxRecDepth 100000 in
theorem l_X1_copyTo (X : sMach) (G : sG) (ad : sAd) (M0 : sM) (p : Nat) (lo ks : Nat → Int32) (ns : Nat → Int64) (u : Nat) (th : Bool) (hsh0 : hSh G ad M0 (lo, ks, ns, u, th)) (f : Nat → Int) (e : Nat → Nat) (hE : ShE (lo, ks, ns, u, th) e f) : ∀ (k i : Nat) (M : sM) (n : Nat) (dg : Int32) (g : Bool) (pk pn : Nat → Int32) (h : hPo G ad M p (n, dg, g, pk, pn)) (hs : sSame (pPo p) M0 M), i + k = u → Cp (n, dg, g, pk, pn) f e i → sW X G mX1_copyTo (sQ X G mX1_copyTo (fun r ad' M' => ad = ad' ∧ r = none ∧ (∃ π', hPo G ad M' p π' ∧ ((th = true ∧ PG π') ∨ (th = false ∧ (PR π' f ∨ (PG π' ∧ ¬ fitsP f))))) ∧ sSame (pPo p) M0 M') (fun _ _ _ => False)) ad M 0 0 [some (.ref (ad 1 0)), some (.ref (ad 3 p)), some (.int (nI i))] 6 [] := by
  intro k
  induction k with
  | zero =>
    intro i M n dg g pk pn h hs hi hv
    have hu : u ≤ 220 := hE.1
    have hsh : hSh G ad M (lo, ks, ns, u, th) := ⟨(hs _ _ (by simp [pPo])).trans hsh0.1, (hs _ _ (by simp [pPo])).trans hsh0.2.1, (hs _ _ (by simp [pPo])).trans hsh0.2.2.1, (hs _ _ (by simp [pPo])).trans hsh0.2.2.2⟩
    refine s_iload_n dX1_copyTo_6 rfl ?_
    refine s_aload_n dX1_copyTo_7 rfl ?_
    refine s_get (kd := 1) (ix := 0) (ci := 2) (fs := [.ref (ad 9 0), .ref (ad 10 0), .ref (ad 11 0), .int (nI u), .int (jB th)])  hsh.1 rfl in_X1_copyTo_X1 3 (by decide) (by decide +kernel) rfl rfl dX1_copyTo_8 ?_
    refine s_icmp_ge 36 dX1_copyTo_11 (by decide) (fun c11 => ?_) (fun c11 => absurd (nI_le (by omega) (by omega)) c11)
    refine s_aload_n dX1_copyTo_36 rfl ?_
    refine s_get (kd := 1) (ix := 0) (ci := 2) (fs := [.ref (ad 9 0), .ref (ad 10 0), .ref (ad 11 0), .int (nI u), .int (jB th)])  hsh.1 rfl in_X1_copyTo_X1 4 (by decide) (by decide +kernel) rfl rfl dX1_copyTo_37 ?_
    refine s_if_eq 47 dX1_copyTo_40 (by decide) (fun c40 => ?_) (fun c40 => ?_)
    · exact s_vret rfl dX1_copyTo_47 (Nat.le_of_ble_eq_true rfl) (Nat.le_of_ble_eq_true rfl) (⟨rfl, rfl, ⟨_, h, Or.inr ⟨jB_0.mp c40, Cp_end hE (by rw [show i = u by omega] at hv; exact hv)⟩⟩, hs⟩)
    · refine s_aload_n dX1_copyTo_43 rfl ?_
      refine s_callVN (As := []) (rest := []) (n := 0) (kd := 3) (ix := p) (fun l hl => c_X0_becomeTooGreat G l hl ad M p n dg g pk pn h) gX1_copyTo_X0_becomeTooGreat_n63 rfl (host := "SmallChecker") (by decide +kernel) (by decide +kernel) (by decide +kernel) (by decide +kernel) (by decide +kernel) h.1 rfl rfl ⟨(Nat.le_of_ble_eq_true rfl), (Nat.le_of_ble_eq_true rfl)⟩ ⟨(Nat.le_of_ble_eq_true rfl), (Nat.le_of_ble_eq_true rfl)⟩ (Nat.le_of_ble_eq_true rfl) dX1_copyTo_44 rfl (fun r9 ad9 M9 h9 => ?_)
      obtain ⟨rfl, rfl, h1, hs1⟩ := h9
      exact s_vret rfl dX1_copyTo_47 (Nat.le_of_ble_eq_true rfl) (Nat.le_of_ble_eq_true rfl) (⟨rfl, rfl, ⟨_, h1, Or.inl ⟨by cases th; exact absurd rfl c40; rfl, rfl, rfl⟩⟩, hs.trans hs1⟩)
  | succ k ih =>
    intro i M n dg g pk pn h hs hi hv
    have hu : u ≤ 220 := hE.1
    have hsh : hSh G ad M (lo, ks, ns, u, th) := ⟨(hs _ _ (by simp [pPo])).trans hsh0.1, (hs _ _ (by simp [pPo])).trans hsh0.2.1, (hs _ _ (by simp [pPo])).trans hsh0.2.2.1, (hs _ _ (by simp [pPo])).trans hsh0.2.2.2⟩
    refine s_iload_n dX1_copyTo_6 rfl ?_
    refine s_aload_n dX1_copyTo_7 rfl ?_
    refine s_get (kd := 1) (ix := 0) (ci := 2) (fs := [.ref (ad 9 0), .ref (ad 10 0), .ref (ad 11 0), .int (nI u), .int (jB th)])  hsh.1 rfl in_X1_copyTo_X1 3 (by decide) (by decide +kernel) rfl rfl dX1_copyTo_8 ?_
    refine s_icmp_ge 36 dX1_copyTo_11 (by decide) (fun c11 => absurd c11 (nI_ge (by omega) (by omega))) (fun c11 => ?_)
    refine s_aload_n dX1_copyTo_14 rfl ?_
    refine s_aload_n dX1_copyTo_15 rfl ?_
    refine s_get (kd := 1) (ix := 0) (ci := 2) (fs := [.ref (ad 9 0), .ref (ad 10 0), .ref (ad 11 0), .int (nI u), .int (jB th)])  hsh.1 rfl in_X1_copyTo_X1 1 (by decide) (by decide +kernel) rfl rfl dX1_copyTo_16 ?_
    refine s_iload_n dX1_copyTo_19 rfl ?_
    refine s_iald (kd := 10) (ix := 0) (n := 220) (f := ks) (j := i) hsh.2.2.1 (rfl) (by omega) (by decide) dX1_copyTo_20 ?_
    refine s_aload_n dX1_copyTo_21 rfl ?_
    refine s_get (kd := 1) (ix := 0) (ci := 2) (fs := [.ref (ad 9 0), .ref (ad 10 0), .ref (ad 11 0), .int (nI u), .int (jB th)])  hsh.1 rfl in_X1_copyTo_X1 2 (by decide) (by decide +kernel) rfl rfl dX1_copyTo_22 ?_
    refine s_iload_n dX1_copyTo_25 rfl ?_
    refine s_lald (kd := 11) (ix := 0) (n := 220) (f := ns) (j := i) hsh.2.2.2 (rfl) (by omega) (by decide) dX1_copyTo_26 ?_
    refine s_callVN (As := [.int (ks i), .long (ns i)]) (rest := []) (n := 2) (kd := 3) (ix := p) (fun l hl => c_X0_append G l hl ad M p n dg g pk pn h (Cp_le hv) (ks i) (ns i)) gX1_copyTo_X0_append_n60 rfl (host := "SmallChecker") (by decide +kernel) (by decide +kernel) (by decide +kernel) (by decide +kernel) (by decide +kernel) h.1 rfl rfl ⟨(Nat.le_of_ble_eq_true rfl), (Nat.le_of_ble_eq_true rfl)⟩ ⟨(Nat.le_of_ble_eq_true rfl), (Nat.le_of_ble_eq_true rfl)⟩ (Nat.le_of_ble_eq_true rfl) dX1_copyTo_27 rfl (fun r9 ad9 M9 h9 => ?_)
    obtain ⟨rfl, rfl, h1, hs1⟩ := h9
    refine s_iinc (v := nI (i + 1)) dX1_copyTo_30 rfl (nI_1 i) rfl ?_
    refine s_lv (lv' := [some (.ref (ad 1 0)), some (.ref (ad 3 p)), some (.int (nI (i + 1)))]) rfl ?_
    refine s_goto 6 dX1_copyTo_33 (by decide) ?_
    obtain ⟨π1, hπ1⟩ : ∃ π1, π1 = jAppend (n, dg, g, pk, pn) (ks i) (ns i) := ⟨_, rfl⟩
    obtain ⟨n1, dg1, g1, pk1, pn1⟩ := π1
    exact ih (i + 1) M9 n1 dg1 g1 pk1 pn1 (by rw [hπ1]; exact h1) (hs.trans hs1) (by omega) (by rw [hπ1]; exact Cp_step hE (by show i < u; omega) hv)
set_option maxHeartbeats 4000000 in
set_option maxRecDepth 100000 in
theorem c_X1_copyTo (G : sG) (l : Launch) (hl : l.stackTraces = false) (ad : sAd) (M : sM) (p n : Nat) (dg : Int32) (g : Bool) (pk pn : Nat → Int32) (h : hPo G ad M p (n, dg, g, pk, pn)) (lo ks : Nat → Int32) (ns : Nat → Int64) (u : Nat) (th : Bool) (hsh : hSh G ad M (lo, ks, ns, u, th)) (f : Nat → Int) (hR : ShR (lo, ks, ns, u, th) f) : sMet G l yX1_copyTo mX1_copyTo [.ref (ad 1 0), .ref (ad 3 p)] ad M (fun r ad' M' => ad = ad' ∧ r = none ∧ (∃ π', hPo G ad M' p π' ∧ ((th = true ∧ PG π') ∨ (th = false ∧ (PR π' f ∨ (PG π' ∧ ¬ fitsP f))))) ∧ sSame (pPo p) M M') (fun _ _ _ => False) := by
  obtain ⟨e, hE⟩ := hR
  refine sMet.of hl (by decide +kernel) rfl rfl rfl rfl (Nat.le_of_ble_eq_true rfl) (fun X => ?_)
  refine s_lv (lv' := [some (.ref (ad 1 0)), some (.ref (ad 3 p)), none]) rfl ?_
  refine s_aload_n dX1_copyTo_0 rfl ?_
  refine s_callVN (As := []) (rest := []) (n := 0) (kd := 3) (ix := p) (fun l hl => c_X0_becomeZero G l hl ad M p n dg g pk pn h) gX1_copyTo_X0_becomeZero_n57 rfl (host := "SmallChecker") (by decide +kernel) (by decide +kernel) (by decide +kernel) (by decide +kernel) (by decide +kernel) h.1 rfl rfl ⟨(Nat.le_of_ble_eq_true rfl), (Nat.le_of_ble_eq_true rfl)⟩ ⟨(Nat.le_of_ble_eq_true rfl), (Nat.le_of_ble_eq_true rfl)⟩ (Nat.le_of_ble_eq_true rfl) dX1_copyTo_1 rfl (fun r9 ad9 M9 h9 => ?_)
  obtain ⟨rfl, rfl, h1, hs1⟩ := h9
  refine s_iconst (v := 0) dX1_copyTo_4 (by decide) ?_
  refine s_istore_n dX1_copyTo_5 rfl rfl ?_
  refine s_lv (lv' := [some (.ref (ad 1 0)), some (.ref (ad 3 p)), some (.int 0)]) rfl ?_
  exact l_X1_copyTo X G ad M p lo ks ns u th hsh f e hE u 0 M9 0 0 false pk pn h1 hs1 (by omega) (Or.inl ⟨_, PE.zero (n, dg, g, pk, pn)⟩)
abbrev mX1_addProduct : sMeth := (cX1_addProduct, 5, RX1, wsX1_addProduct, { frames := 1, cells := 0, slots := 0, locals := 23 }, none, "addProduct", [])
theorem in_X1_addProduct_X0 : ∀ w ∈ wsX00, w ∈ wsX1_addProduct := by decide +kernel
theorem in_X1_addProduct_X1 : ∀ w ∈ wsX10, w ∈ wsX1_addProduct := by decide +kernel
set_option maxHeartbeats 4000000 in
set_option maxRecDepth 100000 in
theorem l_X1_addProduct_in (X : sMach) (G : sG) (ad : sAd) (M0 : sM) (p n d : Nat) (pk pn : Nat → Int32) (hp0 : hPo G ad M0 p (n, nI d, false, pk, pn)) (e : Nat → Nat) (P : Nat → Int) (hP : PE (n, nI d, false, pk, pn) e P) (q m d' : Nat) (qk qn : Nat → Int32) (hq0 : hPo G ad M0 q (m, nI d', false, qk, qn)) (e' : Nat → Nat) (Q : Nat → Int) (hQ : PE (m, nI d', false, qk, qn) e' Q) (hdd : d + d' ≤ 9) (hdp : ∀ y, P y ≠ 0 → gdeg y ≤ d) (hdq : ∀ y, Q y ≠ 0 → gdeg y ≤ d') (th : Bool) (i : Nat) (hin : i < n) (hout : ∀ (M : sM) (lo ks : Nat → Int32) (ns : Nat → Int64) (u : Nat) (h : hSh G ad M (lo, ks, ns, u, th)) (hs : sSame pSh M0 M), ShR (lo, ks, ns, u, th) (mulF P Q e (i + 1)) → sW X G mX1_addProduct (sQ X G mX1_addProduct (fun r ad' M' => ad = ad' ∧ r = none ∧ (if d + d' ≤ 9 then (∃ lo' ks' ns' u', hSh G ad M' (lo', ks', ns', u', th) ∧ ShR (lo', ks', ns', u', th) (mul P Q)) else (∃ lo' ks' ns' u', hSh G ad M' (lo', ks', ns', u', true) ∧ ShR (lo', ks', ns', u', true) (fun _ => 0))) ∧ sSame pSh M0 M') (fun _ _ _ => False)) ad M 0 0 [some (.ref (ad 1 0)), some (.ref (ad 3 p)), some (.ref (ad 3 q)), some (.int (nI (i + 1))), none] 22 []) : ∀ (k j : Nat) (M : sM) (lo ks : Nat → Int32) (ns : Nat → Int64) (u : Nat) (h : hSh G ad M (lo, ks, ns, u, th)) (hs : sSame pSh M0 M), j + k = m → ShR (lo, ks, ns, u, th) (gth (mulF P Q e i) e' (fun b => e i + b) (fun b => P (e i) * Q b) j) → sW X G mX1_addProduct (sQ X G mX1_addProduct (fun r ad' M' => ad = ad' ∧ r = none ∧ (if d + d' ≤ 9 then (∃ lo' ks' ns' u', hSh G ad M' (lo', ks', ns', u', th) ∧ ShR (lo', ks', ns', u', th) (mul P Q)) else (∃ lo' ks' ns' u', hSh G ad M' (lo', ks', ns', u', true) ∧ ShR (lo', ks', ns', u', true) (fun _ => 0))) ∧ sSame pSh M0 M') (fun _ _ _ => False)) ad M 0 0 [some (.ref (ad 1 0)), some (.ref (ad 3 p)), some (.ref (ad 3 q)), some (.int (nI i)), some (.int (nI j))] 33 [] := by
  intro k
  induction k with
  | zero =>
    intro j M lo ks ns u h hs hi hv
    have hn40 : n ≤ 40 := hP.1
    have hm40 : m ≤ 40 := hQ.1
    have hp := hp0.same hs (by simp [pSh]) (by simp [pSh]) (by simp [pSh])
    have hq := hq0.same hs (by simp [pSh]) (by simp [pSh]) (by simp [pSh])
    refine s_iload dX1_addProduct_33 rfl ?_
    refine s_aload_n dX1_addProduct_35 rfl ?_
    refine s_getN (kd := 3) (ix := q) (ci := 1) (fs := [.ref (ad 4 q), .ref (ad 5 q), .int (nI m), .int (nI d'), .int (jB false)]) (host := "SmallChecker") hq.1 rfl in_X1_addProduct_X0 2 (by decide) (by decide +kernel) rfl rfl dX1_addProduct_36 ?_
    refine s_icmp_ge 82 dX1_addProduct_39 (by decide) (fun c39 => ?_) (fun c39 => absurd (nI_le (by omega) (by omega)) c39)
    refine s_iinc (v := nI (i + 1)) dX1_addProduct_82 rfl (nI_1 i) rfl ?_
    refine s_lv (lv' := [some (.ref (ad 1 0)), some (.ref (ad 3 p)), some (.ref (ad 3 q)), some (.int (nI (i + 1))), some (.int (nI j))]) rfl ?_
    refine s_goto 22 dX1_addProduct_85 (by decide) ?_
    refine s_drop 4 ?_
    refine s_lv (lv' := [some (.ref (ad 1 0)), some (.ref (ad 3 p)), some (.ref (ad 3 q)), some (.int (nI (i + 1))), none]) rfl ?_
    exact hout M lo ks ns u h hs (by rw [show j = m by omega, mulF_step (π := (m, nI d', false, qk, qn)) hQ e i] at hv; exact hv)
  | succ k ih =>
    intro j M lo ks ns u h hs hi hv
    have hn40 : n ≤ 40 := hP.1
    have hm40 : m ≤ 40 := hQ.1
    have hp := hp0.same hs (by simp [pSh]) (by simp [pSh]) (by simp [pSh])
    have hq := hq0.same hs (by simp [pSh]) (by simp [pSh]) (by simp [pSh])
    refine s_iload dX1_addProduct_33 rfl ?_
    refine s_aload_n dX1_addProduct_35 rfl ?_
    refine s_getN (kd := 3) (ix := q) (ci := 1) (fs := [.ref (ad 4 q), .ref (ad 5 q), .int (nI m), .int (nI d'), .int (jB false)]) (host := "SmallChecker") hq.1 rfl in_X1_addProduct_X0 2 (by decide) (by decide +kernel) rfl rfl dX1_addProduct_36 ?_
    refine s_icmp_ge 82 dX1_addProduct_39 (by decide) (fun c39 => absurd c39 (nI_ge (by omega) (by omega))) (fun c39 => ?_)
    have hx9 : ((pn i).toInt64 * (qn j).toInt64).toInt = P (e i) * Q (e' j) := by
        rw [i64_mul32, show (pn i).toInt = P (e i) from (hP.2.2.1 i (by show i < n; omega)).2.2.1, show (qn j).toInt = Q (e' j) from (hQ.2.2.1 j (by show j < m; omega)).2.2.1]
    have hw9 : ∀ b, -(1000000 * 1000000) ≤ P (e i) * Q (e' b) ∧ P (e i) * Q (e' b) ≤ 1000000 * 1000000 := fun b => mul_bnd (by omega) (by omega) (hP.bnd (e i)) (hQ.bnd (e' b))
    refine s_aload_n dX1_addProduct_42 rfl ?_
    refine s_aload_n dX1_addProduct_43 rfl ?_
    refine s_getN (kd := 3) (ix := p) (ci := 1) (fs := [.ref (ad 4 p), .ref (ad 5 p), .int (nI n), .int (nI d), .int (jB false)]) (host := "SmallChecker") hp.1 rfl in_X1_addProduct_X0 0 (by decide) (by decide +kernel) rfl rfl dX1_addProduct_44 ?_
    refine s_iload_n dX1_addProduct_47 rfl ?_
    refine s_iald (kd := 4) (ix := p) (n := 40) (f := pk) (j := i) hp.2.1 (rfl) (by omega) (by decide) dX1_addProduct_48 ?_
    refine s_eqi (y := nI (e i)) ((hP.2.2.1 i (by show i < n; omega)).2.1) ?_
    refine s_aload_n dX1_addProduct_49 rfl ?_
    refine s_getN (kd := 3) (ix := q) (ci := 1) (fs := [.ref (ad 4 q), .ref (ad 5 q), .int (nI m), .int (nI d'), .int (jB false)]) (host := "SmallChecker") hq.1 rfl in_X1_addProduct_X0 0 (by decide) (by decide +kernel) rfl rfl dX1_addProduct_50 ?_
    refine s_iload dX1_addProduct_53 rfl ?_
    refine s_iald (kd := 4) (ix := q) (n := 40) (f := qk) (j := j) hq.2.1 (rfl) (by omega) (by decide) dX1_addProduct_55 ?_
    refine s_eqi (y := nI (e' j)) ((hQ.2.2.1 j (by show j < m; omega)).2.1) ?_
    refine s_iadd dX1_addProduct_56 ?_
    refine s_eqi (y := nI (e i + e' j)) (nI_add _ _) ?_
    refine s_aload_n dX1_addProduct_57 rfl ?_
    refine s_getN (kd := 3) (ix := p) (ci := 1) (fs := [.ref (ad 4 p), .ref (ad 5 p), .int (nI n), .int (nI d), .int (jB false)]) (host := "SmallChecker") hp.1 rfl in_X1_addProduct_X0 1 (by decide) (by decide +kernel) rfl rfl dX1_addProduct_58 ?_
    refine s_iload_n dX1_addProduct_61 rfl ?_
    refine s_iald (kd := 5) (ix := p) (n := 40) (f := pn) (j := i) hp.2.2 (rfl) (by omega) (by decide) dX1_addProduct_62 ?_
    refine s_i2l dX1_addProduct_63 ?_
    refine s_aload_n dX1_addProduct_64 rfl ?_
    refine s_getN (kd := 3) (ix := q) (ci := 1) (fs := [.ref (ad 4 q), .ref (ad 5 q), .int (nI m), .int (nI d'), .int (jB false)]) (host := "SmallChecker") hq.1 rfl in_X1_addProduct_X0 1 (by decide) (by decide +kernel) rfl rfl dX1_addProduct_65 ?_
    refine s_iload dX1_addProduct_68 rfl ?_
    refine s_iald (kd := 5) (ix := q) (n := 40) (f := qn) (j := j) hq.2.2 (rfl) (by omega) (by decide) dX1_addProduct_70 ?_
    refine s_i2l dX1_addProduct_71 ?_
    refine s_lmul dX1_addProduct_72 ?_
    refine s_callV (As := [.int (nI (e i + e' j)), .long (((pn i).toInt64) * ((qn j).toInt64))]) (rest := []) (n := 2) (kd := 1) (ix := 0) (fun l hl => c_X1_add G l hl ad M lo ks ns u th h (gth (mulF P Q e i) e' (fun b => e i + b) (fun b => P (e i) * Q b) j) hv (e i + e' j) (good_sum (hP.2.2.1 i (by show i < n; omega)).1 (hQ.2.2.1 j (by show j < m; omega)).1 (by have q1 := hdp _ (hP.2.2.1 i (by show i < n; omega)).2.2.2.1; have q2 := hdq _ (hQ.2.2.1 j (by show j < m; omega)).2.2.2.1; omega)).1 (((pn i).toInt64) * ((qn j).toInt64)) (by have q1 := gth_bound (f := mulF P Q e i) (e := e') (κ := fun b => e i + b) (w := fun b => P (e i) * Q b) (n := 40) (B := 1000000 * 1000000 * 40) (W := 1000000 * 1000000) (i := j) (mulF_bnd hP.bnd hQ.bnd (by omega)) (by omega) (fun b _ => hw9 b) (by omega) (e i + e' j); have q2 := hw9 j; rw [hx9]; omega)) gX1_addProduct_X1_add rfl (by decide +kernel) h.1 rfl rfl ⟨(Nat.le_of_ble_eq_true rfl), (Nat.le_of_ble_eq_true rfl)⟩ ⟨(Nat.le_of_ble_eq_true rfl), (Nat.le_of_ble_eq_true rfl)⟩ (Nat.le_of_ble_eq_true rfl) dX1_addProduct_73 rfl (fun r9 ad9 M9 h9 => ?_)
    obtain ⟨rfl, rfl, ⟨lo1, ks1, ns1, u1, h1, hR1⟩, hs1⟩ := h9
    refine s_iinc (v := nI (j + 1)) dX1_addProduct_76 rfl (nI_1 j) rfl ?_
    refine s_lv (lv' := [some (.ref (ad 1 0)), some (.ref (ad 3 p)), some (.ref (ad 3 q)), some (.int (nI i)), some (.int (nI (j + 1)))]) rfl ?_
    refine s_goto 33 dX1_addProduct_79 (by decide) ?_
    exact ih (j + 1) M9 lo1 ks1 ns1 u1 h1 (hs.trans hs1) (by omega) (by rw [hx9] at hR1; exact (gth_step (mulF P Q e i) e' (fun b => e i + b) (fun b => P (e i) * Q b) j) ▸ hR1)
set_option maxHeartbeats 4000000 in
set_option maxRecDepth 100000 in
theorem l_X1_addProduct (X : sMach) (G : sG) (ad : sAd) (M0 : sM) (p n d : Nat) (pk pn : Nat → Int32) (hp0 : hPo G ad M0 p (n, nI d, false, pk, pn)) (e : Nat → Nat) (P : Nat → Int) (hP : PE (n, nI d, false, pk, pn) e P) (q m d' : Nat) (qk qn : Nat → Int32) (hq0 : hPo G ad M0 q (m, nI d', false, qk, qn)) (e' : Nat → Nat) (Q : Nat → Int) (hQ : PE (m, nI d', false, qk, qn) e' Q) (hdd : d + d' ≤ 9) (hdp : ∀ y, P y ≠ 0 → gdeg y ≤ d) (hdq : ∀ y, Q y ≠ 0 → gdeg y ≤ d') (th : Bool) : ∀ (k i : Nat) (M : sM) (lo ks : Nat → Int32) (ns : Nat → Int64) (u : Nat) (h : hSh G ad M (lo, ks, ns, u, th)) (hs : sSame pSh M0 M), i + k = n → ShR (lo, ks, ns, u, th) (mulF P Q e i) → sW X G mX1_addProduct (sQ X G mX1_addProduct (fun r ad' M' => ad = ad' ∧ r = none ∧ (if d + d' ≤ 9 then (∃ lo' ks' ns' u', hSh G ad M' (lo', ks', ns', u', th) ∧ ShR (lo', ks', ns', u', th) (mul P Q)) else (∃ lo' ks' ns' u', hSh G ad M' (lo', ks', ns', u', true) ∧ ShR (lo', ks', ns', u', true) (fun _ => 0))) ∧ sSame pSh M0 M') (fun _ _ _ => False)) ad M 0 0 [some (.ref (ad 1 0)), some (.ref (ad 3 p)), some (.ref (ad 3 q)), some (.int (nI i)), none] 22 [] := by
  intro k
  induction k with
  | zero =>
    intro i M lo ks ns u h hs hi hv
    have hn40 : n ≤ 40 := hP.1
    have hm40 : m ≤ 40 := hQ.1
    have hp := hp0.same hs (by simp [pSh]) (by simp [pSh]) (by simp [pSh])
    have hq := hq0.same hs (by simp [pSh]) (by simp [pSh]) (by simp [pSh])
    refine s_iload_n dX1_addProduct_22 rfl ?_
    refine s_aload_n dX1_addProduct_23 rfl ?_
    refine s_getN (kd := 3) (ix := p) (ci := 1) (fs := [.ref (ad 4 p), .ref (ad 5 p), .int (nI n), .int (nI d), .int (jB false)]) (host := "SmallChecker") hp.1 rfl in_X1_addProduct_X0 2 (by decide) (by decide +kernel) rfl rfl dX1_addProduct_24 ?_
    refine s_icmp_ge 88 dX1_addProduct_27 (by decide) (fun c27 => ?_) (fun c27 => absurd (nI_le (by omega) (by omega)) c27)
    exact s_vret rfl dX1_addProduct_88 (Nat.le_of_ble_eq_true rfl) (Nat.le_of_ble_eq_true rfl) (⟨rfl, rfl, (if_pos hdd).mpr ⟨lo, ks, ns, u, h, by rw [show i = n by omega, mulF_end (π := (n, nI d, false, pk, pn)) hP] at hv; exact hv⟩, hs⟩)
  | succ k ih =>
    intro i M lo ks ns u h hs hi hv
    have hn40 : n ≤ 40 := hP.1
    have hm40 : m ≤ 40 := hQ.1
    have hp := hp0.same hs (by simp [pSh]) (by simp [pSh]) (by simp [pSh])
    have hq := hq0.same hs (by simp [pSh]) (by simp [pSh]) (by simp [pSh])
    refine s_iload_n dX1_addProduct_22 rfl ?_
    refine s_aload_n dX1_addProduct_23 rfl ?_
    refine s_getN (kd := 3) (ix := p) (ci := 1) (fs := [.ref (ad 4 p), .ref (ad 5 p), .int (nI n), .int (nI d), .int (jB false)]) (host := "SmallChecker") hp.1 rfl in_X1_addProduct_X0 2 (by decide) (by decide +kernel) rfl rfl dX1_addProduct_24 ?_
    refine s_icmp_ge 88 dX1_addProduct_27 (by decide) (fun c27 => absurd c27 (nI_ge (by omega) (by omega))) (fun c27 => ?_)
    refine s_iconst (v := 0) dX1_addProduct_30 (by decide) ?_
    refine s_istore dX1_addProduct_31 rfl rfl ?_
    refine s_lv (lv' := [some (.ref (ad 1 0)), some (.ref (ad 3 p)), some (.ref (ad 3 q)), some (.int (nI i)), some (.int 0)]) rfl ?_
    exact l_X1_addProduct_in X G ad M0 p n d pk pn hp0 e P hP q m d' qk qn hq0 e' Q hQ hdd hdp hdq th i (by omega) (fun M lo ks ns u h hs hv => ih (i + 1) M lo ks ns u h hs (by omega) hv) m 0 M lo ks ns u h hs (by omega) (by rw [gth_0]; exact hv)
set_option maxHeartbeats 4000000 in
set_option maxRecDepth 100000 in
theorem c_X1_addProduct (G : sG) (l : Launch) (hl : l.stackTraces = false) (ad : sAd) (M : sM) (p n d : Nat) (pk pn : Nat → Int32) (hp : hPo G ad M p (n, nI d, false, pk, pn)) (P : Nat → Int) (hP : PR (n, nI d, false, pk, pn) P) (q m d' : Nat) (qk qn : Nat → Int32) (hq : hPo G ad M q (m, nI d', false, qk, qn)) (Q : Nat → Int) (hQ : PR (m, nI d', false, qk, qn) Q) (hd1 : d ≤ 9) (hd2 : d' ≤ 9) (hdp : ∀ y, P y ≠ 0 → gdeg y ≤ d) (hdq : ∀ y, Q y ≠ 0 → gdeg y ≤ d') (lo ks : Nat → Int32) (ns : Nat → Int64) (u : Nat) (th : Bool) (h : hSh G ad M (lo, ks, ns, u, th)) (f : Nat → Int) (hf0 : f = fun _ => 0) (hR : ShR (lo, ks, ns, u, th) f) : sMet G l yX1_addProduct mX1_addProduct [.ref (ad 1 0), .ref (ad 3 p), .ref (ad 3 q)] ad M (fun r ad' M' => ad = ad' ∧ r = none ∧ (if d + d' ≤ 9 then (∃ lo' ks' ns' u', hSh G ad M' (lo', ks', ns', u', th) ∧ ShR (lo', ks', ns', u', th) (mul P Q)) else (∃ lo' ks' ns' u', hSh G ad M' (lo', ks', ns', u', true) ∧ ShR (lo', ks', ns', u', true) (fun _ => 0))) ∧ sSame pSh M M') (fun _ _ _ => False) := by
  obtain ⟨e, hP⟩ := hP
  obtain ⟨e', hQ⟩ := hQ
  refine sMet.of hl (by decide +kernel) rfl rfl rfl rfl (Nat.le_of_ble_eq_true rfl) (fun X => ?_)
  refine s_lv (lv' := [some (.ref (ad 1 0)), some (.ref (ad 3 p)), some (.ref (ad 3 q)), none, none]) rfl ?_
  refine s_aload_n dX1_addProduct_0 rfl ?_
  refine s_getN (kd := 3) (ix := p) (ci := 1) (fs := [.ref (ad 4 p), .ref (ad 5 p), .int (nI n), .int (nI d), .int (jB false)]) (host := "SmallChecker") hp.1 rfl in_X1_addProduct_X0 3 (by decide) (by decide +kernel) rfl rfl dX1_addProduct_1 ?_
  refine s_aload_n dX1_addProduct_4 rfl ?_
  refine s_getN (kd := 3) (ix := q) (ci := 1) (fs := [.ref (ad 4 q), .ref (ad 5 q), .int (nI m), .int (nI d'), .int (jB false)]) (host := "SmallChecker") hq.1 rfl in_X1_addProduct_X0 3 (by decide) (by decide +kernel) rfl rfl dX1_addProduct_5 ?_
  refine s_iadd dX1_addProduct_8 ?_
  refine s_bipush (v := 9) dX1_addProduct_9 (by decide) ?_
  refine s_icmp_le 20 dX1_addProduct_11 (by decide) (fun c11 => ?_) (fun c11 => ?_)
  · refine s_iconst (v := 0) dX1_addProduct_20 (by decide) ?_
    refine s_istore_n dX1_addProduct_21 rfl rfl ?_
    refine s_lv (lv' := [some (.ref (ad 1 0)), some (.ref (ad 3 p)), some (.ref (ad 3 q)), some (.int 0), none]) rfl ?_
    exact l_X1_addProduct X G ad M p n d pk pn hp e P hP q m d' qk qn hq e' Q hQ ((nI_leI (b := 9) (by omega) (by omega)).mp (by rw [← nI_add]; exact c11)) hdp hdq th n 0 M lo ks ns u h sSame.rfl (by omega) (by rw [mulF_0]; exact hf0 ▸ hR)
  · refine s_aload_n dX1_addProduct_14 rfl ?_
    refine s_iconst (v := 1) dX1_addProduct_15 (by decide) ?_
    refine s_put (kd := 1) (ix := 0) (ci := 2) (v := .int 1) (ty := tyX1 4) (fs := [.ref (ad 9 0), .ref (ad 10 0), .ref (ad 11 0), .int (nI u), .int (jB th)])  tyX1 tyX1_ok nmX1 h.1 rfl in_X1_addProduct_X1 4 (by decide) (by decide +kernel) rfl rfl (tyX1_ok 4 (by decide)) (rfl) (rfl) (Nat.le_of_ble_eq_true rfl) dX1_addProduct_16 ?_
    refine s_M (M' := (sset M 1 0 (.inr (2, [.ref (ad 9 0), .ref (ad 10 0), .ref (ad 11 0), .int (nI u), .int 1])))) rfl ?_
    exact s_vret rfl dX1_addProduct_19 (Nat.le_of_ble_eq_true rfl) (Nat.le_of_ble_eq_true rfl) (⟨rfl, rfl, (if_neg (fun z => c11 (by rw [nI_add]; exact (nI_leI (b := 9) (by omega) (by omega)).mpr z))).mpr ⟨lo, ks, ns, u, ⟨(sset_self _ _ _ _), ((sset_k _ _ (by decide)).trans (h.2.1)), ((sset_k _ _ (by decide)).trans (h.2.2.1)), ((sset_k _ _ (by decide)).trans (h.2.2.2))⟩, hf0 ▸ hR⟩, sSame.rfl.set (by simp [pSh]) _⟩)
