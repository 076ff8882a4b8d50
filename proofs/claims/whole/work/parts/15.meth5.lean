theorem pw_bnd {x : Int} (h : -10 ≤ x ∧ x ≤ 10) : ∀ {i : Nat}, i ≤ 9 → -1000000000 ≤ x ^ i ∧ x ^ i ≤ 1000000000 := by
  intro i hi
  have h1 : (x ^ i).natAbs ≤ 10 ^ i := by
    rw [Int.natAbs_pow]
    exact Nat.pow_le_pow_left (by omega) i
  have h2 : 10 ^ i ≤ 10 ^ 9 := Nat.pow_le_pow_right (by decide) hi
  omega
theorem pw_step {b : Int32} {v : Int64} {i : Nat} (hb : -10 ≤ b.toInt ∧ b.toInt ≤ 10) (hi : i < 9) (hv : v.toInt = b.toInt ^ i) : (v * b.toInt64).toInt = b.toInt ^ (i + 1) := by
  have h1 := pw_bnd hb (i := i) (by omega)
  have h2 := pw_bnd hb (i := i + 1) (by omega)
  rw [Int.pow_succ] at h2 ⊢
  rw [Int64.toInt_mul, Int32.toInt_toInt64, hv]
  exact Int.bmod_eq_of_le (by omega) (by omega)
abbrev mX3_power : sMeth := (cX3_power, 5, RX3, wsX3_power, { frames := 0, cells := 0, slots := 0, locals := 0 }, (some .long), "power", [])
set_option maxHeartbeats 4000000 in
set_option maxRecDepth 100000 in
theorem l_X3_power (X : sMach) (G : sG) (ad : sAd) (M : sM) (b : Int32) (hb : -10 ≤ b.toInt ∧ b.toInt ≤ 10) (n : Nat) (hn : n ≤ 9) : ∀ (k i : Nat) (v : Int64), i + k = n → (v.toInt = b.toInt ^ i) → sW X G mX3_power (sQ X G mX3_power (fun r ad' M' => ad = ad' ∧ M = M' ∧ ∃ v : Int64, r = some (.long v) ∧ v.toInt = b.toInt ^ n) (fun _ _ _ => False)) ad M 0 0 [some (.int b), some (.int (nI n)), some (.long v), none, some (.int (nI i))] 5 [] := by
  intro k
  induction k with
  | zero =>
    intro i v hi hv
    refine s_iload dX3_power_5 rfl ?_
    refine s_iload_n dX3_power_7 rfl ?_
    refine s_icmp_ge 22 dX3_power_8 (by decide) (fun c8 => ?_) (fun c8 => absurd (nI_le (by omega) (by omega)) c8)
    refine s_lload_n dX3_power_22 rfl ?_
    exact s_lret rfl dX3_power_23 (Nat.le_of_ble_eq_true rfl) (Nat.le_of_ble_eq_true rfl) (⟨rfl, rfl, v, rfl, by rw [hv, show i = n by omega]⟩)
  | succ k ih =>
    intro i v hi hv
    refine s_iload dX3_power_5 rfl ?_
    refine s_iload_n dX3_power_7 rfl ?_
    refine s_icmp_ge 22 dX3_power_8 (by decide) (fun c8 => absurd c8 (nI_ge (by omega) (by omega))) (fun c8 => ?_)
    refine s_lload_n dX3_power_11 rfl ?_
    refine s_iload_n dX3_power_12 rfl ?_
    refine s_i2l dX3_power_13 ?_
    refine s_lmul dX3_power_14 ?_
    refine s_lstore_n dX3_power_15 rfl rfl ?_
    refine s_lv (lv' := [some (.int b), some (.int (nI n)), some (.long (v * b.toInt64)), none, some (.int (nI i))]) rfl ?_
    refine s_iinc (v := nI (i + 1)) dX3_power_16 rfl (nI_1 i) rfl ?_
    refine s_lv (lv' := [some (.int b), some (.int (nI n)), some (.long (v * b.toInt64)), none, some (.int (nI (i + 1)))]) rfl ?_
    refine s_goto 5 dX3_power_19 (by decide) ?_
    exact ih (i + 1) (v * b.toInt64) (by omega) (pw_step hb (by omega) hv)
set_option maxHeartbeats 4000000 in
set_option maxRecDepth 100000 in
theorem c_X3_power (G : sG) (l : Launch) (hl : l.stackTraces = false) (ad : sAd) (M : sM) (b : Int32) (hb : -10 ≤ b.toInt ∧ b.toInt ≤ 10) (n : Nat) (hn : n ≤ 9) : sMet G l yX3_power mX3_power [.int b, .int (nI n)] ad M (fun r ad' M' => ad = ad' ∧ M = M' ∧ ∃ v : Int64, r = some (.long v) ∧ v.toInt = b.toInt ^ n) (fun _ _ _ => False) := by
  refine sMet.of hl (by decide +kernel) rfl rfl rfl rfl (Nat.le_of_ble_eq_true rfl) (fun X => ?_)
  refine s_lv (lv' := [some (.int b), some (.int (nI n)), none, none, none]) rfl ?_
  refine s_lconst (v := 1) dX3_power_0 (by decide) ?_
  refine s_lstore_n dX3_power_1 rfl rfl ?_
  refine s_lv (lv' := [some (.int b), some (.int (nI n)), some (.long 1), none, none]) rfl ?_
  refine s_iconst (v := 0) dX3_power_2 (by decide) ?_
  refine s_istore dX3_power_3 rfl rfl ?_
  refine s_lv (lv' := [some (.int b), some (.int (nI n)), some (.long 1), none, some (.int 0)]) rfl ?_
  exact l_X3_power X G ad M b hb n hn n 0 1 (by omega) (by rw [Int.pow_zero]; rfl)
abbrev mX1_addMultiple : sMeth := (cX1_addMultiple, 4, RX1, wsX1_addMultiple, { frames := 1, cells := 0, slots := 0, locals := 23 }, none, "addMultiple", [])
theorem in_X1_addMultiple_X0 : ∀ w ∈ wsX00, w ∈ wsX1_addMultiple := by decide +kernel
set_option maxHeartbeats 4000000 in
set_option maxRecDepth 100000 in
theorem l_X1_addMultiple (X : sMach) (G : sG) (ad : sAd) (M0 : sM) (p n : Nat) (dg : Int32) (g : Bool) (pk pn : Nat → Int32) (hp0 : hPo G ad M0 p (n, dg, g, pk, pn)) (e : Nat → Nat) (P : Nat → Int) (hP : PE (n, dg, g, pk, pn) e P) (th : Bool) (f : Nat → Int) (B : Int) (hf : ∀ y, -B ≤ f y ∧ f y ≤ B) (hB : 0 ≤ B ∧ B ≤ 2 ^ 62) (c : Int32) (w : Nat → Int) (hw : ∀ a, a < n → -1000000 ≤ w (e a) ∧ w (e a) ≤ 1000000) (hx : ∀ a, a < n → (c.toInt64 * (pn a).toInt64).toInt = w (e a)) : ∀ (k i : Nat) (M : sM) (lo ks : Nat → Int32) (ns : Nat → Int64) (u : Nat) (h : hSh G ad M (lo, ks, ns, u, th)) (hs : sSame pSh M0 M), i + k = n → ShR (lo, ks, ns, u, th) (gth f e (fun a => a) w i) → sW X G mX1_addMultiple (sQ X G mX1_addMultiple (fun r ad' M' => ad = ad' ∧ r = none ∧ (∃ lo' ks' ns' u', hSh G ad M' (lo', ks', ns', u', th) ∧ ShR (lo', ks', ns', u', th) (gth f e (fun a => a) w n)) ∧ sSame pSh M0 M') (fun _ _ _ => False)) ad M 0 0 [some (.ref (ad 1 0)), some (.ref (ad 3 p)), some (.int c), some (.int (nI i))] 2 [] := by
  intro k
  induction k with
  | zero =>
    intro i M lo ks ns u h hs hi hv
    have hn40 : n ≤ 40 := hP.1
    have hp := hp0.same hs (by simp [pSh]) (by simp [pSh]) (by simp [pSh])
    refine s_iload_n dX1_addMultiple_2 rfl ?_
    refine s_aload_n dX1_addMultiple_3 rfl ?_
    refine s_getN (kd := 3) (ix := p) (ci := 1) (fs := [.ref (ad 4 p), .ref (ad 5 p), .int (nI n), .int dg, .int (jB g)]) (host := "SmallChecker") hp.1 rfl in_X1_addMultiple_X0 2 (by decide) (by decide +kernel) rfl rfl dX1_addMultiple_4 ?_
    refine s_icmp_ge 36 dX1_addMultiple_7 (by decide) (fun c7 => ?_) (fun c7 => absurd (nI_le (by omega) (by omega)) c7)
    exact s_vret rfl dX1_addMultiple_36 (Nat.le_of_ble_eq_true rfl) (Nat.le_of_ble_eq_true rfl) (⟨rfl, rfl, ⟨lo, ks, ns, u, h, by rw [show i = n by omega] at hv; exact hv⟩, hs⟩)
  | succ k ih =>
    intro i M lo ks ns u h hs hi hv
    have hn40 : n ≤ 40 := hP.1
    have hp := hp0.same hs (by simp [pSh]) (by simp [pSh]) (by simp [pSh])
    refine s_iload_n dX1_addMultiple_2 rfl ?_
    refine s_aload_n dX1_addMultiple_3 rfl ?_
    refine s_getN (kd := 3) (ix := p) (ci := 1) (fs := [.ref (ad 4 p), .ref (ad 5 p), .int (nI n), .int dg, .int (jB g)]) (host := "SmallChecker") hp.1 rfl in_X1_addMultiple_X0 2 (by decide) (by decide +kernel) rfl rfl dX1_addMultiple_4 ?_
    refine s_icmp_ge 36 dX1_addMultiple_7 (by decide) (fun c7 => absurd c7 (nI_ge (by omega) (by omega))) (fun c7 => ?_)
    refine s_aload_n dX1_addMultiple_10 rfl ?_
    refine s_aload_n dX1_addMultiple_11 rfl ?_
    refine s_getN (kd := 3) (ix := p) (ci := 1) (fs := [.ref (ad 4 p), .ref (ad 5 p), .int (nI n), .int dg, .int (jB g)]) (host := "SmallChecker") hp.1 rfl in_X1_addMultiple_X0 0 (by decide) (by decide +kernel) rfl rfl dX1_addMultiple_12 ?_
    refine s_iload_n dX1_addMultiple_15 rfl ?_
    refine s_iald (kd := 4) (ix := p) (n := 40) (f := pk) (j := i) hp.2.1 (rfl) (by omega) (by decide) dX1_addMultiple_16 ?_
    refine s_eqi (y := nI (e i)) ((hP.2.2.1 i (by show i < n; omega)).2.1) ?_
    refine s_iload_n dX1_addMultiple_17 rfl ?_
    refine s_i2l dX1_addMultiple_18 ?_
    refine s_aload_n dX1_addMultiple_19 rfl ?_
    refine s_getN (kd := 3) (ix := p) (ci := 1) (fs := [.ref (ad 4 p), .ref (ad 5 p), .int (nI n), .int dg, .int (jB g)]) (host := "SmallChecker") hp.1 rfl in_X1_addMultiple_X0 1 (by decide) (by decide +kernel) rfl rfl dX1_addMultiple_20 ?_
    refine s_iload_n dX1_addMultiple_23 rfl ?_
    refine s_iald (kd := 5) (ix := p) (n := 40) (f := pn) (j := i) hp.2.2 (rfl) (by omega) (by decide) dX1_addMultiple_24 ?_
    refine s_i2l dX1_addMultiple_25 ?_
    refine s_lmul dX1_addMultiple_26 ?_
    refine s_callV (As := [.int (nI (e i)), .long (c.toInt64 * ((pn i).toInt64))]) (rest := []) (n := 2) (kd := 1) (ix := 0) (fun l hl => c_X1_add G l hl ad M lo ks ns u th h (gth f e (fun a => a) w i) hv (e i) ((hP.2.2.1 i (by show i < n; omega)).1) (c.toInt64 * ((pn i).toInt64)) (by have q1 := gth_bound (κ := fun a => a) (w := w) (n := 40) hf (by decide : (0 : Int) ≤ 1000000) (i := i) (fun a ha => hw a (by omega)) (by omega) (e i); have q2 := hw i (by omega); rw [hx i (by omega)]; omega)) gX1_addMultiple_X1_add rfl (by decide +kernel) h.1 rfl rfl ⟨(Nat.le_of_ble_eq_true rfl), (Nat.le_of_ble_eq_true rfl)⟩ ⟨(Nat.le_of_ble_eq_true rfl), (Nat.le_of_ble_eq_true rfl)⟩ (Nat.le_of_ble_eq_true rfl) dX1_addMultiple_27 rfl (fun r9 ad9 M9 h9 => ?_)
    obtain ⟨rfl, rfl, ⟨lo1, ks1, ns1, u1, h1, hR1⟩, hs1⟩ := h9
    refine s_iinc (v := nI (i + 1)) dX1_addMultiple_30 rfl (nI_1 i) rfl ?_
    refine s_lv (lv' := [some (.ref (ad 1 0)), some (.ref (ad 3 p)), some (.int c), some (.int (nI (i + 1)))]) rfl ?_
    refine s_goto 2 dX1_addMultiple_33 (by decide) ?_
    exact ih (i + 1) M9 lo1 ks1 ns1 u1 h1 (hs.trans hs1) (by omega) (by rw [hx i (by omega)] at hR1; exact (gth_step f e (fun a => a) w i) ▸ hR1)
set_option maxHeartbeats 4000000 in
set_option maxRecDepth 100000 in
theorem c_X1_addMultiple (G : sG) (l : Launch) (hl : l.stackTraces = false) (ad : sAd) (M : sM) (p n : Nat) (dg : Int32) (g : Bool) (pk pn : Nat → Int32) (hp : hPo G ad M p (n, dg, g, pk, pn)) (P : Nat → Int) (hP : PR (n, dg, g, pk, pn) P) (lo ks : Nat → Int32) (ns : Nat → Int64) (u : Nat) (th : Bool) (h : hSh G ad M (lo, ks, ns, u, th)) (f : Nat → Int) (hR : ShR (lo, ks, ns, u, th) f) (B : Int) (hf : ∀ y, -B ≤ f y ∧ f y ≤ B) (hB : 0 ≤ B ∧ B ≤ 2 ^ 62) (c : Int32) (hc : c.toInt = 1 ∨ c.toInt = -1) : sMet G l yX1_addMultiple mX1_addMultiple [.ref (ad 1 0), .ref (ad 3 p), .int c] ad M (fun r ad' M' => ad = ad' ∧ r = none ∧ (∃ lo' ks' ns' u', hSh G ad M' (lo', ks', ns', u', th) ∧ ShR (lo', ks', ns', u', th) (fun y => f y + c.toInt * P y)) ∧ sSame pSh M M') (fun _ _ _ => False) := by
  obtain ⟨e, hP⟩ := hP
  have hfin : (fun y => f y + c.toInt * P y) = gth f e (fun a => a) (fun a => c.toInt * P a) n := by
    rw [gth_end (π := (n, dg, g, pk, pn)) hP (fun a ha => by rw [ha]; omega)]
    funext y
    rw [sN_id c.toInt (fun y hy => hP.gd hy)]
  rw [hfin]
  refine sMet.of hl (by decide +kernel) rfl rfl rfl rfl (Nat.le_of_ble_eq_true rfl) (fun X => ?_)
  refine s_lv (lv' := [some (.ref (ad 1 0)), some (.ref (ad 3 p)), some (.int c), none]) rfl ?_
  refine s_iconst (v := 0) dX1_addMultiple_0 (by decide) ?_
  refine s_istore_n dX1_addMultiple_1 rfl rfl ?_
  refine s_lv (lv' := [some (.ref (ad 1 0)), some (.ref (ad 3 p)), some (.int c), some (.int 0)]) rfl ?_
  exact l_X1_addMultiple X G ad M p n dg g pk pn hp e P hP th f B hf hB c (fun a => c.toInt * P a) (fun a ha => by have := hP.bnd (e a); rcases hc with q | q <;> rw [q] <;> omega) (fun a ha => by rw [i64_mul32]; exact congrArg (fun z => c.toInt * z) (hP.2.2.1 a ha).2.2.1) n 0 M lo ks ns u h sSame.rfl (by omega) (by rw [gth_0]; exact hR)
