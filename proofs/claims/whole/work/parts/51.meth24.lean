theorem th3_10 {d : Nat} (h : d ≤ 10) : th3 d ≤ 220 := th3_mono h (by omega)
abbrev mX4_high : sMeth := (cX4_high, 5, RX4, wsX4_high, { frames := 1, cells := 0, slots := 0, locals := 20 }, (some .int), "high", [])
theorem in_X4_high_X4 : ∀ w ∈ wsX40, w ∈ wsX4_high := by decide +kernel
set_option maxHeartbeats 4000000 in
set_option maxRecDepth 100000 in
theorem l_X4_high (X : sMach) (G : sG) (ad : sAd) (M : sM) (c0 : Int32) (t0 : Nat) (hd : Nat → Int32) (on : Nat → Int32) (tw : Nat → Int32) (dp : Nat → Int32) (cl : Nat → Int32) (gr : Nat → Int32) (r0 : Nat) (kd : Nat → Int32) (fl : Nat → Int32) (co : Nat → Int32) (sm : Nat → Int32) (wk : Nat → Int64) (sp : Nat → Int64) (b0 : Bool) (mu : Nat → Int32) (hm : hMd G ad M (c0, t0, hd, on, tw, dp, cl, gr, r0, kd, fl, co, sm, wk, sp, b0, mu)) (t : Nat) (htt : t < 120) (P : Nat → Int) (hg : gz P) (hcr : CRk cl t P) : ∀ (n d k : Nat) (v : Int32), d ≤ 9 → th3 d ≤ k → k ≤ th3 (d + 1) → 250 ≤ k + d + n → hiInv P v k → sW X G mX4_high (sQ X G mX4_high (fun r ad' M' => ad = ad' ∧ M = M' ∧ ∃ v, r = some (.int v) ∧ hiRel P v) (fun _ _ _ => False)) ad M 0 0 [some (.ref (ad 12 0)), some (.int (nI t)), some (.int v), some (.int (nI d)), some (.int (nI k))] 17 [] := by
  intro n
  induction n with
  | zero => intro d k v h1 h2 h3 h4; have := th3_10 (show d + 1 ≤ 10 by omega); exact absurd h4 (by omega)
  | succ n ih =>
    intro d k v h1 h2 h3 h4 hv
    have h10 := th3_10 (show d + 1 ≤ 10 by omega)
    rcases Nat.lt_or_ge k (th3 (d + 1)) with hk | hk
    · refine s_iload dX4_high_17 rfl ?_
      refine s_iload_n dX4_high_19 rfl ?_
      refine s_iconst (v := 1) dX4_high_20 (by decide) ?_
      refine s_iadd dX4_high_21 ?_
      refine s_eqi (y := nI (d + 1)) (nI_add _ _) ?_
      refine s_callS (As := [.int (nI (d + 1))]) (rest := [.int (nI k)]) (n := 1) (fun l hl => c_X4_threes G l hl ad M (d + 1) (by omega)) gX4_high_X4_threes rfl (by decide +kernel) rfl ⟨(Nat.le_of_ble_eq_true rfl), (Nat.le_of_ble_eq_true rfl)⟩ ⟨(Nat.le_of_ble_eq_true rfl), (Nat.le_of_ble_eq_true rfl)⟩ (Nat.le_of_ble_eq_true rfl) dX4_high_22 rfl (fun r9 ad9 M9 h9 => ?_)
      obtain ⟨rfl, rfl, rfl⟩ := h9
      refine s_icmp_ge 52 dX4_high_25 (by decide) (fun c25 => absurd c25 (nI_ge (by omega) (by omega))) (fun c25 => ?_)
      refine s_aload_n dX4_high_28 rfl ?_
      refine s_get (kd := 12) (ix := 0) (ci := 5) (fs := [.int c0, .int (nI t0), .ref (ad 13 0), .ref (ad 14 0), .ref (ad 15 0), .ref (ad 16 0), .ref (ad 17 0), .ref (ad 18 0), .int (nI r0), .ref (ad 19 0), .ref (ad 20 0), .ref (ad 21 0), .ref (ad 22 0), .ref (ad 23 0), .ref (ad 24 0), .int (jB b0), .ref (ad 25 0)])  hm.1 rfl in_X4_high_X4 6 (by decide) (by decide +kernel) rfl rfl dX4_high_29 ?_
      refine s_sipush (v := 220) dX4_high_32 (by decide) ?_
      refine s_iload_n dX4_high_35 rfl ?_
      refine s_imul dX4_high_36 ?_
      refine s_eqi (y := nI (220 * t)) (nI_mul 220 t) ?_
      refine s_iload dX4_high_37 rfl ?_
      refine s_iadd dX4_high_39 ?_
      refine s_eqi (y := nI (220 * t + k)) (nI_add _ _) ?_
      refine s_iald (kd := 17) (ix := 0) (n := 26400) (f := cl) (j := 220 * t + k) hm.2.2.2.2.2.1 (rfl) (by omega) (by decide) dX4_high_40 ?_
      refine s_if_eq 46 dX4_high_41 (by decide) (fun c41 => ?_) (fun c41 => ?_)
      · refine s_iinc (v := nI (k + 1)) dX4_high_46 rfl (nI_1 k) rfl ?_
        refine s_lv (lv' := [some (.ref (ad 12 0)), some (.int (nI t)), some (.int v), some (.int (nI d)), some (.int (nI (k + 1)))]) rfl ?_
        refine s_goto 17 dX4_high_49 (by decide) ?_
        exact ih d (k + 1) v h1 (by omega) (by omega) (by omega) (hv.skip (by rw [← hcr k (by omega), c41]; rfl))
      · refine s_iload_n dX4_high_44 rfl ?_
        refine s_istore_n dX4_high_45 rfl rfl ?_
        refine s_lv (lv' := [some (.ref (ad 12 0)), some (.int (nI t)), some (.int (nI d)), some (.int (nI d)), some (.int (nI k))]) rfl ?_
        refine s_iinc (v := nI (k + 1)) dX4_high_46 rfl (nI_1 k) rfl ?_
        refine s_lv (lv' := [some (.ref (ad 12 0)), some (.int (nI t)), some (.int (nI d)), some (.int (nI d)), some (.int (nI (k + 1)))]) rfl ?_
        refine s_goto 17 dX4_high_49 (by decide) ?_
        exact ih d (k + 1) (nI d) h1 (by omega) (by omega) (by omega) (hv.step (by omega) h1 h2 hk (fun q => c41 (Int32.toInt_inj.mp (by rw [hcr k (by omega), q]; rfl))))
    · rcases Nat.lt_or_ge d 9 with hd | hd
      · refine s_iload dX4_high_17 rfl ?_
        refine s_iload_n dX4_high_19 rfl ?_
        refine s_iconst (v := 1) dX4_high_20 (by decide) ?_
        refine s_iadd dX4_high_21 ?_
        refine s_eqi (y := nI (d + 1)) (nI_add _ _) ?_
        refine s_callS (As := [.int (nI (d + 1))]) (rest := [.int (nI k)]) (n := 1) (fun l hl => c_X4_threes G l hl ad M (d + 1) (by omega)) gX4_high_X4_threes rfl (by decide +kernel) rfl ⟨(Nat.le_of_ble_eq_true rfl), (Nat.le_of_ble_eq_true rfl)⟩ ⟨(Nat.le_of_ble_eq_true rfl), (Nat.le_of_ble_eq_true rfl)⟩ (Nat.le_of_ble_eq_true rfl) dX4_high_22 rfl (fun r9 ad9 M9 h9 => ?_)
        obtain ⟨rfl, rfl, rfl⟩ := h9
        refine s_icmp_ge 52 dX4_high_25 (by decide) (fun c25 => ?_) (fun c25 => absurd (nI_le (by omega) (by omega)) c25)
        refine s_iinc (v := nI (d + 1)) dX4_high_52 rfl (nI_1 d) rfl ?_
        refine s_lv (lv' := [some (.ref (ad 12 0)), some (.int (nI t)), some (.int v), some (.int (nI (d + 1))), some (.int (nI k))]) rfl ?_
        refine s_goto 5 dX4_high_55 (by decide) ?_
        refine s_iload_n dX4_high_5 rfl ?_
        refine s_bipush (v := 10) dX4_high_6 (by decide) ?_
        refine s_icmp_ge 58 dX4_high_8 (by decide) (fun c8 => absurd c8 (nI_ge (b := 10) (by omega) (by omega))) (fun c8 => ?_)
        refine s_iload_n dX4_high_11 rfl ?_
        refine s_callS (As := [.int (nI (d + 1))]) (rest := []) (n := 1) (fun l hl => c_X4_threes G l hl ad M (d + 1) (by omega)) gX4_high_X4_threes rfl (by decide +kernel) rfl ⟨(Nat.le_of_ble_eq_true rfl), (Nat.le_of_ble_eq_true rfl)⟩ ⟨(Nat.le_of_ble_eq_true rfl), (Nat.le_of_ble_eq_true rfl)⟩ (Nat.le_of_ble_eq_true rfl) dX4_high_12 rfl (fun r9 ad9 M9 h9 => ?_)
        obtain ⟨rfl, rfl, rfl⟩ := h9
        refine s_istore dX4_high_15 rfl rfl ?_
        refine s_lv (lv' := [some (.ref (ad 12 0)), some (.int (nI t)), some (.int v), some (.int (nI (d + 1))), some (.int (nI (th3 (d + 1))))]) rfl ?_
        exact ih (d + 1) (th3 (d + 1)) v (by omega) (by omega) (th3_mono (by omega) (by omega)) (by omega) (by rw [show th3 (d + 1) = k by omega]; exact hv)
      · refine s_iload dX4_high_17 rfl ?_
        refine s_iload_n dX4_high_19 rfl ?_
        refine s_iconst (v := 1) dX4_high_20 (by decide) ?_
        refine s_iadd dX4_high_21 ?_
        refine s_eqi (y := nI (d + 1)) (nI_add _ _) ?_
        refine s_callS (As := [.int (nI (d + 1))]) (rest := [.int (nI k)]) (n := 1) (fun l hl => c_X4_threes G l hl ad M (d + 1) (by omega)) gX4_high_X4_threes rfl (by decide +kernel) rfl ⟨(Nat.le_of_ble_eq_true rfl), (Nat.le_of_ble_eq_true rfl)⟩ ⟨(Nat.le_of_ble_eq_true rfl), (Nat.le_of_ble_eq_true rfl)⟩ (Nat.le_of_ble_eq_true rfl) dX4_high_22 rfl (fun r9 ad9 M9 h9 => ?_)
        obtain ⟨rfl, rfl, rfl⟩ := h9
        refine s_icmp_ge 52 dX4_high_25 (by decide) (fun c25 => ?_) (fun c25 => absurd (nI_le (by omega) (by omega)) c25)
        refine s_iinc (v := nI (d + 1)) dX4_high_52 rfl (nI_1 d) rfl ?_
        refine s_lv (lv' := [some (.ref (ad 12 0)), some (.int (nI t)), some (.int v), some (.int (nI (d + 1))), some (.int (nI k))]) rfl ?_
        refine s_goto 5 dX4_high_55 (by decide) ?_
        refine s_iload_n dX4_high_5 rfl ?_
        refine s_bipush (v := 10) dX4_high_6 (by decide) ?_
        refine s_icmp_ge 58 dX4_high_8 (by decide) (fun c8 => ?_) (fun c8 => absurd (nI_le (a := 10) (by omega) (by omega)) c8)
        refine s_iload_n dX4_high_58 rfl ?_
        exact s_iret rfl (rfl) dX4_high_59 (Nat.le_of_ble_eq_true rfl) (Nat.le_of_ble_eq_true rfl) (⟨rfl, rfl, v, rfl, hiInv.fin hg (by rw [show (220 : Nat) = k from (show th3 10 = k by rw [show (10 : Nat) = d + 1 by omega]; omega)]; exact hv)⟩)
set_option maxHeartbeats 4000000 in
set_option maxRecDepth 100000 in
theorem c_X4_high (G : sG) (l : Launch) (hl : l.stackTraces = false) (ad : sAd) (M : sM) (c0 : Int32) (t0 : Nat) (hd : Nat → Int32) (on : Nat → Int32) (tw : Nat → Int32) (dp : Nat → Int32) (cl : Nat → Int32) (gr : Nat → Int32) (r0 : Nat) (kd : Nat → Int32) (fl : Nat → Int32) (co : Nat → Int32) (sm : Nat → Int32) (wk : Nat → Int64) (sp : Nat → Int64) (b0 : Bool) (mu : Nat → Int32) (hm : hMd G ad M (c0, t0, hd, on, tw, dp, cl, gr, r0, kd, fl, co, sm, wk, sp, b0, mu)) (t : Nat) (htt : t < 120) (P : Nat → Int) (hg : gz P) (hcr : CRk cl t P) : sMet G l yX4_high mX4_high [.ref (ad 12 0), .int (nI t)] ad M (fun r ad' M' => ad = ad' ∧ M = M' ∧ ∃ v, r = some (.int v) ∧ hiRel P v) (fun _ _ _ => False) := by
  refine sMet.of hl (by decide +kernel) rfl rfl rfl rfl (Nat.le_of_ble_eq_true rfl) (fun X => ?_)
  refine s_lv (lv' := [some (.ref (ad 12 0)), some (.int (nI t)), none, none, none]) rfl ?_
  refine s_bipush (v := -20) dX4_high_0 (by decide) ?_
  refine s_istore_n dX4_high_2 rfl rfl ?_
  refine s_lv (lv' := [some (.ref (ad 12 0)), some (.int (nI t)), some (.int (-20)), none, none]) rfl ?_
  refine s_iconst (v := 0) dX4_high_3 (by decide) ?_
  refine s_istore_n dX4_high_4 rfl rfl ?_
  refine s_lv (lv' := [some (.ref (ad 12 0)), some (.int (nI t)), some (.int (-20)), some (.int 0), none]) rfl ?_
  refine s_iload_n dX4_high_5 rfl ?_
  refine s_bipush (v := 10) dX4_high_6 (by decide) ?_
  refine s_icmp_ge 58 dX4_high_8 (by decide) (fun c8 => absurd c8 (by decide)) (fun c8 => ?_)
  refine s_iload_n dX4_high_11 rfl ?_
  refine s_callS (As := [.int 0]) (rest := []) (n := 1) (fun l hl => c_X4_threes G l hl ad M 0 (by omega)) gX4_high_X4_threes rfl (by decide +kernel) rfl ⟨(Nat.le_of_ble_eq_true rfl), (Nat.le_of_ble_eq_true rfl)⟩ ⟨(Nat.le_of_ble_eq_true rfl), (Nat.le_of_ble_eq_true rfl)⟩ (Nat.le_of_ble_eq_true rfl) dX4_high_12 rfl (fun r9 ad9 M9 h9 => ?_)
  obtain ⟨rfl, rfl, rfl⟩ := h9
  refine s_istore dX4_high_15 rfl rfl ?_
  refine s_lv (lv' := [some (.ref (ad 12 0)), some (.int (nI t)), some (.int (-20)), some (.int 0), some (.int (nI (th3 0)))]) rfl ?_
  exact l_X4_high X G ad M c0 t0 hd on tw dp cl gr r0 kd fl co sm wk sp b0 mu hm t htt P hg hcr 250 0 0 (-20) (by omega) (Nat.zero_le _) (Nat.zero_le _) (by omega) (Or.inl ⟨rfl, fun a ha => absurd ha (Nat.not_lt_zero a)⟩)
abbrev mX4_isNone : sMeth := (cX4_isNone, 2, RX4, wsX4_isNone, { frames := 2, cells := 0, slots := 0, locals := 44 }, (some .boolean), "isNone", [])
set_option maxHeartbeats 4000000 in
set_option maxRecDepth 100000 in
theorem c_X4_isNone (G : sG) (l : Launch) (hl : l.stackTraces = false) (ad : sAd) (M : sM) (c0 : Int32) (t0 : Nat) (hd : Nat → Int32) (on : Nat → Int32) (tw : Nat → Int32) (dp : Nat → Int32) (cl : Nat → Int32) (gr : Nat → Int32) (r0 : Nat) (kd : Nat → Int32) (fl : Nat → Int32) (co : Nat → Int32) (sm : Nat → Int32) (wk : Nat → Int64) (sp : Nat → Int64) (b0 : Bool) (mu : Nat → Int32) (hm : hMd G ad M (c0, t0, hd, on, tw, dp, cl, gr, r0, kd, fl, co, sm, wk, sp, b0, mu)) (t : Nat) (htt : t < 120) (P : Nat → Int) (hg : gz P) (hcr : CRk cl t P) : sMet G l yX4_isNone mX4_isNone [.ref (ad 12 0), .int (nI t)] ad M (fun r ad' M' => ad = ad' ∧ M = M' ∧ ∃ z : Bool, r = some (.int (jB z)) ∧ (z = true ↔ ∀ y, P y = 0)) (fun _ _ _ => False) := by
  refine sMet.of hl (by decide +kernel) rfl rfl rfl rfl (Nat.le_of_ble_eq_true rfl) (fun X => ?_)
  refine s_lv (lv' := [some (.ref (ad 12 0)), some (.int (nI t))]) rfl ?_
  refine s_aload_n dX4_isNone_0 rfl ?_
  refine s_iload_n dX4_isNone_1 rfl ?_
  refine s_callV (As := [.int (nI t)]) (rest := []) (n := 1) (kd := 12) (ix := 0) (fun l hl => c_X4_high G l hl ad M c0 t0 hd on tw dp cl gr r0 kd fl co sm wk sp b0 mu hm t htt P hg hcr) gX4_isNone_X4_high rfl (by decide +kernel) hm.1 rfl rfl ⟨(Nat.le_of_ble_eq_true rfl), (Nat.le_of_ble_eq_true rfl)⟩ ⟨(Nat.le_of_ble_eq_true rfl), (Nat.le_of_ble_eq_true rfl)⟩ (Nat.le_of_ble_eq_true rfl) dX4_isNone_2 rfl (fun r9 ad9 M9 h9 => ?_)
  obtain ⟨rfl, rfl, v9, rfl, hv9⟩ := h9
  refine s_if_ge 12 dX4_isNone_5 (by decide) (fun c5 => ?_) (fun c5 => ?_)
  · refine s_iconst (v := 0) dX4_isNone_12 (by decide) ?_
    exact s_iret rfl (rfl) dX4_isNone_13 (Nat.le_of_ble_eq_true rfl) (Nat.le_of_ble_eq_true rfl) (⟨rfl, rfl, false, rfl, (fun q => nomatch q), fun q => absurd c5 (by rcases hv9 with ⟨e, -⟩ | ⟨d, -, -, -, y, hy⟩; rw [e]; decide; exact absurd (q y) hy)⟩)
  · refine s_iconst (v := 1) dX4_isNone_8 (by decide) ?_
    refine s_goto 13 dX4_isNone_9 (by decide) ?_
    exact s_iret rfl (rfl) dX4_isNone_13 (Nat.le_of_ble_eq_true rfl) (Nat.le_of_ble_eq_true rfl) (⟨rfl, rfl, true, rfl, fun _ => hv9.elim (fun q => q.2) (fun ⟨d, hd, e, _⟩ => absurd (by rw [e]; exact Int32.not_lt.mp (nI_pos (by omega))) c5), fun _ => rfl⟩)
abbrev mX4_isSame : sMeth := (cX4_isSame, 4, RX4, wsX4_isSame, { frames := 1, cells := 0, slots := 0, locals := 23 }, (some .boolean), "isSame", [])
theorem in_X4_isSame_X4 : ∀ w ∈ wsX40, w ∈ wsX4_isSame := by decide +kernel
set_option maxHeartbeats 4000000 in
set_option maxRecDepth 100000 in
theorem l_X4_isSame (X : sMach) (G : sG) (ad : sAd) (M0 : sM) (c0 : Int32) (t0 : Nat) (hd : Nat → Int32) (on : Nat → Int32) (tw : Nat → Int32) (dp : Nat → Int32) (cl : Nat → Int32) (gr : Nat → Int32) (r0 : Nat) (kd : Nat → Int32) (fl : Nat → Int32) (co : Nat → Int32) (sm : Nat → Int32) (sp : Nat → Int64) (b0 : Bool) (mu : Nat → Int32) (t : Nat) (htt : t < 120) (P : Nat → Int) (hg : gz P) (hcr : CRk cl t P) (tb : Nat) (Q : State → Prop) (kont : ∀ (M : sM) (wk : Nat → Int64) , hMd G ad M (c0, t0, hd, on, tw, dp, cl, gr, r0, kd, fl, co, sm, wk, sp, b0, mu) → sSame pMd M0 M → (∀ k, k < 220 → (wk k).toInt = P (unp k)) → sW X G mX4_isSame Q ad M 0 0 [some (.ref (ad 12 0)), some (.int (nI t)), some (.int (nI tb)), none] 34 []) : ∀ (k i : Nat) (M : sM) (wk : Nat → Int64) , i + k = 220 → hMd G ad M (c0, t0, hd, on, tw, dp, cl, gr, r0, kd, fl, co, sm, wk, sp, b0, mu) → sSame pMd M0 M → (∀ k, k < i → (wk k).toInt = P (unp k)) → sW X G mX4_isSame Q ad M 0 0 [some (.ref (ad 12 0)), some (.int (nI t)), some (.int (nI tb)), some (.int (nI i))] 2 [] := by
  intro k
  induction k with
  | zero =>
    intro i M wk  hi hm hs hv
    refine s_iload_n dX4_isSame_2 rfl ?_
    refine s_sipush (v := 220) dX4_isSame_3 (by decide) ?_
    refine s_icmp_ge 34 dX4_isSame_6 (by decide) (fun c6 => ?_) (fun c6 => absurd (nI_le (a := 220) (by omega) (by omega)) c6)
    refine s_drop 3 ?_
    exact kont M wk  hm hs (by rw [show i = 220 by omega] at hv; exact hv)
  | succ k ih =>
    intro i M wk  hi hm hs hv
    refine s_iload_n dX4_isSame_2 rfl ?_
    refine s_sipush (v := 220) dX4_isSame_3 (by decide) ?_
    refine s_icmp_ge 34 dX4_isSame_6 (by decide) (fun c6 => absurd c6 (nI_ge (b := 220) (by omega) (by omega))) (fun c6 => ?_)
    refine s_aload_n dX4_isSame_9 rfl ?_
    refine s_get (kd := 12) (ix := 0) (ci := 5) (fs := [.int c0, .int (nI t0), .ref (ad 13 0), .ref (ad 14 0), .ref (ad 15 0), .ref (ad 16 0), .ref (ad 17 0), .ref (ad 18 0), .int (nI r0), .ref (ad 19 0), .ref (ad 20 0), .ref (ad 21 0), .ref (ad 22 0), .ref (ad 23 0), .ref (ad 24 0), .int (jB b0), .ref (ad 25 0)])  hm.1 rfl in_X4_isSame_X4 13 (by decide) (by decide +kernel) rfl rfl dX4_isSame_10 ?_
    refine s_iload_n dX4_isSame_13 rfl ?_
    refine s_aload_n dX4_isSame_14 rfl ?_
    refine s_get (kd := 12) (ix := 0) (ci := 5) (fs := [.int c0, .int (nI t0), .ref (ad 13 0), .ref (ad 14 0), .ref (ad 15 0), .ref (ad 16 0), .ref (ad 17 0), .ref (ad 18 0), .int (nI r0), .ref (ad 19 0), .ref (ad 20 0), .ref (ad 21 0), .ref (ad 22 0), .ref (ad 23 0), .ref (ad 24 0), .int (jB b0), .ref (ad 25 0)])  hm.1 rfl in_X4_isSame_X4 6 (by decide) (by decide +kernel) rfl rfl dX4_isSame_15 ?_
    refine s_sipush (v := 220) dX4_isSame_18 (by decide) ?_
    refine s_iload_n dX4_isSame_21 rfl ?_
    refine s_imul dX4_isSame_22 ?_
    refine s_eqi (y := nI (220 * t)) (nI_mul 220 t) ?_
    refine s_iload_n dX4_isSame_23 rfl ?_
    refine s_iadd dX4_isSame_24 ?_
    refine s_eqi (y := nI (220 * t + i)) (nI_add _ _) ?_
    refine s_iald (kd := 17) (ix := 0) (n := 26400) (f := cl) (j := 220 * t + i) hm.2.2.2.2.2.1 (rfl) (by omega) (by decide) dX4_isSame_25 ?_
    refine s_i2l dX4_isSame_26 ?_
    refine s_last (kd := 23) (ix := 0) (n := 220) (f := wk) (j := i) (x := (cl (220 * t + i)).toInt64) hm.2.2.2.2.2.2.2.2.2.2.2.1  (rfl) (by omega) (by decide) dX4_isSame_27 ?_
    refine s_iinc (v := nI (i + 1)) dX4_isSame_28 rfl (nI_1 i) rfl ?_
    refine s_lv (lv' := [some (.ref (ad 12 0)), some (.int (nI t)), some (.int (nI tb)), some (.int (nI (i + 1)))]) rfl ?_
    refine s_goto 2 dX4_isSame_31 (by decide) ?_
    exact ih (i + 1) (sset M 23 0 (.inl (gJ G, 220, .inr (.inl (vp_updL wk i ((cl (220 * t + i)).toInt64)))))) (vp_updL wk i ((cl (220 * t + i)).toInt64))  (by omega) ⟨((sset_k _ _ (by decide)).trans (hm.1)), ((sset_k _ _ (by decide)).trans (hm.2.1)), ((sset_k _ _ (by decide)).trans (hm.2.2.1)), ((sset_k _ _ (by decide)).trans (hm.2.2.2.1)), ((sset_k _ _ (by decide)).trans (hm.2.2.2.2.1)), ((sset_k _ _ (by decide)).trans (hm.2.2.2.2.2.1)), ((sset_k _ _ (by decide)).trans (hm.2.2.2.2.2.2.1)), ((sset_k _ _ (by decide)).trans (hm.2.2.2.2.2.2.2.1)), ((sset_k _ _ (by decide)).trans (hm.2.2.2.2.2.2.2.2.1)), ((sset_k _ _ (by decide)).trans (hm.2.2.2.2.2.2.2.2.2.1)), ((sset_k _ _ (by decide)).trans (hm.2.2.2.2.2.2.2.2.2.2.1)), (sset_self _ _ _ _), ((sset_k _ _ (by decide)).trans (hm.2.2.2.2.2.2.2.2.2.2.2.2.1)), ((sset_k _ _ (by decide)).trans (hm.2.2.2.2.2.2.2.2.2.2.2.2.2))⟩ (hs |>.set (P := pMd) (by simp [pMd]) _) (fun k hk => by
      by_cases q : k = i
      · rw [q, vp_updL_at, i32_64]; exact hcr i (by omega)
      · rw [vp_updL_no _ _ q]; exact hv k (by omega))
set_option maxHeartbeats 4000000 in
set_option maxRecDepth 100000 in
theorem c_X4_isSame (G : sG) (l : Launch) (hl : l.stackTraces = false) (ad : sAd) (M : sM) (c0 : Int32) (t0 : Nat) (hd : Nat → Int32) (on : Nat → Int32) (tw : Nat → Int32) (dp : Nat → Int32) (cl : Nat → Int32) (gr : Nat → Int32) (r0 : Nat) (kd : Nat → Int32) (fl : Nat → Int32) (co : Nat → Int32) (sm : Nat → Int32) (wk : Nat → Int64) (sp : Nat → Int64) (b0 : Bool) (mu : Nat → Int32) (hm : hMd G ad M (c0, t0, hd, on, tw, dp, cl, gr, r0, kd, fl, co, sm, wk, sp, b0, mu)) (t : Nat) (htt : t < 120) (P : Nat → Int) (hg : gz P) (hcr : CRk cl t P) (tb : Nat) (htb : tb < 120) (P2 : Nat → Int) (hg2 : gz P2) (hcr2 : CRk cl tb P2) : sMet G l yX4_isSame mX4_isSame [.ref (ad 12 0), .int (nI t), .int (nI tb)] ad M (fun r ad' M' => ad = ad' ∧ ∃ wk', hMd G ad M' (c0, t0, hd, on, tw, dp, cl, gr, r0, kd, fl, co, sm, wk', sp, b0, mu) ∧ sSame pMd M M' ∧ ∃ z : Bool, r = some (.int (jB z)) ∧ (z = true ↔ ∀ y, P y = P2 y)) (fun _ _ _ => False) := by
  refine sMet.of hl (by decide +kernel) rfl rfl rfl rfl (Nat.le_of_ble_eq_true rfl) (fun X => ?_)
  refine s_lv (lv' := [some (.ref (ad 12 0)), some (.int (nI t)), some (.int (nI tb)), none]) rfl ?_
  refine s_iconst (v := 0) dX4_isSame_0 (by decide) ?_
  refine s_istore_n dX4_isSame_1 rfl rfl ?_
  refine s_lv (lv' := [some (.ref (ad 12 0)), some (.int (nI t)), some (.int (nI tb)), some (.int 0)]) rfl ?_
  refine l_X4_isSame X G ad M c0 t0 hd on tw dp cl gr r0 kd fl co sm sp b0 mu t htt P hg hcr tb _ (fun M5 wk5  hm5 hs5 hv5 => ?_) (220) 0 M wk  (by omega) ⟨hm.1, hm.2.1, hm.2.2.1, hm.2.2.2.1, hm.2.2.2.2.1, hm.2.2.2.2.2.1, hm.2.2.2.2.2.2.1, hm.2.2.2.2.2.2.2.1, hm.2.2.2.2.2.2.2.2.1, hm.2.2.2.2.2.2.2.2.2.1, hm.2.2.2.2.2.2.2.2.2.2.1, hm.2.2.2.2.2.2.2.2.2.2.2.1, hm.2.2.2.2.2.2.2.2.2.2.2.2.1, hm.2.2.2.2.2.2.2.2.2.2.2.2.2⟩ sSame.rfl (fun k hk => absurd hk (Nat.not_lt_zero k))
  refine s_aload_n dX4_isSame_34 rfl ?_
  refine s_iload_n dX4_isSame_35 rfl ?_
  refine s_callV (As := [.int (nI tb)]) (rest := []) (n := 1) (kd := 12) (ix := 0) (fun l hl => c_X4_isWork G l hl ad M5 c0 t0 hd on tw dp cl gr r0 kd fl co sm wk5 sp b0 mu ⟨hm5.1, hm5.2.1, hm5.2.2.1, hm5.2.2.2.1, hm5.2.2.2.2.1, hm5.2.2.2.2.2.1, hm5.2.2.2.2.2.2.1, hm5.2.2.2.2.2.2.2.1, hm5.2.2.2.2.2.2.2.2.1, hm5.2.2.2.2.2.2.2.2.2.1, hm5.2.2.2.2.2.2.2.2.2.2.1, hm5.2.2.2.2.2.2.2.2.2.2.2.1, hm5.2.2.2.2.2.2.2.2.2.2.2.2.1, hm5.2.2.2.2.2.2.2.2.2.2.2.2.2⟩ tb htb P2 hg2 hcr2 P hg hv5) gX4_isSame_X4_isWork rfl (by decide +kernel) hm5.1 rfl rfl ⟨(Nat.le_of_ble_eq_true rfl), (Nat.le_of_ble_eq_true rfl)⟩ ⟨(Nat.le_of_ble_eq_true rfl), (Nat.le_of_ble_eq_true rfl)⟩ (Nat.le_of_ble_eq_true rfl) dX4_isSame_36 rfl (fun r6 ad6 M6 h6 => ?_)
  obtain ⟨rfl, hm6, hs6, z6, rfl, hz6⟩ := h6
  exact s_iret rfl (jB_nar _) dX4_isSame_39 (Nat.le_of_ble_eq_true rfl) (Nat.le_of_ble_eq_true rfl) (⟨rfl, _, hm6, (hs5.trans hs6), z6, rfl, hz6⟩)
def mulT (P Q : Nat → Int) (y a : Nat) : Int := sN (ontoT a (P a) Q y) 1000
theorem mulT_eq (P Q : Nat → Int) (y : Nat) : sN (mulT P Q y) 1000 = mul P Q y := rfl
theorem mulT_0 {P Q : Nat → Int} {a : Nat} (h : P a = 0) (y : Nat) : mulT P Q y a = 0 := sN_zero (fun b _ => by
  unfold ontoT
  rw [h, Int.zero_mul]
  split <;> rfl)
theorem mulT_b {P Q : Nat → Int} (hp : ∀ y, -1000000 ≤ P y ∧ P y ≤ 1000000) (hq : ∀ y, -1000000 ≤ Q y ∧ Q y ≤ 1000000) (y a : Nat) : -(1000000 * 1000000 * 1000) ≤ mulT P Q y a ∧ mulT P Q y a ≤ 1000000 * 1000000 * 1000 := sN_abs (g := ontoT a (P a) Q y) (W := 1000000 * 1000000) (n := 1000) (fun w _ => ontoT_b (hp a) hq y w)
abbrev mX4_multiply : sMeth := (cX4_multiply, 9, RX4, wsX4_multiply, { frames := 3, cells := 0, slots := 0, locals := 71 }, none, "multiply", [])
theorem in_X4_multiply_X4 : ∀ w ∈ wsX40, w ∈ wsX4_multiply := by decide +kernel
set_option maxHeartbeats 4000000 in
set_option maxRecDepth 100000 in
theorem l_X4_multiply0 (X : sMach) (G : sG) (ad : sAd) (M0 : sM) (c0 : Int32) (t0 : Nat) (hd : Nat → Int32) (on : Nat → Int32) (tw : Nat → Int32) (dp : Nat → Int32) (cl : Nat → Int32) (gr : Nat → Int32) (r0 : Nat) (kd : Nat → Int32) (fl : Nat → Int32) (co : Nat → Int32) (sm : Nat → Int32) (sp : Nat → Int64) (b0 : Bool) (mu : Nat → Int32) (t tb : Nat) (Q : State → Prop) (kont : ∀ (M : sM) (wk : Nat → Int64) , hMd G ad M (c0, t0, hd, on, tw, dp, cl, gr, r0, kd, fl, co, sm, wk, sp, b0, mu) → sSame pMd M0 M → z220 wk 220 → sW X G mX4_multiply Q ad M 0 0 [some (.ref (ad 12 0)), some (.int (nI t)), some (.int (nI tb)), none, none, none, none, none, none] 22 []) : ∀ (k i : Nat) (M : sM) (wk : Nat → Int64) , i + k = 220 → hMd G ad M (c0, t0, hd, on, tw, dp, cl, gr, r0, kd, fl, co, sm, wk, sp, b0, mu) → sSame pMd M0 M → z220 wk i → sW X G mX4_multiply Q ad M 0 0 [some (.ref (ad 12 0)), some (.int (nI t)), some (.int (nI tb)), some (.int (nI i)), none, none, none, none, none] 2 [] := by
  intro k
  induction k with
  | zero =>
    intro i M wk  hi hm hs hv
    refine s_iload_n dX4_multiply_2 rfl ?_
    refine s_sipush (v := 220) dX4_multiply_3 (by decide) ?_
    refine s_icmp_ge 22 dX4_multiply_6 (by decide) (fun c6 => ?_) (fun c6 => absurd (nI_le (a := 220) (by omega) (by omega)) c6)
    refine s_drop 3 ?_
    exact kont M wk  hm hs (by rw [show i = 220 by omega] at hv; exact hv)
  | succ k ih =>
    intro i M wk  hi hm hs hv
    refine s_iload_n dX4_multiply_2 rfl ?_
    refine s_sipush (v := 220) dX4_multiply_3 (by decide) ?_
    refine s_icmp_ge 22 dX4_multiply_6 (by decide) (fun c6 => absurd c6 (nI_ge (b := 220) (by omega) (by omega))) (fun c6 => ?_)
    refine s_aload_n dX4_multiply_9 rfl ?_
    refine s_get (kd := 12) (ix := 0) (ci := 5) (fs := [.int c0, .int (nI t0), .ref (ad 13 0), .ref (ad 14 0), .ref (ad 15 0), .ref (ad 16 0), .ref (ad 17 0), .ref (ad 18 0), .int (nI r0), .ref (ad 19 0), .ref (ad 20 0), .ref (ad 21 0), .ref (ad 22 0), .ref (ad 23 0), .ref (ad 24 0), .int (jB b0), .ref (ad 25 0)])  hm.1 rfl in_X4_multiply_X4 13 (by decide) (by decide +kernel) rfl rfl dX4_multiply_10 ?_
    refine s_iload_n dX4_multiply_13 rfl ?_
    refine s_lconst (v := 0) dX4_multiply_14 (by decide) ?_
    refine s_last (kd := 23) (ix := 0) (n := 220) (f := wk) (j := i) (x := 0) hm.2.2.2.2.2.2.2.2.2.2.2.1  (rfl) (by omega) (by decide) dX4_multiply_15 ?_
    refine s_iinc (v := nI (i + 1)) dX4_multiply_16 rfl (nI_1 i) rfl ?_
    refine s_lv (lv' := [some (.ref (ad 12 0)), some (.int (nI t)), some (.int (nI tb)), some (.int (nI (i + 1))), none, none, none, none, none]) rfl ?_
    refine s_goto 2 dX4_multiply_19 (by decide) ?_
    exact ih (i + 1) (sset M 23 0 (.inl (gJ G, 220, .inr (.inl (vp_updL wk i 0))))) (vp_updL wk i 0)  (by omega) ⟨((sset_k _ _ (by decide)).trans (hm.1)), ((sset_k _ _ (by decide)).trans (hm.2.1)), ((sset_k _ _ (by decide)).trans (hm.2.2.1)), ((sset_k _ _ (by decide)).trans (hm.2.2.2.1)), ((sset_k _ _ (by decide)).trans (hm.2.2.2.2.1)), ((sset_k _ _ (by decide)).trans (hm.2.2.2.2.2.1)), ((sset_k _ _ (by decide)).trans (hm.2.2.2.2.2.2.1)), ((sset_k _ _ (by decide)).trans (hm.2.2.2.2.2.2.2.1)), ((sset_k _ _ (by decide)).trans (hm.2.2.2.2.2.2.2.2.1)), ((sset_k _ _ (by decide)).trans (hm.2.2.2.2.2.2.2.2.2.1)), ((sset_k _ _ (by decide)).trans (hm.2.2.2.2.2.2.2.2.2.2.1)), (sset_self _ _ _ _), ((sset_k _ _ (by decide)).trans (hm.2.2.2.2.2.2.2.2.2.2.2.2.1)), ((sset_k _ _ (by decide)).trans (hm.2.2.2.2.2.2.2.2.2.2.2.2.2))⟩ (hs |>.set (P := pMd) (by simp [pMd]) _) (hv.step)
set_option maxHeartbeats 4000000 in
set_option maxRecDepth 100000 in
theorem l_X4_multiply (X : sMach) (G : sG) (ad : sAd) (M0 : sM) (c0 : Int32) (t0 : Nat) (hd : Nat → Int32) (on : Nat → Int32) (tw : Nat → Int32) (dp : Nat → Int32) (cl : Nat → Int32) (gr : Nat → Int32) (r0 : Nat) (kd : Nat → Int32) (fl : Nat → Int32) (co : Nat → Int32) (sm : Nat → Int32) (sp : Nat → Int64) (b0 : Bool) (mu : Nat → Int32) (t : Nat) (htt : t < 120) (P : Nat → Int) (hg : gz P) (hcr : CRk cl t P) (hpb : ∀ y, -1000000 ≤ P y ∧ P y ≤ 1000000) (tb : Nat) (htb : tb < 120) (P2 : Nat → Int) (hg2 : gz P2) (hcr2 : CRk cl tb P2) (hpb2 : ∀ y, -1000000 ≤ P2 y ∧ P2 y ≤ 1000000) (m9 : Int32) (hdeg : ∀ a b, P a ≠ 0 → P2 b ≠ 0 → gdeg a + gdeg b ≤ 9) (Q : State → Prop) (kont : ∀ (M : sM) (wk : Nat → Int64) , hMd G ad M (c0, t0, hd, on, tw, dp, cl, gr, r0, kd, fl, co, sm, wk, sp, b0, mu) → sSame pMd M0 M → WRk wk (fun u9 => 0 + sN ((mulT P P2) u9) 1000) → sW X G mX4_multiply Q ad M 0 0 [some (.ref (ad 12 0)), some (.int (nI t)), some (.int (nI tb)), some (.int m9), none, none, none, none, none] 153 []) : ∀ (n x y z : Nat) (M : sM) (wk : Nat → Int64) , x + y ≤ 9 → x + y + z ≤ 9 + 1 → 1400 ≤ 121 * x + 11 * y + z + n → hMd G ad M (c0, t0, hd, on, tw, dp, cl, gr, r0, kd, fl, co, sm, wk, sp, b0, mu) → sSame pMd M0 M → WRk wk (fun u9 => 0 + sN ((mulT P P2) u9) (100 * x + 10 * y + z)) → sW X G mX4_multiply Q ad M 0 0 [some (.ref (ad 12 0)), some (.int (nI t)), some (.int (nI tb)), some (.int m9), some (.int (nI x)), some (.int (nI y)), some (.int (nI z)), none, none] 79 [] := by
  intro n
  induction n with
  | zero => intro x y z M wk  hxy hxyz hn; exact absurd hn (by omega)
  | succ n ih =>
    intro x y z M wk  hxy hxyz hn hm hs hv
    rcases Nat.lt_or_ge 9 (x + y + z) with hB | hB
    · rcases Nat.lt_or_ge 9 (x + y + 1) with hB2 | hB2
      · rcases Nat.lt_or_ge 9 (x + 1) with hB3 | hB3
        · refine s_iload dX4_multiply_79 rfl ?_
          refine s_iload dX4_multiply_81 rfl ?_
          refine s_iadd dX4_multiply_83 ?_
          refine s_eqi (y := nI (x + y)) (nI_add _ _) ?_
          refine s_iload dX4_multiply_84 rfl ?_
          refine s_iadd dX4_multiply_86 ?_
          refine s_eqi (y := nI ((x + y) + z)) (nI_add _ _) ?_
          refine s_bipush (v := 10) dX4_multiply_87 (by decide) ?_
          refine s_icmp_ge 141 dX4_multiply_89 (by decide) (fun c89 => ?_) (fun c89 => absurd (nI_le (a := 10) (by omega) (by omega)) c89)
          refine s_iinc (v := nI (y + 1)) dX4_multiply_141 rfl (nI_1 _) rfl ?_
          refine s_lv (lv' := [some (.ref (ad 12 0)), some (.int (nI t)), some (.int (nI tb)), some (.int m9), some (.int (nI x)), some (.int (nI (y + 1))), some (.int (nI z)), none, none]) rfl ?_
          refine s_goto 66 dX4_multiply_144 (by decide) ?_
          refine s_iload dX4_multiply_66 rfl ?_
          refine s_iload dX4_multiply_68 rfl ?_
          refine s_iadd dX4_multiply_70 ?_
          refine s_eqi (y := nI (x + (y + 1))) (nI_add _ _) ?_
          refine s_bipush (v := 10) dX4_multiply_71 (by decide) ?_
          refine s_icmp_ge 147 dX4_multiply_73 (by decide) (fun c73 => ?_) (fun c73 => absurd (nI_le (a := 10) (by omega) (by omega)) c73)
          refine s_iinc (v := nI (x + 1)) dX4_multiply_147 rfl (nI_1 _) rfl ?_
          refine s_lv (lv' := [some (.ref (ad 12 0)), some (.int (nI t)), some (.int (nI tb)), some (.int m9), some (.int (nI (x + 1))), some (.int (nI (y + 1))), some (.int (nI z)), none, none]) rfl ?_
          refine s_goto 56 dX4_multiply_150 (by decide) ?_
          refine s_iload dX4_multiply_56 rfl ?_
          refine s_bipush (v := 10) dX4_multiply_58 (by decide) ?_
          refine s_icmp_ge 153 dX4_multiply_60 (by decide) (fun c60 => ?_) (fun c60 => absurd (nI_le (a := 10) (by omega) (by omega)) c60)
          refine s_drop 4 ?_
          refine s_drop 5 ?_
          refine s_drop 6 ?_
          exact kont M wk  hm hs (WRk.skip (T := (mulT P P2)) (f := fun _ => 0) (B := 9) hv (by omega) (skp3 hB hB2 hB3 (by omega)) (fun y w hw => mulT_0 (Classical.byContradiction (fun q => absurd (hg w q).2 (by omega))) y))
        · refine s_iload dX4_multiply_79 rfl ?_
          refine s_iload dX4_multiply_81 rfl ?_
          refine s_iadd dX4_multiply_83 ?_
          refine s_eqi (y := nI (x + y)) (nI_add _ _) ?_
          refine s_iload dX4_multiply_84 rfl ?_
          refine s_iadd dX4_multiply_86 ?_
          refine s_eqi (y := nI ((x + y) + z)) (nI_add _ _) ?_
          refine s_bipush (v := 10) dX4_multiply_87 (by decide) ?_
          refine s_icmp_ge 141 dX4_multiply_89 (by decide) (fun c89 => ?_) (fun c89 => absurd (nI_le (a := 10) (by omega) (by omega)) c89)
          refine s_iinc (v := nI (y + 1)) dX4_multiply_141 rfl (nI_1 _) rfl ?_
          refine s_lv (lv' := [some (.ref (ad 12 0)), some (.int (nI t)), some (.int (nI tb)), some (.int m9), some (.int (nI x)), some (.int (nI (y + 1))), some (.int (nI z)), none, none]) rfl ?_
          refine s_goto 66 dX4_multiply_144 (by decide) ?_
          refine s_iload dX4_multiply_66 rfl ?_
          refine s_iload dX4_multiply_68 rfl ?_
          refine s_iadd dX4_multiply_70 ?_
          refine s_eqi (y := nI (x + (y + 1))) (nI_add _ _) ?_
          refine s_bipush (v := 10) dX4_multiply_71 (by decide) ?_
          refine s_icmp_ge 147 dX4_multiply_73 (by decide) (fun c73 => ?_) (fun c73 => absurd (nI_le (a := 10) (by omega) (by omega)) c73)
          refine s_iinc (v := nI (x + 1)) dX4_multiply_147 rfl (nI_1 _) rfl ?_
          refine s_lv (lv' := [some (.ref (ad 12 0)), some (.int (nI t)), some (.int (nI tb)), some (.int m9), some (.int (nI (x + 1))), some (.int (nI (y + 1))), some (.int (nI z)), none, none]) rfl ?_
          refine s_goto 56 dX4_multiply_150 (by decide) ?_
          refine s_iload dX4_multiply_56 rfl ?_
          refine s_bipush (v := 10) dX4_multiply_58 (by decide) ?_
          refine s_icmp_ge 153 dX4_multiply_60 (by decide) (fun c60 => absurd c60 (nI_ge (b := 10) (by omega) (by omega))) (fun c60 => ?_)
          refine s_iconst (v := 0) dX4_multiply_63 (by decide) ?_
          refine s_istore dX4_multiply_64 rfl rfl ?_
          refine s_lv (lv' := [some (.ref (ad 12 0)), some (.int (nI t)), some (.int (nI tb)), some (.int m9), some (.int (nI (x + 1))), some (.int 0), some (.int (nI z)), none, none]) rfl ?_
          refine s_iload dX4_multiply_66 rfl ?_
          refine s_iload dX4_multiply_68 rfl ?_
          refine s_iadd dX4_multiply_70 ?_
          refine s_eqi (y := nI ((x + 1) + 0)) (nI_add _ _) ?_
          refine s_bipush (v := 10) dX4_multiply_71 (by decide) ?_
          refine s_icmp_ge 147 dX4_multiply_73 (by decide) (fun c73 => absurd c73 (nI_ge (b := 10) (by omega) (by omega))) (fun c73 => ?_)
          refine s_iconst (v := 0) dX4_multiply_76 (by decide) ?_
          refine s_istore dX4_multiply_77 rfl rfl ?_
          refine s_lv (lv' := [some (.ref (ad 12 0)), some (.int (nI t)), some (.int (nI tb)), some (.int m9), some (.int (nI (x + 1))), some (.int 0), some (.int 0), none, none]) rfl ?_
          exact ih (x + 1) 0 0 M wk  (by omega) (by omega) (by omega) hm hs (WRk.skip (T := (mulT P P2)) (f := fun _ => 0) (B := 9) hv (by omega) (skp2 hB hB2 (by omega)) (fun y w hw => mulT_0 (Classical.byContradiction (fun q => absurd (hg w q).2 (by omega))) y))
      · refine s_iload dX4_multiply_79 rfl ?_
        refine s_iload dX4_multiply_81 rfl ?_
        refine s_iadd dX4_multiply_83 ?_
        refine s_eqi (y := nI (x + y)) (nI_add _ _) ?_
        refine s_iload dX4_multiply_84 rfl ?_
        refine s_iadd dX4_multiply_86 ?_
        refine s_eqi (y := nI ((x + y) + z)) (nI_add _ _) ?_
        refine s_bipush (v := 10) dX4_multiply_87 (by decide) ?_
        refine s_icmp_ge 141 dX4_multiply_89 (by decide) (fun c89 => ?_) (fun c89 => absurd (nI_le (a := 10) (by omega) (by omega)) c89)
        refine s_iinc (v := nI (y + 1)) dX4_multiply_141 rfl (nI_1 _) rfl ?_
        refine s_lv (lv' := [some (.ref (ad 12 0)), some (.int (nI t)), some (.int (nI tb)), some (.int m9), some (.int (nI x)), some (.int (nI (y + 1))), some (.int (nI z)), none, none]) rfl ?_
        refine s_goto 66 dX4_multiply_144 (by decide) ?_
        refine s_iload dX4_multiply_66 rfl ?_
        refine s_iload dX4_multiply_68 rfl ?_
        refine s_iadd dX4_multiply_70 ?_
        refine s_eqi (y := nI (x + (y + 1))) (nI_add _ _) ?_
        refine s_bipush (v := 10) dX4_multiply_71 (by decide) ?_
        refine s_icmp_ge 147 dX4_multiply_73 (by decide) (fun c73 => absurd c73 (nI_ge (b := 10) (by omega) (by omega))) (fun c73 => ?_)
        refine s_iconst (v := 0) dX4_multiply_76 (by decide) ?_
        refine s_istore dX4_multiply_77 rfl rfl ?_
        refine s_lv (lv' := [some (.ref (ad 12 0)), some (.int (nI t)), some (.int (nI tb)), some (.int m9), some (.int (nI x)), some (.int (nI (y + 1))), some (.int 0), none, none]) rfl ?_
        exact ih x (y + 1) 0 M wk  (by omega) (by omega) (by omega) hm hs (WRk.skip (T := (mulT P P2)) (f := fun _ => 0) (B := 9) hv (by omega) (skp1 hB (by omega)) (fun y w hw => mulT_0 (Classical.byContradiction (fun q => absurd (hg w q).2 (by omega))) y))
    · have hgd : good (100 * x + 10 * y + z) := good_dig (by omega)
      have hpd2 := pl_dig (i := x) (j := y) (k := z) (by omega) (by omega)
      have hplt := (pl_facts hgd).1
      rw [hpd2] at hplt
      have hcv := hcr.at hgd
      rw [hpd2] at hcv
      have hg1 := hgd.1
      refine s_iload dX4_multiply_79 rfl ?_
      refine s_iload dX4_multiply_81 rfl ?_
      refine s_iadd dX4_multiply_83 ?_
      refine s_eqi (y := nI (x + y)) (nI_add _ _) ?_
      refine s_iload dX4_multiply_84 rfl ?_
      refine s_iadd dX4_multiply_86 ?_
      refine s_eqi (y := nI ((x + y) + z)) (nI_add _ _) ?_
      refine s_bipush (v := 10) dX4_multiply_87 (by decide) ?_
      refine s_icmp_ge 141 dX4_multiply_89 (by decide) (fun c89 => absurd c89 (nI_ge (b := 10) (by omega) (by omega))) (fun c89 => ?_)
      refine s_aload_n dX4_multiply_92 rfl ?_
      refine s_get (kd := 12) (ix := 0) (ci := 5) (fs := [.int c0, .int (nI t0), .ref (ad 13 0), .ref (ad 14 0), .ref (ad 15 0), .ref (ad 16 0), .ref (ad 17 0), .ref (ad 18 0), .int (nI r0), .ref (ad 19 0), .ref (ad 20 0), .ref (ad 21 0), .ref (ad 22 0), .ref (ad 23 0), .ref (ad 24 0), .int (jB b0), .ref (ad 25 0)])  hm.1 rfl in_X4_multiply_X4 6 (by decide) (by decide +kernel) rfl rfl dX4_multiply_93 ?_
      refine s_sipush (v := 220) dX4_multiply_96 (by decide) ?_
      refine s_iload_n dX4_multiply_99 rfl ?_
      refine s_imul dX4_multiply_100 ?_
      refine s_eqi (y := nI (220 * t)) (nI_mul 220 t) ?_
      refine s_iload dX4_multiply_101 rfl ?_
      refine s_iload dX4_multiply_103 rfl ?_
      refine s_iload dX4_multiply_105 rfl ?_
      refine s_callS (As := [.int (nI x), .int (nI y), .int (nI z)]) (rest := [.int (nI (220 * t)), .ref (ad 17 0)]) (n := 3) (fun l hl => c_X4_place G l hl ad M x y z (by omega)) gX4_multiply_X4_place rfl (by decide +kernel) rfl ⟨(Nat.le_of_ble_eq_true rfl), (Nat.le_of_ble_eq_true rfl)⟩ ⟨(Nat.le_of_ble_eq_true rfl), (Nat.le_of_ble_eq_true rfl)⟩ (Nat.le_of_ble_eq_true rfl) dX4_multiply_107 rfl (fun r9 ad9 M9 h9 => ?_)
      obtain ⟨rfl, rfl, rfl⟩ := h9
      refine s_iadd dX4_multiply_110 ?_
      refine s_eqi (y := nI (220 * t + pl3 x y z)) (nI_add _ _) ?_
      refine s_iald (kd := 17) (ix := 0) (n := 26400) (f := cl) (j := 220 * t + pl3 x y z) hm.2.2.2.2.2.1 (rfl) (by omega) (by decide) dX4_multiply_111 ?_
      refine s_i2l dX4_multiply_112 ?_
      refine s_lstore dX4_multiply_113 rfl rfl ?_
      refine s_lv (lv' := [some (.ref (ad 12 0)), some (.int (nI t)), some (.int (nI tb)), some (.int m9), some (.int (nI x)), some (.int (nI y)), some (.int (nI z)), some (.long ((cl (220 * t + pl3 x y z)).toInt64)), none]) rfl ?_
      refine s_lload dX4_multiply_115 rfl ?_
      refine s_lconst (v := 0) dX4_multiply_117 (by decide) ?_
      refine s_lcmp dX4_multiply_118 ?_
      refine s_if_eq 135 dX4_multiply_119 (by decide) (fun c119 => ?_) (fun c119 => ?_)
      · refine s_iinc (v := nI (z + 1)) dX4_multiply_135 rfl (nI_1 _) rfl ?_
        refine s_lv (lv' := [some (.ref (ad 12 0)), some (.int (nI t)), some (.int (nI tb)), some (.int m9), some (.int (nI x)), some (.int (nI y)), some (.int (nI (z + 1))), some (.long ((cl (220 * t + pl3 x y z)).toInt64)), none]) rfl ?_
        refine s_goto 79 dX4_multiply_138 (by decide) ?_
        refine s_drop 7 ?_
        exact ih x y (z + 1) M wk  (by omega) (by omega) (by omega) hm hs (WRk.non (T := (mulT P P2)) (f := fun _ => 0) (Y := (100 * x + 10 * y + z)) hv (fun u9 => mulT_0 (a := (100 * x + 10 * y + z)) (by rw [← hcv, ← i32_64, (lg_cmp_eq _ _).mp c119]; rfl) u9))
      · have hpne : P (100 * x + 10 * y + z) ≠ 0 := fun q => c119 ((lg_cmp_eq _ _).mpr (Int64.toInt_inj.mp (by rw [i32_64, hcv, q]; rfl)))
        refine s_aload_n dX4_multiply_122 rfl ?_
        refine s_lload dX4_multiply_123 rfl ?_
        refine s_iload dX4_multiply_125 rfl ?_
        refine s_iload dX4_multiply_127 rfl ?_
        refine s_iload dX4_multiply_129 rfl ?_
        refine s_iload_n dX4_multiply_131 rfl ?_
        refine s_callV (As := [.long ((cl (220 * t + pl3 x y z)).toInt64), .int (nI x), .int (nI y), .int (nI z), .int (nI tb)]) (rest := []) (n := 5) (kd := 12) (ix := 0) (fun l hl => c_X4_onto G l hl ad M c0 t0 hd on tw dp cl gr r0 kd fl co sm wk sp b0 mu ⟨hm.1, hm.2.1, hm.2.2.1, hm.2.2.2.1, hm.2.2.2.2.1, hm.2.2.2.2.2.1, hm.2.2.2.2.2.2.1, hm.2.2.2.2.2.2.2.1, hm.2.2.2.2.2.2.2.2.1, hm.2.2.2.2.2.2.2.2.2.1, hm.2.2.2.2.2.2.2.2.2.2.1, hm.2.2.2.2.2.2.2.2.2.2.2.1, hm.2.2.2.2.2.2.2.2.2.2.2.2.1, hm.2.2.2.2.2.2.2.2.2.2.2.2.2⟩ (cl (220 * t + pl3 x y z)).toInt64 (by rw [i32_64, hcv]; exact hpb _) x y z (by omega) tb htb P2 hpb2 hcr2 (fun w hw => Classical.byContradiction (fun q => absurd (hdeg (100 * x + 10 * y + z) w hpne q) (by rw [gdeg_dig (by omega) (by omega)]; omega))) (fun u9 => 0 + sN ((mulT P P2) u9) (100 * x + 10 * y + z)) (fun u9 => by
              have q := sN_abs (g := (mulT P P2) u9) (W := 1000000 * 1000000 * 1000) (n := (100 * x + 10 * y + z)) (fun a _ => mulT_b hpb hpb2 u9 a)
              omega) hv) gX4_multiply_X4_onto rfl (by decide +kernel) hm.1 rfl rfl ⟨(Nat.le_of_ble_eq_true rfl), (Nat.le_of_ble_eq_true rfl)⟩ ⟨(Nat.le_of_ble_eq_true rfl), (Nat.le_of_ble_eq_true rfl)⟩ (Nat.le_of_ble_eq_true rfl) dX4_multiply_132 rfl (fun r7 ad7 M7 h7 => ?_)
        obtain ⟨rfl, rfl, wk7, hm7, hs7, hv7⟩ := h7
        refine s_iinc (v := nI (z + 1)) dX4_multiply_135 rfl (nI_1 _) rfl ?_
        refine s_lv (lv' := [some (.ref (ad 12 0)), some (.int (nI t)), some (.int (nI tb)), some (.int m9), some (.int (nI x)), some (.int (nI y)), some (.int (nI (z + 1))), some (.long ((cl (220 * t + pl3 x y z)).toInt64)), none]) rfl ?_
        refine s_goto 79 dX4_multiply_138 (by decide) ?_
        refine s_drop 7 ?_
        exact ih x y (z + 1) M7 wk7  (by omega) (by omega) (by omega) hm7 (hs.trans hs7) (hv7.ext (fun u9 => by
          show 0 + sN ((mulT P P2) u9) (100 * x + 10 * y + z) + _ = 0 + (sN ((mulT P P2) u9) (100 * x + 10 * y + z) + sN (ontoT (100 * x + 10 * y + z) (P (100 * x + 10 * y + z)) P2 u9) 1000)
          rw [i32_64, hcv]
          omega))
set_option maxHeartbeats 4000000 in
set_option maxRecDepth 100000 in
theorem c_X4_multiply (G : sG) (l : Launch) (hl : l.stackTraces = false) (ad : sAd) (M : sM) (c0 : Int32) (t0 : Nat) (hd : Nat → Int32) (on : Nat → Int32) (tw : Nat → Int32) (dp : Nat → Int32) (cl : Nat → Int32) (gr : Nat → Int32) (r0 : Nat) (kd : Nat → Int32) (fl : Nat → Int32) (co : Nat → Int32) (sm : Nat → Int32) (wk : Nat → Int64) (sp : Nat → Int64) (b0 : Bool) (mu : Nat → Int32) (hm : hMd G ad M (c0, t0, hd, on, tw, dp, cl, gr, r0, kd, fl, co, sm, wk, sp, b0, mu)) (t : Nat) (htt : t < 120) (P : Nat → Int) (hg : gz P) (hcr : CRk cl t P) (hpb : ∀ y, -1000000 ≤ P y ∧ P y ≤ 1000000) (tb : Nat) (htb : tb < 120) (P2 : Nat → Int) (hg2 : gz P2) (hcr2 : CRk cl tb P2) (hpb2 : ∀ y, -1000000 ≤ P2 y ∧ P2 y ≤ 1000000) : sMet G l yX4_multiply mX4_multiply [.ref (ad 12 0), .int (nI t), .int (nI tb)] ad M (fun r ad' M' => ad = ad' ∧ r = none ∧ ∃ wk' b', hMd G ad M' (c0, t0, hd, on, tw, dp, cl, gr, r0, kd, fl, co, sm, wk', sp, b', mu) ∧ sSame pMd M M' ∧ (b' = true ↔ b0 = true ∨ ¬ dOK P P2) ∧ ((b' = true ∧ WRk wk' (fun _ => 0)) ∨ (b' = false ∧ WRk wk' (mul P P2) ∧ gz (mul P P2)))) (fun _ _ _ => False) := by
  refine sMet.of hl (by decide +kernel) rfl rfl rfl rfl (Nat.le_of_ble_eq_true rfl) (fun X => ?_)
  refine s_lv (lv' := [some (.ref (ad 12 0)), some (.int (nI t)), some (.int (nI tb)), none, none, none, none, none, none]) rfl ?_
  refine s_iconst (v := 0) dX4_multiply_0 (by decide) ?_
  refine s_istore_n dX4_multiply_1 rfl rfl ?_
  refine s_lv (lv' := [some (.ref (ad 12 0)), some (.int (nI t)), some (.int (nI tb)), some (.int 0), none, none, none, none, none]) rfl ?_
  refine l_X4_multiply0 X G ad M c0 t0 hd on tw dp cl gr r0 kd fl co sm sp b0 mu t tb _ (fun M8 wk8  hm8 hs8 hv8 => ?_) (220) 0 M wk  (by omega) ⟨hm.1, hm.2.1, hm.2.2.1, hm.2.2.2.1, hm.2.2.2.2.1, hm.2.2.2.2.2.1, hm.2.2.2.2.2.2.1, hm.2.2.2.2.2.2.2.1, hm.2.2.2.2.2.2.2.2.1, hm.2.2.2.2.2.2.2.2.2.1, hm.2.2.2.2.2.2.2.2.2.2.1, hm.2.2.2.2.2.2.2.2.2.2.2.1, hm.2.2.2.2.2.2.2.2.2.2.2.2.1, hm.2.2.2.2.2.2.2.2.2.2.2.2.2⟩ sSame.rfl (fun k hk => absurd hk (Nat.not_lt_zero k))
  have hz9 := hv8
  refine s_aload_n dX4_multiply_22 rfl ?_
  refine s_iload_n dX4_multiply_23 rfl ?_
  refine s_callV (As := [.int (nI t)]) (rest := []) (n := 1) (kd := 12) (ix := 0) (fun l hl => c_X4_high G l hl ad M8 c0 t0 hd on tw dp cl gr r0 kd fl co sm wk8 sp b0 mu ⟨hm8.1, hm8.2.1, hm8.2.2.1, hm8.2.2.2.1, hm8.2.2.2.2.1, hm8.2.2.2.2.2.1, hm8.2.2.2.2.2.2.1, hm8.2.2.2.2.2.2.2.1, hm8.2.2.2.2.2.2.2.2.1, hm8.2.2.2.2.2.2.2.2.2.1, hm8.2.2.2.2.2.2.2.2.2.2.1, hm8.2.2.2.2.2.2.2.2.2.2.2.1, hm8.2.2.2.2.2.2.2.2.2.2.2.2.1, hm8.2.2.2.2.2.2.2.2.2.2.2.2.2⟩ t htt P hg hcr) gX4_multiply_X4_high rfl (by decide +kernel) hm8.1 rfl rfl ⟨(Nat.le_of_ble_eq_true rfl), (Nat.le_of_ble_eq_true rfl)⟩ ⟨(Nat.le_of_ble_eq_true rfl), (Nat.le_of_ble_eq_true rfl)⟩ (Nat.le_of_ble_eq_true rfl) dX4_multiply_24 rfl (fun r9 ad9 M9 h9 => ?_)
  obtain ⟨rfl, rfl, v9, rfl, hi9⟩ := h9
  refine s_aload_n dX4_multiply_27 rfl ?_
  refine s_iload_n dX4_multiply_28 rfl ?_
  refine s_callV (As := [.int (nI tb)]) (rest := [.int v9]) (n := 1) (kd := 12) (ix := 0) (fun l hl => c_X4_high G l hl ad M8 c0 t0 hd on tw dp cl gr r0 kd fl co sm wk8 sp b0 mu ⟨hm8.1, hm8.2.1, hm8.2.2.1, hm8.2.2.2.1, hm8.2.2.2.2.1, hm8.2.2.2.2.2.1, hm8.2.2.2.2.2.2.1, hm8.2.2.2.2.2.2.2.1, hm8.2.2.2.2.2.2.2.2.1, hm8.2.2.2.2.2.2.2.2.2.1, hm8.2.2.2.2.2.2.2.2.2.2.1, hm8.2.2.2.2.2.2.2.2.2.2.2.1, hm8.2.2.2.2.2.2.2.2.2.2.2.2.1, hm8.2.2.2.2.2.2.2.2.2.2.2.2.2⟩ tb htb P2 hg2 hcr2) gX4_multiply_X4_high rfl (by decide +kernel) hm8.1 rfl rfl ⟨(Nat.le_of_ble_eq_true rfl), (Nat.le_of_ble_eq_true rfl)⟩ ⟨(Nat.le_of_ble_eq_true rfl), (Nat.le_of_ble_eq_true rfl)⟩ (Nat.le_of_ble_eq_true rfl) dX4_multiply_29 rfl (fun r10 ad10 M10 h10 => ?_)
  obtain ⟨rfl, rfl, v10, rfl, hi10⟩ := h10
  refine s_iadd dX4_multiply_32 ?_
  refine s_istore_n dX4_multiply_33 rfl rfl ?_
  refine s_lv (lv' := [some (.ref (ad 12 0)), some (.int (nI t)), some (.int (nI tb)), some (.int (v9 + v10)), none, none, none, none, none]) rfl ?_
  refine s_iload_n dX4_multiply_34 rfl ?_
  refine s_bipush (v := 9) dX4_multiply_35 (by decide) ?_
  refine s_icmp_le 45 dX4_multiply_37 (by decide) (fun c37 => ?_) (fun c37 => ?_)
  · refine s_aload_n dX4_multiply_45 rfl ?_
    refine s_get (kd := 12) (ix := 0) (ci := 5) (fs := [.int c0, .int (nI t0), .ref (ad 13 0), .ref (ad 14 0), .ref (ad 15 0), .ref (ad 16 0), .ref (ad 17 0), .ref (ad 18 0), .int (nI r0), .ref (ad 19 0), .ref (ad 20 0), .ref (ad 21 0), .ref (ad 22 0), .ref (ad 23 0), .ref (ad 24 0), .int (jB b0), .ref (ad 25 0)])  hm8.1 rfl in_X4_multiply_X4 15 (by decide) (by decide +kernel) rfl rfl dX4_multiply_46 ?_
    refine s_if_eq 53 dX4_multiply_49 (by decide) (fun c49 => ?_) (fun c49 => ?_)
    · have hiA := hi9
      have hiB := hi10
      have hdk : dOK P P2 := Classical.byContradiction (fun q => absurd ((hi_sum hiA hiB).mpr q) (Int32.not_lt.mpr c37))
      refine s_iconst (v := 0) dX4_multiply_53 (by decide) ?_
      refine s_istore dX4_multiply_54 rfl rfl ?_
      refine s_lv (lv' := [some (.ref (ad 12 0)), some (.int (nI t)), some (.int (nI tb)), some (.int (v9 + v10)), some (.int 0), none, none, none, none]) rfl ?_
      refine s_iload dX4_multiply_56 rfl ?_
      refine s_bipush (v := 10) dX4_multiply_58 (by decide) ?_
      refine s_icmp_ge 153 dX4_multiply_60 (by decide) (fun c60 => absurd c60 (by decide)) (fun c60 => ?_)
      refine s_iconst (v := 0) dX4_multiply_63 (by decide) ?_
      refine s_istore dX4_multiply_64 rfl rfl ?_
      refine s_lv (lv' := [some (.ref (ad 12 0)), some (.int (nI t)), some (.int (nI tb)), some (.int (v9 + v10)), some (.int 0), some (.int 0), none, none, none]) rfl ?_
      refine s_iload dX4_multiply_66 rfl ?_
      refine s_iload dX4_multiply_68 rfl ?_
      refine s_iadd dX4_multiply_70 ?_
      refine s_eqi (y := nI (0 + 0)) (nI_add _ _) ?_
      refine s_bipush (v := 10) dX4_multiply_71 (by decide) ?_
      refine s_icmp_ge 147 dX4_multiply_73 (by decide) (fun c73 => absurd c73 (nI_ge (b := 10) (by omega) (by omega))) (fun c73 => ?_)
      refine s_iconst (v := 0) dX4_multiply_76 (by decide) ?_
      refine s_istore dX4_multiply_77 rfl rfl ?_
      refine s_lv (lv' := [some (.ref (ad 12 0)), some (.int (nI t)), some (.int (nI tb)), some (.int (v9 + v10)), some (.int 0), some (.int 0), some (.int 0), none, none]) rfl ?_
      refine l_X4_multiply X G ad M c0 t0 hd on tw dp cl gr r0 kd fl co sm sp b0 mu t htt P hg hcr hpb tb htb P2 hg2 hcr2 hpb2 _ (hi_deg hiA hiB hdk) _ (fun M11 wk11  hm11 hs11 hv11 => ?_) 1400 0 0 0 M8 wk8  (by omega) (by omega) (by omega) ⟨hm8.1, hm8.2.1, hm8.2.2.1, hm8.2.2.2.1, hm8.2.2.2.2.1, hm8.2.2.2.2.2.1, hm8.2.2.2.2.2.2.1, hm8.2.2.2.2.2.2.2.1, hm8.2.2.2.2.2.2.2.2.1, hm8.2.2.2.2.2.2.2.2.2.1, hm8.2.2.2.2.2.2.2.2.2.2.1, hm8.2.2.2.2.2.2.2.2.2.2.2.1, hm8.2.2.2.2.2.2.2.2.2.2.2.2.1, hm8.2.2.2.2.2.2.2.2.2.2.2.2.2⟩ hs8 (hz9.wr.ext (fun _ => rfl))
      exact s_vret rfl dX4_multiply_153 (Nat.le_of_ble_eq_true rfl) (Nat.le_of_ble_eq_true rfl) (⟨rfl, rfl, _, b0, hm11, hs11, ⟨Or.inl, fun q => q.elim id (fun q => absurd ((hi_sum hi9 hi10).mpr q) (Int32.not_lt.mpr c37))⟩, Or.inr ⟨jB_0.mp c49, hv11.ext (fun u9 => by rw [Int.zero_add]; rfl), mul_gz hg hg2 (hi_deg hiA hiB hdk)⟩⟩)
    · exact s_vret rfl dX4_multiply_52 (Nat.le_of_ble_eq_true rfl) (Nat.le_of_ble_eq_true rfl) (⟨rfl, rfl, _, b0, ⟨hm8.1, hm8.2.1, hm8.2.2.1, hm8.2.2.2.1, hm8.2.2.2.2.1, hm8.2.2.2.2.2.1, hm8.2.2.2.2.2.2.1, hm8.2.2.2.2.2.2.2.1, hm8.2.2.2.2.2.2.2.2.1, hm8.2.2.2.2.2.2.2.2.2.1, hm8.2.2.2.2.2.2.2.2.2.2.1, hm8.2.2.2.2.2.2.2.2.2.2.2.1, hm8.2.2.2.2.2.2.2.2.2.2.2.2.1, hm8.2.2.2.2.2.2.2.2.2.2.2.2.2⟩, hs8, ⟨Or.inl, fun q => q.elim id (fun q => absurd ((hi_sum hi9 hi10).mpr q) (Int32.not_lt.mpr c37))⟩, Or.inl ⟨Bool.of_not_eq_false (fun q => c49 (jB_0.mpr q)), hz9.wr⟩⟩)
  · refine s_aload_n dX4_multiply_40 rfl ?_
    refine s_iconst (v := 1) dX4_multiply_41 (by decide) ?_
    refine s_eqi (y := jB true) rfl ?_
    refine s_put (kd := 12) (ix := 0) (ci := 5) (v := .int (jB true)) (ty := tyX4 15) (fs := [.int c0, .int (nI t0), .ref (ad 13 0), .ref (ad 14 0), .ref (ad 15 0), .ref (ad 16 0), .ref (ad 17 0), .ref (ad 18 0), .int (nI r0), .ref (ad 19 0), .ref (ad 20 0), .ref (ad 21 0), .ref (ad 22 0), .ref (ad 23 0), .ref (ad 24 0), .int (jB b0), .ref (ad 25 0)])  tyX4 tyX4_ok nmX4 hm8.1 rfl in_X4_multiply_X4 15 (by decide) (by decide +kernel) rfl rfl (tyX4_ok 15 (by decide)) (rfl) (rfl) (Nat.le_of_ble_eq_true rfl) dX4_multiply_42 ?_
    refine s_M (M' := (sset M8 12 0 (.inr (5, [.int c0, .int (nI t0), .ref (ad 13 0), .ref (ad 14 0), .ref (ad 15 0), .ref (ad 16 0), .ref (ad 17 0), .ref (ad 18 0), .int (nI r0), .ref (ad 19 0), .ref (ad 20 0), .ref (ad 21 0), .ref (ad 22 0), .ref (ad 23 0), .ref (ad 24 0), .int (jB true), .ref (ad 25 0)])))) rfl ?_
    refine s_aload_n dX4_multiply_45 rfl ?_
    refine s_get (kd := 12) (ix := 0) (ci := 5) (fs := [.int c0, .int (nI t0), .ref (ad 13 0), .ref (ad 14 0), .ref (ad 15 0), .ref (ad 16 0), .ref (ad 17 0), .ref (ad 18 0), .int (nI r0), .ref (ad 19 0), .ref (ad 20 0), .ref (ad 21 0), .ref (ad 22 0), .ref (ad 23 0), .ref (ad 24 0), .int (jB true), .ref (ad 25 0)])  (sset_self _ _ _ _) rfl in_X4_multiply_X4 15 (by decide) (by decide +kernel) rfl rfl dX4_multiply_46 ?_
    refine s_if_eq 53 dX4_multiply_49 (by decide) (fun c49 => absurd c49 (by decide)) (fun c49 => ?_)
    exact s_vret rfl dX4_multiply_52 (Nat.le_of_ble_eq_true rfl) (Nat.le_of_ble_eq_true rfl) (⟨rfl, rfl, _, true, ⟨(sset_self _ _ _ _), ((sset_k _ _ (by decide)).trans (hm8.2.1)), ((sset_k _ _ (by decide)).trans (hm8.2.2.1)), ((sset_k _ _ (by decide)).trans (hm8.2.2.2.1)), ((sset_k _ _ (by decide)).trans (hm8.2.2.2.2.1)), ((sset_k _ _ (by decide)).trans (hm8.2.2.2.2.2.1)), ((sset_k _ _ (by decide)).trans (hm8.2.2.2.2.2.2.1)), ((sset_k _ _ (by decide)).trans (hm8.2.2.2.2.2.2.2.1)), ((sset_k _ _ (by decide)).trans (hm8.2.2.2.2.2.2.2.2.1)), ((sset_k _ _ (by decide)).trans (hm8.2.2.2.2.2.2.2.2.2.1)), ((sset_k _ _ (by decide)).trans (hm8.2.2.2.2.2.2.2.2.2.2.1)), ((sset_k _ _ (by decide)).trans (hm8.2.2.2.2.2.2.2.2.2.2.2.1)), ((sset_k _ _ (by decide)).trans (hm8.2.2.2.2.2.2.2.2.2.2.2.2.1)), ((sset_k _ _ (by decide)).trans (hm8.2.2.2.2.2.2.2.2.2.2.2.2.2))⟩, (hs8 |>.set (P := pMd) (by simp [pMd]) _), ⟨fun _ => Or.inr ((hi_sum hi9 hi10).mp (Int32.not_le.mp c37)), fun _ => rfl⟩, Or.inl ⟨rfl, hz9.wr⟩⟩)
