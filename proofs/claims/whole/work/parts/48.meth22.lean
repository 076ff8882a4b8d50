abbrev mX4_many : sMeth := (cX4_many, 4, RX4, wsX4_many, { frames := 0, cells := 0, slots := 0, locals := 0 }, (some .int), "many", [])
theorem in_X4_many_X4 : ∀ w ∈ wsX40, w ∈ wsX4_many := by decide +kernel
set_option maxHeartbeats 4000000 in
set_option maxRecDepth 100000 in
theorem l_X4_many (X : sMach) (G : sG) (ad : sAd) (M0 : sM) (c0 : Int32) (t0 : Nat) (hd : Nat → Int32) (on : Nat → Int32) (tw : Nat → Int32) (dp : Nat → Int32) (cl : Nat → Int32) (gr : Nat → Int32) (r0 : Nat) (kd : Nat → Int32) (fl : Nat → Int32) (co : Nat → Int32) (sm : Nat → Int32) (wk : Nat → Int64) (sp : Nat → Int64) (b0 : Bool) (mu : Nat → Int32) (t : Nat) (htt : t < 120) (P : Nat → Int) (hg : gz P) (hcr : CRk cl t P) (Q : State → Prop) (kont : ∀ (M : sM)  (N : Nat), hMd G ad M (c0, t0, hd, on, tw, dp, cl, gr, r0, kd, fl, co, sm, wk, sp, b0, mu) → sSame pMd M0 M → (N : Int) = sN (fun k => if P (unp k) = 0 then 0 else 1) 220 → sW X G mX4_many Q ad M 0 0 [some (.ref (ad 12 0)), some (.int (nI t)), some (.int (nI N)), none] 40 []) : ∀ (k i : Nat) (M : sM)  (N : Nat), i + k = 220 → hMd G ad M (c0, t0, hd, on, tw, dp, cl, gr, r0, kd, fl, co, sm, wk, sp, b0, mu) → sSame pMd M0 M → (N : Int) = sN (fun k => if P (unp k) = 0 then 0 else 1) i → sW X G mX4_many Q ad M 0 0 [some (.ref (ad 12 0)), some (.int (nI t)), some (.int (nI N)), some (.int (nI i))] 4 [] := by
  intro k
  induction k with
  | zero =>
    intro i M  N hi hm hs hv
    refine s_iload_n dX4_many_4 rfl ?_
    refine s_sipush (v := 220) dX4_many_5 (by decide) ?_
    refine s_icmp_ge 40 dX4_many_8 (by decide) (fun c8 => ?_) (fun c8 => absurd (nI_le (a := 220) (by omega) (by omega)) c8)
    refine s_drop 3 ?_
    exact kont M  N hm hs (by rw [show i = 220 by omega] at hv; exact hv)
  | succ k ih =>
    intro i M  N hi hm hs hv
    refine s_iload_n dX4_many_4 rfl ?_
    refine s_sipush (v := 220) dX4_many_5 (by decide) ?_
    refine s_icmp_ge 40 dX4_many_8 (by decide) (fun c8 => absurd c8 (nI_ge (b := 220) (by omega) (by omega))) (fun c8 => ?_)
    refine s_iload_n dX4_many_11 rfl ?_
    refine s_aload_n dX4_many_12 rfl ?_
    refine s_get (kd := 12) (ix := 0) (ci := 5) (fs := [.int c0, .int (nI t0), .ref (ad 13 0), .ref (ad 14 0), .ref (ad 15 0), .ref (ad 16 0), .ref (ad 17 0), .ref (ad 18 0), .int (nI r0), .ref (ad 19 0), .ref (ad 20 0), .ref (ad 21 0), .ref (ad 22 0), .ref (ad 23 0), .ref (ad 24 0), .int (jB b0), .ref (ad 25 0)])  hm.1 rfl in_X4_many_X4 6 (by decide) (by decide +kernel) rfl rfl dX4_many_13 ?_
    refine s_sipush (v := 220) dX4_many_16 (by decide) ?_
    refine s_iload_n dX4_many_19 rfl ?_
    refine s_imul dX4_many_20 ?_
    refine s_eqi (y := nI (220 * t)) (nI_mul 220 t) ?_
    refine s_iload_n dX4_many_21 rfl ?_
    refine s_iadd dX4_many_22 ?_
    refine s_eqi (y := nI (220 * t + i)) (nI_add _ _) ?_
    refine s_iald (kd := 17) (ix := 0) (n := 26400) (f := cl) (j := 220 * t + i) hm.2.2.2.2.2.1 (rfl) (by omega) (by decide) dX4_many_23 ?_
    refine s_if_eq 31 dX4_many_24 (by decide) (fun c24 => ?_) (fun c24 => ?_)
    · refine s_iconst (v := 0) dX4_many_31 (by decide) ?_
      refine s_iadd dX4_many_32 ?_
      refine s_eqi (y := nI (N + 0)) (nI_add N 0) ?_
      refine s_istore_n dX4_many_33 rfl rfl ?_
      refine s_lv (lv' := [some (.ref (ad 12 0)), some (.int (nI t)), some (.int (nI (N + 0))), some (.int (nI i))]) rfl ?_
      refine s_iinc (v := nI (i + 1)) dX4_many_34 rfl (nI_1 i) rfl ?_
      refine s_lv (lv' := [some (.ref (ad 12 0)), some (.int (nI t)), some (.int (nI (N + 0))), some (.int (nI (i + 1)))]) rfl ?_
      refine s_goto 4 dX4_many_37 (by decide) ?_
      exact ih (i + 1) M  (N + 0) (by omega) hm hs (by
        show ((N + 0 : Nat) : Int) = sN _ i + (if P (unp i) = 0 then 0 else 1)
        rw [if_pos (by rw [← hcr i (by omega), c24]; rfl), ← hv]
        omega)
    · refine s_iconst (v := 1) dX4_many_27 (by decide) ?_
      refine s_goto 32 dX4_many_28 (by decide) ?_
      refine s_iadd dX4_many_32 ?_
      refine s_eqi (y := nI (N + 1)) (nI_add N 1) ?_
      refine s_istore_n dX4_many_33 rfl rfl ?_
      refine s_lv (lv' := [some (.ref (ad 12 0)), some (.int (nI t)), some (.int (nI (N + 1))), some (.int (nI i))]) rfl ?_
      refine s_iinc (v := nI (i + 1)) dX4_many_34 rfl (nI_1 i) rfl ?_
      refine s_lv (lv' := [some (.ref (ad 12 0)), some (.int (nI t)), some (.int (nI (N + 1))), some (.int (nI (i + 1)))]) rfl ?_
      refine s_goto 4 dX4_many_37 (by decide) ?_
      exact ih (i + 1) M  (N + 1) (by omega) hm hs (by
        show ((N + 1 : Nat) : Int) = sN _ i + (if P (unp i) = 0 then 0 else 1)
        rw [if_neg (fun q => c24 (Int32.toInt_inj.mp (by rw [hcr i (by omega), q]; rfl))), ← hv]
        omega)
set_option maxHeartbeats 4000000 in
set_option maxRecDepth 100000 in
theorem c_X4_many (G : sG) (l : Launch) (hl : l.stackTraces = false) (ad : sAd) (M : sM) (c0 : Int32) (t0 : Nat) (hd : Nat → Int32) (on : Nat → Int32) (tw : Nat → Int32) (dp : Nat → Int32) (cl : Nat → Int32) (gr : Nat → Int32) (r0 : Nat) (kd : Nat → Int32) (fl : Nat → Int32) (co : Nat → Int32) (sm : Nat → Int32) (wk : Nat → Int64) (sp : Nat → Int64) (b0 : Bool) (mu : Nat → Int32) (hm : hMd G ad M (c0, t0, hd, on, tw, dp, cl, gr, r0, kd, fl, co, sm, wk, sp, b0, mu)) (t : Nat) (htt : t < 120) (P : Nat → Int) (hg : gz P) (hcr : CRk cl t P) : sMet G l yX4_many mX4_many [.ref (ad 12 0), .int (nI t)] ad M (fun r ad' M' => ad = ad' ∧ hMd G ad M' (c0, t0, hd, on, tw, dp, cl, gr, r0, kd, fl, co, sm, wk, sp, b0, mu) ∧ sSame pMd M M' ∧ ∃ N : Nat, r = some (.int (nI N)) ∧ (N : Int) = cnt P) (fun _ _ _ => False) := by
  refine sMet.of hl (by decide +kernel) rfl rfl rfl rfl (Nat.le_of_ble_eq_true rfl) (fun X => ?_)
  refine s_lv (lv' := [some (.ref (ad 12 0)), some (.int (nI t)), none, none]) rfl ?_
  refine s_iconst (v := 0) dX4_many_0 (by decide) ?_
  refine s_istore_n dX4_many_1 rfl rfl ?_
  refine s_lv (lv' := [some (.ref (ad 12 0)), some (.int (nI t)), some (.int 0), none]) rfl ?_
  refine s_iconst (v := 0) dX4_many_2 (by decide) ?_
  refine s_istore_n dX4_many_3 rfl rfl ?_
  refine s_lv (lv' := [some (.ref (ad 12 0)), some (.int (nI t)), some (.int 0), some (.int 0)]) rfl ?_
  refine l_X4_many X G ad M c0 t0 hd on tw dp cl gr r0 kd fl co sm wk sp b0 mu t htt P hg hcr _ (fun M1  N1 hm1 hs1 hv1 => ?_) (220) 0 M  0 (by omega) ⟨hm.1, hm.2.1, hm.2.2.1, hm.2.2.2.1, hm.2.2.2.2.1, hm.2.2.2.2.2.1, hm.2.2.2.2.2.2.1, hm.2.2.2.2.2.2.2.1, hm.2.2.2.2.2.2.2.2.1, hm.2.2.2.2.2.2.2.2.2.1, hm.2.2.2.2.2.2.2.2.2.2.1, hm.2.2.2.2.2.2.2.2.2.2.2.1, hm.2.2.2.2.2.2.2.2.2.2.2.2.1, hm.2.2.2.2.2.2.2.2.2.2.2.2.2⟩ sSame.rfl (rfl)
  refine s_iload_n dX4_many_40 rfl ?_
  exact s_iret rfl (rfl) dX4_many_41 (Nat.le_of_ble_eq_true rfl) (Nat.le_of_ble_eq_true rfl) (⟨rfl, hm1, hs1, N1, rfl, hv1.trans (cnt220 hg)⟩)
abbrev mX4_isWork : sMeth := (cX4_isWork, 4, RX4, wsX4_isWork, { frames := 0, cells := 0, slots := 0, locals := 0 }, (some .boolean), "isWork", [])
theorem in_X4_isWork_X4 : ∀ w ∈ wsX40, w ∈ wsX4_isWork := by decide +kernel
set_option maxHeartbeats 4000000 in
set_option maxRecDepth 100000 in
theorem l_X4_isWork (X : sMach) (G : sG) (ad : sAd) (M0 : sM) (c0 : Int32) (t0 : Nat) (hd : Nat → Int32) (on : Nat → Int32) (tw : Nat → Int32) (dp : Nat → Int32) (cl : Nat → Int32) (gr : Nat → Int32) (r0 : Nat) (kd : Nat → Int32) (fl : Nat → Int32) (co : Nat → Int32) (sm : Nat → Int32) (wk : Nat → Int64) (sp : Nat → Int64) (b0 : Bool) (mu : Nat → Int32) (t : Nat) (htt : t < 120) (P : Nat → Int) (hg : gz P) (hcr : CRk cl t P) (f : Nat → Int) (hgf : gz f) (hwr : WRk wk f) (Q : State → Prop) (kont : ∀ (M : sM)  (z : Bool), hMd G ad M (c0, t0, hd, on, tw, dp, cl, gr, r0, kd, fl, co, sm, wk, sp, b0, mu) → sSame pMd M0 M → (z = true ↔ ∀ k, k < 220 → f (unp k) = P (unp k)) → sW X G mX4_isWork Q ad M 0 0 [some (.ref (ad 12 0)), some (.int (nI t)), some (.int (jB z)), none] 50 []) : ∀ (k i : Nat) (M : sM)  (z : Bool), i + k = 220 → hMd G ad M (c0, t0, hd, on, tw, dp, cl, gr, r0, kd, fl, co, sm, wk, sp, b0, mu) → sSame pMd M0 M → (z = true ↔ ∀ k, k < i → f (unp k) = P (unp k)) → sW X G mX4_isWork Q ad M 0 0 [some (.ref (ad 12 0)), some (.int (nI t)), some (.int (jB z)), some (.int (nI i))] 4 [] := by
  intro k
  induction k with
  | zero =>
    intro i M  z hi hm hs hv
    refine s_iload_n dX4_isWork_4 rfl ?_
    refine s_sipush (v := 220) dX4_isWork_5 (by decide) ?_
    refine s_icmp_ge 50 dX4_isWork_8 (by decide) (fun c8 => ?_) (fun c8 => absurd (nI_le (a := 220) (by omega) (by omega)) c8)
    refine s_drop 3 ?_
    exact kont M  z hm hs (by rw [show i = 220 by omega] at hv; exact hv)
  | succ k ih =>
    intro i M  z hi hm hs hv
    refine s_iload_n dX4_isWork_4 rfl ?_
    refine s_sipush (v := 220) dX4_isWork_5 (by decide) ?_
    refine s_icmp_ge 50 dX4_isWork_8 (by decide) (fun c8 => absurd c8 (nI_ge (b := 220) (by omega) (by omega))) (fun c8 => ?_)
    refine s_iload_n dX4_isWork_11 rfl ?_
    refine s_if_eq 42 dX4_isWork_12 (by decide) (fun c12 => ?_) (fun c12 => ?_)
    · refine s_iconst (v := 0) dX4_isWork_42 (by decide) ?_
      refine s_istore_n dX4_isWork_43 rfl rfl ?_
      refine s_lv (lv' := [some (.ref (ad 12 0)), some (.int (nI t)), some (.int 0), some (.int (nI i))]) rfl ?_
      refine s_iinc (v := nI (i + 1)) dX4_isWork_44 rfl (nI_1 i) rfl ?_
      refine s_lv (lv' := [some (.ref (ad 12 0)), some (.int (nI t)), some (.int 0), some (.int (nI (i + 1)))]) rfl ?_
      refine s_goto 4 dX4_isWork_47 (by decide) ?_
      exact ih (i + 1) M  false (by omega) hm hs (⟨(fun q => nomatch q), fun q => absurd (hv.mpr (fun k hk => q k (by omega))) (by rw [jB_0.mp c12]; decide)⟩)
    · refine s_aload_n dX4_isWork_15 rfl ?_
      refine s_get (kd := 12) (ix := 0) (ci := 5) (fs := [.int c0, .int (nI t0), .ref (ad 13 0), .ref (ad 14 0), .ref (ad 15 0), .ref (ad 16 0), .ref (ad 17 0), .ref (ad 18 0), .int (nI r0), .ref (ad 19 0), .ref (ad 20 0), .ref (ad 21 0), .ref (ad 22 0), .ref (ad 23 0), .ref (ad 24 0), .int (jB b0), .ref (ad 25 0)])  hm.1 rfl in_X4_isWork_X4 13 (by decide) (by decide +kernel) rfl rfl dX4_isWork_16 ?_
      refine s_iload_n dX4_isWork_19 rfl ?_
      refine s_lald (kd := 23) (ix := 0) (n := 220) (f := wk) (j := i) hm.2.2.2.2.2.2.2.2.2.2.2.1 (rfl) (by omega) (by decide) dX4_isWork_20 ?_
      refine s_aload_n dX4_isWork_21 rfl ?_
      refine s_get (kd := 12) (ix := 0) (ci := 5) (fs := [.int c0, .int (nI t0), .ref (ad 13 0), .ref (ad 14 0), .ref (ad 15 0), .ref (ad 16 0), .ref (ad 17 0), .ref (ad 18 0), .int (nI r0), .ref (ad 19 0), .ref (ad 20 0), .ref (ad 21 0), .ref (ad 22 0), .ref (ad 23 0), .ref (ad 24 0), .int (jB b0), .ref (ad 25 0)])  hm.1 rfl in_X4_isWork_X4 6 (by decide) (by decide +kernel) rfl rfl dX4_isWork_22 ?_
      refine s_sipush (v := 220) dX4_isWork_25 (by decide) ?_
      refine s_iload_n dX4_isWork_28 rfl ?_
      refine s_imul dX4_isWork_29 ?_
      refine s_eqi (y := nI (220 * t)) (nI_mul 220 t) ?_
      refine s_iload_n dX4_isWork_30 rfl ?_
      refine s_iadd dX4_isWork_31 ?_
      refine s_eqi (y := nI (220 * t + i)) (nI_add _ _) ?_
      refine s_iald (kd := 17) (ix := 0) (n := 26400) (f := cl) (j := 220 * t + i) hm.2.2.2.2.2.1 (rfl) (by omega) (by decide) dX4_isWork_32 ?_
      refine s_i2l dX4_isWork_33 ?_
      refine s_lcmp dX4_isWork_34 ?_
      refine s_if_ne 42 dX4_isWork_35 (by decide) (fun c35 => ?_) (fun c35 => ?_)
      · refine s_iconst (v := 0) dX4_isWork_42 (by decide) ?_
        refine s_istore_n dX4_isWork_43 rfl rfl ?_
        refine s_lv (lv' := [some (.ref (ad 12 0)), some (.int (nI t)), some (.int 0), some (.int (nI i))]) rfl ?_
        refine s_iinc (v := nI (i + 1)) dX4_isWork_44 rfl (nI_1 i) rfl ?_
        refine s_lv (lv' := [some (.ref (ad 12 0)), some (.int (nI t)), some (.int 0), some (.int (nI (i + 1)))]) rfl ?_
        refine s_goto 4 dX4_isWork_47 (by decide) ?_
        exact ih (i + 1) M  false (by omega) hm hs (⟨(fun q => nomatch q), fun q => absurd ((lg_cmp_eq _ _).mpr (Int64.toInt_inj.mp (by rw [i32_64, hwr i (by omega), hcr i (by omega)]; exact q i (by omega)))) c35⟩)
      · refine s_iconst (v := 1) dX4_isWork_38 (by decide) ?_
        refine s_goto 43 dX4_isWork_39 (by decide) ?_
        refine s_istore_n dX4_isWork_43 rfl rfl ?_
        refine s_lv (lv' := [some (.ref (ad 12 0)), some (.int (nI t)), some (.int 1), some (.int (nI i))]) rfl ?_
        refine s_iinc (v := nI (i + 1)) dX4_isWork_44 rfl (nI_1 i) rfl ?_
        refine s_lv (lv' := [some (.ref (ad 12 0)), some (.int (nI t)), some (.int 1), some (.int (nI (i + 1)))]) rfl ?_
        refine s_goto 4 dX4_isWork_47 (by decide) ?_
        exact ih (i + 1) M  true (by omega) hm hs (⟨fun _ k hk => by
          by_cases q : k = i
          · rw [q]; exact (by rw [← hwr i (by omega), ← hcr i (by omega), (lg_cmp_eq _ _).mp c35, i32_64])
          · exact hv.mp (Bool.of_not_eq_false (fun w => c12 (jB_0.mpr w))) k (by omega), fun _ => rfl⟩)
set_option maxHeartbeats 4000000 in
set_option maxRecDepth 100000 in
theorem c_X4_isWork (G : sG) (l : Launch) (hl : l.stackTraces = false) (ad : sAd) (M : sM) (c0 : Int32) (t0 : Nat) (hd : Nat → Int32) (on : Nat → Int32) (tw : Nat → Int32) (dp : Nat → Int32) (cl : Nat → Int32) (gr : Nat → Int32) (r0 : Nat) (kd : Nat → Int32) (fl : Nat → Int32) (co : Nat → Int32) (sm : Nat → Int32) (wk : Nat → Int64) (sp : Nat → Int64) (b0 : Bool) (mu : Nat → Int32) (hm : hMd G ad M (c0, t0, hd, on, tw, dp, cl, gr, r0, kd, fl, co, sm, wk, sp, b0, mu)) (t : Nat) (htt : t < 120) (P : Nat → Int) (hg : gz P) (hcr : CRk cl t P) (f : Nat → Int) (hgf : gz f) (hwr : WRk wk f) : sMet G l yX4_isWork mX4_isWork [.ref (ad 12 0), .int (nI t)] ad M (fun r ad' M' => ad = ad' ∧ hMd G ad M' (c0, t0, hd, on, tw, dp, cl, gr, r0, kd, fl, co, sm, wk, sp, b0, mu) ∧ sSame pMd M M' ∧ ∃ z : Bool, r = some (.int (jB z)) ∧ (z = true ↔ ∀ y, f y = P y)) (fun _ _ _ => False) := by
  refine sMet.of hl (by decide +kernel) rfl rfl rfl rfl (Nat.le_of_ble_eq_true rfl) (fun X => ?_)
  refine s_lv (lv' := [some (.ref (ad 12 0)), some (.int (nI t)), none, none]) rfl ?_
  refine s_iconst (v := 1) dX4_isWork_0 (by decide) ?_
  refine s_istore_n dX4_isWork_1 rfl rfl ?_
  refine s_lv (lv' := [some (.ref (ad 12 0)), some (.int (nI t)), some (.int 1), none]) rfl ?_
  refine s_iconst (v := 0) dX4_isWork_2 (by decide) ?_
  refine s_istore_n dX4_isWork_3 rfl rfl ?_
  refine s_lv (lv' := [some (.ref (ad 12 0)), some (.int (nI t)), some (.int 1), some (.int 0)]) rfl ?_
  refine l_X4_isWork X G ad M c0 t0 hd on tw dp cl gr r0 kd fl co sm wk sp b0 mu t htt P hg hcr f hgf hwr _ (fun M2  z2 hm2 hs2 hv2 => ?_) (220) 0 M  true (by omega) ⟨hm.1, hm.2.1, hm.2.2.1, hm.2.2.2.1, hm.2.2.2.2.1, hm.2.2.2.2.2.1, hm.2.2.2.2.2.2.1, hm.2.2.2.2.2.2.2.1, hm.2.2.2.2.2.2.2.2.1, hm.2.2.2.2.2.2.2.2.2.1, hm.2.2.2.2.2.2.2.2.2.2.1, hm.2.2.2.2.2.2.2.2.2.2.2.1, hm.2.2.2.2.2.2.2.2.2.2.2.2.1, hm.2.2.2.2.2.2.2.2.2.2.2.2.2⟩ sSame.rfl (⟨fun _ k hk => absurd hk (Nat.not_lt_zero k), fun _ => rfl⟩)
  refine s_iload_n dX4_isWork_50 rfl ?_
  exact s_iret rfl (jB_nar _) dX4_isWork_51 (Nat.le_of_ble_eq_true rfl) (Nat.le_of_ble_eq_true rfl) (⟨rfl, hm2, hs2, z2, rfl, hv2.trans (eq220 hgf hg).symm⟩)
def out6 (x : Int) : Prop := ¬ (-1000000 ≤ x ∧ x ≤ 1000000)
theorem in6 {x : Int64} : (-1000000 ≤ x ∧ x ≤ 1000000) ↔ ¬ out6 x.toInt := by
  unfold out6
  rw [Int64.le_iff_toInt_le, Int64.le_iff_toInt_le, show (-1000000 : Int64).toInt = -1000000 from rfl, show (1000000 : Int64).toInt = 1000000 from rfl]
  exact Classical.not_not.symm
theorem fits220 {f : Nat → Int} (hg : gz f) : fitsP f ↔ (∀ k, k < 220 → ¬ out6 (f (unp k))) ∧ sN (fun k => if f (unp k) = 0 then 0 else 1) 220 ≤ 40 := by
  unfold fitsP
  rw [cnt220 hg, all220 hg (C := fun x => -1000000 ≤ x ∧ x ≤ 1000000) (by omega)]
  exact and_congr ⟨fun h k hk => by have := h k hk; unfold out6; omega, fun h k hk => by have := h k hk; unfold out6 at this; omega⟩ Iff.rfl
abbrev mX4_bound : sMeth := (cX4_bound, 3, RX4, wsX4_bound, { frames := 1, cells := 0, slots := 0, locals := 25 }, none, "bound", [])
theorem in_X4_bound_X4 : ∀ w ∈ wsX40, w ∈ wsX4_bound := by decide +kernel
set_option maxHeartbeats 4000000 in
set_option maxRecDepth 100000 in
theorem l_X4_bound (X : sMach) (G : sG) (ad : sAd) (M0 : sM) (c0 : Int32) (t0 : Nat) (hd : Nat → Int32) (on : Nat → Int32) (tw : Nat → Int32) (dp : Nat → Int32) (cl : Nat → Int32) (gr : Nat → Int32) (r0 : Nat) (kd : Nat → Int32) (fl : Nat → Int32) (co : Nat → Int32) (sm : Nat → Int32) (wk : Nat → Int64) (sp : Nat → Int64) (mu : Nat → Int32) (b9 : Bool) (f : Nat → Int) (hgf : gz f) (hwr : WRk wk f) (Q : State → Prop) (kont : ∀ (M : sM) (b0 : Bool) (N : Nat), hMd G ad M (c0, t0, hd, on, tw, dp, cl, gr, r0, kd, fl, co, sm, wk, sp, b0, mu) → sSame pMd M0 M → ((b0 = true ↔ b9 = true ∨ ∃ k, k < 220 ∧ out6 (f (unp k))) ∧ (N : Int) = sN (fun k => if f (unp k) = 0 then 0 else 1) 220) → sW X G mX4_bound Q ad M 0 0 [some (.ref (ad 12 0)), some (.int (nI N)), none] 59 []) : ∀ (k i : Nat) (M : sM) (b0 : Bool) (N : Nat), i + k = 220 → hMd G ad M (c0, t0, hd, on, tw, dp, cl, gr, r0, kd, fl, co, sm, wk, sp, b0, mu) → sSame pMd M0 M → ((b0 = true ↔ b9 = true ∨ ∃ k, k < i ∧ out6 (f (unp k))) ∧ (N : Int) = sN (fun k => if f (unp k) = 0 then 0 else 1) i) → sW X G mX4_bound Q ad M 0 0 [some (.ref (ad 12 0)), some (.int (nI N)), some (.int (nI i))] 4 [] := by
  intro k
  induction k with
  | zero =>
    intro i M b0 N hi hm hs hv
    refine s_iload_n dX4_bound_4 rfl ?_
    refine s_sipush (v := 220) dX4_bound_5 (by decide) ?_
    refine s_icmp_ge 59 dX4_bound_8 (by decide) (fun c8 => ?_) (fun c8 => absurd (nI_le (a := 220) (by omega) (by omega)) c8)
    refine s_drop 2 ?_
    exact kont M b0 N hm hs (by rw [show i = 220 by omega] at hv; exact hv)
  | succ k ih =>
    intro i M b0 N hi hm hs hv
    refine s_iload_n dX4_bound_4 rfl ?_
    refine s_sipush (v := 220) dX4_bound_5 (by decide) ?_
    refine s_icmp_ge 59 dX4_bound_8 (by decide) (fun c8 => absurd c8 (nI_ge (b := 220) (by omega) (by omega))) (fun c8 => ?_)
    refine s_aload_n dX4_bound_11 rfl ?_
    refine s_get (kd := 12) (ix := 0) (ci := 5) (fs := [.int c0, .int (nI t0), .ref (ad 13 0), .ref (ad 14 0), .ref (ad 15 0), .ref (ad 16 0), .ref (ad 17 0), .ref (ad 18 0), .int (nI r0), .ref (ad 19 0), .ref (ad 20 0), .ref (ad 21 0), .ref (ad 22 0), .ref (ad 23 0), .ref (ad 24 0), .int (jB b0), .ref (ad 25 0)])  hm.1 rfl in_X4_bound_X4 13 (by decide) (by decide +kernel) rfl rfl dX4_bound_12 ?_
    refine s_iload_n dX4_bound_15 rfl ?_
    refine s_lald (kd := 23) (ix := 0) (n := 220) (f := wk) (j := i) hm.2.2.2.2.2.2.2.2.2.2.2.1 (rfl) (by omega) (by decide) dX4_bound_16 ?_
    refine s_ldc2 (v := -1000000) dX4_bound_17 (by decide +kernel) ?_
    refine s_ldc2 (v := 1000000) dX4_bound_20 (by decide +kernel) ?_
    refine s_callS (As := [.long (wk i), .long (-1000000), .long 1000000]) (rest := []) (n := 3) (fun l hl => c_X4_in G l hl ad M (wk i) (-1000000) 1000000) gX4_bound_X4_in rfl (by decide +kernel) rfl ⟨(Nat.le_of_ble_eq_true rfl), (Nat.le_of_ble_eq_true rfl)⟩ ⟨(Nat.le_of_ble_eq_true rfl), (Nat.le_of_ble_eq_true rfl)⟩ (Nat.le_of_ble_eq_true rfl) dX4_bound_23 rfl (fun r9 ad9 M9 h9 => ?_)
    obtain ⟨rfl, rfl, rfl⟩ := h9
    refine s_if_ne 34 dX4_bound_26 (by decide) (fun c26 => ?_) (fun c26 => ?_)
    · refine s_iload_n dX4_bound_34 rfl ?_
      refine s_aload_n dX4_bound_35 rfl ?_
      refine s_get (kd := 12) (ix := 0) (ci := 5) (fs := [.int c0, .int (nI t0), .ref (ad 13 0), .ref (ad 14 0), .ref (ad 15 0), .ref (ad 16 0), .ref (ad 17 0), .ref (ad 18 0), .int (nI r0), .ref (ad 19 0), .ref (ad 20 0), .ref (ad 21 0), .ref (ad 22 0), .ref (ad 23 0), .ref (ad 24 0), .int (jB b0), .ref (ad 25 0)])  hm.1 rfl in_X4_bound_X4 13 (by decide) (by decide +kernel) rfl rfl dX4_bound_36 ?_
      refine s_iload_n dX4_bound_39 rfl ?_
      refine s_lald (kd := 23) (ix := 0) (n := 220) (f := wk) (j := i) hm.2.2.2.2.2.2.2.2.2.2.2.1 (rfl) (by omega) (by decide) dX4_bound_40 ?_
      refine s_lconst (v := 0) dX4_bound_41 (by decide) ?_
      refine s_lcmp dX4_bound_42 ?_
      refine s_if_eq 50 dX4_bound_43 (by decide) (fun c43 => ?_) (fun c43 => ?_)
      · refine s_iconst (v := 0) dX4_bound_50 (by decide) ?_
        refine s_iadd dX4_bound_51 ?_
        refine s_eqi (y := nI (N + 0)) (nI_add N 0) ?_
        refine s_istore_n dX4_bound_52 rfl rfl ?_
        refine s_lv (lv' := [some (.ref (ad 12 0)), some (.int (nI (N + 0))), some (.int (nI i))]) rfl ?_
        refine s_iinc (v := nI (i + 1)) dX4_bound_53 rfl (nI_1 i) rfl ?_
        refine s_lv (lv' := [some (.ref (ad 12 0)), some (.int (nI (N + 0))), some (.int (nI (i + 1)))]) rfl ?_
        refine s_goto 4 dX4_bound_56 (by decide) ?_
        exact ih (i + 1) M b0 (N + 0) (by omega) hm hs (⟨hv.1.trans (or_congr Iff.rfl ⟨fun ⟨k, hk, q⟩ => ⟨k, by omega, q⟩, fun ⟨k, hk, q⟩ => ⟨k, by
            rcases Nat.lt_or_ge k i with w | w
            · exact w
            · rw [show k = i by omega, ← hwr i (by omega)] at q; exact absurd q (in6.mp (of_decide_eq_true (Bool.of_not_eq_false (fun z => c26 (jB_0.mpr z))))), q⟩⟩), by
            show ((N + 0 : Nat) : Int) = sN _ i + (if f (unp i) = 0 then 0 else 1)
            rw [if_pos (by rw [← hwr i (by omega), (lg_cmp_eq _ _).mp c43]; rfl), ← hv.2]
            omega⟩)
      · refine s_iconst (v := 1) dX4_bound_46 (by decide) ?_
        refine s_goto 51 dX4_bound_47 (by decide) ?_
        refine s_iadd dX4_bound_51 ?_
        refine s_eqi (y := nI (N + 1)) (nI_add N 1) ?_
        refine s_istore_n dX4_bound_52 rfl rfl ?_
        refine s_lv (lv' := [some (.ref (ad 12 0)), some (.int (nI (N + 1))), some (.int (nI i))]) rfl ?_
        refine s_iinc (v := nI (i + 1)) dX4_bound_53 rfl (nI_1 i) rfl ?_
        refine s_lv (lv' := [some (.ref (ad 12 0)), some (.int (nI (N + 1))), some (.int (nI (i + 1)))]) rfl ?_
        refine s_goto 4 dX4_bound_56 (by decide) ?_
        exact ih (i + 1) M b0 (N + 1) (by omega) hm hs (⟨hv.1.trans (or_congr Iff.rfl ⟨fun ⟨k, hk, q⟩ => ⟨k, by omega, q⟩, fun ⟨k, hk, q⟩ => ⟨k, by
            rcases Nat.lt_or_ge k i with w | w
            · exact w
            · rw [show k = i by omega, ← hwr i (by omega)] at q; exact absurd q (in6.mp (of_decide_eq_true (Bool.of_not_eq_false (fun z => c26 (jB_0.mpr z))))), q⟩⟩), by
            show ((N + 1 : Nat) : Int) = sN _ i + (if f (unp i) = 0 then 0 else 1)
            rw [if_neg (fun q => c43 ((lg_cmp_eq _ _).mpr (Int64.toInt_inj.mp (by rw [hwr i (by omega), q]; rfl)))), ← hv.2]
            omega⟩)
    · refine s_aload_n dX4_bound_29 rfl ?_
      refine s_iconst (v := 1) dX4_bound_30 (by decide) ?_
      refine s_eqi (y := jB true) rfl ?_
      refine s_put (kd := 12) (ix := 0) (ci := 5) (v := .int (jB true)) (ty := tyX4 15) (fs := [.int c0, .int (nI t0), .ref (ad 13 0), .ref (ad 14 0), .ref (ad 15 0), .ref (ad 16 0), .ref (ad 17 0), .ref (ad 18 0), .int (nI r0), .ref (ad 19 0), .ref (ad 20 0), .ref (ad 21 0), .ref (ad 22 0), .ref (ad 23 0), .ref (ad 24 0), .int (jB b0), .ref (ad 25 0)])  tyX4 tyX4_ok nmX4 hm.1 rfl in_X4_bound_X4 15 (by decide) (by decide +kernel) rfl rfl (tyX4_ok 15 (by decide)) (rfl) (rfl) (Nat.le_of_ble_eq_true rfl) dX4_bound_31 ?_
      refine s_M (M' := (sset M 12 0 (.inr (5, [.int c0, .int (nI t0), .ref (ad 13 0), .ref (ad 14 0), .ref (ad 15 0), .ref (ad 16 0), .ref (ad 17 0), .ref (ad 18 0), .int (nI r0), .ref (ad 19 0), .ref (ad 20 0), .ref (ad 21 0), .ref (ad 22 0), .ref (ad 23 0), .ref (ad 24 0), .int (jB true), .ref (ad 25 0)])))) rfl ?_
      refine s_iload_n dX4_bound_34 rfl ?_
      refine s_aload_n dX4_bound_35 rfl ?_
      refine s_get (kd := 12) (ix := 0) (ci := 5) (fs := [.int c0, .int (nI t0), .ref (ad 13 0), .ref (ad 14 0), .ref (ad 15 0), .ref (ad 16 0), .ref (ad 17 0), .ref (ad 18 0), .int (nI r0), .ref (ad 19 0), .ref (ad 20 0), .ref (ad 21 0), .ref (ad 22 0), .ref (ad 23 0), .ref (ad 24 0), .int (jB true), .ref (ad 25 0)])  (sset_self _ _ _ _) rfl in_X4_bound_X4 13 (by decide) (by decide +kernel) rfl rfl dX4_bound_36 ?_
      refine s_iload_n dX4_bound_39 rfl ?_
      refine s_lald (kd := 23) (ix := 0) (n := 220) (f := wk) (j := i) ((sset_k _ _ (by decide)).trans (hm.2.2.2.2.2.2.2.2.2.2.2.1)) (rfl) (by omega) (by decide) dX4_bound_40 ?_
      refine s_lconst (v := 0) dX4_bound_41 (by decide) ?_
      refine s_lcmp dX4_bound_42 ?_
      refine s_if_eq 50 dX4_bound_43 (by decide) (fun c43 => ?_) (fun c43 => ?_)
      · refine s_iconst (v := 0) dX4_bound_50 (by decide) ?_
        refine s_iadd dX4_bound_51 ?_
        refine s_eqi (y := nI (N + 0)) (nI_add N 0) ?_
        refine s_istore_n dX4_bound_52 rfl rfl ?_
        refine s_lv (lv' := [some (.ref (ad 12 0)), some (.int (nI (N + 0))), some (.int (nI i))]) rfl ?_
        refine s_iinc (v := nI (i + 1)) dX4_bound_53 rfl (nI_1 i) rfl ?_
        refine s_lv (lv' := [some (.ref (ad 12 0)), some (.int (nI (N + 0))), some (.int (nI (i + 1)))]) rfl ?_
        refine s_goto 4 dX4_bound_56 (by decide) ?_
        exact ih (i + 1) (sset M 12 0 (.inr (5, [.int c0, .int (nI t0), .ref (ad 13 0), .ref (ad 14 0), .ref (ad 15 0), .ref (ad 16 0), .ref (ad 17 0), .ref (ad 18 0), .int (nI r0), .ref (ad 19 0), .ref (ad 20 0), .ref (ad 21 0), .ref (ad 22 0), .ref (ad 23 0), .ref (ad 24 0), .int (jB true), .ref (ad 25 0)]))) true (N + 0) (by omega) ⟨(sset_self _ _ _ _), ((sset_k _ _ (by decide)).trans (hm.2.1)), ((sset_k _ _ (by decide)).trans (hm.2.2.1)), ((sset_k _ _ (by decide)).trans (hm.2.2.2.1)), ((sset_k _ _ (by decide)).trans (hm.2.2.2.2.1)), ((sset_k _ _ (by decide)).trans (hm.2.2.2.2.2.1)), ((sset_k _ _ (by decide)).trans (hm.2.2.2.2.2.2.1)), ((sset_k _ _ (by decide)).trans (hm.2.2.2.2.2.2.2.1)), ((sset_k _ _ (by decide)).trans (hm.2.2.2.2.2.2.2.2.1)), ((sset_k _ _ (by decide)).trans (hm.2.2.2.2.2.2.2.2.2.1)), ((sset_k _ _ (by decide)).trans (hm.2.2.2.2.2.2.2.2.2.2.1)), ((sset_k _ _ (by decide)).trans (hm.2.2.2.2.2.2.2.2.2.2.2.1)), ((sset_k _ _ (by decide)).trans (hm.2.2.2.2.2.2.2.2.2.2.2.2.1)), ((sset_k _ _ (by decide)).trans (hm.2.2.2.2.2.2.2.2.2.2.2.2.2))⟩ (hs |>.set (P := pMd) (by simp [pMd]) _) (⟨⟨fun _ => Or.inr ⟨i, by omega, by rw [← hwr i (by omega)]; exact Classical.byContradiction (fun w => of_decide_eq_false (jB_0.mp c26) (in6.mpr w))⟩, fun _ => rfl⟩, by
            show ((N + 0 : Nat) : Int) = sN _ i + (if f (unp i) = 0 then 0 else 1)
            rw [if_pos (by rw [← hwr i (by omega), (lg_cmp_eq _ _).mp c43]; rfl), ← hv.2]
            omega⟩)
      · refine s_iconst (v := 1) dX4_bound_46 (by decide) ?_
        refine s_goto 51 dX4_bound_47 (by decide) ?_
        refine s_iadd dX4_bound_51 ?_
        refine s_eqi (y := nI (N + 1)) (nI_add N 1) ?_
        refine s_istore_n dX4_bound_52 rfl rfl ?_
        refine s_lv (lv' := [some (.ref (ad 12 0)), some (.int (nI (N + 1))), some (.int (nI i))]) rfl ?_
        refine s_iinc (v := nI (i + 1)) dX4_bound_53 rfl (nI_1 i) rfl ?_
        refine s_lv (lv' := [some (.ref (ad 12 0)), some (.int (nI (N + 1))), some (.int (nI (i + 1)))]) rfl ?_
        refine s_goto 4 dX4_bound_56 (by decide) ?_
        exact ih (i + 1) (sset M 12 0 (.inr (5, [.int c0, .int (nI t0), .ref (ad 13 0), .ref (ad 14 0), .ref (ad 15 0), .ref (ad 16 0), .ref (ad 17 0), .ref (ad 18 0), .int (nI r0), .ref (ad 19 0), .ref (ad 20 0), .ref (ad 21 0), .ref (ad 22 0), .ref (ad 23 0), .ref (ad 24 0), .int (jB true), .ref (ad 25 0)]))) true (N + 1) (by omega) ⟨(sset_self _ _ _ _), ((sset_k _ _ (by decide)).trans (hm.2.1)), ((sset_k _ _ (by decide)).trans (hm.2.2.1)), ((sset_k _ _ (by decide)).trans (hm.2.2.2.1)), ((sset_k _ _ (by decide)).trans (hm.2.2.2.2.1)), ((sset_k _ _ (by decide)).trans (hm.2.2.2.2.2.1)), ((sset_k _ _ (by decide)).trans (hm.2.2.2.2.2.2.1)), ((sset_k _ _ (by decide)).trans (hm.2.2.2.2.2.2.2.1)), ((sset_k _ _ (by decide)).trans (hm.2.2.2.2.2.2.2.2.1)), ((sset_k _ _ (by decide)).trans (hm.2.2.2.2.2.2.2.2.2.1)), ((sset_k _ _ (by decide)).trans (hm.2.2.2.2.2.2.2.2.2.2.1)), ((sset_k _ _ (by decide)).trans (hm.2.2.2.2.2.2.2.2.2.2.2.1)), ((sset_k _ _ (by decide)).trans (hm.2.2.2.2.2.2.2.2.2.2.2.2.1)), ((sset_k _ _ (by decide)).trans (hm.2.2.2.2.2.2.2.2.2.2.2.2.2))⟩ (hs |>.set (P := pMd) (by simp [pMd]) _) (⟨⟨fun _ => Or.inr ⟨i, by omega, by rw [← hwr i (by omega)]; exact Classical.byContradiction (fun w => of_decide_eq_false (jB_0.mp c26) (in6.mpr w))⟩, fun _ => rfl⟩, by
            show ((N + 1 : Nat) : Int) = sN _ i + (if f (unp i) = 0 then 0 else 1)
            rw [if_neg (fun q => c43 ((lg_cmp_eq _ _).mpr (Int64.toInt_inj.mp (by rw [hwr i (by omega), q]; rfl)))), ← hv.2]
            omega⟩)
set_option maxHeartbeats 4000000 in
set_option maxRecDepth 100000 in
theorem c_X4_bound (G : sG) (l : Launch) (hl : l.stackTraces = false) (ad : sAd) (M : sM) (c0 : Int32) (t0 : Nat) (hd : Nat → Int32) (on : Nat → Int32) (tw : Nat → Int32) (dp : Nat → Int32) (cl : Nat → Int32) (gr : Nat → Int32) (r0 : Nat) (kd : Nat → Int32) (fl : Nat → Int32) (co : Nat → Int32) (sm : Nat → Int32) (wk : Nat → Int64) (sp : Nat → Int64) (b0 : Bool) (mu : Nat → Int32) (hm : hMd G ad M (c0, t0, hd, on, tw, dp, cl, gr, r0, kd, fl, co, sm, wk, sp, b0, mu)) (f : Nat → Int) (hgf : gz f) (hwr : WRk wk f) : sMet G l yX4_bound mX4_bound [.ref (ad 12 0)] ad M (fun r ad' M' => ad = ad' ∧ r = none ∧ ∃ b', hMd G ad M' (c0, t0, hd, on, tw, dp, cl, gr, r0, kd, fl, co, sm, wk, sp, b', mu) ∧ sSame pMd M M' ∧ (b' = true ↔ b0 = true ∨ ¬ fitsP f)) (fun _ _ _ => False) := by
  refine sMet.of hl (by decide +kernel) rfl rfl rfl rfl (Nat.le_of_ble_eq_true rfl) (fun X => ?_)
  refine s_lv (lv' := [some (.ref (ad 12 0)), none, none]) rfl ?_
  refine s_iconst (v := 0) dX4_bound_0 (by decide) ?_
  refine s_istore_n dX4_bound_1 rfl rfl ?_
  refine s_lv (lv' := [some (.ref (ad 12 0)), some (.int 0), none]) rfl ?_
  refine s_iconst (v := 0) dX4_bound_2 (by decide) ?_
  refine s_istore_n dX4_bound_3 rfl rfl ?_
  refine s_lv (lv' := [some (.ref (ad 12 0)), some (.int 0), some (.int 0)]) rfl ?_
  refine l_X4_bound X G ad M c0 t0 hd on tw dp cl gr r0 kd fl co sm wk sp mu b0 f hgf hwr _ (fun M3 b03 N3 hm3 hs3 hv3 => ?_) (220) 0 M b0 0 (by omega) ⟨hm.1, hm.2.1, hm.2.2.1, hm.2.2.2.1, hm.2.2.2.2.1, hm.2.2.2.2.2.1, hm.2.2.2.2.2.2.1, hm.2.2.2.2.2.2.2.1, hm.2.2.2.2.2.2.2.2.1, hm.2.2.2.2.2.2.2.2.2.1, hm.2.2.2.2.2.2.2.2.2.2.1, hm.2.2.2.2.2.2.2.2.2.2.2.1, hm.2.2.2.2.2.2.2.2.2.2.2.2.1, hm.2.2.2.2.2.2.2.2.2.2.2.2.2⟩ sSame.rfl (⟨⟨Or.inl, fun q => q.elim id (fun ⟨k, hk, _⟩ => absurd hk (Nat.not_lt_zero k))⟩, rfl⟩)
  have hf9 := sN_abs (g := fun k => if f (unp k) = 0 then 0 else 1) (W := 1) (n := 220) (fun k _ => by split <;> omega)
  refine s_iload_n dX4_bound_59 rfl ?_
  refine s_bipush (v := 40) dX4_bound_60 (by decide) ?_
  refine s_icmp_le 70 dX4_bound_62 (by decide) (fun c62 => ?_) (fun c62 => ?_)
  · exact s_vret rfl dX4_bound_70 (Nat.le_of_ble_eq_true rfl) (Nat.le_of_ble_eq_true rfl) (⟨rfl, rfl, _, ⟨hm3.1, hm3.2.1, hm3.2.2.1, hm3.2.2.2.1, hm3.2.2.2.2.1, hm3.2.2.2.2.2.1, hm3.2.2.2.2.2.2.1, hm3.2.2.2.2.2.2.2.1, hm3.2.2.2.2.2.2.2.2.1, hm3.2.2.2.2.2.2.2.2.2.1, hm3.2.2.2.2.2.2.2.2.2.2.1, hm3.2.2.2.2.2.2.2.2.2.2.2.1, hm3.2.2.2.2.2.2.2.2.2.2.2.2.1, hm3.2.2.2.2.2.2.2.2.2.2.2.2.2⟩, hs3, hv3.1.trans (or_congr Iff.rfl ⟨fun ⟨k, hk, q⟩ z => ((fits220 hgf).mp z).1 k hk q, fun z => Classical.byContradiction (fun w => z ((fits220 hgf).mpr ⟨fun k hk q => w ⟨k, hk, q⟩, by have := (nI_le_iff (a := N3) (b := 40) (by omega) (by omega)).mp c62; omega⟩))⟩)⟩)
  · refine s_aload_n dX4_bound_65 rfl ?_
    refine s_iconst (v := 1) dX4_bound_66 (by decide) ?_
    refine s_eqi (y := jB true) rfl ?_
    refine s_put (kd := 12) (ix := 0) (ci := 5) (v := .int (jB true)) (ty := tyX4 15) (fs := [.int c0, .int (nI t0), .ref (ad 13 0), .ref (ad 14 0), .ref (ad 15 0), .ref (ad 16 0), .ref (ad 17 0), .ref (ad 18 0), .int (nI r0), .ref (ad 19 0), .ref (ad 20 0), .ref (ad 21 0), .ref (ad 22 0), .ref (ad 23 0), .ref (ad 24 0), .int (jB b03), .ref (ad 25 0)])  tyX4 tyX4_ok nmX4 hm3.1 rfl in_X4_bound_X4 15 (by decide) (by decide +kernel) rfl rfl (tyX4_ok 15 (by decide)) (rfl) (rfl) (Nat.le_of_ble_eq_true rfl) dX4_bound_67 ?_
    refine s_M (M' := (sset M3 12 0 (.inr (5, [.int c0, .int (nI t0), .ref (ad 13 0), .ref (ad 14 0), .ref (ad 15 0), .ref (ad 16 0), .ref (ad 17 0), .ref (ad 18 0), .int (nI r0), .ref (ad 19 0), .ref (ad 20 0), .ref (ad 21 0), .ref (ad 22 0), .ref (ad 23 0), .ref (ad 24 0), .int (jB true), .ref (ad 25 0)])))) rfl ?_
    exact s_vret rfl dX4_bound_70 (Nat.le_of_ble_eq_true rfl) (Nat.le_of_ble_eq_true rfl) (⟨rfl, rfl, _, ⟨(sset_self _ _ _ _), ((sset_k _ _ (by decide)).trans (hm3.2.1)), ((sset_k _ _ (by decide)).trans (hm3.2.2.1)), ((sset_k _ _ (by decide)).trans (hm3.2.2.2.1)), ((sset_k _ _ (by decide)).trans (hm3.2.2.2.2.1)), ((sset_k _ _ (by decide)).trans (hm3.2.2.2.2.2.1)), ((sset_k _ _ (by decide)).trans (hm3.2.2.2.2.2.2.1)), ((sset_k _ _ (by decide)).trans (hm3.2.2.2.2.2.2.2.1)), ((sset_k _ _ (by decide)).trans (hm3.2.2.2.2.2.2.2.2.1)), ((sset_k _ _ (by decide)).trans (hm3.2.2.2.2.2.2.2.2.2.1)), ((sset_k _ _ (by decide)).trans (hm3.2.2.2.2.2.2.2.2.2.2.1)), ((sset_k _ _ (by decide)).trans (hm3.2.2.2.2.2.2.2.2.2.2.2.1)), ((sset_k _ _ (by decide)).trans (hm3.2.2.2.2.2.2.2.2.2.2.2.2.1)), ((sset_k _ _ (by decide)).trans (hm3.2.2.2.2.2.2.2.2.2.2.2.2.2))⟩, (hs3 |>.set (P := pMd) (by simp [pMd]) _), ⟨fun _ => Or.inr (fun z => c62 ((nI_le_iff (a := N3) (b := 40) (by omega) (by omega)).mpr (by have := ((fits220 hgf).mp z).2; omega))), fun _ => rfl⟩⟩)
