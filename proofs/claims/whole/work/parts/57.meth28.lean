/-! findPolynomial -/
theorem l2i_ok {x : Int64} (h : ¬ out6 x.toInt) : x.toInt32.toInt = x.toInt := by
  unfold out6 at h
  rw [Int64.toInt_toInt32]
  exact Int.bmod_eq_of_le (by omega) (by omega)
theorem i32_add {a b : Int32} (h1 : -1000000 ≤ a.toInt ∧ a.toInt ≤ 1000000) (h2 : -1000000 ≤ b.toInt ∧ b.toInt ≤ 1000000) : (a + b).toInt = a.toInt + b.toInt := by
  rw [Int32.toInt_add]
  exact Int.bmod_eq_of_le (by omega) (by omega)
theorem i32_neg {a : Int32} (h1 : -1000000 ≤ a.toInt ∧ a.toInt ≤ 1000000) : (-a).toInt = - a.toInt := by
  rw [Int32.toInt_neg]
  exact Int.bmod_eq_of_le (by omega) (by omega)
theorem jB_vn (b : Bool) : vp_nar .boolean (jB b) = jB b := by cases b <;> rfl
theorem blk {t j k i : Nat} (hj : j ≠ t) (hk : k < 220) (hi : i < 220) : 220 * j + k ≠ 220 * t + i := by omega
/-- the block of t, so far; the others as they were -/
def blkI (cl clo : Nat → Int32) (t : Nat) (P : Nat → Int) (i : Nat) : Prop := (∀ k, k < i → (cl (220 * t + k)).toInt = P (unp k)) ∧ ∀ j k, j ≠ t → k < 220 → cl (220 * j + k) = clo (220 * j + k)
theorem blkI.step {cl clo : Nat → Int32} {t : Nat} {P : Nat → Int} {i : Nat} (h : blkI cl clo t P i) (hi : i < 220) {x : Int32} (hx : x.toInt = P (unp i)) : blkI (upd cl (220 * t + i) x) clo t P (i + 1) := by
  refine ⟨fun k hk => ?_, fun j k hj hk => ?_⟩
  · by_cases e : k = i
    · rw [e, upd_at]; exact hx
    · rw [upd_no _ _ (by omega)]; exact h.1 k (by omega)
  · rw [upd_no _ _ (blk hj hk hi)]; exact h.2 j k hj hk
abbrev mX4_findPolynomial : sMeth := (cX4_findPolynomial, 5, RX4, wsX4_findPolynomial, { frames := 4, cells := 0, slots := 0, locals := 99 }, none, "findPolynomial", [])
theorem in_X4_findPolynomial_X4 : ∀ w ∈ wsX40, w ∈ wsX4_findPolynomial := by decide +kernel
set_option maxHeartbeats 4000000 in
set_option maxRecDepth 100000 in
theorem l_fp0 (X : sMach) (G : sG) (ad : sAd) (M0 : sM) (c0 : Int32) (t0 : Nat) (hd : Nat → Int32) (on : Nat → Int32) (tw : Nat → Int32) (dp : Nat → Int32) (cl : Nat → Int32) (gr : Nat → Int32) (r0 : Nat) (kd : Nat → Int32) (fl : Nat → Int32) (co : Nat → Int32) (sm : Nat → Int32) (sp : Nat → Int64) (b0 : Bool) (mu : Nat → Int32) (t : Nat) (a2 a3 : Int32) (Q : State → Prop) (kont : ∀ (M : sM) (wk : Nat → Int64) , hMd G ad M (c0, t0, hd, on, tw, dp, cl, gr, r0, kd, fl, co, sm, wk, sp, b0, mu) → sSame pMd M0 M → z220 wk 220 → sW X G mX4_findPolynomial Q ad M 0 0 [some (.ref (ad 12 0)), some (.int (nI t)), some (.int a2), some (.int a3), none] 39 []) : ∀ (k i : Nat) (M : sM) (wk : Nat → Int64) , i + k = 220 → hMd G ad M (c0, t0, hd, on, tw, dp, cl, gr, r0, kd, fl, co, sm, wk, sp, b0, mu) → sSame pMd M0 M → z220 wk i → sW X G mX4_findPolynomial Q ad M 0 0 [some (.ref (ad 12 0)), some (.int (nI t)), some (.int a2), some (.int a3), some (.int (nI i))] 17 [] := by
  intro k
  induction k with
  | zero =>
    intro i M wk  hi hm hs hv
    refine s_iload dX4_findPolynomial_17 rfl ?_
    refine s_sipush (v := 220) dX4_findPolynomial_19 (by decide) ?_
    refine s_icmp_ge 39 dX4_findPolynomial_22 (by decide) (fun c22 => ?_) (fun c22 => absurd (nI_le (a := 220) (by omega) (by omega)) c22)
    refine s_drop 4 ?_
    exact kont M wk  hm hs (by rw [show i = 220 by omega] at hv; exact hv)
  | succ k ih =>
    intro i M wk  hi hm hs hv
    refine s_iload dX4_findPolynomial_17 rfl ?_
    refine s_sipush (v := 220) dX4_findPolynomial_19 (by decide) ?_
    refine s_icmp_ge 39 dX4_findPolynomial_22 (by decide) (fun c22 => absurd c22 (nI_ge (b := 220) (by omega) (by omega))) (fun c22 => ?_)
    refine s_aload_n dX4_findPolynomial_25 rfl ?_
    refine s_get (kd := 12) (ix := 0) (ci := 5) (fs := [.int c0, .int (nI t0), .ref (ad 13 0), .ref (ad 14 0), .ref (ad 15 0), .ref (ad 16 0), .ref (ad 17 0), .ref (ad 18 0), .int (nI r0), .ref (ad 19 0), .ref (ad 20 0), .ref (ad 21 0), .ref (ad 22 0), .ref (ad 23 0), .ref (ad 24 0), .int (jB b0), .ref (ad 25 0)])  hm.1 rfl in_X4_findPolynomial_X4 13 (by decide) (by decide +kernel) rfl rfl dX4_findPolynomial_26 ?_
    refine s_iload dX4_findPolynomial_29 rfl ?_
    refine s_lconst (v := 0) dX4_findPolynomial_31 (by decide) ?_
    refine s_last (kd := 23) (ix := 0) (n := 220) (f := wk) (j := i) (x := 0) hm.2.2.2.2.2.2.2.2.2.2.2.1  (rfl) (by omega) (by decide) dX4_findPolynomial_32 ?_
    refine s_iinc (v := nI (i + 1)) dX4_findPolynomial_33 rfl (nI_1 i) rfl ?_
    refine s_lv (lv' := [some (.ref (ad 12 0)), some (.int (nI t)), some (.int a2), some (.int a3), some (.int (nI (i + 1)))]) rfl ?_
    refine s_goto 17 dX4_findPolynomial_36 (by decide) ?_
    exact ih (i + 1) (sset M 23 0 (.inl (gJ G, 220, .inr (.inl (vp_updL wk i 0))))) (vp_updL wk i 0)  (by omega) ⟨((sset_k _ _ (by decide)).trans (hm.1)), ((sset_k _ _ (by decide)).trans (hm.2.1)), ((sset_k _ _ (by decide)).trans (hm.2.2.1)), ((sset_k _ _ (by decide)).trans (hm.2.2.2.1)), ((sset_k _ _ (by decide)).trans (hm.2.2.2.2.1)), ((sset_k _ _ (by decide)).trans (hm.2.2.2.2.2.1)), ((sset_k _ _ (by decide)).trans (hm.2.2.2.2.2.2.1)), ((sset_k _ _ (by decide)).trans (hm.2.2.2.2.2.2.2.1)), ((sset_k _ _ (by decide)).trans (hm.2.2.2.2.2.2.2.2.1)), ((sset_k _ _ (by decide)).trans (hm.2.2.2.2.2.2.2.2.2.1)), ((sset_k _ _ (by decide)).trans (hm.2.2.2.2.2.2.2.2.2.2.1)), (sset_self _ _ _ _), ((sset_k _ _ (by decide)).trans (hm.2.2.2.2.2.2.2.2.2.2.2.2.1)), ((sset_k _ _ (by decide)).trans (hm.2.2.2.2.2.2.2.2.2.2.2.2.2))⟩ (hs |>.set (P := pMd) (by simp [pMd]) _) (hv.step)
set_option maxHeartbeats 4000000 in
set_option maxRecDepth 100000 in
theorem l_fpS (X : sMach) (G : sG) (ad : sAd) (M0 : sM) (c0 : Int32) (t0 : Nat) (hd : Nat → Int32) (on : Nat → Int32) (tw : Nat → Int32) (dp : Nat → Int32) (gr : Nat → Int32) (r0 : Nat) (kd : Nat → Int32) (fl : Nat → Int32) (co : Nat → Int32) (sm : Nat → Int32) (wk : Nat → Int64) (sp : Nat → Int64) (b0 : Bool) (mu : Nat → Int32) (t : Nat) (htt : t < 120) (a2 a3 : Int32) (clo : Nat → Int32) (f P : Nat → Int) (hwr : WRk wk f) (hin : b0 = false → ∀ k, k < 220 → ¬ out6 (f (unp k))) (hg2 : b0 = true → P = fun _ => 0) (hg3 : b0 = false → P = f) (Q : State → Prop) (kont : ∀ (M : sM) (cl : Nat → Int32) , hMd G ad M (c0, t0, hd, on, tw, dp, cl, gr, r0, kd, fl, co, sm, wk, sp, b0, mu) → sSame pMd M0 M → blkI cl clo t P 220 → sW X G mX4_findPolynomial Q ad M 0 0 [some (.ref (ad 12 0)), some (.int (nI t)), some (.int a2), some (.int a3), none] 457 []) : ∀ (k i : Nat) (M : sM) (cl : Nat → Int32) , i + k = 220 → hMd G ad M (c0, t0, hd, on, tw, dp, cl, gr, r0, kd, fl, co, sm, wk, sp, b0, mu) → sSame pMd M0 M → blkI cl clo t P i → sW X G mX4_findPolynomial Q ad M 0 0 [some (.ref (ad 12 0)), some (.int (nI t)), some (.int a2), some (.int a3), some (.int (nI i))] 411 [] := by
  intro k
  induction k with
  | zero =>
    intro i M cl  hi hm hs hv
    refine s_iload dX4_findPolynomial_411 rfl ?_
    refine s_sipush (v := 220) dX4_findPolynomial_413 (by decide) ?_
    refine s_icmp_ge 457 dX4_findPolynomial_416 (by decide) (fun c416 => ?_) (fun c416 => absurd (nI_le (a := 220) (by omega) (by omega)) c416)
    refine s_drop 4 ?_
    exact kont M cl  hm hs (by rw [show i = 220 by omega] at hv; exact hv)
  | succ k ih =>
    intro i M cl  hi hm hs hv
    refine s_iload dX4_findPolynomial_411 rfl ?_
    refine s_sipush (v := 220) dX4_findPolynomial_413 (by decide) ?_
    refine s_icmp_ge 457 dX4_findPolynomial_416 (by decide) (fun c416 => absurd c416 (nI_ge (b := 220) (by omega) (by omega))) (fun c416 => ?_)
    refine s_aload_n dX4_findPolynomial_419 rfl ?_
    refine s_get (kd := 12) (ix := 0) (ci := 5) (fs := [.int c0, .int (nI t0), .ref (ad 13 0), .ref (ad 14 0), .ref (ad 15 0), .ref (ad 16 0), .ref (ad 17 0), .ref (ad 18 0), .int (nI r0), .ref (ad 19 0), .ref (ad 20 0), .ref (ad 21 0), .ref (ad 22 0), .ref (ad 23 0), .ref (ad 24 0), .int (jB b0), .ref (ad 25 0)])  hm.1 rfl in_X4_findPolynomial_X4 6 (by decide) (by decide +kernel) rfl rfl dX4_findPolynomial_420 ?_
    refine s_sipush (v := 220) dX4_findPolynomial_423 (by decide) ?_
    refine s_iload_n dX4_findPolynomial_426 rfl ?_
    refine s_imul dX4_findPolynomial_427 ?_
    refine s_eqi (y := nI (220 * t)) (nI_mul 220 t) ?_
    refine s_iload dX4_findPolynomial_428 rfl ?_
    refine s_iadd dX4_findPolynomial_430 ?_
    refine s_eqi (y := nI (220 * t + i)) (nI_add _ _) ?_
    refine s_aload_n dX4_findPolynomial_431 rfl ?_
    refine s_get (kd := 12) (ix := 0) (ci := 5) (fs := [.int c0, .int (nI t0), .ref (ad 13 0), .ref (ad 14 0), .ref (ad 15 0), .ref (ad 16 0), .ref (ad 17 0), .ref (ad 18 0), .int (nI r0), .ref (ad 19 0), .ref (ad 20 0), .ref (ad 21 0), .ref (ad 22 0), .ref (ad 23 0), .ref (ad 24 0), .int (jB b0), .ref (ad 25 0)])  hm.1 rfl in_X4_findPolynomial_X4 15 (by decide) (by decide +kernel) rfl rfl dX4_findPolynomial_432 ?_
    refine s_if_eq 442 dX4_findPolynomial_435 (by decide) (fun c435 => ?_) (fun c435 => ?_)
    · refine s_aload_n dX4_findPolynomial_442 rfl ?_
      refine s_get (kd := 12) (ix := 0) (ci := 5) (fs := [.int c0, .int (nI t0), .ref (ad 13 0), .ref (ad 14 0), .ref (ad 15 0), .ref (ad 16 0), .ref (ad 17 0), .ref (ad 18 0), .int (nI r0), .ref (ad 19 0), .ref (ad 20 0), .ref (ad 21 0), .ref (ad 22 0), .ref (ad 23 0), .ref (ad 24 0), .int (jB b0), .ref (ad 25 0)])  hm.1 rfl in_X4_findPolynomial_X4 13 (by decide) (by decide +kernel) rfl rfl dX4_findPolynomial_443 ?_
      refine s_iload dX4_findPolynomial_446 rfl ?_
      refine s_lald (kd := 23) (ix := 0) (n := 220) (f := wk) (j := i) hm.2.2.2.2.2.2.2.2.2.2.2.1 (rfl) (by omega) (by decide) dX4_findPolynomial_448 ?_
      refine s_l2i dX4_findPolynomial_449 ?_
      refine s_iast (kd := 17) (ix := 0) (n := 26400) (f := cl) (j := 220 * t + i) (x := (wk i).toInt32) hm.2.2.2.2.2.1  (rfl) (by omega) (by decide) dX4_findPolynomial_450 ?_
      refine s_iinc (v := nI (i + 1)) dX4_findPolynomial_451 rfl (nI_1 i) rfl ?_
      refine s_lv (lv' := [some (.ref (ad 12 0)), some (.int (nI t)), some (.int a2), some (.int a3), some (.int (nI (i + 1)))]) rfl ?_
      refine s_goto 411 dX4_findPolynomial_454 (by decide) ?_
      exact ih (i + 1) (sset M 17 0 (.inl (gI G, 26400, .inl (upd cl (220 * t + i) ((wk i).toInt32))))) (upd cl (220 * t + i) ((wk i).toInt32))  (by omega) ⟨((sset_k _ _ (by decide)).trans (hm.1)), ((sset_k _ _ (by decide)).trans (hm.2.1)), ((sset_k _ _ (by decide)).trans (hm.2.2.1)), ((sset_k _ _ (by decide)).trans (hm.2.2.2.1)), ((sset_k _ _ (by decide)).trans (hm.2.2.2.2.1)), (sset_self _ _ _ _), ((sset_k _ _ (by decide)).trans (hm.2.2.2.2.2.2.1)), ((sset_k _ _ (by decide)).trans (hm.2.2.2.2.2.2.2.1)), ((sset_k _ _ (by decide)).trans (hm.2.2.2.2.2.2.2.2.1)), ((sset_k _ _ (by decide)).trans (hm.2.2.2.2.2.2.2.2.2.1)), ((sset_k _ _ (by decide)).trans (hm.2.2.2.2.2.2.2.2.2.2.1)), ((sset_k _ _ (by decide)).trans (hm.2.2.2.2.2.2.2.2.2.2.2.1)), ((sset_k _ _ (by decide)).trans (hm.2.2.2.2.2.2.2.2.2.2.2.2.1)), ((sset_k _ _ (by decide)).trans (hm.2.2.2.2.2.2.2.2.2.2.2.2.2))⟩ (hs |>.set (P := pMd) (by simp [pMd]) _) (hv.step (by omega) (by rw [hg3 (jB_0.mp c435), l2i_ok (by rw [hwr i (by omega)]; exact hin (jB_0.mp c435) i (by omega))]; exact hwr i (by omega)))
    · refine s_iconst (v := 0) dX4_findPolynomial_438 (by decide) ?_
      refine s_goto 450 dX4_findPolynomial_439 (by decide) ?_
      refine s_iast (kd := 17) (ix := 0) (n := 26400) (f := cl) (j := 220 * t + i) (x := 0) hm.2.2.2.2.2.1  (rfl) (by omega) (by decide) dX4_findPolynomial_450 ?_
      refine s_iinc (v := nI (i + 1)) dX4_findPolynomial_451 rfl (nI_1 i) rfl ?_
      refine s_lv (lv' := [some (.ref (ad 12 0)), some (.int (nI t)), some (.int a2), some (.int a3), some (.int (nI (i + 1)))]) rfl ?_
      refine s_goto 411 dX4_findPolynomial_454 (by decide) ?_
      exact ih (i + 1) (sset M 17 0 (.inl (gI G, 26400, .inl (upd cl (220 * t + i) 0)))) (upd cl (220 * t + i) 0)  (by omega) ⟨((sset_k _ _ (by decide)).trans (hm.1)), ((sset_k _ _ (by decide)).trans (hm.2.1)), ((sset_k _ _ (by decide)).trans (hm.2.2.1)), ((sset_k _ _ (by decide)).trans (hm.2.2.2.1)), ((sset_k _ _ (by decide)).trans (hm.2.2.2.2.1)), (sset_self _ _ _ _), ((sset_k _ _ (by decide)).trans (hm.2.2.2.2.2.2.1)), ((sset_k _ _ (by decide)).trans (hm.2.2.2.2.2.2.2.1)), ((sset_k _ _ (by decide)).trans (hm.2.2.2.2.2.2.2.2.1)), ((sset_k _ _ (by decide)).trans (hm.2.2.2.2.2.2.2.2.2.1)), ((sset_k _ _ (by decide)).trans (hm.2.2.2.2.2.2.2.2.2.2.1)), ((sset_k _ _ (by decide)).trans (hm.2.2.2.2.2.2.2.2.2.2.2.1)), ((sset_k _ _ (by decide)).trans (hm.2.2.2.2.2.2.2.2.2.2.2.2.1)), ((sset_k _ _ (by decide)).trans (hm.2.2.2.2.2.2.2.2.2.2.2.2.2))⟩ (hs |>.set (P := pMd) (by simp [pMd]) _) (hv.step (by omega) (by rw [hg2 (Bool.of_not_eq_false (fun q => c435 (jB_0.mpr q)))]; rfl))
set_option maxHeartbeats 4000000 in
set_option maxRecDepth 100000 in
theorem l_fpQ (X : sMach) (G : sG) (ad : sAd) (M0 : sM) (c0 : Int32) (t0 : Nat) (hd : Nat → Int32) (on : Nat → Int32) (tw : Nat → Int32) (dp : Nat → Int32) (gr : Nat → Int32) (r0 : Nat) (kd : Nat → Int32) (fl : Nat → Int32) (co : Nat → Int32) (sm : Nat → Int32) (wk : Nat → Int64) (sp : Nat → Int64) (b0 : Bool) (mu : Nat → Int32) (t : Nat) (htt : t < 120) (a2 a3 : Int32) (clo : Nat → Int32) (f P : Nat → Int) (hwr : WRk wk f) (hin : b0 = false → ∀ k, k < 220 → ¬ out6 (f (unp k))) (hg2 : b0 = true → P = fun _ => 0) (hg3 : b0 = false → P = f) (Q : State → Prop) (kont : ∀ (M : sM) (cl : Nat → Int32) , hMd G ad M (c0, t0, hd, on, tw, dp, cl, gr, r0, kd, fl, co, sm, wk, sp, b0, mu) → sSame pMd M0 M → blkI cl clo t P 220 → sW X G mX4_findPolynomial Q ad M 0 0 [some (.ref (ad 12 0)), some (.int (nI t)), some (.int a2), some (.int a3), none] 381 []) : ∀ (k i : Nat) (M : sM) (cl : Nat → Int32) , i + k = 220 → hMd G ad M (c0, t0, hd, on, tw, dp, cl, gr, r0, kd, fl, co, sm, wk, sp, b0, mu) → sSame pMd M0 M → blkI cl clo t P i → sW X G mX4_findPolynomial Q ad M 0 0 [some (.ref (ad 12 0)), some (.int (nI t)), some (.int a2), some (.int a3), some (.int (nI i))] 335 [] := by
  intro k
  induction k with
  | zero =>
    intro i M cl  hi hm hs hv
    refine s_iload dX4_findPolynomial_335 rfl ?_
    refine s_sipush (v := 220) dX4_findPolynomial_337 (by decide) ?_
    refine s_icmp_ge 381 dX4_findPolynomial_340 (by decide) (fun c340 => ?_) (fun c340 => absurd (nI_le (a := 220) (by omega) (by omega)) c340)
    refine s_drop 4 ?_
    exact kont M cl  hm hs (by rw [show i = 220 by omega] at hv; exact hv)
  | succ k ih =>
    intro i M cl  hi hm hs hv
    refine s_iload dX4_findPolynomial_335 rfl ?_
    refine s_sipush (v := 220) dX4_findPolynomial_337 (by decide) ?_
    refine s_icmp_ge 381 dX4_findPolynomial_340 (by decide) (fun c340 => absurd c340 (nI_ge (b := 220) (by omega) (by omega))) (fun c340 => ?_)
    refine s_aload_n dX4_findPolynomial_343 rfl ?_
    refine s_get (kd := 12) (ix := 0) (ci := 5) (fs := [.int c0, .int (nI t0), .ref (ad 13 0), .ref (ad 14 0), .ref (ad 15 0), .ref (ad 16 0), .ref (ad 17 0), .ref (ad 18 0), .int (nI r0), .ref (ad 19 0), .ref (ad 20 0), .ref (ad 21 0), .ref (ad 22 0), .ref (ad 23 0), .ref (ad 24 0), .int (jB b0), .ref (ad 25 0)])  hm.1 rfl in_X4_findPolynomial_X4 6 (by decide) (by decide +kernel) rfl rfl dX4_findPolynomial_344 ?_
    refine s_sipush (v := 220) dX4_findPolynomial_347 (by decide) ?_
    refine s_iload_n dX4_findPolynomial_350 rfl ?_
    refine s_imul dX4_findPolynomial_351 ?_
    refine s_eqi (y := nI (220 * t)) (nI_mul 220 t) ?_
    refine s_iload dX4_findPolynomial_352 rfl ?_
    refine s_iadd dX4_findPolynomial_354 ?_
    refine s_eqi (y := nI (220 * t + i)) (nI_add _ _) ?_
    refine s_aload_n dX4_findPolynomial_355 rfl ?_
    refine s_get (kd := 12) (ix := 0) (ci := 5) (fs := [.int c0, .int (nI t0), .ref (ad 13 0), .ref (ad 14 0), .ref (ad 15 0), .ref (ad 16 0), .ref (ad 17 0), .ref (ad 18 0), .int (nI r0), .ref (ad 19 0), .ref (ad 20 0), .ref (ad 21 0), .ref (ad 22 0), .ref (ad 23 0), .ref (ad 24 0), .int (jB b0), .ref (ad 25 0)])  hm.1 rfl in_X4_findPolynomial_X4 15 (by decide) (by decide +kernel) rfl rfl dX4_findPolynomial_356 ?_
    refine s_if_eq 366 dX4_findPolynomial_359 (by decide) (fun c359 => ?_) (fun c359 => ?_)
    · refine s_aload_n dX4_findPolynomial_366 rfl ?_
      refine s_get (kd := 12) (ix := 0) (ci := 5) (fs := [.int c0, .int (nI t0), .ref (ad 13 0), .ref (ad 14 0), .ref (ad 15 0), .ref (ad 16 0), .ref (ad 17 0), .ref (ad 18 0), .int (nI r0), .ref (ad 19 0), .ref (ad 20 0), .ref (ad 21 0), .ref (ad 22 0), .ref (ad 23 0), .ref (ad 24 0), .int (jB b0), .ref (ad 25 0)])  hm.1 rfl in_X4_findPolynomial_X4 13 (by decide) (by decide +kernel) rfl rfl dX4_findPolynomial_367 ?_
      refine s_iload dX4_findPolynomial_370 rfl ?_
      refine s_lald (kd := 23) (ix := 0) (n := 220) (f := wk) (j := i) hm.2.2.2.2.2.2.2.2.2.2.2.1 (rfl) (by omega) (by decide) dX4_findPolynomial_372 ?_
      refine s_l2i dX4_findPolynomial_373 ?_
      refine s_iast (kd := 17) (ix := 0) (n := 26400) (f := cl) (j := 220 * t + i) (x := (wk i).toInt32) hm.2.2.2.2.2.1  (rfl) (by omega) (by decide) dX4_findPolynomial_374 ?_
      refine s_iinc (v := nI (i + 1)) dX4_findPolynomial_375 rfl (nI_1 i) rfl ?_
      refine s_lv (lv' := [some (.ref (ad 12 0)), some (.int (nI t)), some (.int a2), some (.int a3), some (.int (nI (i + 1)))]) rfl ?_
      refine s_goto 335 dX4_findPolynomial_378 (by decide) ?_
      exact ih (i + 1) (sset M 17 0 (.inl (gI G, 26400, .inl (upd cl (220 * t + i) ((wk i).toInt32))))) (upd cl (220 * t + i) ((wk i).toInt32))  (by omega) ⟨((sset_k _ _ (by decide)).trans (hm.1)), ((sset_k _ _ (by decide)).trans (hm.2.1)), ((sset_k _ _ (by decide)).trans (hm.2.2.1)), ((sset_k _ _ (by decide)).trans (hm.2.2.2.1)), ((sset_k _ _ (by decide)).trans (hm.2.2.2.2.1)), (sset_self _ _ _ _), ((sset_k _ _ (by decide)).trans (hm.2.2.2.2.2.2.1)), ((sset_k _ _ (by decide)).trans (hm.2.2.2.2.2.2.2.1)), ((sset_k _ _ (by decide)).trans (hm.2.2.2.2.2.2.2.2.1)), ((sset_k _ _ (by decide)).trans (hm.2.2.2.2.2.2.2.2.2.1)), ((sset_k _ _ (by decide)).trans (hm.2.2.2.2.2.2.2.2.2.2.1)), ((sset_k _ _ (by decide)).trans (hm.2.2.2.2.2.2.2.2.2.2.2.1)), ((sset_k _ _ (by decide)).trans (hm.2.2.2.2.2.2.2.2.2.2.2.2.1)), ((sset_k _ _ (by decide)).trans (hm.2.2.2.2.2.2.2.2.2.2.2.2.2))⟩ (hs |>.set (P := pMd) (by simp [pMd]) _) (hv.step (by omega) (by rw [hg3 (jB_0.mp c359), l2i_ok (by rw [hwr i (by omega)]; exact hin (jB_0.mp c359) i (by omega))]; exact hwr i (by omega)))
    · refine s_iconst (v := 0) dX4_findPolynomial_362 (by decide) ?_
      refine s_goto 374 dX4_findPolynomial_363 (by decide) ?_
      refine s_iast (kd := 17) (ix := 0) (n := 26400) (f := cl) (j := 220 * t + i) (x := 0) hm.2.2.2.2.2.1  (rfl) (by omega) (by decide) dX4_findPolynomial_374 ?_
      refine s_iinc (v := nI (i + 1)) dX4_findPolynomial_375 rfl (nI_1 i) rfl ?_
      refine s_lv (lv' := [some (.ref (ad 12 0)), some (.int (nI t)), some (.int a2), some (.int a3), some (.int (nI (i + 1)))]) rfl ?_
      refine s_goto 335 dX4_findPolynomial_378 (by decide) ?_
      exact ih (i + 1) (sset M 17 0 (.inl (gI G, 26400, .inl (upd cl (220 * t + i) 0)))) (upd cl (220 * t + i) 0)  (by omega) ⟨((sset_k _ _ (by decide)).trans (hm.1)), ((sset_k _ _ (by decide)).trans (hm.2.1)), ((sset_k _ _ (by decide)).trans (hm.2.2.1)), ((sset_k _ _ (by decide)).trans (hm.2.2.2.1)), ((sset_k _ _ (by decide)).trans (hm.2.2.2.2.1)), (sset_self _ _ _ _), ((sset_k _ _ (by decide)).trans (hm.2.2.2.2.2.2.1)), ((sset_k _ _ (by decide)).trans (hm.2.2.2.2.2.2.2.1)), ((sset_k _ _ (by decide)).trans (hm.2.2.2.2.2.2.2.2.1)), ((sset_k _ _ (by decide)).trans (hm.2.2.2.2.2.2.2.2.2.1)), ((sset_k _ _ (by decide)).trans (hm.2.2.2.2.2.2.2.2.2.2.1)), ((sset_k _ _ (by decide)).trans (hm.2.2.2.2.2.2.2.2.2.2.2.1)), ((sset_k _ _ (by decide)).trans (hm.2.2.2.2.2.2.2.2.2.2.2.2.1)), ((sset_k _ _ (by decide)).trans (hm.2.2.2.2.2.2.2.2.2.2.2.2.2))⟩ (hs |>.set (P := pMd) (by simp [pMd]) _) (hv.step (by omega) (by rw [hg2 (Bool.of_not_eq_false (fun q => c359 (jB_0.mpr q)))]; rfl))
set_option maxHeartbeats 4000000 in
set_option maxRecDepth 100000 in
theorem l_fpA0 (X : sMach) (G : sG) (ad : sAd) (M0 : sM) (c0 : Int32) (t0 : Nat) (hd : Nat → Int32) (on : Nat → Int32) (tw : Nat → Int32) (dp : Nat → Int32) (cl : Nat → Int32) (gr : Nat → Int32) (r0 : Nat) (kd : Nat → Int32) (fl : Nat → Int32) (co : Nat → Int32) (sm : Nat → Int32) (sp : Nat → Int64) (b0 : Bool) (mu : Nat → Int32) (t : Nat) (htt : t < 120) (hh : hd t = 0) (ja : Nat) (hja : ja < 120) (A : Nat → Int) (hca : CRk cl ja A) (hab : ∀ y, -1000000 ≤ A y ∧ A y ≤ 1000000) (jb : Nat) (hjb : jb < 120) (B : Nat → Int) (hcb : CRk cl jb B) (hbb : ∀ y, -1000000 ≤ B y ∧ B y ≤ 1000000) (Q : State → Prop) (kont : ∀ (M : sM) (wk : Nat → Int64) , hMd G ad M (c0, t0, hd, on, tw, dp, cl, gr, r0, kd, fl, co, sm, wk, sp, b0, mu) → sSame pMd M0 M → (∀ k, k < 220 → (wk k).toInt = WF 0 A B (unp k)) → sW X G mX4_findPolynomial Q ad M 0 0 [some (.ref (ad 12 0)), some (.int (nI t)), some (.int (nI ja)), some (.int (nI jb)), none] 259 []) : ∀ (k i : Nat) (M : sM) (wk : Nat → Int64) , i + k = 220 → hMd G ad M (c0, t0, hd, on, tw, dp, cl, gr, r0, kd, fl, co, sm, wk, sp, b0, mu) → sSame pMd M0 M → (∀ k, k < i → (wk k).toInt = WF 0 A B (unp k)) → sW X G mX4_findPolynomial Q ad M 0 0 [some (.ref (ad 12 0)), some (.int (nI t)), some (.int (nI ja)), some (.int (nI jb)), some (.int (nI i))] 184 [] := by
  intro k
  induction k with
  | zero =>
    intro i M wk  hi hm hs hv
    refine s_iload dX4_findPolynomial_184 rfl ?_
    refine s_sipush (v := 220) dX4_findPolynomial_186 (by decide) ?_
    refine s_icmp_ge 259 dX4_findPolynomial_189 (by decide) (fun c189 => ?_) (fun c189 => absurd (nI_le (a := 220) (by omega) (by omega)) c189)
    refine s_drop 4 ?_
    exact kont M wk  hm hs (by rw [show i = 220 by omega] at hv; exact hv)
  | succ k ih =>
    intro i M wk  hi hm hs hv
    have e1 := hca i (by omega)
    have e2 := hcb i (by omega)
    have e3 := hab (unp i)
    have e4 := hbb (unp i)
    refine s_iload dX4_findPolynomial_184 rfl ?_
    refine s_sipush (v := 220) dX4_findPolynomial_186 (by decide) ?_
    refine s_icmp_ge 259 dX4_findPolynomial_189 (by decide) (fun c189 => absurd c189 (nI_ge (b := 220) (by omega) (by omega))) (fun c189 => ?_)
    refine s_aload_n dX4_findPolynomial_192 rfl ?_
    refine s_get (kd := 12) (ix := 0) (ci := 5) (fs := [.int c0, .int (nI t0), .ref (ad 13 0), .ref (ad 14 0), .ref (ad 15 0), .ref (ad 16 0), .ref (ad 17 0), .ref (ad 18 0), .int (nI r0), .ref (ad 19 0), .ref (ad 20 0), .ref (ad 21 0), .ref (ad 22 0), .ref (ad 23 0), .ref (ad 24 0), .int (jB b0), .ref (ad 25 0)])  hm.1 rfl in_X4_findPolynomial_X4 13 (by decide) (by decide +kernel) rfl rfl dX4_findPolynomial_193 ?_
    refine s_iload dX4_findPolynomial_196 rfl ?_
    refine s_aload_n dX4_findPolynomial_198 rfl ?_
    refine s_get (kd := 12) (ix := 0) (ci := 5) (fs := [.int c0, .int (nI t0), .ref (ad 13 0), .ref (ad 14 0), .ref (ad 15 0), .ref (ad 16 0), .ref (ad 17 0), .ref (ad 18 0), .int (nI r0), .ref (ad 19 0), .ref (ad 20 0), .ref (ad 21 0), .ref (ad 22 0), .ref (ad 23 0), .ref (ad 24 0), .int (jB b0), .ref (ad 25 0)])  hm.1 rfl in_X4_findPolynomial_X4 6 (by decide) (by decide +kernel) rfl rfl dX4_findPolynomial_199 ?_
    refine s_sipush (v := 220) dX4_findPolynomial_202 (by decide) ?_
    refine s_iload_n dX4_findPolynomial_205 rfl ?_
    refine s_imul dX4_findPolynomial_206 ?_
    refine s_eqi (y := nI (220 * ja)) (nI_mul 220 ja) ?_
    refine s_iload dX4_findPolynomial_207 rfl ?_
    refine s_iadd dX4_findPolynomial_209 ?_
    refine s_eqi (y := nI (220 * ja + i)) (nI_add _ _) ?_
    refine s_iald (kd := 17) (ix := 0) (n := 26400) (f := cl) (j := 220 * ja + i) hm.2.2.2.2.2.1 (rfl) (by omega) (by decide) dX4_findPolynomial_210 ?_
    refine s_aload_n dX4_findPolynomial_211 rfl ?_
    refine s_get (kd := 12) (ix := 0) (ci := 5) (fs := [.int c0, .int (nI t0), .ref (ad 13 0), .ref (ad 14 0), .ref (ad 15 0), .ref (ad 16 0), .ref (ad 17 0), .ref (ad 18 0), .int (nI r0), .ref (ad 19 0), .ref (ad 20 0), .ref (ad 21 0), .ref (ad 22 0), .ref (ad 23 0), .ref (ad 24 0), .int (jB b0), .ref (ad 25 0)])  hm.1 rfl in_X4_findPolynomial_X4 2 (by decide) (by decide +kernel) rfl rfl dX4_findPolynomial_212 ?_
    refine s_iload_n dX4_findPolynomial_215 rfl ?_
    refine s_iald (kd := 13) (ix := 0) (n := 120) (f := hd) (j := t) hm.2.1 (rfl) (by omega) (by decide) dX4_findPolynomial_216 ?_
    refine s_eqi (y := 0) (hh) ?_
    refine s_if_ne 236 dX4_findPolynomial_217 (by decide) (fun c217 => absurd (rfl) c217) (fun c217 => ?_)
    refine s_aload_n dX4_findPolynomial_220 rfl ?_
    refine s_get (kd := 12) (ix := 0) (ci := 5) (fs := [.int c0, .int (nI t0), .ref (ad 13 0), .ref (ad 14 0), .ref (ad 15 0), .ref (ad 16 0), .ref (ad 17 0), .ref (ad 18 0), .int (nI r0), .ref (ad 19 0), .ref (ad 20 0), .ref (ad 21 0), .ref (ad 22 0), .ref (ad 23 0), .ref (ad 24 0), .int (jB b0), .ref (ad 25 0)])  hm.1 rfl in_X4_findPolynomial_X4 6 (by decide) (by decide +kernel) rfl rfl dX4_findPolynomial_221 ?_
    refine s_sipush (v := 220) dX4_findPolynomial_224 (by decide) ?_
    refine s_iload_n dX4_findPolynomial_227 rfl ?_
    refine s_imul dX4_findPolynomial_228 ?_
    refine s_eqi (y := nI (220 * jb)) (nI_mul 220 jb) ?_
    refine s_iload dX4_findPolynomial_229 rfl ?_
    refine s_iadd dX4_findPolynomial_231 ?_
    refine s_eqi (y := nI (220 * jb + i)) (nI_add _ _) ?_
    refine s_iald (kd := 17) (ix := 0) (n := 26400) (f := cl) (j := 220 * jb + i) hm.2.2.2.2.2.1 (rfl) (by omega) (by decide) dX4_findPolynomial_232 ?_
    refine s_goto 250 dX4_findPolynomial_233 (by decide) ?_
    refine s_iadd dX4_findPolynomial_250 ?_
    refine s_i2l dX4_findPolynomial_251 ?_
    refine s_last (kd := 23) (ix := 0) (n := 220) (f := wk) (j := i) (x := ((cl (220 * ja + i)) + (cl (220 * jb + i))).toInt64) hm.2.2.2.2.2.2.2.2.2.2.2.1  (rfl) (by omega) (by decide) dX4_findPolynomial_252 ?_
    refine s_iinc (v := nI (i + 1)) dX4_findPolynomial_253 rfl (nI_1 i) rfl ?_
    refine s_lv (lv' := [some (.ref (ad 12 0)), some (.int (nI t)), some (.int (nI ja)), some (.int (nI jb)), some (.int (nI (i + 1)))]) rfl ?_
    refine s_goto 184 dX4_findPolynomial_256 (by decide) ?_
    exact ih (i + 1) (sset M 23 0 (.inl (gJ G, 220, .inr (.inl (vp_updL wk i (((cl (220 * ja + i)) + (cl (220 * jb + i))).toInt64)))))) (vp_updL wk i (((cl (220 * ja + i)) + (cl (220 * jb + i))).toInt64))  (by omega) ⟨((sset_k _ _ (by decide)).trans (hm.1)), ((sset_k _ _ (by decide)).trans (hm.2.1)), ((sset_k _ _ (by decide)).trans (hm.2.2.1)), ((sset_k _ _ (by decide)).trans (hm.2.2.2.1)), ((sset_k _ _ (by decide)).trans (hm.2.2.2.2.1)), ((sset_k _ _ (by decide)).trans (hm.2.2.2.2.2.1)), ((sset_k _ _ (by decide)).trans (hm.2.2.2.2.2.2.1)), ((sset_k _ _ (by decide)).trans (hm.2.2.2.2.2.2.2.1)), ((sset_k _ _ (by decide)).trans (hm.2.2.2.2.2.2.2.2.1)), ((sset_k _ _ (by decide)).trans (hm.2.2.2.2.2.2.2.2.2.1)), ((sset_k _ _ (by decide)).trans (hm.2.2.2.2.2.2.2.2.2.2.1)), (sset_self _ _ _ _), ((sset_k _ _ (by decide)).trans (hm.2.2.2.2.2.2.2.2.2.2.2.2.1)), ((sset_k _ _ (by decide)).trans (hm.2.2.2.2.2.2.2.2.2.2.2.2.2))⟩ (hs |>.set (P := pMd) (by simp [pMd]) _) (fun k hk => by
      by_cases q : k = i
      · rw [q, vp_updL_at]; exact (by rw [i32_64, i32_add (by rw [e1]; exact e3) (by rw [e2]; exact e4), e1, e2]; rfl)
      · rw [vp_updL_no _ _ q]; exact hv k (by omega))
set_option maxHeartbeats 4000000 in
set_option maxRecDepth 100000 in
theorem l_fpA1 (X : sMach) (G : sG) (ad : sAd) (M0 : sM) (c0 : Int32) (t0 : Nat) (hd : Nat → Int32) (on : Nat → Int32) (tw : Nat → Int32) (dp : Nat → Int32) (cl : Nat → Int32) (gr : Nat → Int32) (r0 : Nat) (kd : Nat → Int32) (fl : Nat → Int32) (co : Nat → Int32) (sm : Nat → Int32) (sp : Nat → Int64) (b0 : Bool) (mu : Nat → Int32) (t : Nat) (htt : t < 120) (hh : hd t = 1) (ja : Nat) (hja : ja < 120) (A : Nat → Int) (hca : CRk cl ja A) (hab : ∀ y, -1000000 ≤ A y ∧ A y ≤ 1000000) (jb : Nat) (hjb : jb < 120) (B : Nat → Int) (hcb : CRk cl jb B) (hbb : ∀ y, -1000000 ≤ B y ∧ B y ≤ 1000000) (Q : State → Prop) (kont : ∀ (M : sM) (wk : Nat → Int64) , hMd G ad M (c0, t0, hd, on, tw, dp, cl, gr, r0, kd, fl, co, sm, wk, sp, b0, mu) → sSame pMd M0 M → (∀ k, k < 220 → (wk k).toInt = WF 1 A B (unp k)) → sW X G mX4_findPolynomial Q ad M 0 0 [some (.ref (ad 12 0)), some (.int (nI t)), some (.int (nI ja)), some (.int (nI jb)), none] 259 []) : ∀ (k i : Nat) (M : sM) (wk : Nat → Int64) , i + k = 220 → hMd G ad M (c0, t0, hd, on, tw, dp, cl, gr, r0, kd, fl, co, sm, wk, sp, b0, mu) → sSame pMd M0 M → (∀ k, k < i → (wk k).toInt = WF 1 A B (unp k)) → sW X G mX4_findPolynomial Q ad M 0 0 [some (.ref (ad 12 0)), some (.int (nI t)), some (.int (nI ja)), some (.int (nI jb)), some (.int (nI i))] 184 [] := by
  intro k
  induction k with
  | zero =>
    intro i M wk  hi hm hs hv
    refine s_iload dX4_findPolynomial_184 rfl ?_
    refine s_sipush (v := 220) dX4_findPolynomial_186 (by decide) ?_
    refine s_icmp_ge 259 dX4_findPolynomial_189 (by decide) (fun c189 => ?_) (fun c189 => absurd (nI_le (a := 220) (by omega) (by omega)) c189)
    refine s_drop 4 ?_
    exact kont M wk  hm hs (by rw [show i = 220 by omega] at hv; exact hv)
  | succ k ih =>
    intro i M wk  hi hm hs hv
    have e1 := hca i (by omega)
    have e2 := hcb i (by omega)
    have e3 := hab (unp i)
    have e4 := hbb (unp i)
    refine s_iload dX4_findPolynomial_184 rfl ?_
    refine s_sipush (v := 220) dX4_findPolynomial_186 (by decide) ?_
    refine s_icmp_ge 259 dX4_findPolynomial_189 (by decide) (fun c189 => absurd c189 (nI_ge (b := 220) (by omega) (by omega))) (fun c189 => ?_)
    refine s_aload_n dX4_findPolynomial_192 rfl ?_
    refine s_get (kd := 12) (ix := 0) (ci := 5) (fs := [.int c0, .int (nI t0), .ref (ad 13 0), .ref (ad 14 0), .ref (ad 15 0), .ref (ad 16 0), .ref (ad 17 0), .ref (ad 18 0), .int (nI r0), .ref (ad 19 0), .ref (ad 20 0), .ref (ad 21 0), .ref (ad 22 0), .ref (ad 23 0), .ref (ad 24 0), .int (jB b0), .ref (ad 25 0)])  hm.1 rfl in_X4_findPolynomial_X4 13 (by decide) (by decide +kernel) rfl rfl dX4_findPolynomial_193 ?_
    refine s_iload dX4_findPolynomial_196 rfl ?_
    refine s_aload_n dX4_findPolynomial_198 rfl ?_
    refine s_get (kd := 12) (ix := 0) (ci := 5) (fs := [.int c0, .int (nI t0), .ref (ad 13 0), .ref (ad 14 0), .ref (ad 15 0), .ref (ad 16 0), .ref (ad 17 0), .ref (ad 18 0), .int (nI r0), .ref (ad 19 0), .ref (ad 20 0), .ref (ad 21 0), .ref (ad 22 0), .ref (ad 23 0), .ref (ad 24 0), .int (jB b0), .ref (ad 25 0)])  hm.1 rfl in_X4_findPolynomial_X4 6 (by decide) (by decide +kernel) rfl rfl dX4_findPolynomial_199 ?_
    refine s_sipush (v := 220) dX4_findPolynomial_202 (by decide) ?_
    refine s_iload_n dX4_findPolynomial_205 rfl ?_
    refine s_imul dX4_findPolynomial_206 ?_
    refine s_eqi (y := nI (220 * ja)) (nI_mul 220 ja) ?_
    refine s_iload dX4_findPolynomial_207 rfl ?_
    refine s_iadd dX4_findPolynomial_209 ?_
    refine s_eqi (y := nI (220 * ja + i)) (nI_add _ _) ?_
    refine s_iald (kd := 17) (ix := 0) (n := 26400) (f := cl) (j := 220 * ja + i) hm.2.2.2.2.2.1 (rfl) (by omega) (by decide) dX4_findPolynomial_210 ?_
    refine s_aload_n dX4_findPolynomial_211 rfl ?_
    refine s_get (kd := 12) (ix := 0) (ci := 5) (fs := [.int c0, .int (nI t0), .ref (ad 13 0), .ref (ad 14 0), .ref (ad 15 0), .ref (ad 16 0), .ref (ad 17 0), .ref (ad 18 0), .int (nI r0), .ref (ad 19 0), .ref (ad 20 0), .ref (ad 21 0), .ref (ad 22 0), .ref (ad 23 0), .ref (ad 24 0), .int (jB b0), .ref (ad 25 0)])  hm.1 rfl in_X4_findPolynomial_X4 2 (by decide) (by decide +kernel) rfl rfl dX4_findPolynomial_212 ?_
    refine s_iload_n dX4_findPolynomial_215 rfl ?_
    refine s_iald (kd := 13) (ix := 0) (n := 120) (f := hd) (j := t) hm.2.1 (rfl) (by omega) (by decide) dX4_findPolynomial_216 ?_
    refine s_eqi (y := 1) (hh) ?_
    refine s_if_ne 236 dX4_findPolynomial_217 (by decide) (fun c217 => ?_) (fun c217 => absurd c217 (by decide))
    refine s_aload_n dX4_findPolynomial_236 rfl ?_
    refine s_get (kd := 12) (ix := 0) (ci := 5) (fs := [.int c0, .int (nI t0), .ref (ad 13 0), .ref (ad 14 0), .ref (ad 15 0), .ref (ad 16 0), .ref (ad 17 0), .ref (ad 18 0), .int (nI r0), .ref (ad 19 0), .ref (ad 20 0), .ref (ad 21 0), .ref (ad 22 0), .ref (ad 23 0), .ref (ad 24 0), .int (jB b0), .ref (ad 25 0)])  hm.1 rfl in_X4_findPolynomial_X4 6 (by decide) (by decide +kernel) rfl rfl dX4_findPolynomial_237 ?_
    refine s_sipush (v := 220) dX4_findPolynomial_240 (by decide) ?_
    refine s_iload_n dX4_findPolynomial_243 rfl ?_
    refine s_imul dX4_findPolynomial_244 ?_
    refine s_eqi (y := nI (220 * jb)) (nI_mul 220 jb) ?_
    refine s_iload dX4_findPolynomial_245 rfl ?_
    refine s_iadd dX4_findPolynomial_247 ?_
    refine s_eqi (y := nI (220 * jb + i)) (nI_add _ _) ?_
    refine s_iald (kd := 17) (ix := 0) (n := 26400) (f := cl) (j := 220 * jb + i) hm.2.2.2.2.2.1 (rfl) (by omega) (by decide) dX4_findPolynomial_248 ?_
    refine s_ineg dX4_findPolynomial_249 ?_
    refine s_iadd dX4_findPolynomial_250 ?_
    refine s_i2l dX4_findPolynomial_251 ?_
    refine s_last (kd := 23) (ix := 0) (n := 220) (f := wk) (j := i) (x := ((cl (220 * ja + i)) + (-(cl (220 * jb + i)))).toInt64) hm.2.2.2.2.2.2.2.2.2.2.2.1  (rfl) (by omega) (by decide) dX4_findPolynomial_252 ?_
    refine s_iinc (v := nI (i + 1)) dX4_findPolynomial_253 rfl (nI_1 i) rfl ?_
    refine s_lv (lv' := [some (.ref (ad 12 0)), some (.int (nI t)), some (.int (nI ja)), some (.int (nI jb)), some (.int (nI (i + 1)))]) rfl ?_
    refine s_goto 184 dX4_findPolynomial_256 (by decide) ?_
    exact ih (i + 1) (sset M 23 0 (.inl (gJ G, 220, .inr (.inl (vp_updL wk i (((cl (220 * ja + i)) + (-(cl (220 * jb + i)))).toInt64)))))) (vp_updL wk i (((cl (220 * ja + i)) + (-(cl (220 * jb + i)))).toInt64))  (by omega) ⟨((sset_k _ _ (by decide)).trans (hm.1)), ((sset_k _ _ (by decide)).trans (hm.2.1)), ((sset_k _ _ (by decide)).trans (hm.2.2.1)), ((sset_k _ _ (by decide)).trans (hm.2.2.2.1)), ((sset_k _ _ (by decide)).trans (hm.2.2.2.2.1)), ((sset_k _ _ (by decide)).trans (hm.2.2.2.2.2.1)), ((sset_k _ _ (by decide)).trans (hm.2.2.2.2.2.2.1)), ((sset_k _ _ (by decide)).trans (hm.2.2.2.2.2.2.2.1)), ((sset_k _ _ (by decide)).trans (hm.2.2.2.2.2.2.2.2.1)), ((sset_k _ _ (by decide)).trans (hm.2.2.2.2.2.2.2.2.2.1)), ((sset_k _ _ (by decide)).trans (hm.2.2.2.2.2.2.2.2.2.2.1)), (sset_self _ _ _ _), ((sset_k _ _ (by decide)).trans (hm.2.2.2.2.2.2.2.2.2.2.2.2.1)), ((sset_k _ _ (by decide)).trans (hm.2.2.2.2.2.2.2.2.2.2.2.2.2))⟩ (hs |>.set (P := pMd) (by simp [pMd]) _) (fun k hk => by
      by_cases q : k = i
      · rw [q, vp_updL_at]; exact (by rw [i32_64, i32_add (by rw [e1]; exact e3) (by rw [i32_neg (by rw [e2]; exact e4), e2]; omega), i32_neg (by rw [e2]; exact e4), e1, e2]; show _ = A (unp i) - B (unp i); omega)
      · rw [vp_updL_no _ _ q]; exact hv k (by omega))
set_option maxHeartbeats 4000000 in
set_option maxRecDepth 100000 in
theorem l_fpN (X : sMach) (G : sG) (ad : sAd) (M0 : sM) (c0 : Int32) (t0 : Nat) (hd : Nat → Int32) (on : Nat → Int32) (tw : Nat → Int32) (dp : Nat → Int32) (cl : Nat → Int32) (gr : Nat → Int32) (r0 : Nat) (kd : Nat → Int32) (fl : Nat → Int32) (co : Nat → Int32) (sm : Nat → Int32) (sp : Nat → Int64) (b0 : Bool) (mu : Nat → Int32) (t : Nat) (a3 : Int32) (ja : Nat) (hja : ja < 120) (A : Nat → Int) (hca : CRk cl ja A) (hab : ∀ y, -1000000 ≤ A y ∧ A y ≤ 1000000) (Q : State → Prop) (kont : ∀ (M : sM) (wk : Nat → Int64) , hMd G ad M (c0, t0, hd, on, tw, dp, cl, gr, r0, kd, fl, co, sm, wk, sp, b0, mu) → sSame pMd M0 M → (∀ k, k < 220 → (wk k).toInt = - A (unp k)) → sW X G mX4_findPolynomial Q ad M 0 0 [some (.ref (ad 12 0)), some (.int (nI t)), some (.int (nI ja)), some (.int a3), none] 319 []) : ∀ (k i : Nat) (M : sM) (wk : Nat → Int64) , i + k = 220 → hMd G ad M (c0, t0, hd, on, tw, dp, cl, gr, r0, kd, fl, co, sm, wk, sp, b0, mu) → sSame pMd M0 M → (∀ k, k < i → (wk k).toInt = - A (unp k)) → sW X G mX4_findPolynomial Q ad M 0 0 [some (.ref (ad 12 0)), some (.int (nI t)), some (.int (nI ja)), some (.int a3), some (.int (nI i))] 283 [] := by
  intro k
  induction k with
  | zero =>
    intro i M wk  hi hm hs hv
    refine s_iload dX4_findPolynomial_283 rfl ?_
    refine s_sipush (v := 220) dX4_findPolynomial_285 (by decide) ?_
    refine s_icmp_ge 319 dX4_findPolynomial_288 (by decide) (fun c288 => ?_) (fun c288 => absurd (nI_le (a := 220) (by omega) (by omega)) c288)
    refine s_drop 4 ?_
    exact kont M wk  hm hs (by rw [show i = 220 by omega] at hv; exact hv)
  | succ k ih =>
    intro i M wk  hi hm hs hv
    refine s_iload dX4_findPolynomial_283 rfl ?_
    refine s_sipush (v := 220) dX4_findPolynomial_285 (by decide) ?_
    refine s_icmp_ge 319 dX4_findPolynomial_288 (by decide) (fun c288 => absurd c288 (nI_ge (b := 220) (by omega) (by omega))) (fun c288 => ?_)
    refine s_aload_n dX4_findPolynomial_291 rfl ?_
    refine s_get (kd := 12) (ix := 0) (ci := 5) (fs := [.int c0, .int (nI t0), .ref (ad 13 0), .ref (ad 14 0), .ref (ad 15 0), .ref (ad 16 0), .ref (ad 17 0), .ref (ad 18 0), .int (nI r0), .ref (ad 19 0), .ref (ad 20 0), .ref (ad 21 0), .ref (ad 22 0), .ref (ad 23 0), .ref (ad 24 0), .int (jB b0), .ref (ad 25 0)])  hm.1 rfl in_X4_findPolynomial_X4 13 (by decide) (by decide +kernel) rfl rfl dX4_findPolynomial_292 ?_
    refine s_iload dX4_findPolynomial_295 rfl ?_
    refine s_aload_n dX4_findPolynomial_297 rfl ?_
    refine s_get (kd := 12) (ix := 0) (ci := 5) (fs := [.int c0, .int (nI t0), .ref (ad 13 0), .ref (ad 14 0), .ref (ad 15 0), .ref (ad 16 0), .ref (ad 17 0), .ref (ad 18 0), .int (nI r0), .ref (ad 19 0), .ref (ad 20 0), .ref (ad 21 0), .ref (ad 22 0), .ref (ad 23 0), .ref (ad 24 0), .int (jB b0), .ref (ad 25 0)])  hm.1 rfl in_X4_findPolynomial_X4 6 (by decide) (by decide +kernel) rfl rfl dX4_findPolynomial_298 ?_
    refine s_sipush (v := 220) dX4_findPolynomial_301 (by decide) ?_
    refine s_iload_n dX4_findPolynomial_304 rfl ?_
    refine s_imul dX4_findPolynomial_305 ?_
    refine s_eqi (y := nI (220 * ja)) (nI_mul 220 ja) ?_
    refine s_iload dX4_findPolynomial_306 rfl ?_
    refine s_iadd dX4_findPolynomial_308 ?_
    refine s_eqi (y := nI (220 * ja + i)) (nI_add _ _) ?_
    refine s_iald (kd := 17) (ix := 0) (n := 26400) (f := cl) (j := 220 * ja + i) hm.2.2.2.2.2.1 (rfl) (by omega) (by decide) dX4_findPolynomial_309 ?_
    refine s_ineg dX4_findPolynomial_310 ?_
    refine s_i2l dX4_findPolynomial_311 ?_
    refine s_last (kd := 23) (ix := 0) (n := 220) (f := wk) (j := i) (x := (-(cl (220 * ja + i))).toInt64) hm.2.2.2.2.2.2.2.2.2.2.2.1  (rfl) (by omega) (by decide) dX4_findPolynomial_312 ?_
    refine s_iinc (v := nI (i + 1)) dX4_findPolynomial_313 rfl (nI_1 i) rfl ?_
    refine s_lv (lv' := [some (.ref (ad 12 0)), some (.int (nI t)), some (.int (nI ja)), some (.int a3), some (.int (nI (i + 1)))]) rfl ?_
    refine s_goto 283 dX4_findPolynomial_316 (by decide) ?_
    exact ih (i + 1) (sset M 23 0 (.inl (gJ G, 220, .inr (.inl (vp_updL wk i ((-(cl (220 * ja + i))).toInt64)))))) (vp_updL wk i ((-(cl (220 * ja + i))).toInt64))  (by omega) ⟨((sset_k _ _ (by decide)).trans (hm.1)), ((sset_k _ _ (by decide)).trans (hm.2.1)), ((sset_k _ _ (by decide)).trans (hm.2.2.1)), ((sset_k _ _ (by decide)).trans (hm.2.2.2.1)), ((sset_k _ _ (by decide)).trans (hm.2.2.2.2.1)), ((sset_k _ _ (by decide)).trans (hm.2.2.2.2.2.1)), ((sset_k _ _ (by decide)).trans (hm.2.2.2.2.2.2.1)), ((sset_k _ _ (by decide)).trans (hm.2.2.2.2.2.2.2.1)), ((sset_k _ _ (by decide)).trans (hm.2.2.2.2.2.2.2.2.1)), ((sset_k _ _ (by decide)).trans (hm.2.2.2.2.2.2.2.2.2.1)), ((sset_k _ _ (by decide)).trans (hm.2.2.2.2.2.2.2.2.2.2.1)), (sset_self _ _ _ _), ((sset_k _ _ (by decide)).trans (hm.2.2.2.2.2.2.2.2.2.2.2.2.1)), ((sset_k _ _ (by decide)).trans (hm.2.2.2.2.2.2.2.2.2.2.2.2.2))⟩ (hs |>.set (P := pMd) (by simp [pMd]) _) (fun k hk => by
      by_cases q : k = i
      · rw [q, vp_updL_at, i32_64, i32_neg (by rw [hca i (by omega)]; exact hab _), hca i (by omega)]
      · rw [vp_updL_no _ _ q]; exact hv k (by omega))
set_option maxHeartbeats 4000000 in
set_option maxRecDepth 100000 in
theorem fp_tail (X : sMach) (G : sG) (ad : sAd) (M0 M : sM) (c0 : Int32) (t0 : Nat) (hd : Nat → Int32) (on : Nat → Int32) (tw : Nat → Int32) (dp : Nat → Int32) (cl : Nat → Int32) (gr : Nat → Int32) (r0 : Nat) (kd : Nat → Int32) (fl : Nat → Int32) (co : Nat → Int32) (sm : Nat → Int32) (wk : Nat → Int64) (sp : Nat → Int64) (b0 : Bool) (mu : Nat → Int32) (hm : hMd G ad M (c0, t0, hd, on, tw, dp, cl, gr, r0, kd, fl, co, sm, wk, sp, b0, mu)) (hs : sSame pMd M0 M) (clo gro : Nat → Int32) (t : Nat) (htt : t < 120) (f : Nat → Int) (hgf : gz f) (hwr : WRk wk f) (hoc : (∀ j k, j ≠ t → k < 220 → cl (220 * j + k) = clo (220 * j + k))) (hog : (∀ j, j ≠ t → gr j = gro j)) (g : Prop) (P : Nat → Int) (hg1 : (b0 = true ∨ ¬ fitsP f) ↔ g) (hg2 : g → P = fun _ => 0) (hg3 : ¬ g → P = f) (a2 a3 : Int32) : sW X G mX4_findPolynomial (sQ X G mX4_findPolynomial (fun r ad' M' => ad = ad' ∧ r = none ∧ ∃ cl' gr' wk' b', hMd G ad M' (c0, t0, hd, on, tw, dp, cl', gr', r0, kd, fl, co, sm, wk', sp, b', mu) ∧ sSame pMd M0 M' ∧ (∀ j k, j ≠ t → k < 220 → cl' (220 * j + k) = clo (220 * j + k)) ∧ (∀ j, j ≠ t → gr' j = gro j) ∧ (gr' t ≠ 0 ↔ g) ∧ CRk cl' t P) (fun _ _ _ => False)) ad M 0 0 [some (.ref (ad 12 0)), some (.int (nI t)), some (.int a2), some (.int a3), none] 394 [] := by
  refine s_aload_n dX4_findPolynomial_394 rfl ?_
  refine s_callV (As := []) (rest := []) (n := 0) (kd := 12) (ix := 0) (fun l hl => c_X4_bound G l hl ad M c0 t0 hd on tw dp cl gr r0 kd fl co sm wk sp b0 mu ⟨hm.1, hm.2.1, hm.2.2.1, hm.2.2.2.1, hm.2.2.2.2.1, hm.2.2.2.2.2.1, hm.2.2.2.2.2.2.1, hm.2.2.2.2.2.2.2.1, hm.2.2.2.2.2.2.2.2.1, hm.2.2.2.2.2.2.2.2.2.1, hm.2.2.2.2.2.2.2.2.2.2.1, hm.2.2.2.2.2.2.2.2.2.2.2.1, hm.2.2.2.2.2.2.2.2.2.2.2.2.1, hm.2.2.2.2.2.2.2.2.2.2.2.2.2⟩ f hgf hwr) gX4_findPolynomial_X4_bound rfl (by decide +kernel) hm.1 rfl rfl ⟨(Nat.le_of_ble_eq_true rfl), (Nat.le_of_ble_eq_true rfl)⟩ ⟨(Nat.le_of_ble_eq_true rfl), (Nat.le_of_ble_eq_true rfl)⟩ (Nat.le_of_ble_eq_true rfl) dX4_findPolynomial_395 rfl (fun r30 ad30 M30 h30 => ?_)
  obtain ⟨rfl, rfl, b30, hm30, hs30, hb30⟩ := h30
  refine s_aload_n dX4_findPolynomial_398 rfl ?_
  refine s_get (kd := 12) (ix := 0) (ci := 5) (fs := [.int c0, .int (nI t0), .ref (ad 13 0), .ref (ad 14 0), .ref (ad 15 0), .ref (ad 16 0), .ref (ad 17 0), .ref (ad 18 0), .int (nI r0), .ref (ad 19 0), .ref (ad 20 0), .ref (ad 21 0), .ref (ad 22 0), .ref (ad 23 0), .ref (ad 24 0), .int (jB b30), .ref (ad 25 0)])  hm30.1 rfl in_X4_findPolynomial_X4 7 (by decide) (by decide +kernel) rfl rfl dX4_findPolynomial_399 ?_
  refine s_iload_n dX4_findPolynomial_402 rfl ?_
  refine s_aload_n dX4_findPolynomial_403 rfl ?_
  refine s_get (kd := 12) (ix := 0) (ci := 5) (fs := [.int c0, .int (nI t0), .ref (ad 13 0), .ref (ad 14 0), .ref (ad 15 0), .ref (ad 16 0), .ref (ad 17 0), .ref (ad 18 0), .int (nI r0), .ref (ad 19 0), .ref (ad 20 0), .ref (ad 21 0), .ref (ad 22 0), .ref (ad 23 0), .ref (ad 24 0), .int (jB b30), .ref (ad 25 0)])  hm30.1 rfl in_X4_findPolynomial_X4 15 (by decide) (by decide +kernel) rfl rfl dX4_findPolynomial_404 ?_
  refine s_zast (kd := 18) (ix := 0) (n := 120) (f := gr) (j := t) (x := jB b30) hm30.2.2.2.2.2.2.1 (jB_vn _) (rfl) (by omega) (by decide) dX4_findPolynomial_407 ?_
  refine s_iconst (v := 0) dX4_findPolynomial_408 (by decide) ?_
  refine s_istore dX4_findPolynomial_409 rfl rfl ?_
  refine s_lv (lv' := [some (.ref (ad 12 0)), some (.int (nI t)), some (.int a2), some (.int a3), some (.int 0)]) rfl ?_
  have hbg : b30 = true ↔ g := hb30.trans hg1
  have hin : b30 = false → ∀ k, k < 220 → ¬ out6 (f (unp k)) := fun q => ((fits220 hgf).mp (Classical.byContradiction (fun z => by rw [hb30.mpr (Or.inr z)] at q; cases q))).1
  refine l_fpS X G ad M0 c0 t0 hd on tw dp (upd gr t (jB b30)) r0 kd fl co sm wk sp b30 mu t htt a2 a3 clo f P hwr hin (fun q => hg2 (hbg.mp q)) (fun q => hg3 (fun z => by rw [hbg.mpr z] at q; cases q)) _ (fun M31 cl31  hm31 hs31 hv31 => ?_) (220) 0 (sset M30 18 0 (.inl (gZ G, 120, .inl (upd gr t (jB b30))))) cl  (by omega) ⟨((sset_k _ _ (by decide)).trans (hm30.1)), ((sset_k _ _ (by decide)).trans (hm30.2.1)), ((sset_k _ _ (by decide)).trans (hm30.2.2.1)), ((sset_k _ _ (by decide)).trans (hm30.2.2.2.1)), ((sset_k _ _ (by decide)).trans (hm30.2.2.2.2.1)), ((sset_k _ _ (by decide)).trans (hm30.2.2.2.2.2.1)), (sset_self _ _ _ _), ((sset_k _ _ (by decide)).trans (hm30.2.2.2.2.2.2.2.1)), ((sset_k _ _ (by decide)).trans (hm30.2.2.2.2.2.2.2.2.1)), ((sset_k _ _ (by decide)).trans (hm30.2.2.2.2.2.2.2.2.2.1)), ((sset_k _ _ (by decide)).trans (hm30.2.2.2.2.2.2.2.2.2.2.1)), ((sset_k _ _ (by decide)).trans (hm30.2.2.2.2.2.2.2.2.2.2.2.1)), ((sset_k _ _ (by decide)).trans (hm30.2.2.2.2.2.2.2.2.2.2.2.2.1)), ((sset_k _ _ (by decide)).trans (hm30.2.2.2.2.2.2.2.2.2.2.2.2.2))⟩ ((hs.trans hs30) |>.set (P := pMd) (by simp [pMd]) _) (⟨fun k hk => absurd hk (Nat.not_lt_zero k), hoc⟩)
  exact s_vret rfl dX4_findPolynomial_457 (Nat.le_of_ble_eq_true rfl) (Nat.le_of_ble_eq_true rfl) (⟨rfl, rfl, _, _, _, _, hm31, hs31, hv31.2, (fun j hj => (upd_no _ _ hj).trans (hog j hj)), by rw [upd_at]; exact (not_congr jB_0).trans ⟨fun q => hbg.mp (Bool.of_not_eq_false q), fun q z => by rw [hbg.mpr q] at z; cases z⟩, hv31.1⟩)
