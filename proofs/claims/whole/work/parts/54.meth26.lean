abbrev mX4_isZeroAt : sMeth := (cX4_isZeroAt, 9, RX4, wsX4_isZeroAt, { frames := 2, cells := 0, slots := 0, locals := 42 }, (some .boolean), "isZeroAt", [])
theorem in_X4_isZeroAt_X4 : ∀ w ∈ wsX40, w ∈ wsX4_isZeroAt := by decide +kernel
set_option maxHeartbeats 4000000 in
set_option maxRecDepth 100000 in
theorem l_X4_isZeroAt0 (X : sMach) (G : sG) (ad : sAd) (M0 : sM) (c0 : Int32) (t0 : Nat) (hd : Nat → Int32) (on : Nat → Int32) (tw : Nat → Int32) (dp : Nat → Int32) (cl : Nat → Int32) (gr : Nat → Int32) (r0 : Nat) (kd : Nat → Int32) (fl : Nat → Int32) (co : Nat → Int32) (sm : Nat → Int32) (wk : Nat → Int64) (b0 : Bool) (mu : Nat → Int32) (t : Nat) (v : Int32) (lt : Nat) (Q : State → Prop) (kont : ∀ (M : sM) (sp : Nat → Int64) , hMd G ad M (c0, t0, hd, on, tw, dp, cl, gr, r0, kd, fl, co, sm, wk, sp, b0, mu) → sSame pMd M0 M → z220 sp 220 → sW X G mX4_isZeroAt Q ad M 0 0 [some (.ref (ad 12 0)), some (.int (nI t)), some (.int v), some (.int (nI lt)), none, none, none, none, none] 25 []) : ∀ (k i : Nat) (M : sM) (sp : Nat → Int64) , i + k = 220 → hMd G ad M (c0, t0, hd, on, tw, dp, cl, gr, r0, kd, fl, co, sm, wk, sp, b0, mu) → sSame pMd M0 M → z220 sp i → sW X G mX4_isZeroAt Q ad M 0 0 [some (.ref (ad 12 0)), some (.int (nI t)), some (.int v), some (.int (nI lt)), some (.int (nI i)), none, none, none, none] 3 [] := by
  intro k
  induction k with
  | zero =>
    intro i M sp  hi hm hs hv
    refine s_iload dX4_isZeroAt_3 rfl ?_
    refine s_sipush (v := 220) dX4_isZeroAt_5 (by decide) ?_
    refine s_icmp_ge 25 dX4_isZeroAt_8 (by decide) (fun c8 => ?_) (fun c8 => absurd (nI_le (a := 220) (by omega) (by omega)) c8)
    refine s_drop 4 ?_
    exact kont M sp  hm hs (by rw [show i = 220 by omega] at hv; exact hv)
  | succ k ih =>
    intro i M sp  hi hm hs hv
    refine s_iload dX4_isZeroAt_3 rfl ?_
    refine s_sipush (v := 220) dX4_isZeroAt_5 (by decide) ?_
    refine s_icmp_ge 25 dX4_isZeroAt_8 (by decide) (fun c8 => absurd c8 (nI_ge (b := 220) (by omega) (by omega))) (fun c8 => ?_)
    refine s_aload_n dX4_isZeroAt_11 rfl ?_
    refine s_get (kd := 12) (ix := 0) (ci := 5) (fs := [.int c0, .int (nI t0), .ref (ad 13 0), .ref (ad 14 0), .ref (ad 15 0), .ref (ad 16 0), .ref (ad 17 0), .ref (ad 18 0), .int (nI r0), .ref (ad 19 0), .ref (ad 20 0), .ref (ad 21 0), .ref (ad 22 0), .ref (ad 23 0), .ref (ad 24 0), .int (jB b0), .ref (ad 25 0)])  hm.1 rfl in_X4_isZeroAt_X4 14 (by decide) (by decide +kernel) rfl rfl dX4_isZeroAt_12 ?_
    refine s_iload dX4_isZeroAt_15 rfl ?_
    refine s_lconst (v := 0) dX4_isZeroAt_17 (by decide) ?_
    refine s_last (kd := 24) (ix := 0) (n := 220) (f := sp) (j := i) (x := 0) hm.2.2.2.2.2.2.2.2.2.2.2.2.1  (rfl) (by omega) (by decide) dX4_isZeroAt_18 ?_
    refine s_iinc (v := nI (i + 1)) dX4_isZeroAt_19 rfl (nI_1 i) rfl ?_
    refine s_lv (lv' := [some (.ref (ad 12 0)), some (.int (nI t)), some (.int v), some (.int (nI lt)), some (.int (nI (i + 1))), none, none, none, none]) rfl ?_
    refine s_goto 3 dX4_isZeroAt_22 (by decide) ?_
    exact ih (i + 1) (sset M 24 0 (.inl (gJ G, 220, .inr (.inl (vp_updL sp i 0))))) (vp_updL sp i 0)  (by omega) ⟨((sset_k _ _ (by decide)).trans (hm.1)), ((sset_k _ _ (by decide)).trans (hm.2.1)), ((sset_k _ _ (by decide)).trans (hm.2.2.1)), ((sset_k _ _ (by decide)).trans (hm.2.2.2.1)), ((sset_k _ _ (by decide)).trans (hm.2.2.2.2.1)), ((sset_k _ _ (by decide)).trans (hm.2.2.2.2.2.1)), ((sset_k _ _ (by decide)).trans (hm.2.2.2.2.2.2.1)), ((sset_k _ _ (by decide)).trans (hm.2.2.2.2.2.2.2.1)), ((sset_k _ _ (by decide)).trans (hm.2.2.2.2.2.2.2.2.1)), ((sset_k _ _ (by decide)).trans (hm.2.2.2.2.2.2.2.2.2.1)), ((sset_k _ _ (by decide)).trans (hm.2.2.2.2.2.2.2.2.2.2.1)), ((sset_k _ _ (by decide)).trans (hm.2.2.2.2.2.2.2.2.2.2.2.1)), (sset_self _ _ _ _), ((sset_k _ _ (by decide)).trans (hm.2.2.2.2.2.2.2.2.2.2.2.2.2))⟩ (hs |>.set (P := pMd) (by simp [pMd]) _) (hv.step)
set_option maxHeartbeats 4000000 in
set_option maxRecDepth 100000 in
theorem l_X4_isZeroAt (X : sMach) (G : sG) (ad : sAd) (M0 : sM) (c0 : Int32) (t0 : Nat) (hd : Nat → Int32) (on : Nat → Int32) (tw : Nat → Int32) (dp : Nat → Int32) (cl : Nat → Int32) (gr : Nat → Int32) (r0 : Nat) (kd : Nat → Int32) (fl : Nat → Int32) (co : Nat → Int32) (sm : Nat → Int32) (wk : Nat → Int64) (b0 : Bool) (mu : Nat → Int32) (t : Nat) (htt : t < 120) (P : Nat → Int) (hg : gz P) (hcr : CRk cl t P) (hpb : ∀ y, -1000000 ≤ P y ∧ P y ≤ 1000000) (v : Int32) (hv10 : -10 ≤ v.toInt ∧ v.toInt ≤ 10) (lt : Nat) (hl2 : lt ≤ 2) (Q : State → Prop) (kont : ∀ (M : sM) (sp : Nat → Int64) , hMd G ad M (c0, t0, hd, on, tw, dp, cl, gr, r0, kd, fl, co, sm, wk, sp, b0, mu) → sSame pMd M0 M → WRk sp (fun u9 => 0 + sN ((subT lt v.toInt P) u9) 1000) → sW X G mX4_isZeroAt Q ad M 0 0 [some (.ref (ad 12 0)), some (.int (nI t)), some (.int v), some (.int (nI lt)), none, none, none, none, none] 181 []) : ∀ (n x y z : Nat) (M : sM) (sp : Nat → Int64) , x + y ≤ 9 → x + y + z ≤ 9 + 1 → 1400 ≤ 121 * x + 11 * y + z + n → hMd G ad M (c0, t0, hd, on, tw, dp, cl, gr, r0, kd, fl, co, sm, wk, sp, b0, mu) → sSame pMd M0 M → WRk sp (fun u9 => 0 + sN ((subT lt v.toInt P) u9) (100 * x + 10 * y + z)) → sW X G mX4_isZeroAt Q ad M 0 0 [some (.ref (ad 12 0)), some (.int (nI t)), some (.int v), some (.int (nI lt)), some (.int (nI x)), some (.int (nI y)), some (.int (nI z)), none, none] 51 [] := by
  intro n
  induction n with
  | zero => intro x y z M sp  hxy hxyz hn; exact absurd hn (by omega)
  | succ n ih =>
    intro x y z M sp  hxy hxyz hn hm hs hv
    rcases Nat.lt_or_ge 9 (x + y + z) with hB | hB
    · rcases Nat.lt_or_ge 9 (x + y + 1) with hB2 | hB2
      · rcases Nat.lt_or_ge 9 (x + 1) with hB3 | hB3
        · refine s_iload dX4_isZeroAt_51 rfl ?_
          refine s_iload dX4_isZeroAt_53 rfl ?_
          refine s_iadd dX4_isZeroAt_55 ?_
          refine s_eqi (y := nI (x + y)) (nI_add _ _) ?_
          refine s_iload dX4_isZeroAt_56 rfl ?_
          refine s_iadd dX4_isZeroAt_58 ?_
          refine s_eqi (y := nI ((x + y) + z)) (nI_add _ _) ?_
          refine s_bipush (v := 10) dX4_isZeroAt_59 (by decide) ?_
          refine s_icmp_ge 169 dX4_isZeroAt_61 (by decide) (fun c61 => ?_) (fun c61 => absurd (nI_le (a := 10) (by omega) (by omega)) c61)
          refine s_iinc (v := nI (y + 1)) dX4_isZeroAt_169 rfl (nI_1 _) rfl ?_
          refine s_lv (lv' := [some (.ref (ad 12 0)), some (.int (nI t)), some (.int v), some (.int (nI lt)), some (.int (nI x)), some (.int (nI (y + 1))), some (.int (nI z)), none, none]) rfl ?_
          refine s_goto 38 dX4_isZeroAt_172 (by decide) ?_
          refine s_iload dX4_isZeroAt_38 rfl ?_
          refine s_iload dX4_isZeroAt_40 rfl ?_
          refine s_iadd dX4_isZeroAt_42 ?_
          refine s_eqi (y := nI (x + (y + 1))) (nI_add _ _) ?_
          refine s_bipush (v := 10) dX4_isZeroAt_43 (by decide) ?_
          refine s_icmp_ge 175 dX4_isZeroAt_45 (by decide) (fun c45 => ?_) (fun c45 => absurd (nI_le (a := 10) (by omega) (by omega)) c45)
          refine s_iinc (v := nI (x + 1)) dX4_isZeroAt_175 rfl (nI_1 _) rfl ?_
          refine s_lv (lv' := [some (.ref (ad 12 0)), some (.int (nI t)), some (.int v), some (.int (nI lt)), some (.int (nI (x + 1))), some (.int (nI (y + 1))), some (.int (nI z)), none, none]) rfl ?_
          refine s_goto 28 dX4_isZeroAt_178 (by decide) ?_
          refine s_iload dX4_isZeroAt_28 rfl ?_
          refine s_bipush (v := 10) dX4_isZeroAt_30 (by decide) ?_
          refine s_icmp_ge 181 dX4_isZeroAt_32 (by decide) (fun c32 => ?_) (fun c32 => absurd (nI_le (a := 10) (by omega) (by omega)) c32)
          refine s_drop 4 ?_
          refine s_drop 5 ?_
          refine s_drop 6 ?_
          exact kont M sp  hm hs (WRk.skip (T := (subT lt v.toInt P)) (f := fun _ => 0) (B := 9) hv (by omega) (skp3 hB hB2 hB3 (by omega)) (fun y w hw => subT_0 (Classical.byContradiction (fun q => absurd (hg w q).2 (by omega))) y))
        · refine s_iload dX4_isZeroAt_51 rfl ?_
          refine s_iload dX4_isZeroAt_53 rfl ?_
          refine s_iadd dX4_isZeroAt_55 ?_
          refine s_eqi (y := nI (x + y)) (nI_add _ _) ?_
          refine s_iload dX4_isZeroAt_56 rfl ?_
          refine s_iadd dX4_isZeroAt_58 ?_
          refine s_eqi (y := nI ((x + y) + z)) (nI_add _ _) ?_
          refine s_bipush (v := 10) dX4_isZeroAt_59 (by decide) ?_
          refine s_icmp_ge 169 dX4_isZeroAt_61 (by decide) (fun c61 => ?_) (fun c61 => absurd (nI_le (a := 10) (by omega) (by omega)) c61)
          refine s_iinc (v := nI (y + 1)) dX4_isZeroAt_169 rfl (nI_1 _) rfl ?_
          refine s_lv (lv' := [some (.ref (ad 12 0)), some (.int (nI t)), some (.int v), some (.int (nI lt)), some (.int (nI x)), some (.int (nI (y + 1))), some (.int (nI z)), none, none]) rfl ?_
          refine s_goto 38 dX4_isZeroAt_172 (by decide) ?_
          refine s_iload dX4_isZeroAt_38 rfl ?_
          refine s_iload dX4_isZeroAt_40 rfl ?_
          refine s_iadd dX4_isZeroAt_42 ?_
          refine s_eqi (y := nI (x + (y + 1))) (nI_add _ _) ?_
          refine s_bipush (v := 10) dX4_isZeroAt_43 (by decide) ?_
          refine s_icmp_ge 175 dX4_isZeroAt_45 (by decide) (fun c45 => ?_) (fun c45 => absurd (nI_le (a := 10) (by omega) (by omega)) c45)
          refine s_iinc (v := nI (x + 1)) dX4_isZeroAt_175 rfl (nI_1 _) rfl ?_
          refine s_lv (lv' := [some (.ref (ad 12 0)), some (.int (nI t)), some (.int v), some (.int (nI lt)), some (.int (nI (x + 1))), some (.int (nI (y + 1))), some (.int (nI z)), none, none]) rfl ?_
          refine s_goto 28 dX4_isZeroAt_178 (by decide) ?_
          refine s_iload dX4_isZeroAt_28 rfl ?_
          refine s_bipush (v := 10) dX4_isZeroAt_30 (by decide) ?_
          refine s_icmp_ge 181 dX4_isZeroAt_32 (by decide) (fun c32 => absurd c32 (nI_ge (b := 10) (by omega) (by omega))) (fun c32 => ?_)
          refine s_iconst (v := 0) dX4_isZeroAt_35 (by decide) ?_
          refine s_istore dX4_isZeroAt_36 rfl rfl ?_
          refine s_lv (lv' := [some (.ref (ad 12 0)), some (.int (nI t)), some (.int v), some (.int (nI lt)), some (.int (nI (x + 1))), some (.int 0), some (.int (nI z)), none, none]) rfl ?_
          refine s_iload dX4_isZeroAt_38 rfl ?_
          refine s_iload dX4_isZeroAt_40 rfl ?_
          refine s_iadd dX4_isZeroAt_42 ?_
          refine s_eqi (y := nI ((x + 1) + 0)) (nI_add _ _) ?_
          refine s_bipush (v := 10) dX4_isZeroAt_43 (by decide) ?_
          refine s_icmp_ge 175 dX4_isZeroAt_45 (by decide) (fun c45 => absurd c45 (nI_ge (b := 10) (by omega) (by omega))) (fun c45 => ?_)
          refine s_iconst (v := 0) dX4_isZeroAt_48 (by decide) ?_
          refine s_istore dX4_isZeroAt_49 rfl rfl ?_
          refine s_lv (lv' := [some (.ref (ad 12 0)), some (.int (nI t)), some (.int v), some (.int (nI lt)), some (.int (nI (x + 1))), some (.int 0), some (.int 0), none, none]) rfl ?_
          exact ih (x + 1) 0 0 M sp  (by omega) (by omega) (by omega) hm hs (WRk.skip (T := (subT lt v.toInt P)) (f := fun _ => 0) (B := 9) hv (by omega) (skp2 hB hB2 (by omega)) (fun y w hw => subT_0 (Classical.byContradiction (fun q => absurd (hg w q).2 (by omega))) y))
      · refine s_iload dX4_isZeroAt_51 rfl ?_
        refine s_iload dX4_isZeroAt_53 rfl ?_
        refine s_iadd dX4_isZeroAt_55 ?_
        refine s_eqi (y := nI (x + y)) (nI_add _ _) ?_
        refine s_iload dX4_isZeroAt_56 rfl ?_
        refine s_iadd dX4_isZeroAt_58 ?_
        refine s_eqi (y := nI ((x + y) + z)) (nI_add _ _) ?_
        refine s_bipush (v := 10) dX4_isZeroAt_59 (by decide) ?_
        refine s_icmp_ge 169 dX4_isZeroAt_61 (by decide) (fun c61 => ?_) (fun c61 => absurd (nI_le (a := 10) (by omega) (by omega)) c61)
        refine s_iinc (v := nI (y + 1)) dX4_isZeroAt_169 rfl (nI_1 _) rfl ?_
        refine s_lv (lv' := [some (.ref (ad 12 0)), some (.int (nI t)), some (.int v), some (.int (nI lt)), some (.int (nI x)), some (.int (nI (y + 1))), some (.int (nI z)), none, none]) rfl ?_
        refine s_goto 38 dX4_isZeroAt_172 (by decide) ?_
        refine s_iload dX4_isZeroAt_38 rfl ?_
        refine s_iload dX4_isZeroAt_40 rfl ?_
        refine s_iadd dX4_isZeroAt_42 ?_
        refine s_eqi (y := nI (x + (y + 1))) (nI_add _ _) ?_
        refine s_bipush (v := 10) dX4_isZeroAt_43 (by decide) ?_
        refine s_icmp_ge 175 dX4_isZeroAt_45 (by decide) (fun c45 => absurd c45 (nI_ge (b := 10) (by omega) (by omega))) (fun c45 => ?_)
        refine s_iconst (v := 0) dX4_isZeroAt_48 (by decide) ?_
        refine s_istore dX4_isZeroAt_49 rfl rfl ?_
        refine s_lv (lv' := [some (.ref (ad 12 0)), some (.int (nI t)), some (.int v), some (.int (nI lt)), some (.int (nI x)), some (.int (nI (y + 1))), some (.int 0), none, none]) rfl ?_
        exact ih x (y + 1) 0 M sp  (by omega) (by omega) (by omega) hm hs (WRk.skip (T := (subT lt v.toInt P)) (f := fun _ => 0) (B := 9) hv (by omega) (skp1 hB (by omega)) (fun y w hw => subT_0 (Classical.byContradiction (fun q => absurd (hg w q).2 (by omega))) y))
    · have hgd : good (100 * x + 10 * y + z) := good_dig (by omega)
      have hpd2 := pl_dig (i := x) (j := y) (k := z) (by omega) (by omega)
      have hplt := (pl_facts hgd).1
      rw [hpd2] at hplt
      have hcv := hcr.at hgd
      rw [hpd2] at hcv
      have hg1 := hgd.1
      obtain ⟨hd0, hd1, hd2⟩ := dg3_dig (x := x) (y := y) (z := z) (by omega) (by omega)
      refine s_iload dX4_isZeroAt_51 rfl ?_
      refine s_iload dX4_isZeroAt_53 rfl ?_
      refine s_iadd dX4_isZeroAt_55 ?_
      refine s_eqi (y := nI (x + y)) (nI_add _ _) ?_
      refine s_iload dX4_isZeroAt_56 rfl ?_
      refine s_iadd dX4_isZeroAt_58 ?_
      refine s_eqi (y := nI ((x + y) + z)) (nI_add _ _) ?_
      refine s_bipush (v := 10) dX4_isZeroAt_59 (by decide) ?_
      refine s_icmp_ge 169 dX4_isZeroAt_61 (by decide) (fun c61 => absurd c61 (nI_ge (b := 10) (by omega) (by omega))) (fun c61 => ?_)
      refine s_aload_n dX4_isZeroAt_64 rfl ?_
      refine s_get (kd := 12) (ix := 0) (ci := 5) (fs := [.int c0, .int (nI t0), .ref (ad 13 0), .ref (ad 14 0), .ref (ad 15 0), .ref (ad 16 0), .ref (ad 17 0), .ref (ad 18 0), .int (nI r0), .ref (ad 19 0), .ref (ad 20 0), .ref (ad 21 0), .ref (ad 22 0), .ref (ad 23 0), .ref (ad 24 0), .int (jB b0), .ref (ad 25 0)])  hm.1 rfl in_X4_isZeroAt_X4 6 (by decide) (by decide +kernel) rfl rfl dX4_isZeroAt_65 ?_
      refine s_sipush (v := 220) dX4_isZeroAt_68 (by decide) ?_
      refine s_iload_n dX4_isZeroAt_71 rfl ?_
      refine s_imul dX4_isZeroAt_72 ?_
      refine s_eqi (y := nI (220 * t)) (nI_mul 220 t) ?_
      refine s_iload dX4_isZeroAt_73 rfl ?_
      refine s_iload dX4_isZeroAt_75 rfl ?_
      refine s_iload dX4_isZeroAt_77 rfl ?_
      refine s_callS (As := [.int (nI x), .int (nI y), .int (nI z)]) (rest := [.int (nI (220 * t)), .ref (ad 17 0)]) (n := 3) (fun l hl => c_X4_place G l hl ad M x y z (by omega)) gX4_isZeroAt_X4_place rfl (by decide +kernel) rfl ⟨(Nat.le_of_ble_eq_true rfl), (Nat.le_of_ble_eq_true rfl)⟩ ⟨(Nat.le_of_ble_eq_true rfl), (Nat.le_of_ble_eq_true rfl)⟩ (Nat.le_of_ble_eq_true rfl) dX4_isZeroAt_79 rfl (fun r9 ad9 M9 h9 => ?_)
      obtain ⟨rfl, rfl, rfl⟩ := h9
      refine s_iadd dX4_isZeroAt_82 ?_
      refine s_eqi (y := nI (220 * t + pl3 x y z)) (nI_add _ _) ?_
      refine s_iald (kd := 17) (ix := 0) (n := 26400) (f := cl) (j := 220 * t + pl3 x y z) hm.2.2.2.2.2.1 (rfl) (by omega) (by decide) dX4_isZeroAt_83 ?_
      refine s_i2l dX4_isZeroAt_84 ?_
      refine s_lstore dX4_isZeroAt_85 rfl rfl ?_
      refine s_lv (lv' := [some (.ref (ad 12 0)), some (.int (nI t)), some (.int v), some (.int (nI lt)), some (.int (nI x)), some (.int (nI y)), some (.int (nI z)), some (.long ((cl (220 * t + pl3 x y z)).toInt64)), none]) rfl ?_
      refine s_aload_n dX4_isZeroAt_87 rfl ?_
      refine s_get (kd := 12) (ix := 0) (ci := 5) (fs := [.int c0, .int (nI t0), .ref (ad 13 0), .ref (ad 14 0), .ref (ad 15 0), .ref (ad 16 0), .ref (ad 17 0), .ref (ad 18 0), .int (nI r0), .ref (ad 19 0), .ref (ad 20 0), .ref (ad 21 0), .ref (ad 22 0), .ref (ad 23 0), .ref (ad 24 0), .int (jB b0), .ref (ad 25 0)])  hm.1 rfl in_X4_isZeroAt_X4 14 (by decide) (by decide +kernel) rfl rfl dX4_isZeroAt_88 ?_
      refine s_iload_n dX4_isZeroAt_91 rfl ?_
      refine s_if_ne 106 dX4_isZeroAt_92 (by decide) (fun c92 => ?_) (fun c92 => ?_)
      · refine s_iload_n dX4_isZeroAt_106 rfl ?_
        refine s_iconst (v := 1) dX4_isZeroAt_107 (by decide) ?_
        refine s_icmp_ne 122 dX4_isZeroAt_108 (by decide) (fun c108 => ?_) (fun c108 => ?_)
        · refine s_iload dX4_isZeroAt_122 rfl ?_
          refine s_iload dX4_isZeroAt_124 rfl ?_
          refine s_iconst (v := 0) dX4_isZeroAt_126 (by decide) ?_
          refine s_callS (As := [.int (nI x), .int (nI y), .int 0]) (rest := [.ref (ad 24 0)]) (n := 3) (fun l hl => c_X4_place G l hl ad M x y 0 (by omega)) gX4_isZeroAt_X4_place rfl (by decide +kernel) rfl ⟨(Nat.le_of_ble_eq_true rfl), (Nat.le_of_ble_eq_true rfl)⟩ ⟨(Nat.le_of_ble_eq_true rfl), (Nat.le_of_ble_eq_true rfl)⟩ (Nat.le_of_ble_eq_true rfl) dX4_isZeroAt_127 rfl (fun r9 ad9 M9 h9 => ?_)
          obtain ⟨rfl, rfl, rfl⟩ := h9
          have hlt : lt = 2 := (by have q1 : lt ≠ 0 := fun e => c92 (by rw [e]; rfl); have q2 : lt ≠ 1 := fun e => c108 (by rw [e]; rfl); omega : lt = 2)
          have hgq : good (100 * x + 10 * y + 0) := good_dig (by omega)
          have hpq := pl_dig (i := x) (j := y) (k := 0) (by omega) (by omega)
          have hql := (pl_facts hgq).1
          rw [hpq] at hql
          refine s_dup2_11 dX4_isZeroAt_130 rfl rfl ?_
          refine s_lald (kd := 24) (ix := 0) (n := 220) (f := sp) (j := pl3 x y 0) hm.2.2.2.2.2.2.2.2.2.2.2.2.1 (rfl) (hql) (by decide) dX4_isZeroAt_131 ?_
          refine s_lload dX4_isZeroAt_132 rfl ?_
          refine s_iload_n dX4_isZeroAt_134 rfl ?_
          refine s_i2l dX4_isZeroAt_135 ?_
          refine s_iload_n dX4_isZeroAt_136 rfl ?_
          refine s_if_ne 145 dX4_isZeroAt_137 (by decide) (fun c137 => ?_) (fun c137 => absurd c137 (c92))
          refine s_iload_n dX4_isZeroAt_145 rfl ?_
          refine s_iconst (v := 1) dX4_isZeroAt_146 (by decide) ?_
          refine s_icmp_ne 155 dX4_isZeroAt_147 (by decide) (fun c147 => ?_) (fun c147 => absurd c147 (c108))
          refine s_iload dX4_isZeroAt_155 rfl ?_
          refine s_callS (As := [.long v.toInt64, .int (nI z)]) (rest := [.long ((cl (220 * t + pl3 x y z)).toInt64), .long (sp (pl3 x y 0)), .int (nI (pl3 x y 0)), .ref (ad 24 0)]) (n := 2) (fun l hl => c_X4_power G l hl ad M v.toInt64 (by rw [i32_64]; exact hv10) z (by omega)) gX4_isZeroAt_X4_power rfl (by decide +kernel) rfl ⟨(Nat.le_of_ble_eq_true rfl), (Nat.le_of_ble_eq_true rfl)⟩ ⟨(Nat.le_of_ble_eq_true rfl), (Nat.le_of_ble_eq_true rfl)⟩ (Nat.le_of_ble_eq_true rfl) dX4_isZeroAt_157 rfl (fun r9 ad9 M9 h9 => ?_)
          obtain ⟨rfl, rfl, pv, rfl, hpv⟩ := h9
          refine s_lmul dX4_isZeroAt_160 ?_
          refine s_ladd dX4_isZeroAt_161 ?_
          refine s_last (kd := 24) (ix := 0) (n := 220) (f := sp) (j := pl3 x y 0) (x := (sp (pl3 x y 0)) + (((cl (220 * t + pl3 x y z)).toInt64) * pv)) hm.2.2.2.2.2.2.2.2.2.2.2.2.1  (rfl) (hql) (by decide) dX4_isZeroAt_162 ?_
          refine s_iinc (v := nI (z + 1)) dX4_isZeroAt_163 rfl (nI_1 _) rfl ?_
          refine s_lv (lv' := [some (.ref (ad 12 0)), some (.int (nI t)), some (.int v), some (.int (nI lt)), some (.int (nI x)), some (.int (nI y)), some (.int (nI (z + 1))), some (.long ((cl (220 * t + pl3 x y z)).toInt64)), none]) rfl ?_
          refine s_goto 51 dX4_isZeroAt_166 (by decide) ?_
          have hdv : dg3 lt (100 * x + 10 * y + z) = z := by rw [hlt]; exact hd2
          have hqe : (100 * x + 10 * y + z) - dg3 lt (100 * x + 10 * y + z) * kl3 lt = (100 * x + 10 * y + 0) := by
            rw [hdv, hlt]
            show (100 * x + 10 * y + z) - z * 1 = (100 * x + 10 * y + 0)
            omega
          have hold := hv.at hgq
          rw [hpq] at hold
          have hpx := hpb (100 * x + 10 * y + z)
          have hpb9 := pwb (a := z) hpx hv10 (by omega)
          have hsb := sN_abs (g := (subT lt v.toInt P) (100 * x + 10 * y + 0)) (W := 1000000 * 10 ^ 9) (n := (100 * x + 10 * y + z)) (fun a _ => subT_b hpb hg hv10 _ a)
          have hprod : ((cl (220 * t + pl3 x y z)).toInt64 * pv).toInt = P (100 * x + 10 * y + z) * v.toInt ^ z := by
            rw [i64_mul (by rw [i32_64, hcv, hpv, i32_64]; omega) (by rw [i32_64, hcv, hpv, i32_64]; omega), i32_64, hcv, hpv, i32_64]
          have hnew : (sp (pl3 x y 0) + (cl (220 * t + pl3 x y z)).toInt64 * pv).toInt = 0 + sN ((subT lt v.toInt P) (100 * x + 10 * y + 0)) (100 * x + 10 * y + z) + (subT lt v.toInt P) (100 * x + 10 * y + 0) (100 * x + 10 * y + z) := by
            have e9 : (subT lt v.toInt P) (100 * x + 10 * y + 0) (100 * x + 10 * y + z) = P (100 * x + 10 * y + z) * v.toInt ^ dg3 lt (100 * x + 10 * y + z) := if_pos hqe
            rw [e9, hdv, i64_add (by rw [hold, hprod]; omega) (by rw [hold, hprod]; omega), hold, hprod]
          refine s_drop 7 ?_
          exact ih x y (z + 1) (sset M 24 0 (.inl (gJ G, 220, .inr (.inl (vp_updL sp (pl3 x y 0) ((sp (pl3 x y 0)) + (((cl (220 * t + pl3 x y z)).toInt64) * pv))))))) (vp_updL sp (pl3 x y 0) ((sp (pl3 x y 0)) + (((cl (220 * t + pl3 x y z)).toInt64) * pv)))  (by omega) (by omega) (by omega) ⟨((sset_k _ _ (by decide)).trans (hm.1)), ((sset_k _ _ (by decide)).trans (hm.2.1)), ((sset_k _ _ (by decide)).trans (hm.2.2.1)), ((sset_k _ _ (by decide)).trans (hm.2.2.2.1)), ((sset_k _ _ (by decide)).trans (hm.2.2.2.2.1)), ((sset_k _ _ (by decide)).trans (hm.2.2.2.2.2.1)), ((sset_k _ _ (by decide)).trans (hm.2.2.2.2.2.2.1)), ((sset_k _ _ (by decide)).trans (hm.2.2.2.2.2.2.2.1)), ((sset_k _ _ (by decide)).trans (hm.2.2.2.2.2.2.2.2.1)), ((sset_k _ _ (by decide)).trans (hm.2.2.2.2.2.2.2.2.2.1)), ((sset_k _ _ (by decide)).trans (hm.2.2.2.2.2.2.2.2.2.2.1)), ((sset_k _ _ (by decide)).trans (hm.2.2.2.2.2.2.2.2.2.2.2.1)), (sset_self _ _ _ _), ((sset_k _ _ (by decide)).trans (hm.2.2.2.2.2.2.2.2.2.2.2.2.2))⟩ (hs |>.set (P := pMd) (by simp [pMd]) _) (by
            have z9 := WRk.put (T := (subT lt v.toInt P)) (f := fun _ => 0) (Y := (100 * x + 10 * y + z)) (q := (100 * x + 10 * y + 0)) hv hgq hnew (fun w hw => if_neg (fun e => hw (by rw [← e]; exact hqe)))
            rw [hpq] at z9
            exact z9)
        · refine s_iload dX4_isZeroAt_111 rfl ?_
          refine s_iconst (v := 0) dX4_isZeroAt_113 (by decide) ?_
          refine s_iload dX4_isZeroAt_114 rfl ?_
          refine s_callS (As := [.int (nI x), .int 0, .int (nI z)]) (rest := [.ref (ad 24 0)]) (n := 3) (fun l hl => c_X4_place G l hl ad M x 0 z (by omega)) gX4_isZeroAt_X4_place rfl (by decide +kernel) rfl ⟨(Nat.le_of_ble_eq_true rfl), (Nat.le_of_ble_eq_true rfl)⟩ ⟨(Nat.le_of_ble_eq_true rfl), (Nat.le_of_ble_eq_true rfl)⟩ (Nat.le_of_ble_eq_true rfl) dX4_isZeroAt_116 rfl (fun r9 ad9 M9 h9 => ?_)
          obtain ⟨rfl, rfl, rfl⟩ := h9
          refine s_goto 130 dX4_isZeroAt_119 (by decide) ?_
          have hlt : lt = 1 := (nI_eq (a := lt) (b := 1) (by omega) (by omega)).mp c108
          have hgq : good (100 * x + 10 * 0 + z) := good_dig (by omega)
          have hpq := pl_dig (i := x) (j := 0) (k := z) (by omega) (by omega)
          have hql := (pl_facts hgq).1
          rw [hpq] at hql
          refine s_dup2_11 dX4_isZeroAt_130 rfl rfl ?_
          refine s_lald (kd := 24) (ix := 0) (n := 220) (f := sp) (j := pl3 x 0 z) hm.2.2.2.2.2.2.2.2.2.2.2.2.1 (rfl) (hql) (by decide) dX4_isZeroAt_131 ?_
          refine s_lload dX4_isZeroAt_132 rfl ?_
          refine s_iload_n dX4_isZeroAt_134 rfl ?_
          refine s_i2l dX4_isZeroAt_135 ?_
          refine s_iload_n dX4_isZeroAt_136 rfl ?_
          refine s_if_ne 145 dX4_isZeroAt_137 (by decide) (fun c137 => ?_) (fun c137 => absurd c137 (c92))
          refine s_iload_n dX4_isZeroAt_145 rfl ?_
          refine s_iconst (v := 1) dX4_isZeroAt_146 (by decide) ?_
          refine s_icmp_ne 155 dX4_isZeroAt_147 (by decide) (fun c147 => absurd (c108) c147) (fun c147 => ?_)
          refine s_iload dX4_isZeroAt_150 rfl ?_
          refine s_goto 157 dX4_isZeroAt_152 (by decide) ?_
          refine s_callS (As := [.long v.toInt64, .int (nI y)]) (rest := [.long ((cl (220 * t + pl3 x y z)).toInt64), .long (sp (pl3 x 0 z)), .int (nI (pl3 x 0 z)), .ref (ad 24 0)]) (n := 2) (fun l hl => c_X4_power G l hl ad M v.toInt64 (by rw [i32_64]; exact hv10) y (by omega)) gX4_isZeroAt_X4_power rfl (by decide +kernel) rfl ⟨(Nat.le_of_ble_eq_true rfl), (Nat.le_of_ble_eq_true rfl)⟩ ⟨(Nat.le_of_ble_eq_true rfl), (Nat.le_of_ble_eq_true rfl)⟩ (Nat.le_of_ble_eq_true rfl) dX4_isZeroAt_157 rfl (fun r9 ad9 M9 h9 => ?_)
          obtain ⟨rfl, rfl, pv, rfl, hpv⟩ := h9
          refine s_lmul dX4_isZeroAt_160 ?_
          refine s_ladd dX4_isZeroAt_161 ?_
          refine s_last (kd := 24) (ix := 0) (n := 220) (f := sp) (j := pl3 x 0 z) (x := (sp (pl3 x 0 z)) + (((cl (220 * t + pl3 x y z)).toInt64) * pv)) hm.2.2.2.2.2.2.2.2.2.2.2.2.1  (rfl) (hql) (by decide) dX4_isZeroAt_162 ?_
          refine s_iinc (v := nI (z + 1)) dX4_isZeroAt_163 rfl (nI_1 _) rfl ?_
          refine s_lv (lv' := [some (.ref (ad 12 0)), some (.int (nI t)), some (.int v), some (.int (nI lt)), some (.int (nI x)), some (.int (nI y)), some (.int (nI (z + 1))), some (.long ((cl (220 * t + pl3 x y z)).toInt64)), none]) rfl ?_
          refine s_goto 51 dX4_isZeroAt_166 (by decide) ?_
          have hdv : dg3 lt (100 * x + 10 * y + z) = y := by rw [hlt]; exact hd1
          have hqe : (100 * x + 10 * y + z) - dg3 lt (100 * x + 10 * y + z) * kl3 lt = (100 * x + 10 * 0 + z) := by
            rw [hdv, hlt]
            show (100 * x + 10 * y + z) - y * 10 = (100 * x + 10 * 0 + z)
            omega
          have hold := hv.at hgq
          rw [hpq] at hold
          have hpx := hpb (100 * x + 10 * y + z)
          have hpb9 := pwb (a := y) hpx hv10 (by omega)
          have hsb := sN_abs (g := (subT lt v.toInt P) (100 * x + 10 * 0 + z)) (W := 1000000 * 10 ^ 9) (n := (100 * x + 10 * y + z)) (fun a _ => subT_b hpb hg hv10 _ a)
          have hprod : ((cl (220 * t + pl3 x y z)).toInt64 * pv).toInt = P (100 * x + 10 * y + z) * v.toInt ^ y := by
            rw [i64_mul (by rw [i32_64, hcv, hpv, i32_64]; omega) (by rw [i32_64, hcv, hpv, i32_64]; omega), i32_64, hcv, hpv, i32_64]
          have hnew : (sp (pl3 x 0 z) + (cl (220 * t + pl3 x y z)).toInt64 * pv).toInt = 0 + sN ((subT lt v.toInt P) (100 * x + 10 * 0 + z)) (100 * x + 10 * y + z) + (subT lt v.toInt P) (100 * x + 10 * 0 + z) (100 * x + 10 * y + z) := by
            have e9 : (subT lt v.toInt P) (100 * x + 10 * 0 + z) (100 * x + 10 * y + z) = P (100 * x + 10 * y + z) * v.toInt ^ dg3 lt (100 * x + 10 * y + z) := if_pos hqe
            rw [e9, hdv, i64_add (by rw [hold, hprod]; omega) (by rw [hold, hprod]; omega), hold, hprod]
          refine s_drop 7 ?_
          exact ih x y (z + 1) (sset M 24 0 (.inl (gJ G, 220, .inr (.inl (vp_updL sp (pl3 x 0 z) ((sp (pl3 x 0 z)) + (((cl (220 * t + pl3 x y z)).toInt64) * pv))))))) (vp_updL sp (pl3 x 0 z) ((sp (pl3 x 0 z)) + (((cl (220 * t + pl3 x y z)).toInt64) * pv)))  (by omega) (by omega) (by omega) ⟨((sset_k _ _ (by decide)).trans (hm.1)), ((sset_k _ _ (by decide)).trans (hm.2.1)), ((sset_k _ _ (by decide)).trans (hm.2.2.1)), ((sset_k _ _ (by decide)).trans (hm.2.2.2.1)), ((sset_k _ _ (by decide)).trans (hm.2.2.2.2.1)), ((sset_k _ _ (by decide)).trans (hm.2.2.2.2.2.1)), ((sset_k _ _ (by decide)).trans (hm.2.2.2.2.2.2.1)), ((sset_k _ _ (by decide)).trans (hm.2.2.2.2.2.2.2.1)), ((sset_k _ _ (by decide)).trans (hm.2.2.2.2.2.2.2.2.1)), ((sset_k _ _ (by decide)).trans (hm.2.2.2.2.2.2.2.2.2.1)), ((sset_k _ _ (by decide)).trans (hm.2.2.2.2.2.2.2.2.2.2.1)), ((sset_k _ _ (by decide)).trans (hm.2.2.2.2.2.2.2.2.2.2.2.1)), (sset_self _ _ _ _), ((sset_k _ _ (by decide)).trans (hm.2.2.2.2.2.2.2.2.2.2.2.2.2))⟩ (hs |>.set (P := pMd) (by simp [pMd]) _) (by
            have z9 := WRk.put (T := (subT lt v.toInt P)) (f := fun _ => 0) (Y := (100 * x + 10 * y + z)) (q := (100 * x + 10 * 0 + z)) hv hgq hnew (fun w hw => if_neg (fun e => hw (by rw [← e]; exact hqe)))
            rw [hpq] at z9
            exact z9)
      · refine s_iconst (v := 0) dX4_isZeroAt_95 (by decide) ?_
        refine s_iload dX4_isZeroAt_96 rfl ?_
        refine s_iload dX4_isZeroAt_98 rfl ?_
        refine s_callS (As := [.int 0, .int (nI y), .int (nI z)]) (rest := [.ref (ad 24 0)]) (n := 3) (fun l hl => c_X4_place G l hl ad M 0 y z (by omega)) gX4_isZeroAt_X4_place rfl (by decide +kernel) rfl ⟨(Nat.le_of_ble_eq_true rfl), (Nat.le_of_ble_eq_true rfl)⟩ ⟨(Nat.le_of_ble_eq_true rfl), (Nat.le_of_ble_eq_true rfl)⟩ (Nat.le_of_ble_eq_true rfl) dX4_isZeroAt_100 rfl (fun r9 ad9 M9 h9 => ?_)
        obtain ⟨rfl, rfl, rfl⟩ := h9
        refine s_goto 130 dX4_isZeroAt_103 (by decide) ?_
        have hlt : lt = 0 := (nI_eq (a := lt) (b := 0) (by omega) (by omega)).mp c92
        have hgq : good (100 * 0 + 10 * y + z) := good_dig (by omega)
        have hpq := pl_dig (i := 0) (j := y) (k := z) (by omega) (by omega)
        have hql := (pl_facts hgq).1
        rw [hpq] at hql
        refine s_dup2_11 dX4_isZeroAt_130 rfl rfl ?_
        refine s_lald (kd := 24) (ix := 0) (n := 220) (f := sp) (j := pl3 0 y z) hm.2.2.2.2.2.2.2.2.2.2.2.2.1 (rfl) (hql) (by decide) dX4_isZeroAt_131 ?_
        refine s_lload dX4_isZeroAt_132 rfl ?_
        refine s_iload_n dX4_isZeroAt_134 rfl ?_
        refine s_i2l dX4_isZeroAt_135 ?_
        refine s_iload_n dX4_isZeroAt_136 rfl ?_
        refine s_if_ne 145 dX4_isZeroAt_137 (by decide) (fun c137 => absurd (c92) c137) (fun c137 => ?_)
        refine s_iload dX4_isZeroAt_140 rfl ?_
        refine s_goto 157 dX4_isZeroAt_142 (by decide) ?_
        refine s_callS (As := [.long v.toInt64, .int (nI x)]) (rest := [.long ((cl (220 * t + pl3 x y z)).toInt64), .long (sp (pl3 0 y z)), .int (nI (pl3 0 y z)), .ref (ad 24 0)]) (n := 2) (fun l hl => c_X4_power G l hl ad M v.toInt64 (by rw [i32_64]; exact hv10) x (by omega)) gX4_isZeroAt_X4_power rfl (by decide +kernel) rfl ⟨(Nat.le_of_ble_eq_true rfl), (Nat.le_of_ble_eq_true rfl)⟩ ⟨(Nat.le_of_ble_eq_true rfl), (Nat.le_of_ble_eq_true rfl)⟩ (Nat.le_of_ble_eq_true rfl) dX4_isZeroAt_157 rfl (fun r9 ad9 M9 h9 => ?_)
        obtain ⟨rfl, rfl, pv, rfl, hpv⟩ := h9
        refine s_lmul dX4_isZeroAt_160 ?_
        refine s_ladd dX4_isZeroAt_161 ?_
        refine s_last (kd := 24) (ix := 0) (n := 220) (f := sp) (j := pl3 0 y z) (x := (sp (pl3 0 y z)) + (((cl (220 * t + pl3 x y z)).toInt64) * pv)) hm.2.2.2.2.2.2.2.2.2.2.2.2.1  (rfl) (hql) (by decide) dX4_isZeroAt_162 ?_
        refine s_iinc (v := nI (z + 1)) dX4_isZeroAt_163 rfl (nI_1 _) rfl ?_
        refine s_lv (lv' := [some (.ref (ad 12 0)), some (.int (nI t)), some (.int v), some (.int (nI lt)), some (.int (nI x)), some (.int (nI y)), some (.int (nI (z + 1))), some (.long ((cl (220 * t + pl3 x y z)).toInt64)), none]) rfl ?_
        refine s_goto 51 dX4_isZeroAt_166 (by decide) ?_
        have hdv : dg3 lt (100 * x + 10 * y + z) = x := by rw [hlt]; exact hd0
        have hqe : (100 * x + 10 * y + z) - dg3 lt (100 * x + 10 * y + z) * kl3 lt = (100 * 0 + 10 * y + z) := by
          rw [hdv, hlt]
          show (100 * x + 10 * y + z) - x * 100 = (100 * 0 + 10 * y + z)
          omega
        have hold := hv.at hgq
        rw [hpq] at hold
        have hpx := hpb (100 * x + 10 * y + z)
        have hpb9 := pwb (a := x) hpx hv10 (by omega)
        have hsb := sN_abs (g := (subT lt v.toInt P) (100 * 0 + 10 * y + z)) (W := 1000000 * 10 ^ 9) (n := (100 * x + 10 * y + z)) (fun a _ => subT_b hpb hg hv10 _ a)
        have hprod : ((cl (220 * t + pl3 x y z)).toInt64 * pv).toInt = P (100 * x + 10 * y + z) * v.toInt ^ x := by
          rw [i64_mul (by rw [i32_64, hcv, hpv, i32_64]; omega) (by rw [i32_64, hcv, hpv, i32_64]; omega), i32_64, hcv, hpv, i32_64]
        have hnew : (sp (pl3 0 y z) + (cl (220 * t + pl3 x y z)).toInt64 * pv).toInt = 0 + sN ((subT lt v.toInt P) (100 * 0 + 10 * y + z)) (100 * x + 10 * y + z) + (subT lt v.toInt P) (100 * 0 + 10 * y + z) (100 * x + 10 * y + z) := by
          have e9 : (subT lt v.toInt P) (100 * 0 + 10 * y + z) (100 * x + 10 * y + z) = P (100 * x + 10 * y + z) * v.toInt ^ dg3 lt (100 * x + 10 * y + z) := if_pos hqe
          rw [e9, hdv, i64_add (by rw [hold, hprod]; omega) (by rw [hold, hprod]; omega), hold, hprod]
        refine s_drop 7 ?_
        exact ih x y (z + 1) (sset M 24 0 (.inl (gJ G, 220, .inr (.inl (vp_updL sp (pl3 0 y z) ((sp (pl3 0 y z)) + (((cl (220 * t + pl3 x y z)).toInt64) * pv))))))) (vp_updL sp (pl3 0 y z) ((sp (pl3 0 y z)) + (((cl (220 * t + pl3 x y z)).toInt64) * pv)))  (by omega) (by omega) (by omega) ⟨((sset_k _ _ (by decide)).trans (hm.1)), ((sset_k _ _ (by decide)).trans (hm.2.1)), ((sset_k _ _ (by decide)).trans (hm.2.2.1)), ((sset_k _ _ (by decide)).trans (hm.2.2.2.1)), ((sset_k _ _ (by decide)).trans (hm.2.2.2.2.1)), ((sset_k _ _ (by decide)).trans (hm.2.2.2.2.2.1)), ((sset_k _ _ (by decide)).trans (hm.2.2.2.2.2.2.1)), ((sset_k _ _ (by decide)).trans (hm.2.2.2.2.2.2.2.1)), ((sset_k _ _ (by decide)).trans (hm.2.2.2.2.2.2.2.2.1)), ((sset_k _ _ (by decide)).trans (hm.2.2.2.2.2.2.2.2.2.1)), ((sset_k _ _ (by decide)).trans (hm.2.2.2.2.2.2.2.2.2.2.1)), ((sset_k _ _ (by decide)).trans (hm.2.2.2.2.2.2.2.2.2.2.2.1)), (sset_self _ _ _ _), ((sset_k _ _ (by decide)).trans (hm.2.2.2.2.2.2.2.2.2.2.2.2.2))⟩ (hs |>.set (P := pMd) (by simp [pMd]) _) (by
          have z9 := WRk.put (T := (subT lt v.toInt P)) (f := fun _ => 0) (Y := (100 * x + 10 * y + z)) (q := (100 * 0 + 10 * y + z)) hv hgq hnew (fun w hw => if_neg (fun e => hw (by rw [← e]; exact hqe)))
          rw [hpq] at z9
          exact z9)
set_option maxHeartbeats 4000000 in
set_option maxRecDepth 100000 in
theorem l_X4_isZeroAt2 (X : sMach) (G : sG) (ad : sAd) (M0 : sM) (c0 : Int32) (t0 : Nat) (hd : Nat → Int32) (on : Nat → Int32) (tw : Nat → Int32) (dp : Nat → Int32) (cl : Nat → Int32) (gr : Nat → Int32) (r0 : Nat) (kd : Nat → Int32) (fl : Nat → Int32) (co : Nat → Int32) (sm : Nat → Int32) (wk : Nat → Int64) (sp : Nat → Int64) (b0 : Bool) (mu : Nat → Int32) (t : Nat) (v : Int32) (lt : Nat) (f : Nat → Int) (hwr : WRk sp f) (Q : State → Prop) (kont : ∀ (M : sM)  (z : Bool), hMd G ad M (c0, t0, hd, on, tw, dp, cl, gr, r0, kd, fl, co, sm, wk, sp, b0, mu) → sSame pMd M0 M → (z = true ↔ ∀ k, k < 220 → f (unp k) = 0) → sW X G mX4_isZeroAt Q ad M 0 0 [some (.ref (ad 12 0)), some (.int (nI t)), some (.int v), some (.int (nI lt)), some (.int (jB z)), none, none, none, none] 225 []) : ∀ (k i : Nat) (M : sM)  (z : Bool), i + k = 220 → hMd G ad M (c0, t0, hd, on, tw, dp, cl, gr, r0, kd, fl, co, sm, wk, sp, b0, mu) → sSame pMd M0 M → (z = true ↔ ∀ k, k < i → f (unp k) = 0) → sW X G mX4_isZeroAt Q ad M 0 0 [some (.ref (ad 12 0)), some (.int (nI t)), some (.int v), some (.int (nI lt)), some (.int (jB z)), some (.int (nI i)), none, none, none] 187 [] := by
  intro k
  induction k with
  | zero =>
    intro i M  z hi hm hs hv
    refine s_iload dX4_isZeroAt_187 rfl ?_
    refine s_sipush (v := 220) dX4_isZeroAt_189 (by decide) ?_
    refine s_icmp_ge 225 dX4_isZeroAt_192 (by decide) (fun c192 => ?_) (fun c192 => absurd (nI_le (a := 220) (by omega) (by omega)) c192)
    refine s_drop 5 ?_
    exact kont M  z hm hs (by rw [show i = 220 by omega] at hv; exact hv)
  | succ k ih =>
    intro i M  z hi hm hs hv
    refine s_iload dX4_isZeroAt_187 rfl ?_
    refine s_sipush (v := 220) dX4_isZeroAt_189 (by decide) ?_
    refine s_icmp_ge 225 dX4_isZeroAt_192 (by decide) (fun c192 => absurd c192 (nI_ge (b := 220) (by omega) (by omega))) (fun c192 => ?_)
    refine s_iload dX4_isZeroAt_195 rfl ?_
    refine s_if_eq 216 dX4_isZeroAt_197 (by decide) (fun c197 => ?_) (fun c197 => ?_)
    · refine s_iconst (v := 0) dX4_isZeroAt_216 (by decide) ?_
      refine s_istore dX4_isZeroAt_217 rfl rfl ?_
      refine s_lv (lv' := [some (.ref (ad 12 0)), some (.int (nI t)), some (.int v), some (.int (nI lt)), some (.int 0), some (.int (nI i)), none, none, none]) rfl ?_
      refine s_iinc (v := nI (i + 1)) dX4_isZeroAt_219 rfl (nI_1 i) rfl ?_
      refine s_lv (lv' := [some (.ref (ad 12 0)), some (.int (nI t)), some (.int v), some (.int (nI lt)), some (.int 0), some (.int (nI (i + 1))), none, none, none]) rfl ?_
      refine s_goto 187 dX4_isZeroAt_222 (by decide) ?_
      exact ih (i + 1) M  false (by omega) hm hs (⟨(fun q => nomatch q), fun q => absurd (hv.mpr (fun k hk => q k (by omega))) (by rw [jB_0.mp c197]; decide)⟩)
    · refine s_aload_n dX4_isZeroAt_200 rfl ?_
      refine s_get (kd := 12) (ix := 0) (ci := 5) (fs := [.int c0, .int (nI t0), .ref (ad 13 0), .ref (ad 14 0), .ref (ad 15 0), .ref (ad 16 0), .ref (ad 17 0), .ref (ad 18 0), .int (nI r0), .ref (ad 19 0), .ref (ad 20 0), .ref (ad 21 0), .ref (ad 22 0), .ref (ad 23 0), .ref (ad 24 0), .int (jB b0), .ref (ad 25 0)])  hm.1 rfl in_X4_isZeroAt_X4 14 (by decide) (by decide +kernel) rfl rfl dX4_isZeroAt_201 ?_
      refine s_iload dX4_isZeroAt_204 rfl ?_
      refine s_lald (kd := 24) (ix := 0) (n := 220) (f := sp) (j := i) hm.2.2.2.2.2.2.2.2.2.2.2.2.1 (rfl) (by omega) (by decide) dX4_isZeroAt_206 ?_
      refine s_lconst (v := 0) dX4_isZeroAt_207 (by decide) ?_
      refine s_lcmp dX4_isZeroAt_208 ?_
      refine s_if_ne 216 dX4_isZeroAt_209 (by decide) (fun c209 => ?_) (fun c209 => ?_)
      · refine s_iconst (v := 0) dX4_isZeroAt_216 (by decide) ?_
        refine s_istore dX4_isZeroAt_217 rfl rfl ?_
        refine s_lv (lv' := [some (.ref (ad 12 0)), some (.int (nI t)), some (.int v), some (.int (nI lt)), some (.int 0), some (.int (nI i)), none, none, none]) rfl ?_
        refine s_iinc (v := nI (i + 1)) dX4_isZeroAt_219 rfl (nI_1 i) rfl ?_
        refine s_lv (lv' := [some (.ref (ad 12 0)), some (.int (nI t)), some (.int v), some (.int (nI lt)), some (.int 0), some (.int (nI (i + 1))), none, none, none]) rfl ?_
        refine s_goto 187 dX4_isZeroAt_222 (by decide) ?_
        exact ih (i + 1) M  false (by omega) hm hs (⟨(fun q => nomatch q), fun q => absurd ((lg_cmp_eq _ _).mpr (Int64.toInt_inj.mp (by rw [hwr i (by omega), q i (by omega)]; rfl))) c209⟩)
      · refine s_iconst (v := 1) dX4_isZeroAt_212 (by decide) ?_
        refine s_goto 217 dX4_isZeroAt_213 (by decide) ?_
        refine s_istore dX4_isZeroAt_217 rfl rfl ?_
        refine s_lv (lv' := [some (.ref (ad 12 0)), some (.int (nI t)), some (.int v), some (.int (nI lt)), some (.int 1), some (.int (nI i)), none, none, none]) rfl ?_
        refine s_iinc (v := nI (i + 1)) dX4_isZeroAt_219 rfl (nI_1 i) rfl ?_
        refine s_lv (lv' := [some (.ref (ad 12 0)), some (.int (nI t)), some (.int v), some (.int (nI lt)), some (.int 1), some (.int (nI (i + 1))), none, none, none]) rfl ?_
        refine s_goto 187 dX4_isZeroAt_222 (by decide) ?_
        exact ih (i + 1) M  true (by omega) hm hs (⟨fun _ k hk => by
          by_cases q : k = i
          · rw [q, ← hwr i (by omega), (lg_cmp_eq _ _).mp c209]; rfl
          · exact hv.mp (Bool.of_not_eq_false (fun w => c197 (jB_0.mpr w))) k (by omega), fun _ => rfl⟩)
set_option maxHeartbeats 4000000 in
set_option maxRecDepth 100000 in
theorem c_X4_isZeroAt (G : sG) (l : Launch) (hl : l.stackTraces = false) (ad : sAd) (M : sM) (c0 : Int32) (t0 : Nat) (hd : Nat → Int32) (on : Nat → Int32) (tw : Nat → Int32) (dp : Nat → Int32) (cl : Nat → Int32) (gr : Nat → Int32) (r0 : Nat) (kd : Nat → Int32) (fl : Nat → Int32) (co : Nat → Int32) (sm : Nat → Int32) (wk : Nat → Int64) (sp : Nat → Int64) (b0 : Bool) (mu : Nat → Int32) (hm : hMd G ad M (c0, t0, hd, on, tw, dp, cl, gr, r0, kd, fl, co, sm, wk, sp, b0, mu)) (t : Nat) (htt : t < 120) (P : Nat → Int) (hg : gz P) (hcr : CRk cl t P) (hpb : ∀ y, -1000000 ≤ P y ∧ P y ≤ 1000000) (v : Int32) (hv10 : -10 ≤ v.toInt ∧ v.toInt ≤ 10) (lt : Nat) (hl2 : lt ≤ 2) : sMet G l yX4_isZeroAt mX4_isZeroAt [.ref (ad 12 0), .int (nI t), .int v, .int (nI lt)] ad M (fun r ad' M' => ad = ad' ∧ ∃ sp', hMd G ad M' (c0, t0, hd, on, tw, dp, cl, gr, r0, kd, fl, co, sm, wk, sp', b0, mu) ∧ sSame pMd M M' ∧ ∃ z : Bool, r = some (.int (jB z)) ∧ (z = true ↔ ∀ y, subs lt v.toInt P y = 0)) (fun _ _ _ => False) := by
  refine sMet.of hl (by decide +kernel) rfl rfl rfl rfl (Nat.le_of_ble_eq_true rfl) (fun X => ?_)
  refine s_lv (lv' := [some (.ref (ad 12 0)), some (.int (nI t)), some (.int v), some (.int (nI lt)), none, none, none, none, none]) rfl ?_
  refine s_iconst (v := 0) dX4_isZeroAt_0 (by decide) ?_
  refine s_istore dX4_isZeroAt_1 rfl rfl ?_
  refine s_lv (lv' := [some (.ref (ad 12 0)), some (.int (nI t)), some (.int v), some (.int (nI lt)), some (.int 0), none, none, none, none]) rfl ?_
  refine l_X4_isZeroAt0 X G ad M c0 t0 hd on tw dp cl gr r0 kd fl co sm wk b0 mu t v lt _ (fun M18 sp18  hm18 hs18 hv18 => ?_) (220) 0 M sp  (by omega) ⟨hm.1, hm.2.1, hm.2.2.1, hm.2.2.2.1, hm.2.2.2.2.1, hm.2.2.2.2.2.1, hm.2.2.2.2.2.2.1, hm.2.2.2.2.2.2.2.1, hm.2.2.2.2.2.2.2.2.1, hm.2.2.2.2.2.2.2.2.2.1, hm.2.2.2.2.2.2.2.2.2.2.1, hm.2.2.2.2.2.2.2.2.2.2.2.1, hm.2.2.2.2.2.2.2.2.2.2.2.2.1, hm.2.2.2.2.2.2.2.2.2.2.2.2.2⟩ sSame.rfl (fun k hk => absurd hk (Nat.not_lt_zero k))
  have hz9 := hv18
  refine s_iconst (v := 0) dX4_isZeroAt_25 (by decide) ?_
  refine s_istore dX4_isZeroAt_26 rfl rfl ?_
  refine s_lv (lv' := [some (.ref (ad 12 0)), some (.int (nI t)), some (.int v), some (.int (nI lt)), some (.int 0), none, none, none, none]) rfl ?_
  refine s_iload dX4_isZeroAt_28 rfl ?_
  refine s_bipush (v := 10) dX4_isZeroAt_30 (by decide) ?_
  refine s_icmp_ge 181 dX4_isZeroAt_32 (by decide) (fun c32 => absurd c32 (by decide)) (fun c32 => ?_)
  refine s_iconst (v := 0) dX4_isZeroAt_35 (by decide) ?_
  refine s_istore dX4_isZeroAt_36 rfl rfl ?_
  refine s_lv (lv' := [some (.ref (ad 12 0)), some (.int (nI t)), some (.int v), some (.int (nI lt)), some (.int 0), some (.int 0), none, none, none]) rfl ?_
  refine s_iload dX4_isZeroAt_38 rfl ?_
  refine s_iload dX4_isZeroAt_40 rfl ?_
  refine s_iadd dX4_isZeroAt_42 ?_
  refine s_eqi (y := nI (0 + 0)) (nI_add _ _) ?_
  refine s_bipush (v := 10) dX4_isZeroAt_43 (by decide) ?_
  refine s_icmp_ge 175 dX4_isZeroAt_45 (by decide) (fun c45 => absurd c45 (nI_ge (b := 10) (by omega) (by omega))) (fun c45 => ?_)
  refine s_iconst (v := 0) dX4_isZeroAt_48 (by decide) ?_
  refine s_istore dX4_isZeroAt_49 rfl rfl ?_
  refine s_lv (lv' := [some (.ref (ad 12 0)), some (.int (nI t)), some (.int v), some (.int (nI lt)), some (.int 0), some (.int 0), some (.int 0), none, none]) rfl ?_
  refine l_X4_isZeroAt X G ad M c0 t0 hd on tw dp cl gr r0 kd fl co sm wk b0 mu t htt P hg hcr hpb v hv10 lt hl2 _ (fun M19 sp19  hm19 hs19 hv19 => ?_) 1400 0 0 0 M18 sp18  (by omega) (by omega) (by omega) ⟨hm18.1, hm18.2.1, hm18.2.2.1, hm18.2.2.2.1, hm18.2.2.2.2.1, hm18.2.2.2.2.2.1, hm18.2.2.2.2.2.2.1, hm18.2.2.2.2.2.2.2.1, hm18.2.2.2.2.2.2.2.2.1, hm18.2.2.2.2.2.2.2.2.2.1, hm18.2.2.2.2.2.2.2.2.2.2.1, hm18.2.2.2.2.2.2.2.2.2.2.2.1, hm18.2.2.2.2.2.2.2.2.2.2.2.2.1, hm18.2.2.2.2.2.2.2.2.2.2.2.2.2⟩ hs18 (hz9.wr.ext (fun _ => rfl))
  have hw9 := hv19
  refine s_iconst (v := 1) dX4_isZeroAt_181 (by decide) ?_
  refine s_istore dX4_isZeroAt_182 rfl rfl ?_
  refine s_lv (lv' := [some (.ref (ad 12 0)), some (.int (nI t)), some (.int v), some (.int (nI lt)), some (.int 1), none, none, none, none]) rfl ?_
  refine s_iconst (v := 0) dX4_isZeroAt_184 (by decide) ?_
  refine s_istore dX4_isZeroAt_185 rfl rfl ?_
  refine s_lv (lv' := [some (.ref (ad 12 0)), some (.int (nI t)), some (.int v), some (.int (nI lt)), some (.int 1), some (.int 0), none, none, none]) rfl ?_
  refine l_X4_isZeroAt2 X G ad M c0 t0 hd on tw dp cl gr r0 kd fl co sm wk sp19 b0 mu t v lt _ hw9 _ (fun M20  z20 hm20 hs20 hv20 => ?_) (220) 0 M19  true (by omega) ⟨hm19.1, hm19.2.1, hm19.2.2.1, hm19.2.2.2.1, hm19.2.2.2.2.1, hm19.2.2.2.2.2.1, hm19.2.2.2.2.2.2.1, hm19.2.2.2.2.2.2.2.1, hm19.2.2.2.2.2.2.2.2.1, hm19.2.2.2.2.2.2.2.2.2.1, hm19.2.2.2.2.2.2.2.2.2.2.1, hm19.2.2.2.2.2.2.2.2.2.2.2.1, hm19.2.2.2.2.2.2.2.2.2.2.2.2.1, hm19.2.2.2.2.2.2.2.2.2.2.2.2.2⟩ hs19 (⟨fun _ k hk => absurd hk (Nat.not_lt_zero k), fun _ => rfl⟩)
  refine s_iload dX4_isZeroAt_225 rfl ?_
  exact s_iret rfl (jB_nar _) dX4_isZeroAt_227 (Nat.le_of_ble_eq_true rfl) (Nat.le_of_ble_eq_true rfl) (⟨rfl, _, hm20, hs20, z20, rfl, hv20.trans ⟨fun q => (all220 (subs_gz hg hl2 v.toInt) (C := fun x => x = 0) rfl).mpr (fun k hk => by have z := q k hk; rw [Int.zero_add] at z; exact z), fun q k hk => by rw [Int.zero_add]; exact q _⟩⟩)
