abbrev mX4_onto : sMeth := (cX4_onto, 10, RX4, wsX4_onto, { frames := 2, cells := 0, slots := 0, locals := 42 }, none, "onto", [])
theorem in_X4_onto_X4 : ∀ w ∈ wsX40, w ∈ wsX4_onto := by decide +kernel
set_option maxHeartbeats 4000000 in
set_option maxRecDepth 100000 in
theorem l_X4_onto (X : sMach) (G : sG) (ad : sAd) (M0 : sM) (c0 : Int32) (t0 : Nat) (hd : Nat → Int32) (on : Nat → Int32) (tw : Nat → Int32) (dp : Nat → Int32) (cl : Nat → Int32) (gr : Nat → Int32) (r0 : Nat) (kd : Nat → Int32) (fl : Nat → Int32) (co : Nat → Int32) (sm : Nat → Int32) (sp : Nat → Int64) (b0 : Bool) (mu : Nat → Int32) (v : Int64) (hvb : -1000000 ≤ v.toInt ∧ v.toInt ≤ 1000000) (a1 a2 a3 : Nat) (haS : a1 + a2 + a3 ≤ 9) (t : Nat) (htt : t < 120) (P : Nat → Int) (hpb : ∀ y, -1000000 ≤ P y ∧ P y ≤ 1000000) (hcr : CRk cl t P) (hpd : ∀ w, 9 - (a1 + a2 + a3) < gdeg w → P w = 0) (f : Nat → Int) (hfb : ∀ y, -(10 ^ 18) ≤ f y ∧ f y ≤ 10 ^ 18) (Q : State → Prop) (kont : ∀ (M : sM) (wk : Nat → Int64) , hMd G ad M (c0, t0, hd, on, tw, dp, cl, gr, r0, kd, fl, co, sm, wk, sp, b0, mu) → sSame pMd M0 M → WRk wk (fun u9 => f u9 + sN ((ontoT (100 * a1 + 10 * a2 + a3) v.toInt P) u9) 1000) → sW X G mX4_onto Q ad M 0 0 [some (.ref (ad 12 0)), some (.long v), none, some (.int (nI a1)), some (.int (nI a2)), some (.int (nI a3)), some (.int (nI t)), none, none, none] 130 []) : ∀ (n x y z : Nat) (M : sM) (wk : Nat → Int64) , x + y ≤ (9 - (a1 + a2 + a3)) → x + y + z ≤ (9 - (a1 + a2 + a3)) + 1 → 1400 ≤ 121 * x + 11 * y + z + n → hMd G ad M (c0, t0, hd, on, tw, dp, cl, gr, r0, kd, fl, co, sm, wk, sp, b0, mu) → sSame pMd M0 M → WRk wk (fun u9 => f u9 + sN ((ontoT (100 * a1 + 10 * a2 + a3) v.toInt P) u9) (100 * x + 10 * y + z)) → sW X G mX4_onto Q ad M 0 0 [some (.ref (ad 12 0)), some (.long v), none, some (.int (nI a1)), some (.int (nI a2)), some (.int (nI a3)), some (.int (nI t)), some (.int (nI x)), some (.int (nI y)), some (.int (nI z))] 42 [] := by
  intro n
  induction n with
  | zero => intro x y z M wk  hxy hxyz hn; exact absurd hn (by omega)
  | succ n ih =>
    intro x y z M wk  hxy hxyz hn hm hs hv
    rcases Nat.lt_or_ge (9 - (a1 + a2 + a3)) (x + y + z) with hB | hB
    · rcases Nat.lt_or_ge (9 - (a1 + a2 + a3)) (x + y + 1) with hB2 | hB2
      · rcases Nat.lt_or_ge (9 - (a1 + a2 + a3)) (x + 1) with hB3 | hB3
        · refine s_iload_n dX4_onto_42 rfl ?_
          refine s_iload dX4_onto_43 rfl ?_
          refine s_iadd dX4_onto_45 ?_
          refine s_eqi (y := nI (a1 + a2)) (nI_add _ _) ?_
          refine s_iload dX4_onto_46 rfl ?_
          refine s_iadd dX4_onto_48 ?_
          refine s_eqi (y := nI ((a1 + a2) + a3)) (nI_add _ _) ?_
          refine s_iload dX4_onto_49 rfl ?_
          refine s_iadd dX4_onto_51 ?_
          refine s_eqi (y := nI (((a1 + a2) + a3) + x)) (nI_add _ _) ?_
          refine s_iload dX4_onto_52 rfl ?_
          refine s_iadd dX4_onto_54 ?_
          refine s_eqi (y := nI ((((a1 + a2) + a3) + x) + y)) (nI_add _ _) ?_
          refine s_iload dX4_onto_55 rfl ?_
          refine s_iadd dX4_onto_57 ?_
          refine s_eqi (y := nI (((((a1 + a2) + a3) + x) + y) + z)) (nI_add _ _) ?_
          refine s_bipush (v := 10) dX4_onto_58 (by decide) ?_
          refine s_icmp_ge 118 dX4_onto_60 (by decide) (fun c60 => ?_) (fun c60 => absurd (nI_le (a := 10) (by omega) (by omega)) c60)
          refine s_iinc (v := nI (y + 1)) dX4_onto_118 rfl (nI_1 _) rfl ?_
          refine s_lv (lv' := [some (.ref (ad 12 0)), some (.long v), none, some (.int (nI a1)), some (.int (nI a2)), some (.int (nI a3)), some (.int (nI t)), some (.int (nI x)), some (.int (nI (y + 1))), some (.int (nI z))]) rfl ?_
          refine s_goto 21 dX4_onto_121 (by decide) ?_
          refine s_iload_n dX4_onto_21 rfl ?_
          refine s_iload dX4_onto_22 rfl ?_
          refine s_iadd dX4_onto_24 ?_
          refine s_eqi (y := nI (a1 + a2)) (nI_add _ _) ?_
          refine s_iload dX4_onto_25 rfl ?_
          refine s_iadd dX4_onto_27 ?_
          refine s_eqi (y := nI ((a1 + a2) + a3)) (nI_add _ _) ?_
          refine s_iload dX4_onto_28 rfl ?_
          refine s_iadd dX4_onto_30 ?_
          refine s_eqi (y := nI (((a1 + a2) + a3) + x)) (nI_add _ _) ?_
          refine s_iload dX4_onto_31 rfl ?_
          refine s_iadd dX4_onto_33 ?_
          refine s_eqi (y := nI ((((a1 + a2) + a3) + x) + (y + 1))) (nI_add _ _) ?_
          refine s_bipush (v := 10) dX4_onto_34 (by decide) ?_
          refine s_icmp_ge 124 dX4_onto_36 (by decide) (fun c36 => ?_) (fun c36 => absurd (nI_le (a := 10) (by omega) (by omega)) c36)
          refine s_iinc (v := nI (x + 1)) dX4_onto_124 rfl (nI_1 _) rfl ?_
          refine s_lv (lv' := [some (.ref (ad 12 0)), some (.long v), none, some (.int (nI a1)), some (.int (nI a2)), some (.int (nI a3)), some (.int (nI t)), some (.int (nI (x + 1))), some (.int (nI (y + 1))), some (.int (nI z))]) rfl ?_
          refine s_goto 3 dX4_onto_127 (by decide) ?_
          refine s_iload_n dX4_onto_3 rfl ?_
          refine s_iload dX4_onto_4 rfl ?_
          refine s_iadd dX4_onto_6 ?_
          refine s_eqi (y := nI (a1 + a2)) (nI_add _ _) ?_
          refine s_iload dX4_onto_7 rfl ?_
          refine s_iadd dX4_onto_9 ?_
          refine s_eqi (y := nI ((a1 + a2) + a3)) (nI_add _ _) ?_
          refine s_iload dX4_onto_10 rfl ?_
          refine s_iadd dX4_onto_12 ?_
          refine s_eqi (y := nI (((a1 + a2) + a3) + (x + 1))) (nI_add _ _) ?_
          refine s_bipush (v := 10) dX4_onto_13 (by decide) ?_
          refine s_icmp_ge 130 dX4_onto_15 (by decide) (fun c15 => ?_) (fun c15 => absurd (nI_le (a := 10) (by omega) (by omega)) c15)
          refine s_drop 7 ?_
          refine s_drop 8 ?_
          refine s_drop 9 ?_
          exact kont M wk  hm hs (WRk.skip (T := (ontoT (100 * a1 + 10 * a2 + a3) v.toInt P)) (B := 9 - (a1 + a2 + a3)) hv (by omega) (skp3 hB hB2 hB3 (by omega)) (fun y w hw => ontoT_0 (hpd w hw) y))
        · refine s_iload_n dX4_onto_42 rfl ?_
          refine s_iload dX4_onto_43 rfl ?_
          refine s_iadd dX4_onto_45 ?_
          refine s_eqi (y := nI (a1 + a2)) (nI_add _ _) ?_
          refine s_iload dX4_onto_46 rfl ?_
          refine s_iadd dX4_onto_48 ?_
          refine s_eqi (y := nI ((a1 + a2) + a3)) (nI_add _ _) ?_
          refine s_iload dX4_onto_49 rfl ?_
          refine s_iadd dX4_onto_51 ?_
          refine s_eqi (y := nI (((a1 + a2) + a3) + x)) (nI_add _ _) ?_
          refine s_iload dX4_onto_52 rfl ?_
          refine s_iadd dX4_onto_54 ?_
          refine s_eqi (y := nI ((((a1 + a2) + a3) + x) + y)) (nI_add _ _) ?_
          refine s_iload dX4_onto_55 rfl ?_
          refine s_iadd dX4_onto_57 ?_
          refine s_eqi (y := nI (((((a1 + a2) + a3) + x) + y) + z)) (nI_add _ _) ?_
          refine s_bipush (v := 10) dX4_onto_58 (by decide) ?_
          refine s_icmp_ge 118 dX4_onto_60 (by decide) (fun c60 => ?_) (fun c60 => absurd (nI_le (a := 10) (by omega) (by omega)) c60)
          refine s_iinc (v := nI (y + 1)) dX4_onto_118 rfl (nI_1 _) rfl ?_
          refine s_lv (lv' := [some (.ref (ad 12 0)), some (.long v), none, some (.int (nI a1)), some (.int (nI a2)), some (.int (nI a3)), some (.int (nI t)), some (.int (nI x)), some (.int (nI (y + 1))), some (.int (nI z))]) rfl ?_
          refine s_goto 21 dX4_onto_121 (by decide) ?_
          refine s_iload_n dX4_onto_21 rfl ?_
          refine s_iload dX4_onto_22 rfl ?_
          refine s_iadd dX4_onto_24 ?_
          refine s_eqi (y := nI (a1 + a2)) (nI_add _ _) ?_
          refine s_iload dX4_onto_25 rfl ?_
          refine s_iadd dX4_onto_27 ?_
          refine s_eqi (y := nI ((a1 + a2) + a3)) (nI_add _ _) ?_
          refine s_iload dX4_onto_28 rfl ?_
          refine s_iadd dX4_onto_30 ?_
          refine s_eqi (y := nI (((a1 + a2) + a3) + x)) (nI_add _ _) ?_
          refine s_iload dX4_onto_31 rfl ?_
          refine s_iadd dX4_onto_33 ?_
          refine s_eqi (y := nI ((((a1 + a2) + a3) + x) + (y + 1))) (nI_add _ _) ?_
          refine s_bipush (v := 10) dX4_onto_34 (by decide) ?_
          refine s_icmp_ge 124 dX4_onto_36 (by decide) (fun c36 => ?_) (fun c36 => absurd (nI_le (a := 10) (by omega) (by omega)) c36)
          refine s_iinc (v := nI (x + 1)) dX4_onto_124 rfl (nI_1 _) rfl ?_
          refine s_lv (lv' := [some (.ref (ad 12 0)), some (.long v), none, some (.int (nI a1)), some (.int (nI a2)), some (.int (nI a3)), some (.int (nI t)), some (.int (nI (x + 1))), some (.int (nI (y + 1))), some (.int (nI z))]) rfl ?_
          refine s_goto 3 dX4_onto_127 (by decide) ?_
          refine s_iload_n dX4_onto_3 rfl ?_
          refine s_iload dX4_onto_4 rfl ?_
          refine s_iadd dX4_onto_6 ?_
          refine s_eqi (y := nI (a1 + a2)) (nI_add _ _) ?_
          refine s_iload dX4_onto_7 rfl ?_
          refine s_iadd dX4_onto_9 ?_
          refine s_eqi (y := nI ((a1 + a2) + a3)) (nI_add _ _) ?_
          refine s_iload dX4_onto_10 rfl ?_
          refine s_iadd dX4_onto_12 ?_
          refine s_eqi (y := nI (((a1 + a2) + a3) + (x + 1))) (nI_add _ _) ?_
          refine s_bipush (v := 10) dX4_onto_13 (by decide) ?_
          refine s_icmp_ge 130 dX4_onto_15 (by decide) (fun c15 => absurd c15 (nI_ge (b := 10) (by omega) (by omega))) (fun c15 => ?_)
          refine s_iconst (v := 0) dX4_onto_18 (by decide) ?_
          refine s_istore dX4_onto_19 rfl rfl ?_
          refine s_lv (lv' := [some (.ref (ad 12 0)), some (.long v), none, some (.int (nI a1)), some (.int (nI a2)), some (.int (nI a3)), some (.int (nI t)), some (.int (nI (x + 1))), some (.int 0), some (.int (nI z))]) rfl ?_
          refine s_iload_n dX4_onto_21 rfl ?_
          refine s_iload dX4_onto_22 rfl ?_
          refine s_iadd dX4_onto_24 ?_
          refine s_eqi (y := nI (a1 + a2)) (nI_add _ _) ?_
          refine s_iload dX4_onto_25 rfl ?_
          refine s_iadd dX4_onto_27 ?_
          refine s_eqi (y := nI ((a1 + a2) + a3)) (nI_add _ _) ?_
          refine s_iload dX4_onto_28 rfl ?_
          refine s_iadd dX4_onto_30 ?_
          refine s_eqi (y := nI (((a1 + a2) + a3) + (x + 1))) (nI_add _ _) ?_
          refine s_iload dX4_onto_31 rfl ?_
          refine s_iadd dX4_onto_33 ?_
          refine s_eqi (y := nI ((((a1 + a2) + a3) + (x + 1)) + 0)) (nI_add _ _) ?_
          refine s_bipush (v := 10) dX4_onto_34 (by decide) ?_
          refine s_icmp_ge 124 dX4_onto_36 (by decide) (fun c36 => absurd c36 (nI_ge (b := 10) (by omega) (by omega))) (fun c36 => ?_)
          refine s_iconst (v := 0) dX4_onto_39 (by decide) ?_
          refine s_istore dX4_onto_40 rfl rfl ?_
          refine s_lv (lv' := [some (.ref (ad 12 0)), some (.long v), none, some (.int (nI a1)), some (.int (nI a2)), some (.int (nI a3)), some (.int (nI t)), some (.int (nI (x + 1))), some (.int 0), some (.int 0)]) rfl ?_
          exact ih (x + 1) 0 0 M wk  (by omega) (by omega) (by omega) hm hs (WRk.skip (T := (ontoT (100 * a1 + 10 * a2 + a3) v.toInt P)) (B := 9 - (a1 + a2 + a3)) hv (by omega) (skp2 hB hB2 (by omega)) (fun y w hw => ontoT_0 (hpd w hw) y))
      · refine s_iload_n dX4_onto_42 rfl ?_
        refine s_iload dX4_onto_43 rfl ?_
        refine s_iadd dX4_onto_45 ?_
        refine s_eqi (y := nI (a1 + a2)) (nI_add _ _) ?_
        refine s_iload dX4_onto_46 rfl ?_
        refine s_iadd dX4_onto_48 ?_
        refine s_eqi (y := nI ((a1 + a2) + a3)) (nI_add _ _) ?_
        refine s_iload dX4_onto_49 rfl ?_
        refine s_iadd dX4_onto_51 ?_
        refine s_eqi (y := nI (((a1 + a2) + a3) + x)) (nI_add _ _) ?_
        refine s_iload dX4_onto_52 rfl ?_
        refine s_iadd dX4_onto_54 ?_
        refine s_eqi (y := nI ((((a1 + a2) + a3) + x) + y)) (nI_add _ _) ?_
        refine s_iload dX4_onto_55 rfl ?_
        refine s_iadd dX4_onto_57 ?_
        refine s_eqi (y := nI (((((a1 + a2) + a3) + x) + y) + z)) (nI_add _ _) ?_
        refine s_bipush (v := 10) dX4_onto_58 (by decide) ?_
        refine s_icmp_ge 118 dX4_onto_60 (by decide) (fun c60 => ?_) (fun c60 => absurd (nI_le (a := 10) (by omega) (by omega)) c60)
        refine s_iinc (v := nI (y + 1)) dX4_onto_118 rfl (nI_1 _) rfl ?_
        refine s_lv (lv' := [some (.ref (ad 12 0)), some (.long v), none, some (.int (nI a1)), some (.int (nI a2)), some (.int (nI a3)), some (.int (nI t)), some (.int (nI x)), some (.int (nI (y + 1))), some (.int (nI z))]) rfl ?_
        refine s_goto 21 dX4_onto_121 (by decide) ?_
        refine s_iload_n dX4_onto_21 rfl ?_
        refine s_iload dX4_onto_22 rfl ?_
        refine s_iadd dX4_onto_24 ?_
        refine s_eqi (y := nI (a1 + a2)) (nI_add _ _) ?_
        refine s_iload dX4_onto_25 rfl ?_
        refine s_iadd dX4_onto_27 ?_
        refine s_eqi (y := nI ((a1 + a2) + a3)) (nI_add _ _) ?_
        refine s_iload dX4_onto_28 rfl ?_
        refine s_iadd dX4_onto_30 ?_
        refine s_eqi (y := nI (((a1 + a2) + a3) + x)) (nI_add _ _) ?_
        refine s_iload dX4_onto_31 rfl ?_
        refine s_iadd dX4_onto_33 ?_
        refine s_eqi (y := nI ((((a1 + a2) + a3) + x) + (y + 1))) (nI_add _ _) ?_
        refine s_bipush (v := 10) dX4_onto_34 (by decide) ?_
        refine s_icmp_ge 124 dX4_onto_36 (by decide) (fun c36 => absurd c36 (nI_ge (b := 10) (by omega) (by omega))) (fun c36 => ?_)
        refine s_iconst (v := 0) dX4_onto_39 (by decide) ?_
        refine s_istore dX4_onto_40 rfl rfl ?_
        refine s_lv (lv' := [some (.ref (ad 12 0)), some (.long v), none, some (.int (nI a1)), some (.int (nI a2)), some (.int (nI a3)), some (.int (nI t)), some (.int (nI x)), some (.int (nI (y + 1))), some (.int 0)]) rfl ?_
        exact ih x (y + 1) 0 M wk  (by omega) (by omega) (by omega) hm hs (WRk.skip (T := (ontoT (100 * a1 + 10 * a2 + a3) v.toInt P)) (B := 9 - (a1 + a2 + a3)) hv (by omega) (skp1 hB (by omega)) (fun y w hw => ontoT_0 (hpd w hw) y))
    · have hsm := pl_sum (a := a1) (b := a2) (c := a3) (x := x) (y := y) (z := z) (by omega)
      have hgd : good (100 * x + 10 * y + z) := good_dig (by omega)
      have hpd2 := pl_dig (i := x) (j := y) (k := z) (by omega) (by omega)
      have hplt := (pl_facts hgd).1
      rw [hpd2] at hplt
      have hql := (pl_facts hsm.1).1
      rw [hsm.2] at hql
      have hcv := hcr.at hgd
      rw [hpd2] at hcv
      refine s_iload_n dX4_onto_42 rfl ?_
      refine s_iload dX4_onto_43 rfl ?_
      refine s_iadd dX4_onto_45 ?_
      refine s_eqi (y := nI (a1 + a2)) (nI_add _ _) ?_
      refine s_iload dX4_onto_46 rfl ?_
      refine s_iadd dX4_onto_48 ?_
      refine s_eqi (y := nI ((a1 + a2) + a3)) (nI_add _ _) ?_
      refine s_iload dX4_onto_49 rfl ?_
      refine s_iadd dX4_onto_51 ?_
      refine s_eqi (y := nI (((a1 + a2) + a3) + x)) (nI_add _ _) ?_
      refine s_iload dX4_onto_52 rfl ?_
      refine s_iadd dX4_onto_54 ?_
      refine s_eqi (y := nI ((((a1 + a2) + a3) + x) + y)) (nI_add _ _) ?_
      refine s_iload dX4_onto_55 rfl ?_
      refine s_iadd dX4_onto_57 ?_
      refine s_eqi (y := nI (((((a1 + a2) + a3) + x) + y) + z)) (nI_add _ _) ?_
      refine s_bipush (v := 10) dX4_onto_58 (by decide) ?_
      refine s_icmp_ge 118 dX4_onto_60 (by decide) (fun c60 => absurd c60 (nI_ge (b := 10) (by omega) (by omega))) (fun c60 => ?_)
      refine s_aload_n dX4_onto_63 rfl ?_
      refine s_get (kd := 12) (ix := 0) (ci := 5) (fs := [.int c0, .int (nI t0), .ref (ad 13 0), .ref (ad 14 0), .ref (ad 15 0), .ref (ad 16 0), .ref (ad 17 0), .ref (ad 18 0), .int (nI r0), .ref (ad 19 0), .ref (ad 20 0), .ref (ad 21 0), .ref (ad 22 0), .ref (ad 23 0), .ref (ad 24 0), .int (jB b0), .ref (ad 25 0)])  hm.1 rfl in_X4_onto_X4 13 (by decide) (by decide +kernel) rfl rfl dX4_onto_64 ?_
      refine s_iload_n dX4_onto_67 rfl ?_
      refine s_iload dX4_onto_68 rfl ?_
      refine s_iadd dX4_onto_70 ?_
      refine s_eqi (y := nI (a1 + x)) (nI_add _ _) ?_
      refine s_iload dX4_onto_71 rfl ?_
      refine s_iload dX4_onto_73 rfl ?_
      refine s_iadd dX4_onto_75 ?_
      refine s_eqi (y := nI (a2 + y)) (nI_add _ _) ?_
      refine s_iload dX4_onto_76 rfl ?_
      refine s_iload dX4_onto_78 rfl ?_
      refine s_iadd dX4_onto_80 ?_
      refine s_eqi (y := nI (a3 + z)) (nI_add _ _) ?_
      refine s_callS (As := [.int (nI (a1 + x)), .int (nI (a2 + y)), .int (nI (a3 + z))]) (rest := [.ref (ad 23 0)]) (n := 3) (fun l hl => c_X4_place G l hl ad M (a1 + x) (a2 + y) (a3 + z) (by omega)) gX4_onto_X4_place rfl (by decide +kernel) rfl ⟨(Nat.le_of_ble_eq_true rfl), (Nat.le_of_ble_eq_true rfl)⟩ ⟨(Nat.le_of_ble_eq_true rfl), (Nat.le_of_ble_eq_true rfl)⟩ (Nat.le_of_ble_eq_true rfl) dX4_onto_81 rfl (fun r9 ad9 M9 h9 => ?_)
      obtain ⟨rfl, rfl, rfl⟩ := h9
      refine s_dup2_11 dX4_onto_84 rfl rfl ?_
      refine s_lald (kd := 23) (ix := 0) (n := 220) (f := wk) (j := pl3 (a1 + x) (a2 + y) (a3 + z)) hm.2.2.2.2.2.2.2.2.2.2.2.1 (rfl) (hql) (by decide) dX4_onto_85 ?_
      refine s_lload_n dX4_onto_86 rfl ?_
      refine s_aload_n dX4_onto_87 rfl ?_
      refine s_get (kd := 12) (ix := 0) (ci := 5) (fs := [.int c0, .int (nI t0), .ref (ad 13 0), .ref (ad 14 0), .ref (ad 15 0), .ref (ad 16 0), .ref (ad 17 0), .ref (ad 18 0), .int (nI r0), .ref (ad 19 0), .ref (ad 20 0), .ref (ad 21 0), .ref (ad 22 0), .ref (ad 23 0), .ref (ad 24 0), .int (jB b0), .ref (ad 25 0)])  hm.1 rfl in_X4_onto_X4 6 (by decide) (by decide +kernel) rfl rfl dX4_onto_88 ?_
      refine s_sipush (v := 220) dX4_onto_91 (by decide) ?_
      refine s_iload dX4_onto_94 rfl ?_
      refine s_imul dX4_onto_96 ?_
      refine s_eqi (y := nI (220 * t)) (nI_mul 220 t) ?_
      refine s_iload dX4_onto_97 rfl ?_
      refine s_iload dX4_onto_99 rfl ?_
      refine s_iload dX4_onto_101 rfl ?_
      refine s_callS (As := [.int (nI x), .int (nI y), .int (nI z)]) (rest := [.int (nI (220 * t)), .ref (ad 17 0), .long v, .long (wk (pl3 (a1 + x) (a2 + y) (a3 + z))), .int (nI (pl3 (a1 + x) (a2 + y) (a3 + z))), .ref (ad 23 0)]) (n := 3) (fun l hl => c_X4_place G l hl ad M x y z (by omega)) gX4_onto_X4_place rfl (by decide +kernel) rfl ⟨(Nat.le_of_ble_eq_true rfl), (Nat.le_of_ble_eq_true rfl)⟩ ⟨(Nat.le_of_ble_eq_true rfl), (Nat.le_of_ble_eq_true rfl)⟩ (Nat.le_of_ble_eq_true rfl) dX4_onto_103 rfl (fun r9 ad9 M9 h9 => ?_)
      obtain ⟨rfl, rfl, rfl⟩ := h9
      refine s_iadd dX4_onto_106 ?_
      refine s_eqi (y := nI (220 * t + pl3 x y z)) (nI_add _ _) ?_
      refine s_iald (kd := 17) (ix := 0) (n := 26400) (f := cl) (j := 220 * t + pl3 x y z) hm.2.2.2.2.2.1 (rfl) (by omega) (by decide) dX4_onto_107 ?_
      refine s_i2l dX4_onto_108 ?_
      refine s_lmul dX4_onto_109 ?_
      refine s_ladd dX4_onto_110 ?_
      refine s_last (kd := 23) (ix := 0) (n := 220) (f := wk) (j := pl3 (a1 + x) (a2 + y) (a3 + z)) (x := (wk (pl3 (a1 + x) (a2 + y) (a3 + z))) + (v * ((cl (220 * t + pl3 x y z)).toInt64))) hm.2.2.2.2.2.2.2.2.2.2.2.1  (rfl) (hql) (by decide) dX4_onto_111 ?_
      refine s_iinc (v := nI (z + 1)) dX4_onto_112 rfl (nI_1 _) rfl ?_
      refine s_lv (lv' := [some (.ref (ad 12 0)), some (.long v), none, some (.int (nI a1)), some (.int (nI a2)), some (.int (nI a3)), some (.int (nI t)), some (.int (nI x)), some (.int (nI y)), some (.int (nI (z + 1)))]) rfl ?_
      refine s_goto 42 dX4_onto_115 (by decide) ?_
      have hold := hv.at hsm.1
      rw [hsm.2] at hold
      have hpx := hpb (100 * x + 10 * y + z)
      have hmb := mul_bnd (A := 1000000) (B := 1000000) (by omega) (by omega) hvb hpx
      have hsb := sN_abs (g := (ontoT (100 * a1 + 10 * a2 + a3) v.toInt P) ((100 * a1 + 10 * a2 + a3) + (100 * x + 10 * y + z))) (W := 1000000 * 1000000) (n := (100 * x + 10 * y + z)) (fun w _ => ontoT_b hvb hpb _ w)
      have hfq := hfb ((100 * a1 + 10 * a2 + a3) + (100 * x + 10 * y + z))
      have hg1 := hgd.1
      have hprod : (v * (cl (220 * t + pl3 x y z)).toInt64).toInt = v.toInt * P (100 * x + 10 * y + z) := by
        rw [i64_mul (by rw [i32_64, hcv]; omega) (by rw [i32_64, hcv]; omega), i32_64, hcv]
      have hnew : (wk (pl3 (a1 + x) (a2 + y) (a3 + z)) + v * (cl (220 * t + pl3 x y z)).toInt64).toInt = f ((100 * a1 + 10 * a2 + a3) + (100 * x + 10 * y + z)) + sN ((ontoT (100 * a1 + 10 * a2 + a3) v.toInt P) ((100 * a1 + 10 * a2 + a3) + (100 * x + 10 * y + z))) (100 * x + 10 * y + z) + (ontoT (100 * a1 + 10 * a2 + a3) v.toInt P) ((100 * a1 + 10 * a2 + a3) + (100 * x + 10 * y + z)) (100 * x + 10 * y + z) := by
        rw [show (ontoT (100 * a1 + 10 * a2 + a3) v.toInt P) ((100 * a1 + 10 * a2 + a3) + (100 * x + 10 * y + z)) (100 * x + 10 * y + z) = v.toInt * P (100 * x + 10 * y + z) from if_pos rfl, i64_add (by rw [hold, hprod]; omega) (by rw [hold, hprod]; omega), hold, hprod]
      exact ih x y (z + 1) (sset M 23 0 (.inl (gJ G, 220, .inr (.inl (vp_updL wk (pl3 (a1 + x) (a2 + y) (a3 + z)) ((wk (pl3 (a1 + x) (a2 + y) (a3 + z))) + (v * ((cl (220 * t + pl3 x y z)).toInt64)))))))) (vp_updL wk (pl3 (a1 + x) (a2 + y) (a3 + z)) ((wk (pl3 (a1 + x) (a2 + y) (a3 + z))) + (v * ((cl (220 * t + pl3 x y z)).toInt64))))  (by omega) (by omega) (by omega) ⟨((sset_k _ _ (by decide)).trans (hm.1)), ((sset_k _ _ (by decide)).trans (hm.2.1)), ((sset_k _ _ (by decide)).trans (hm.2.2.1)), ((sset_k _ _ (by decide)).trans (hm.2.2.2.1)), ((sset_k _ _ (by decide)).trans (hm.2.2.2.2.1)), ((sset_k _ _ (by decide)).trans (hm.2.2.2.2.2.1)), ((sset_k _ _ (by decide)).trans (hm.2.2.2.2.2.2.1)), ((sset_k _ _ (by decide)).trans (hm.2.2.2.2.2.2.2.1)), ((sset_k _ _ (by decide)).trans (hm.2.2.2.2.2.2.2.2.1)), ((sset_k _ _ (by decide)).trans (hm.2.2.2.2.2.2.2.2.2.1)), ((sset_k _ _ (by decide)).trans (hm.2.2.2.2.2.2.2.2.2.2.1)), (sset_self _ _ _ _), ((sset_k _ _ (by decide)).trans (hm.2.2.2.2.2.2.2.2.2.2.2.2.1)), ((sset_k _ _ (by decide)).trans (hm.2.2.2.2.2.2.2.2.2.2.2.2.2))⟩ (hs |>.set (P := pMd) (by simp [pMd]) _) (by
        have z9 := WRk.put (T := (ontoT (100 * a1 + 10 * a2 + a3) v.toInt P)) hv hsm.1 hnew (fun w hw => if_neg (fun e => hw e.symm))
        rw [hsm.2] at z9
        exact z9)
set_option maxHeartbeats 4000000 in
set_option maxRecDepth 100000 in
theorem c_X4_onto (G : sG) (l : Launch) (hl : l.stackTraces = false) (ad : sAd) (M : sM) (c0 : Int32) (t0 : Nat) (hd : Nat → Int32) (on : Nat → Int32) (tw : Nat → Int32) (dp : Nat → Int32) (cl : Nat → Int32) (gr : Nat → Int32) (r0 : Nat) (kd : Nat → Int32) (fl : Nat → Int32) (co : Nat → Int32) (sm : Nat → Int32) (wk : Nat → Int64) (sp : Nat → Int64) (b0 : Bool) (mu : Nat → Int32) (hm : hMd G ad M (c0, t0, hd, on, tw, dp, cl, gr, r0, kd, fl, co, sm, wk, sp, b0, mu)) (v : Int64) (hvb : -1000000 ≤ v.toInt ∧ v.toInt ≤ 1000000) (a1 a2 a3 : Nat) (haS : a1 + a2 + a3 ≤ 9) (t : Nat) (htt : t < 120) (P : Nat → Int) (hpb : ∀ y, -1000000 ≤ P y ∧ P y ≤ 1000000) (hcr : CRk cl t P) (hpd : ∀ w, 9 - (a1 + a2 + a3) < gdeg w → P w = 0) (f : Nat → Int) (hfb : ∀ y, -(10 ^ 18) ≤ f y ∧ f y ≤ 10 ^ 18) (hwr : WRk wk f) : sMet G l yX4_onto mX4_onto [.ref (ad 12 0), .long v, .int (nI a1), .int (nI a2), .int (nI a3), .int (nI t)] ad M (fun r ad' M' => ad = ad' ∧ r = none ∧ ∃ wk', hMd G ad M' (c0, t0, hd, on, tw, dp, cl, gr, r0, kd, fl, co, sm, wk', sp, b0, mu) ∧ sSame pMd M M' ∧ WRk wk' (fun y => f y + sN ((ontoT (100 * a1 + 10 * a2 + a3) v.toInt P) y) 1000)) (fun _ _ _ => False) := by
  refine sMet.of hl (by decide +kernel) rfl rfl rfl rfl (Nat.le_of_ble_eq_true rfl) (fun X => ?_)
  refine s_lv (lv' := [some (.ref (ad 12 0)), some (.long v), none, some (.int (nI a1)), some (.int (nI a2)), some (.int (nI a3)), some (.int (nI t)), none, none, none]) rfl ?_
  refine s_iconst (v := 0) dX4_onto_0 (by decide) ?_
  refine s_istore dX4_onto_1 rfl rfl ?_
  refine s_lv (lv' := [some (.ref (ad 12 0)), some (.long v), none, some (.int (nI a1)), some (.int (nI a2)), some (.int (nI a3)), some (.int (nI t)), some (.int 0), none, none]) rfl ?_
  refine s_iload_n dX4_onto_3 rfl ?_
  refine s_iload dX4_onto_4 rfl ?_
  refine s_iadd dX4_onto_6 ?_
  refine s_eqi (y := nI (a1 + a2)) (nI_add _ _) ?_
  refine s_iload dX4_onto_7 rfl ?_
  refine s_iadd dX4_onto_9 ?_
  refine s_eqi (y := nI ((a1 + a2) + a3)) (nI_add _ _) ?_
  refine s_iload dX4_onto_10 rfl ?_
  refine s_iadd dX4_onto_12 ?_
  refine s_eqi (y := nI (((a1 + a2) + a3) + 0)) (nI_add _ _) ?_
  refine s_bipush (v := 10) dX4_onto_13 (by decide) ?_
  refine s_icmp_ge 130 dX4_onto_15 (by decide) (fun c15 => absurd c15 (nI_ge (b := 10) (by omega) (by omega))) (fun c15 => ?_)
  refine s_iconst (v := 0) dX4_onto_18 (by decide) ?_
  refine s_istore dX4_onto_19 rfl rfl ?_
  refine s_lv (lv' := [some (.ref (ad 12 0)), some (.long v), none, some (.int (nI a1)), some (.int (nI a2)), some (.int (nI a3)), some (.int (nI t)), some (.int 0), some (.int 0), none]) rfl ?_
  refine s_iload_n dX4_onto_21 rfl ?_
  refine s_iload dX4_onto_22 rfl ?_
  refine s_iadd dX4_onto_24 ?_
  refine s_eqi (y := nI (a1 + a2)) (nI_add _ _) ?_
  refine s_iload dX4_onto_25 rfl ?_
  refine s_iadd dX4_onto_27 ?_
  refine s_eqi (y := nI ((a1 + a2) + a3)) (nI_add _ _) ?_
  refine s_iload dX4_onto_28 rfl ?_
  refine s_iadd dX4_onto_30 ?_
  refine s_eqi (y := nI (((a1 + a2) + a3) + 0)) (nI_add _ _) ?_
  refine s_iload dX4_onto_31 rfl ?_
  refine s_iadd dX4_onto_33 ?_
  refine s_eqi (y := nI ((((a1 + a2) + a3) + 0) + 0)) (nI_add _ _) ?_
  refine s_bipush (v := 10) dX4_onto_34 (by decide) ?_
  refine s_icmp_ge 124 dX4_onto_36 (by decide) (fun c36 => absurd c36 (nI_ge (b := 10) (by omega) (by omega))) (fun c36 => ?_)
  refine s_iconst (v := 0) dX4_onto_39 (by decide) ?_
  refine s_istore dX4_onto_40 rfl rfl ?_
  refine s_lv (lv' := [some (.ref (ad 12 0)), some (.long v), none, some (.int (nI a1)), some (.int (nI a2)), some (.int (nI a3)), some (.int (nI t)), some (.int 0), some (.int 0), some (.int 0)]) rfl ?_
  refine l_X4_onto X G ad M c0 t0 hd on tw dp cl gr r0 kd fl co sm sp b0 mu v hvb a1 a2 a3 haS t htt P hpb hcr hpd f hfb _ (fun M4 wk4  hm4 hs4 hv4 => ?_) 1400 0 0 0 M wk  (by omega) (by omega) (by omega) ⟨hm.1, hm.2.1, hm.2.2.1, hm.2.2.2.1, hm.2.2.2.2.1, hm.2.2.2.2.2.1, hm.2.2.2.2.2.2.1, hm.2.2.2.2.2.2.2.1, hm.2.2.2.2.2.2.2.2.1, hm.2.2.2.2.2.2.2.2.2.1, hm.2.2.2.2.2.2.2.2.2.2.1, hm.2.2.2.2.2.2.2.2.2.2.2.1, hm.2.2.2.2.2.2.2.2.2.2.2.2.1, hm.2.2.2.2.2.2.2.2.2.2.2.2.2⟩ sSame.rfl (hwr.ext (fun y => (Int.add_zero _).symm))
  exact s_vret rfl dX4_onto_130 (Nat.le_of_ble_eq_true rfl) (Nat.le_of_ble_eq_true rfl) (⟨rfl, rfl, _, hm4, hs4, hv4⟩)
