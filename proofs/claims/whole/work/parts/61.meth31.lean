/-! the reference's other public methods -/
abbrev mX4_load : sMeth := (cX4_load, 9, RX4, wsX4_load, { frames := 2, cells := 0, slots := 0, locals := 46 }, (some .int), "load", [])
theorem in_X4_load_X4 : ∀ w ∈ wsX40, w ∈ wsX4_load := by decide +kernel
set_option maxHeartbeats 4000000 in
set_option maxRecDepth 100000 in
theorem c_X4_load (G : sG) (l : Launch) (hl : l.stackTraces = false) (ad : sAd) (M : sM) (c0 : Int32) (t0 : Nat) (hd : Nat → Int32) (on : Nat → Int32) (tw : Nat → Int32) (dp : Nat → Int32) (cl : Nat → Int32) (gr : Nat → Int32) (r0 : Nat) (kd : Nat → Int32) (fl : Nat → Int32) (co : Nat → Int32) (sm : Nat → Int32) (wk : Nat → Int64) (sp : Nat → Int64) (b0 : Bool) (mu : Nat → Int32) (hm : hMd G ad M (c0, t0, hd, on, tw, dp, cl, gr, r0, kd, fl, co, sm, wk, sp, b0, mu)) (α : sAl) (hA : AI α) (hI : RI α (c0, t0, hd, on, tw, dp, cl, gr, r0, kd, fl, co, sm, wk, sp, b0, mu)) (q a b c v : Int32) (k : Nat) (α' : sAl) (hrel : ldRel α q a b c k v α') : sMet G l yX4_load mX4_load [.ref (ad 12 0), .int q, .int a, .int b, .int c] ad M (mPost G ad M k v α') (fun _ _ _ => False) := by
  obtain ⟨i1, i2, i3, i4⟩ := id hI
  have hT := hA.1
  have hR60 := hA.2.1
  refine sMet.of hl (by decide +kernel) rfl rfl rfl rfl (Nat.le_of_ble_eq_true rfl) (fun X => ?_)
  refine s_lv (lv' := [some (.ref (ad 12 0)), some (.int q), some (.int a), some (.int b), some (.int c), none, none, none, none]) rfl ?_
  refine s_iload_n dX4_load_0 rfl ?_
  refine s_i2l dX4_load_1 ?_
  refine s_lconst (v := 0) dX4_load_2 (by decide) ?_
  refine s_ldc2 (v := 6) dX4_load_3 (by decide +kernel) ?_
  refine s_callS (As := [.long q.toInt64, .long 0, .long 6]) (rest := []) (n := 3) (fun l hl => c_X4_in G l hl ad M q.toInt64 0 6) gX4_load_X4_in rfl (by decide +kernel) rfl ⟨(Nat.le_of_ble_eq_true rfl), (Nat.le_of_ble_eq_true rfl)⟩ ⟨(Nat.le_of_ble_eq_true rfl), (Nat.le_of_ble_eq_true rfl)⟩ (Nat.le_of_ble_eq_true rfl) dX4_load_6 rfl (fun r9 ad9 M9 h9 => ?_)
  obtain ⟨rfl, rfl, e9⟩ := h9
  obtain ⟨zq, e8, hzq⟩ := in_z (x := q) (a := 0) (b := 6) (A := 0) (B := 6) (by decide) (by decide)
  rw [e8] at e9
  subst e9
  refine s_istore dX4_load_9 rfl rfl ?_
  refine s_lv (lv' := [some (.ref (ad 12 0)), some (.int q), some (.int a), some (.int b), some (.int c), some (.int (jB zq)), none, none, none]) rfl ?_
  refine s_iload dX4_load_11 rfl ?_
  refine s_if_eq 23 dX4_load_13 (by decide) (fun c13 => ?_) (fun c13 => ?_)
  · have hnk : ∀ j, j < 7 → q ≠ nI j := fun j hj e => (fun q => by have z9 := hzq.mpr q; rw [jB_0.mp c13] at z9; cases z9) (i32_7.mpr ⟨j, hj, e⟩)
    have etf : tfI q = 1 := tfI_out hnk
    refine s_iconst (v := 1) dX4_load_23 (by decide) ?_
    refine s_istore dX4_load_24 rfl rfl ?_
    refine s_lv (lv' := [some (.ref (ad 12 0)), some (.int q), some (.int a), some (.int b), some (.int c), some (.int (jB zq)), some (.int 1), none, none]) rfl ?_
    refine s_aload_n dX4_load_26 rfl ?_
    refine s_iload_n dX4_load_27 rfl ?_
    refine s_callV (As := [.int a]) (rest := []) (n := 1) (kd := 12) (ix := 0) (fun l hl => c_X4_isTree G l hl ad M c0 t0 hd on tw dp cl gr r0 kd fl co sm wk sp b0 mu ⟨hm.1, hm.2.1, hm.2.2.1, hm.2.2.2.1, hm.2.2.2.2.1, hm.2.2.2.2.2.1, hm.2.2.2.2.2.2.1, hm.2.2.2.2.2.2.2.1, hm.2.2.2.2.2.2.2.2.1, hm.2.2.2.2.2.2.2.2.2.1, hm.2.2.2.2.2.2.2.2.2.2.1, hm.2.2.2.2.2.2.2.2.2.2.2.1, hm.2.2.2.2.2.2.2.2.2.2.2.2.1, hm.2.2.2.2.2.2.2.2.2.2.2.2.2⟩ (by omega) a) gX4_load_X4_isTree rfl (by decide +kernel) hm.1 rfl rfl ⟨(Nat.le_of_ble_eq_true rfl), (Nat.le_of_ble_eq_true rfl)⟩ ⟨(Nat.le_of_ble_eq_true rfl), (Nat.le_of_ble_eq_true rfl)⟩ (Nat.le_of_ble_eq_true rfl) dX4_load_28 rfl (fun r9 ad9 M9 h9 => ?_)
    obtain ⟨rfl, rfl, za, rfl, hza⟩ := h9
    rw [i1] at hza
    refine s_if_eq 63 dX4_load_31 (by decide) (fun c31 => ?_) (fun c31 => ?_)
    · obtain ⟨rfl, ea⟩ := hrel.c1 (Or.inl (fun q => by have z9 := hza.mpr q; rw [jB_0.mp c31] at z9; cases z9))
      refine s_aload_n dX4_load_63 rfl ?_
      refine s_iconst (v := 1) dX4_load_64 (by decide) ?_
      refine s_callV (As := [.int 1]) (rest := []) (n := 1) (kd := 12) (ix := 0) (fun l hl => c_X4_raise G l hl ad M c0 t0 hd on tw dp cl gr r0 kd fl co sm wk sp b0 mu ⟨hm.1, hm.2.1, hm.2.2.1, hm.2.2.2.1, hm.2.2.2.2.1, hm.2.2.2.2.2.1, hm.2.2.2.2.2.2.1, hm.2.2.2.2.2.2.2.1, hm.2.2.2.2.2.2.2.2.1, hm.2.2.2.2.2.2.2.2.2.1, hm.2.2.2.2.2.2.2.2.2.2.1, hm.2.2.2.2.2.2.2.2.2.2.2.1, hm.2.2.2.2.2.2.2.2.2.2.2.2.1, hm.2.2.2.2.2.2.2.2.2.2.2.2.2⟩ 1) gX4_load_X4_raise rfl (by decide +kernel) hm.1 rfl rfl ⟨(Nat.le_of_ble_eq_true rfl), (Nat.le_of_ble_eq_true rfl)⟩ ⟨(Nat.le_of_ble_eq_true rfl), (Nat.le_of_ble_eq_true rfl)⟩ (Nat.le_of_ble_eq_true rfl) dX4_load_65 rfl (fun r9 ad9 M9 h9 => ?_)
      obtain ⟨rfl, rfl, hm9, hs9⟩ := h9
      exact s_iret rfl (rfl) dX4_load_68 (Nat.le_of_ble_eq_true rfl) (Nat.le_of_ble_eq_true rfl) (⟨rfl, (sSame.rfl.trans hs9), ⟨(1, t0, hd, on, tw, dp, cl, gr, r0, kd, fl, co, sm, wk, sp, b0, mu), hm9, rfl, by rw [ea]; exact hI.any _ _ _ _ _⟩, _, rfl, fun q => absurd q (by decide)⟩)
    · refine s_iload dX4_load_34 rfl ?_
      refine s_iconst (v := 1) dX4_load_36 (by decide) ?_
      refine s_icmp_le 48 dX4_load_37 (by decide) (fun c37 => ?_) (fun c37 => absurd (by decide) c37)
      refine s_iload dX4_load_48 rfl ?_
      refine s_iconst (v := 2) dX4_load_50 (by decide) ?_
      refine s_icmp_le 69 dX4_load_51 (by decide) (fun c51 => ?_) (fun c51 => absurd (by decide) c51)
      have hn1 : ¬ lC1 α q a b c := fun z => z.elim (fun z => z (hza.mp (Bool.of_not_eq_false (fun q => c31 (jB_0.mpr q))))) (fun z => z.elim (fun z => absurd z.1 (by rw [etf]; omega)) (fun z => absurd z.1 (by rw [etf]; omega)))
      refine s_iload dX4_load_69 rfl ?_
      refine s_if_ne 80 dX4_load_71 (by decide) (fun c71 => absurd (c13) c71) (fun c71 => ?_)
      obtain ⟨rfl, ea⟩ := hrel.c2 hn1 (by rw [fitsK_no hnk]; exact id)
      refine s_aload_n dX4_load_74 rfl ?_
      refine s_iconst (v := 2) dX4_load_75 (by decide) ?_
      refine s_callV (As := [.int 2]) (rest := []) (n := 1) (kd := 12) (ix := 0) (fun l hl => c_X4_raise G l hl ad M c0 t0 hd on tw dp cl gr r0 kd fl co sm wk sp b0 mu ⟨hm.1, hm.2.1, hm.2.2.1, hm.2.2.2.1, hm.2.2.2.2.1, hm.2.2.2.2.2.1, hm.2.2.2.2.2.2.1, hm.2.2.2.2.2.2.2.1, hm.2.2.2.2.2.2.2.2.1, hm.2.2.2.2.2.2.2.2.2.1, hm.2.2.2.2.2.2.2.2.2.2.1, hm.2.2.2.2.2.2.2.2.2.2.2.1, hm.2.2.2.2.2.2.2.2.2.2.2.2.1, hm.2.2.2.2.2.2.2.2.2.2.2.2.2⟩ 2) gX4_load_X4_raise rfl (by decide +kernel) hm.1 rfl rfl ⟨(Nat.le_of_ble_eq_true rfl), (Nat.le_of_ble_eq_true rfl)⟩ ⟨(Nat.le_of_ble_eq_true rfl), (Nat.le_of_ble_eq_true rfl)⟩ (Nat.le_of_ble_eq_true rfl) dX4_load_76 rfl (fun r9 ad9 M9 h9 => ?_)
      obtain ⟨rfl, rfl, hm9, hs9⟩ := h9
      exact s_iret rfl (rfl) dX4_load_79 (Nat.le_of_ble_eq_true rfl) (Nat.le_of_ble_eq_true rfl) (⟨rfl, (sSame.rfl.trans hs9), ⟨(2, t0, hd, on, tw, dp, cl, gr, r0, kd, fl, co, sm, wk, sp, b0, mu), hm9, rfl, by rw [ea]; exact hI.any _ _ _ _ _⟩, _, rfl, fun q => absurd q (by decide)⟩)
  · obtain ⟨kd9, hkd, rfl⟩ := i32_7.mp (hzq.mp (Bool.of_not_eq_false (fun q => c13 (jB_0.mpr q))))
    rcases (show kd9 = 0 ∨ kd9 = 1 ∨ kd9 = 2 ∨ kd9 = 3 ∨ kd9 = 4 ∨ kd9 = 5 ∨ kd9 = 6 by omega) with rfl | rfl | rfl | rfl | rfl | rfl | rfl
    · refine s_iload_n dX4_load_16 rfl ?_
      refine s_callS (As := [.int (nI 0)]) (rest := []) (n := 1) (fun l hl => c_X4_treesIn G l hl ad M 0 (by omega)) gX4_load_X4_treesIn rfl (by decide +kernel) rfl ⟨(Nat.le_of_ble_eq_true rfl), (Nat.le_of_ble_eq_true rfl)⟩ ⟨(Nat.le_of_ble_eq_true rfl), (Nat.le_of_ble_eq_true rfl)⟩ (Nat.le_of_ble_eq_true rfl) dX4_load_17 rfl (fun r9 ad9 M9 h9 => ?_)
      obtain ⟨rfl, rfl, rfl⟩ := h9
      have etf : tfI (nI 0) = 2 := tfI_in (by omega)
      refine s_st (st' := [.int 2]) rfl ?_
      refine s_goto 24 dX4_load_20 (by decide) ?_
      refine s_istore dX4_load_24 rfl rfl ?_
      refine s_lv (lv' := [some (.ref (ad 12 0)), some (.int (nI 0)), some (.int a), some (.int b), some (.int c), some (.int (jB zq)), some (.int 2), none, none]) rfl ?_
      refine s_aload_n dX4_load_26 rfl ?_
      refine s_iload_n dX4_load_27 rfl ?_
      refine s_callV (As := [.int a]) (rest := []) (n := 1) (kd := 12) (ix := 0) (fun l hl => c_X4_isTree G l hl ad M c0 t0 hd on tw dp cl gr r0 kd fl co sm wk sp b0 mu ⟨hm.1, hm.2.1, hm.2.2.1, hm.2.2.2.1, hm.2.2.2.2.1, hm.2.2.2.2.2.1, hm.2.2.2.2.2.2.1, hm.2.2.2.2.2.2.2.1, hm.2.2.2.2.2.2.2.2.1, hm.2.2.2.2.2.2.2.2.2.1, hm.2.2.2.2.2.2.2.2.2.2.1, hm.2.2.2.2.2.2.2.2.2.2.2.1, hm.2.2.2.2.2.2.2.2.2.2.2.2.1, hm.2.2.2.2.2.2.2.2.2.2.2.2.2⟩ (by omega) a) gX4_load_X4_isTree rfl (by decide +kernel) hm.1 rfl rfl ⟨(Nat.le_of_ble_eq_true rfl), (Nat.le_of_ble_eq_true rfl)⟩ ⟨(Nat.le_of_ble_eq_true rfl), (Nat.le_of_ble_eq_true rfl)⟩ (Nat.le_of_ble_eq_true rfl) dX4_load_28 rfl (fun r9 ad9 M9 h9 => ?_)
      obtain ⟨rfl, rfl, za, rfl, hza⟩ := h9
      rw [i1] at hza
      refine s_if_eq 63 dX4_load_31 (by decide) (fun c31 => ?_) (fun c31 => ?_)
      · obtain ⟨rfl, ea⟩ := hrel.c1 (Or.inl (fun q => by have z9 := hza.mpr q; rw [jB_0.mp c31] at z9; cases z9))
        refine s_aload_n dX4_load_63 rfl ?_
        refine s_iconst (v := 1) dX4_load_64 (by decide) ?_
        refine s_callV (As := [.int 1]) (rest := []) (n := 1) (kd := 12) (ix := 0) (fun l hl => c_X4_raise G l hl ad M c0 t0 hd on tw dp cl gr r0 kd fl co sm wk sp b0 mu ⟨hm.1, hm.2.1, hm.2.2.1, hm.2.2.2.1, hm.2.2.2.2.1, hm.2.2.2.2.2.1, hm.2.2.2.2.2.2.1, hm.2.2.2.2.2.2.2.1, hm.2.2.2.2.2.2.2.2.1, hm.2.2.2.2.2.2.2.2.2.1, hm.2.2.2.2.2.2.2.2.2.2.1, hm.2.2.2.2.2.2.2.2.2.2.2.1, hm.2.2.2.2.2.2.2.2.2.2.2.2.1, hm.2.2.2.2.2.2.2.2.2.2.2.2.2⟩ 1) gX4_load_X4_raise rfl (by decide +kernel) hm.1 rfl rfl ⟨(Nat.le_of_ble_eq_true rfl), (Nat.le_of_ble_eq_true rfl)⟩ ⟨(Nat.le_of_ble_eq_true rfl), (Nat.le_of_ble_eq_true rfl)⟩ (Nat.le_of_ble_eq_true rfl) dX4_load_65 rfl (fun r9 ad9 M9 h9 => ?_)
        obtain ⟨rfl, rfl, hm9, hs9⟩ := h9
        exact s_iret rfl (rfl) dX4_load_68 (Nat.le_of_ble_eq_true rfl) (Nat.le_of_ble_eq_true rfl) (⟨rfl, (sSame.rfl.trans hs9), ⟨(1, t0, hd, on, tw, dp, cl, gr, r0, kd, fl, co, sm, wk, sp, b0, mu), hm9, rfl, by rw [ea]; exact hI.any _ _ _ _ _⟩, _, rfl, fun q => absurd q (by decide)⟩)
      · refine s_iload dX4_load_34 rfl ?_
        refine s_iconst (v := 1) dX4_load_36 (by decide) ?_
        refine s_icmp_le 48 dX4_load_37 (by decide) (fun c37 => absurd c37 (by decide)) (fun c37 => ?_)
        refine s_aload_n dX4_load_40 rfl ?_
        refine s_iload_n dX4_load_41 rfl ?_
        refine s_callV (As := [.int b]) (rest := []) (n := 1) (kd := 12) (ix := 0) (fun l hl => c_X4_isTree G l hl ad M c0 t0 hd on tw dp cl gr r0 kd fl co sm wk sp b0 mu ⟨hm.1, hm.2.1, hm.2.2.1, hm.2.2.2.1, hm.2.2.2.2.1, hm.2.2.2.2.2.1, hm.2.2.2.2.2.2.1, hm.2.2.2.2.2.2.2.1, hm.2.2.2.2.2.2.2.2.1, hm.2.2.2.2.2.2.2.2.2.1, hm.2.2.2.2.2.2.2.2.2.2.1, hm.2.2.2.2.2.2.2.2.2.2.2.1, hm.2.2.2.2.2.2.2.2.2.2.2.2.1, hm.2.2.2.2.2.2.2.2.2.2.2.2.2⟩ (by omega) b) gX4_load_X4_isTree rfl (by decide +kernel) hm.1 rfl rfl ⟨(Nat.le_of_ble_eq_true rfl), (Nat.le_of_ble_eq_true rfl)⟩ ⟨(Nat.le_of_ble_eq_true rfl), (Nat.le_of_ble_eq_true rfl)⟩ (Nat.le_of_ble_eq_true rfl) dX4_load_42 rfl (fun r9 ad9 M9 h9 => ?_)
        obtain ⟨rfl, rfl, zb, rfl, hzb⟩ := h9
        rw [i1] at hzb
        refine s_if_eq 63 dX4_load_45 (by decide) (fun c45 => ?_) (fun c45 => ?_)
        · obtain ⟨rfl, ea⟩ := hrel.c1 (Or.inr (Or.inl ⟨by rw [etf]; omega, (fun q => by have z9 := hzb.mpr q; rw [jB_0.mp c45] at z9; cases z9)⟩))
          refine s_aload_n dX4_load_63 rfl ?_
          refine s_iconst (v := 1) dX4_load_64 (by decide) ?_
          refine s_callV (As := [.int 1]) (rest := []) (n := 1) (kd := 12) (ix := 0) (fun l hl => c_X4_raise G l hl ad M c0 t0 hd on tw dp cl gr r0 kd fl co sm wk sp b0 mu ⟨hm.1, hm.2.1, hm.2.2.1, hm.2.2.2.1, hm.2.2.2.2.1, hm.2.2.2.2.2.1, hm.2.2.2.2.2.2.1, hm.2.2.2.2.2.2.2.1, hm.2.2.2.2.2.2.2.2.1, hm.2.2.2.2.2.2.2.2.2.1, hm.2.2.2.2.2.2.2.2.2.2.1, hm.2.2.2.2.2.2.2.2.2.2.2.1, hm.2.2.2.2.2.2.2.2.2.2.2.2.1, hm.2.2.2.2.2.2.2.2.2.2.2.2.2⟩ 1) gX4_load_X4_raise rfl (by decide +kernel) hm.1 rfl rfl ⟨(Nat.le_of_ble_eq_true rfl), (Nat.le_of_ble_eq_true rfl)⟩ ⟨(Nat.le_of_ble_eq_true rfl), (Nat.le_of_ble_eq_true rfl)⟩ (Nat.le_of_ble_eq_true rfl) dX4_load_65 rfl (fun r9 ad9 M9 h9 => ?_)
          obtain ⟨rfl, rfl, hm9, hs9⟩ := h9
          exact s_iret rfl (rfl) dX4_load_68 (Nat.le_of_ble_eq_true rfl) (Nat.le_of_ble_eq_true rfl) (⟨rfl, (sSame.rfl.trans hs9), ⟨(1, t0, hd, on, tw, dp, cl, gr, r0, kd, fl, co, sm, wk, sp, b0, mu), hm9, rfl, by rw [ea]; exact hI.any _ _ _ _ _⟩, _, rfl, fun q => absurd q (by decide)⟩)
        · refine s_iload dX4_load_48 rfl ?_
          refine s_iconst (v := 2) dX4_load_50 (by decide) ?_
          refine s_icmp_le 69 dX4_load_51 (by decide) (fun c51 => ?_) (fun c51 => absurd (by decide) c51)
          have hn1 : ¬ lC1 α (nI 0) a b c := fun z => z.elim (fun z => z (hza.mp (Bool.of_not_eq_false (fun q => c31 (jB_0.mpr q))))) (fun z => z.elim (fun z => z.2 (hzb.mp (Bool.of_not_eq_false (fun q => c45 (jB_0.mpr q))))) (fun z => absurd z.1 (by rw [etf]; omega)))
          refine s_iload dX4_load_69 rfl ?_
          refine s_if_ne 80 dX4_load_71 (by decide) (fun c71 => ?_) (fun c71 => absurd c71 (c13))
          refine s_iload_n dX4_load_80 rfl ?_
          refine s_iconst (v := 1) dX4_load_81 (by decide) ?_
          refine s_icmp_ne 98 dX4_load_82 (by decide) (fun c82 => ?_) (fun c82 => absurd c82 (by decide))
          refine s_iload_n dX4_load_98 rfl ?_
          refine s_iconst (v := 2) dX4_load_99 (by decide) ?_
          refine s_icmp_eq 163 dX4_load_100 (by decide) (fun c100 => absurd c100 (by decide)) (fun c100 => ?_)
          refine s_iload_n dX4_load_103 rfl ?_
          refine s_iconst (v := 3) dX4_load_104 (by decide) ?_
          refine s_icmp_ne 138 dX4_load_105 (by decide) (fun c105 => ?_) (fun c105 => absurd c105 (by decide))
          refine s_iload_n dX4_load_138 rfl ?_
          refine s_iconst (v := 5) dX4_load_139 (by decide) ?_
          refine s_icmp_ne 157 dX4_load_140 (by decide) (fun c140 => ?_) (fun c140 => absurd c140 (by decide))
          refine s_iload dX4_load_157 rfl ?_
          refine s_iconst (v := -1) dX4_load_159 (by decide) ?_
          refine s_icmp_ne 167 dX4_load_160 (by decide) (fun c160 => ?_) (fun c160 => ?_)
          · refine s_iconst (v := 0) dX4_load_167 (by decide) ?_
            refine s_istore dX4_load_168 rfl rfl ?_
            refine s_lv (lv' := [some (.ref (ad 12 0)), some (.int (nI 0)), some (.int a), some (.int b), some (.int c), some (.int (jB zq)), some (.int 2), some (.int 0), none]) rfl ?_
            refine s_iload dX4_load_170 rfl ?_
            refine s_if_ne 181 dX4_load_172 (by decide) (fun c172 => absurd (rfl) c172) (fun c172 => ?_)
            obtain ⟨rfl, ea⟩ := hrel.c2 hn1 (by rw [show fitsK (nI 0) b c = _ from fitsK_0 b c]; exact c160)
            refine s_aload_n dX4_load_175 rfl ?_
            refine s_iconst (v := 2) dX4_load_176 (by decide) ?_
            refine s_callV (As := [.int 2]) (rest := []) (n := 1) (kd := 12) (ix := 0) (fun l hl => c_X4_raise G l hl ad M c0 t0 hd on tw dp cl gr r0 kd fl co sm wk sp b0 mu ⟨hm.1, hm.2.1, hm.2.2.1, hm.2.2.2.1, hm.2.2.2.2.1, hm.2.2.2.2.2.1, hm.2.2.2.2.2.2.1, hm.2.2.2.2.2.2.2.1, hm.2.2.2.2.2.2.2.2.1, hm.2.2.2.2.2.2.2.2.2.1, hm.2.2.2.2.2.2.2.2.2.2.1, hm.2.2.2.2.2.2.2.2.2.2.2.1, hm.2.2.2.2.2.2.2.2.2.2.2.2.1, hm.2.2.2.2.2.2.2.2.2.2.2.2.2⟩ 2) gX4_load_X4_raise rfl (by decide +kernel) hm.1 rfl rfl ⟨(Nat.le_of_ble_eq_true rfl), (Nat.le_of_ble_eq_true rfl)⟩ ⟨(Nat.le_of_ble_eq_true rfl), (Nat.le_of_ble_eq_true rfl)⟩ (Nat.le_of_ble_eq_true rfl) dX4_load_177 rfl (fun r9 ad9 M9 h9 => ?_)
            obtain ⟨rfl, rfl, hm9, hs9⟩ := h9
            exact s_iret rfl (rfl) dX4_load_180 (Nat.le_of_ble_eq_true rfl) (Nat.le_of_ble_eq_true rfl) (⟨rfl, (sSame.rfl.trans hs9), ⟨(2, t0, hd, on, tw, dp, cl, gr, r0, kd, fl, co, sm, wk, sp, b0, mu), hm9, rfl, by rw [ea]; exact hI.any _ _ _ _ _⟩, _, rfl, fun q => absurd q (by decide)⟩)
          · refine s_iconst (v := 1) dX4_load_163 (by decide) ?_
            refine s_goto 168 dX4_load_164 (by decide) ?_
            refine s_istore dX4_load_168 rfl rfl ?_
            refine s_lv (lv' := [some (.ref (ad 12 0)), some (.int (nI 0)), some (.int a), some (.int b), some (.int c), some (.int (jB zq)), some (.int 2), some (.int 1), none]) rfl ?_
            refine s_iload dX4_load_170 rfl ?_
            refine s_if_ne 181 dX4_load_172 (by decide) (fun c172 => ?_) (fun c172 => absurd c172 (by decide))
            have hfk : fitsK (nI 0) b c := by rw [show fitsK (nI 0) b c = _ from fitsK_0 b c]; exact c160
            refine s_aload_n dX4_load_181 rfl ?_
            refine s_get (kd := 12) (ix := 0) (ci := 5) (fs := [.int c0, .int (nI t0), .ref (ad 13 0), .ref (ad 14 0), .ref (ad 15 0), .ref (ad 16 0), .ref (ad 17 0), .ref (ad 18 0), .int (nI r0), .ref (ad 19 0), .ref (ad 20 0), .ref (ad 21 0), .ref (ad 22 0), .ref (ad 23 0), .ref (ad 24 0), .int (jB b0), .ref (ad 25 0)])  hm.1 rfl in_X4_load_X4 8 (by decide) (by decide +kernel) rfl rfl dX4_load_182 ?_
            refine s_bipush (v := 60) dX4_load_185 (by decide) ?_
            refine s_icmp_ne 196 dX4_load_187 (by decide) (fun c187 => ?_) (fun c187 => ?_)
            · obtain ⟨rfl, ev, hR1, ea⟩ := hrel.c0 hn1 hfk (fun z9 => c187 (by rw [show r0 = 60 by omega]; rfl))
              have hr1 : r0 < 60 := by omega
              refine s_aload_n dX4_load_196 rfl ?_
              refine s_iconst (v := 0) dX4_load_197 (by decide) ?_
              refine s_put (kd := 12) (ix := 0) (ci := 5) (v := .int 0) (ty := tyX4 0) (fs := [.int c0, .int (nI t0), .ref (ad 13 0), .ref (ad 14 0), .ref (ad 15 0), .ref (ad 16 0), .ref (ad 17 0), .ref (ad 18 0), .int (nI r0), .ref (ad 19 0), .ref (ad 20 0), .ref (ad 21 0), .ref (ad 22 0), .ref (ad 23 0), .ref (ad 24 0), .int (jB b0), .ref (ad 25 0)])  tyX4 tyX4_ok nmX4 hm.1 rfl in_X4_load_X4 0 (by decide) (by decide +kernel) rfl rfl (tyX4_ok 0 (by decide)) (rfl) (rfl) (Nat.le_of_ble_eq_true rfl) dX4_load_198 ?_
              refine s_M (M' := (sset M 12 0 (.inr (5, [.int 0, .int (nI t0), .ref (ad 13 0), .ref (ad 14 0), .ref (ad 15 0), .ref (ad 16 0), .ref (ad 17 0), .ref (ad 18 0), .int (nI r0), .ref (ad 19 0), .ref (ad 20 0), .ref (ad 21 0), .ref (ad 22 0), .ref (ad 23 0), .ref (ad 24 0), .int (jB b0), .ref (ad 25 0)])))) rfl ?_
              refine s_aload_n dX4_load_201 rfl ?_
              refine s_get (kd := 12) (ix := 0) (ci := 5) (fs := [.int 0, .int (nI t0), .ref (ad 13 0), .ref (ad 14 0), .ref (ad 15 0), .ref (ad 16 0), .ref (ad 17 0), .ref (ad 18 0), .int (nI r0), .ref (ad 19 0), .ref (ad 20 0), .ref (ad 21 0), .ref (ad 22 0), .ref (ad 23 0), .ref (ad 24 0), .int (jB b0), .ref (ad 25 0)])  (sset_self _ _ _ _) rfl in_X4_load_X4 9 (by decide) (by decide +kernel) rfl rfl dX4_load_202 ?_
              refine s_aload_n dX4_load_205 rfl ?_
              refine s_get (kd := 12) (ix := 0) (ci := 5) (fs := [.int 0, .int (nI t0), .ref (ad 13 0), .ref (ad 14 0), .ref (ad 15 0), .ref (ad 16 0), .ref (ad 17 0), .ref (ad 18 0), .int (nI r0), .ref (ad 19 0), .ref (ad 20 0), .ref (ad 21 0), .ref (ad 22 0), .ref (ad 23 0), .ref (ad 24 0), .int (jB b0), .ref (ad 25 0)])  (sset_self _ _ _ _) rfl in_X4_load_X4 8 (by decide) (by decide +kernel) rfl rfl dX4_load_206 ?_
              refine s_iload_n dX4_load_209 rfl ?_
              refine s_iast (kd := 19) (ix := 0) (n := 60) (f := kd) (j := r0) (x := nI 0) ((sset_k _ _ (by decide)).trans (hm.2.2.2.2.2.2.2.1))  (rfl) (by omega) (by decide) dX4_load_210 ?_
              refine s_aload_n dX4_load_211 rfl ?_
              refine s_get (kd := 12) (ix := 0) (ci := 5) (fs := [.int 0, .int (nI t0), .ref (ad 13 0), .ref (ad 14 0), .ref (ad 15 0), .ref (ad 16 0), .ref (ad 17 0), .ref (ad 18 0), .int (nI r0), .ref (ad 19 0), .ref (ad 20 0), .ref (ad 21 0), .ref (ad 22 0), .ref (ad 23 0), .ref (ad 24 0), .int (jB b0), .ref (ad 25 0)])  ((sset_k _ _ (by decide)).trans (sset_self _ _ _ _)) rfl in_X4_load_X4 10 (by decide) (by decide +kernel) rfl rfl dX4_load_212 ?_
              refine s_iconst (v := 3) dX4_load_215 (by decide) ?_
              refine s_aload_n dX4_load_216 rfl ?_
              refine s_get (kd := 12) (ix := 0) (ci := 5) (fs := [.int 0, .int (nI t0), .ref (ad 13 0), .ref (ad 14 0), .ref (ad 15 0), .ref (ad 16 0), .ref (ad 17 0), .ref (ad 18 0), .int (nI r0), .ref (ad 19 0), .ref (ad 20 0), .ref (ad 21 0), .ref (ad 22 0), .ref (ad 23 0), .ref (ad 24 0), .int (jB b0), .ref (ad 25 0)])  ((sset_k _ _ (by decide)).trans (sset_self _ _ _ _)) rfl in_X4_load_X4 8 (by decide) (by decide +kernel) rfl rfl dX4_load_217 ?_
              refine s_imul dX4_load_220 ?_
              refine s_eqi (y := nI (3 * r0)) (nI_mul 3 r0) ?_
              refine s_iload_n dX4_load_221 rfl ?_
              refine s_iast (kd := 20) (ix := 0) (n := 180) (f := fl) (j := 3 * r0) (x := a) ((sset_k _ _ (by decide)).trans ((sset_k _ _ (by decide)).trans (hm.2.2.2.2.2.2.2.2.1)))  (rfl) (by omega) (by decide) dX4_load_222 ?_
              refine s_aload_n dX4_load_223 rfl ?_
              refine s_get (kd := 12) (ix := 0) (ci := 5) (fs := [.int 0, .int (nI t0), .ref (ad 13 0), .ref (ad 14 0), .ref (ad 15 0), .ref (ad 16 0), .ref (ad 17 0), .ref (ad 18 0), .int (nI r0), .ref (ad 19 0), .ref (ad 20 0), .ref (ad 21 0), .ref (ad 22 0), .ref (ad 23 0), .ref (ad 24 0), .int (jB b0), .ref (ad 25 0)])  ((sset_k _ _ (by decide)).trans ((sset_k _ _ (by decide)).trans (sset_self _ _ _ _))) rfl in_X4_load_X4 10 (by decide) (by decide +kernel) rfl rfl dX4_load_224 ?_
              refine s_iconst (v := 3) dX4_load_227 (by decide) ?_
              refine s_aload_n dX4_load_228 rfl ?_
              refine s_get (kd := 12) (ix := 0) (ci := 5) (fs := [.int 0, .int (nI t0), .ref (ad 13 0), .ref (ad 14 0), .ref (ad 15 0), .ref (ad 16 0), .ref (ad 17 0), .ref (ad 18 0), .int (nI r0), .ref (ad 19 0), .ref (ad 20 0), .ref (ad 21 0), .ref (ad 22 0), .ref (ad 23 0), .ref (ad 24 0), .int (jB b0), .ref (ad 25 0)])  ((sset_k _ _ (by decide)).trans ((sset_k _ _ (by decide)).trans (sset_self _ _ _ _))) rfl in_X4_load_X4 8 (by decide) (by decide +kernel) rfl rfl dX4_load_229 ?_
              refine s_imul dX4_load_232 ?_
              refine s_eqi (y := nI (3 * r0)) (nI_mul 3 r0) ?_
              refine s_iconst (v := 1) dX4_load_233 (by decide) ?_
              refine s_iadd dX4_load_234 ?_
              refine s_eqi (y := nI (3 * r0 + 1)) (nI_add _ _) ?_
              refine s_iload_n dX4_load_235 rfl ?_
              refine s_iast (kd := 20) (ix := 0) (n := 180) (f := upd fl (3 * r0) a) (j := 3 * r0 + 1) (x := b) (sset_self _ _ _ _)  (rfl) (by omega) (by decide) dX4_load_236 ?_
              refine s_aload_n dX4_load_237 rfl ?_
              refine s_get (kd := 12) (ix := 0) (ci := 5) (fs := [.int 0, .int (nI t0), .ref (ad 13 0), .ref (ad 14 0), .ref (ad 15 0), .ref (ad 16 0), .ref (ad 17 0), .ref (ad 18 0), .int (nI r0), .ref (ad 19 0), .ref (ad 20 0), .ref (ad 21 0), .ref (ad 22 0), .ref (ad 23 0), .ref (ad 24 0), .int (jB b0), .ref (ad 25 0)])  ((sset_k _ _ (by decide)).trans ((sset_k _ _ (by decide)).trans ((sset_k _ _ (by decide)).trans (sset_self _ _ _ _)))) rfl in_X4_load_X4 10 (by decide) (by decide +kernel) rfl rfl dX4_load_238 ?_
              refine s_iconst (v := 3) dX4_load_241 (by decide) ?_
              refine s_aload_n dX4_load_242 rfl ?_
              refine s_get (kd := 12) (ix := 0) (ci := 5) (fs := [.int 0, .int (nI t0), .ref (ad 13 0), .ref (ad 14 0), .ref (ad 15 0), .ref (ad 16 0), .ref (ad 17 0), .ref (ad 18 0), .int (nI r0), .ref (ad 19 0), .ref (ad 20 0), .ref (ad 21 0), .ref (ad 22 0), .ref (ad 23 0), .ref (ad 24 0), .int (jB b0), .ref (ad 25 0)])  ((sset_k _ _ (by decide)).trans ((sset_k _ _ (by decide)).trans ((sset_k _ _ (by decide)).trans (sset_self _ _ _ _)))) rfl in_X4_load_X4 8 (by decide) (by decide +kernel) rfl rfl dX4_load_243 ?_
              refine s_imul dX4_load_246 ?_
              refine s_eqi (y := nI (3 * r0)) (nI_mul 3 r0) ?_
              refine s_iconst (v := 2) dX4_load_247 (by decide) ?_
              refine s_iadd dX4_load_248 ?_
              refine s_eqi (y := nI (3 * r0 + 2)) (nI_add _ _) ?_
              refine s_iload dX4_load_249 rfl ?_
              refine s_iast (kd := 20) (ix := 0) (n := 180) (f := upd (upd fl (3 * r0) a) (3 * r0 + 1) b) (j := 3 * r0 + 2) (x := c) (sset_self _ _ _ _)  (rfl) (by omega) (by decide) dX4_load_251 ?_
              refine s_aload_n dX4_load_252 rfl ?_
              refine s_get (kd := 12) (ix := 0) (ci := 5) (fs := [.int 0, .int (nI t0), .ref (ad 13 0), .ref (ad 14 0), .ref (ad 15 0), .ref (ad 16 0), .ref (ad 17 0), .ref (ad 18 0), .int (nI r0), .ref (ad 19 0), .ref (ad 20 0), .ref (ad 21 0), .ref (ad 22 0), .ref (ad 23 0), .ref (ad 24 0), .int (jB b0), .ref (ad 25 0)])  ((sset_k _ _ (by decide)).trans ((sset_k _ _ (by decide)).trans ((sset_k _ _ (by decide)).trans ((sset_k _ _ (by decide)).trans (sset_self _ _ _ _))))) rfl in_X4_load_X4 11 (by decide) (by decide +kernel) rfl rfl dX4_load_253 ?_
              refine s_aload_n dX4_load_256 rfl ?_
              refine s_get (kd := 12) (ix := 0) (ci := 5) (fs := [.int 0, .int (nI t0), .ref (ad 13 0), .ref (ad 14 0), .ref (ad 15 0), .ref (ad 16 0), .ref (ad 17 0), .ref (ad 18 0), .int (nI r0), .ref (ad 19 0), .ref (ad 20 0), .ref (ad 21 0), .ref (ad 22 0), .ref (ad 23 0), .ref (ad 24 0), .int (jB b0), .ref (ad 25 0)])  ((sset_k _ _ (by decide)).trans ((sset_k _ _ (by decide)).trans ((sset_k _ _ (by decide)).trans ((sset_k _ _ (by decide)).trans (sset_self _ _ _ _))))) rfl in_X4_load_X4 8 (by decide) (by decide +kernel) rfl rfl dX4_load_257 ?_
              refine s_iconst (v := -1) dX4_load_260 (by decide) ?_
              refine s_iast (kd := 21) (ix := 0) (n := 60) (f := co) (j := r0) (x := (-1)) ((sset_k _ _ (by decide)).trans ((sset_k _ _ (by decide)).trans ((sset_k _ _ (by decide)).trans ((sset_k _ _ (by decide)).trans ((sset_k _ _ (by decide)).trans (hm.2.2.2.2.2.2.2.2.2.1))))))  (rfl) (by omega) (by decide) dX4_load_261 ?_
              refine s_iconst (v := 0) dX4_load_262 (by decide) ?_
              refine s_istore dX4_load_263 rfl rfl ?_
              refine s_lv (lv' := [some (.ref (ad 12 0)), some (.int (nI 0)), some (.int a), some (.int b), some (.int c), some (.int (jB zq)), some (.int 2), some (.int 1), some (.int 0)]) rfl ?_
              refine s_iload dX4_load_265 rfl ?_
              refine s_iconst (v := 3) dX4_load_267 (by decide) ?_
              refine s_icmp_ge 292 dX4_load_268 (by decide) (fun c268 => absurd c268 (by decide)) (fun c268 => ?_)
              refine s_aload_n dX4_load_271 rfl ?_
              refine s_get (kd := 12) (ix := 0) (ci := 5) (fs := [.int 0, .int (nI t0), .ref (ad 13 0), .ref (ad 14 0), .ref (ad 15 0), .ref (ad 16 0), .ref (ad 17 0), .ref (ad 18 0), .int (nI r0), .ref (ad 19 0), .ref (ad 20 0), .ref (ad 21 0), .ref (ad 22 0), .ref (ad 23 0), .ref (ad 24 0), .int (jB b0), .ref (ad 25 0)])  ((sset_k _ _ (by decide)).trans ((sset_k _ _ (by decide)).trans ((sset_k _ _ (by decide)).trans ((sset_k _ _ (by decide)).trans ((sset_k _ _ (by decide)).trans (sset_self _ _ _ _)))))) rfl in_X4_load_X4 12 (by decide) (by decide +kernel) rfl rfl dX4_load_272 ?_
              refine s_iconst (v := 3) dX4_load_275 (by decide) ?_
              refine s_aload_n dX4_load_276 rfl ?_
              refine s_get (kd := 12) (ix := 0) (ci := 5) (fs := [.int 0, .int (nI t0), .ref (ad 13 0), .ref (ad 14 0), .ref (ad 15 0), .ref (ad 16 0), .ref (ad 17 0), .ref (ad 18 0), .int (nI r0), .ref (ad 19 0), .ref (ad 20 0), .ref (ad 21 0), .ref (ad 22 0), .ref (ad 23 0), .ref (ad 24 0), .int (jB b0), .ref (ad 25 0)])  ((sset_k _ _ (by decide)).trans ((sset_k _ _ (by decide)).trans ((sset_k _ _ (by decide)).trans ((sset_k _ _ (by decide)).trans ((sset_k _ _ (by decide)).trans (sset_self _ _ _ _)))))) rfl in_X4_load_X4 8 (by decide) (by decide +kernel) rfl rfl dX4_load_277 ?_
              refine s_imul dX4_load_280 ?_
              refine s_eqi (y := nI (3 * r0)) (nI_mul 3 r0) ?_
              refine s_iload dX4_load_281 rfl ?_
              refine s_iadd dX4_load_283 ?_
              refine s_eqi (y := nI (3 * r0 + 0)) (nI_add _ _) ?_
              refine s_iconst (v := 0) dX4_load_284 (by decide) ?_
              refine s_iast (kd := 22) (ix := 0) (n := 180) (f := sm) (j := 3 * r0 + 0) (x := 0) ((sset_k _ _ (by decide)).trans ((sset_k _ _ (by decide)).trans ((sset_k _ _ (by decide)).trans ((sset_k _ _ (by decide)).trans ((sset_k _ _ (by decide)).trans ((sset_k _ _ (by decide)).trans (hm.2.2.2.2.2.2.2.2.2.2.1)))))))  (rfl) (by omega) (by decide) dX4_load_285 ?_
              refine s_iinc (v := 1) dX4_load_286 rfl (by decide) rfl ?_
              refine s_lv (lv' := [some (.ref (ad 12 0)), some (.int (nI 0)), some (.int a), some (.int b), some (.int c), some (.int (jB zq)), some (.int 2), some (.int 1), some (.int 1)]) rfl ?_
              refine s_goto 265 dX4_load_289 (by decide) ?_
              refine s_iload dX4_load_265 rfl ?_
              refine s_iconst (v := 3) dX4_load_267 (by decide) ?_
              refine s_icmp_ge 292 dX4_load_268 (by decide) (fun c268 => absurd c268 (by decide)) (fun c268 => ?_)
              refine s_aload_n dX4_load_271 rfl ?_
              refine s_get (kd := 12) (ix := 0) (ci := 5) (fs := [.int 0, .int (nI t0), .ref (ad 13 0), .ref (ad 14 0), .ref (ad 15 0), .ref (ad 16 0), .ref (ad 17 0), .ref (ad 18 0), .int (nI r0), .ref (ad 19 0), .ref (ad 20 0), .ref (ad 21 0), .ref (ad 22 0), .ref (ad 23 0), .ref (ad 24 0), .int (jB b0), .ref (ad 25 0)])  ((sset_k _ _ (by decide)).trans ((sset_k _ _ (by decide)).trans ((sset_k _ _ (by decide)).trans ((sset_k _ _ (by decide)).trans ((sset_k _ _ (by decide)).trans ((sset_k _ _ (by decide)).trans (sset_self _ _ _ _))))))) rfl in_X4_load_X4 12 (by decide) (by decide +kernel) rfl rfl dX4_load_272 ?_
              refine s_iconst (v := 3) dX4_load_275 (by decide) ?_
              refine s_aload_n dX4_load_276 rfl ?_
              refine s_get (kd := 12) (ix := 0) (ci := 5) (fs := [.int 0, .int (nI t0), .ref (ad 13 0), .ref (ad 14 0), .ref (ad 15 0), .ref (ad 16 0), .ref (ad 17 0), .ref (ad 18 0), .int (nI r0), .ref (ad 19 0), .ref (ad 20 0), .ref (ad 21 0), .ref (ad 22 0), .ref (ad 23 0), .ref (ad 24 0), .int (jB b0), .ref (ad 25 0)])  ((sset_k _ _ (by decide)).trans ((sset_k _ _ (by decide)).trans ((sset_k _ _ (by decide)).trans ((sset_k _ _ (by decide)).trans ((sset_k _ _ (by decide)).trans ((sset_k _ _ (by decide)).trans (sset_self _ _ _ _))))))) rfl in_X4_load_X4 8 (by decide) (by decide +kernel) rfl rfl dX4_load_277 ?_
              refine s_imul dX4_load_280 ?_
              refine s_eqi (y := nI (3 * r0)) (nI_mul 3 r0) ?_
              refine s_iload dX4_load_281 rfl ?_
              refine s_iadd dX4_load_283 ?_
              refine s_eqi (y := nI (3 * r0 + 1)) (nI_add _ _) ?_
              refine s_iconst (v := 0) dX4_load_284 (by decide) ?_
              refine s_iast (kd := 22) (ix := 0) (n := 180) (f := upd sm (3 * r0 + 0) 0) (j := 3 * r0 + 1) (x := 0) (sset_self _ _ _ _)  (rfl) (by omega) (by decide) dX4_load_285 ?_
              refine s_iinc (v := 2) dX4_load_286 rfl (by decide) rfl ?_
              refine s_lv (lv' := [some (.ref (ad 12 0)), some (.int (nI 0)), some (.int a), some (.int b), some (.int c), some (.int (jB zq)), some (.int 2), some (.int 1), some (.int 2)]) rfl ?_
              refine s_goto 265 dX4_load_289 (by decide) ?_
              refine s_iload dX4_load_265 rfl ?_
              refine s_iconst (v := 3) dX4_load_267 (by decide) ?_
              refine s_icmp_ge 292 dX4_load_268 (by decide) (fun c268 => absurd c268 (by decide)) (fun c268 => ?_)
              refine s_aload_n dX4_load_271 rfl ?_
              refine s_get (kd := 12) (ix := 0) (ci := 5) (fs := [.int 0, .int (nI t0), .ref (ad 13 0), .ref (ad 14 0), .ref (ad 15 0), .ref (ad 16 0), .ref (ad 17 0), .ref (ad 18 0), .int (nI r0), .ref (ad 19 0), .ref (ad 20 0), .ref (ad 21 0), .ref (ad 22 0), .ref (ad 23 0), .ref (ad 24 0), .int (jB b0), .ref (ad 25 0)])  ((sset_k _ _ (by decide)).trans ((sset_k _ _ (by decide)).trans ((sset_k _ _ (by decide)).trans ((sset_k _ _ (by decide)).trans ((sset_k _ _ (by decide)).trans ((sset_k _ _ (by decide)).trans ((sset_k _ _ (by decide)).trans (sset_self _ _ _ _)))))))) rfl in_X4_load_X4 12 (by decide) (by decide +kernel) rfl rfl dX4_load_272 ?_
              refine s_iconst (v := 3) dX4_load_275 (by decide) ?_
              refine s_aload_n dX4_load_276 rfl ?_
              refine s_get (kd := 12) (ix := 0) (ci := 5) (fs := [.int 0, .int (nI t0), .ref (ad 13 0), .ref (ad 14 0), .ref (ad 15 0), .ref (ad 16 0), .ref (ad 17 0), .ref (ad 18 0), .int (nI r0), .ref (ad 19 0), .ref (ad 20 0), .ref (ad 21 0), .ref (ad 22 0), .ref (ad 23 0), .ref (ad 24 0), .int (jB b0), .ref (ad 25 0)])  ((sset_k _ _ (by decide)).trans ((sset_k _ _ (by decide)).trans ((sset_k _ _ (by decide)).trans ((sset_k _ _ (by decide)).trans ((sset_k _ _ (by decide)).trans ((sset_k _ _ (by decide)).trans ((sset_k _ _ (by decide)).trans (sset_self _ _ _ _)))))))) rfl in_X4_load_X4 8 (by decide) (by decide +kernel) rfl rfl dX4_load_277 ?_
              refine s_imul dX4_load_280 ?_
              refine s_eqi (y := nI (3 * r0)) (nI_mul 3 r0) ?_
              refine s_iload dX4_load_281 rfl ?_
              refine s_iadd dX4_load_283 ?_
              refine s_eqi (y := nI (3 * r0 + 2)) (nI_add _ _) ?_
              refine s_iconst (v := 0) dX4_load_284 (by decide) ?_
              refine s_iast (kd := 22) (ix := 0) (n := 180) (f := upd (upd sm (3 * r0 + 0) 0) (3 * r0 + 1) 0) (j := 3 * r0 + 2) (x := 0) (sset_self _ _ _ _)  (rfl) (by omega) (by decide) dX4_load_285 ?_
              refine s_iinc (v := 3) dX4_load_286 rfl (by decide) rfl ?_
              refine s_lv (lv' := [some (.ref (ad 12 0)), some (.int (nI 0)), some (.int a), some (.int b), some (.int c), some (.int (jB zq)), some (.int 2), some (.int 1), some (.int 3)]) rfl ?_
              refine s_goto 265 dX4_load_289 (by decide) ?_
              refine s_iload dX4_load_265 rfl ?_
              refine s_iconst (v := 3) dX4_load_267 (by decide) ?_
              refine s_icmp_ge 292 dX4_load_268 (by decide) (fun c268 => ?_) (fun c268 => absurd (by decide) c268)
              refine s_aload_n dX4_load_292 rfl ?_
              refine s_dup dX4_load_293 rfl ?_
              refine s_get (kd := 12) (ix := 0) (ci := 5) (fs := [.int 0, .int (nI t0), .ref (ad 13 0), .ref (ad 14 0), .ref (ad 15 0), .ref (ad 16 0), .ref (ad 17 0), .ref (ad 18 0), .int (nI r0), .ref (ad 19 0), .ref (ad 20 0), .ref (ad 21 0), .ref (ad 22 0), .ref (ad 23 0), .ref (ad 24 0), .int (jB b0), .ref (ad 25 0)])  ((sset_k _ _ (by decide)).trans ((sset_k _ _ (by decide)).trans ((sset_k _ _ (by decide)).trans ((sset_k _ _ (by decide)).trans ((sset_k _ _ (by decide)).trans ((sset_k _ _ (by decide)).trans ((sset_k _ _ (by decide)).trans ((sset_k _ _ (by decide)).trans (sset_self _ _ _ _))))))))) rfl in_X4_load_X4 8 (by decide) (by decide +kernel) rfl rfl dX4_load_294 ?_
              refine s_iconst (v := 1) dX4_load_297 (by decide) ?_
              refine s_iadd dX4_load_298 ?_
              refine s_eqi (y := nI (r0 + 1)) (nI_1 _) ?_
              refine s_put (kd := 12) (ix := 0) (ci := 5) (v := .int (nI (r0 + 1))) (ty := tyX4 8) (fs := [.int 0, .int (nI t0), .ref (ad 13 0), .ref (ad 14 0), .ref (ad 15 0), .ref (ad 16 0), .ref (ad 17 0), .ref (ad 18 0), .int (nI r0), .ref (ad 19 0), .ref (ad 20 0), .ref (ad 21 0), .ref (ad 22 0), .ref (ad 23 0), .ref (ad 24 0), .int (jB b0), .ref (ad 25 0)])  tyX4 tyX4_ok nmX4 ((sset_k _ _ (by decide)).trans ((sset_k _ _ (by decide)).trans ((sset_k _ _ (by decide)).trans ((sset_k _ _ (by decide)).trans ((sset_k _ _ (by decide)).trans ((sset_k _ _ (by decide)).trans ((sset_k _ _ (by decide)).trans ((sset_k _ _ (by decide)).trans (sset_self _ _ _ _))))))))) rfl in_X4_load_X4 8 (by decide) (by decide +kernel) rfl rfl (tyX4_ok 8 (by decide)) (rfl) (rfl) (Nat.le_of_ble_eq_true rfl) dX4_load_299 ?_
              refine s_M (M' := (sset (sset (sset (sset (sset (sset (sset (sset (sset (sset M 12 0 (.inr (5, [.int 0, .int (nI t0), .ref (ad 13 0), .ref (ad 14 0), .ref (ad 15 0), .ref (ad 16 0), .ref (ad 17 0), .ref (ad 18 0), .int (nI r0), .ref (ad 19 0), .ref (ad 20 0), .ref (ad 21 0), .ref (ad 22 0), .ref (ad 23 0), .ref (ad 24 0), .int (jB b0), .ref (ad 25 0)]))) 19 0 (.inl (gI G, 60, .inl (upd kd r0 (nI 0))))) 20 0 (.inl (gI G, 180, .inl (upd fl (3 * r0) a)))) 20 0 (.inl (gI G, 180, .inl (upd (upd fl (3 * r0) a) (3 * r0 + 1) b)))) 20 0 (.inl (gI G, 180, .inl (upd (upd (upd fl (3 * r0) a) (3 * r0 + 1) b) (3 * r0 + 2) c)))) 21 0 (.inl (gI G, 60, .inl (upd co r0 (-1))))) 22 0 (.inl (gI G, 180, .inl (upd sm (3 * r0 + 0) 0)))) 22 0 (.inl (gI G, 180, .inl (upd (upd sm (3 * r0 + 0) 0) (3 * r0 + 1) 0)))) 22 0 (.inl (gI G, 180, .inl (upd (upd (upd sm (3 * r0 + 0) 0) (3 * r0 + 1) 0) (3 * r0 + 2) 0)))) 12 0 (.inr (5, [.int 0, .int (nI t0), .ref (ad 13 0), .ref (ad 14 0), .ref (ad 15 0), .ref (ad 16 0), .ref (ad 17 0), .ref (ad 18 0), .int (nI (r0 + 1)), .ref (ad 19 0), .ref (ad 20 0), .ref (ad 21 0), .ref (ad 22 0), .ref (ad 23 0), .ref (ad 24 0), .int (jB b0), .ref (ad 25 0)])))) rfl ?_
              refine s_aload_n dX4_load_302 rfl ?_
              refine s_get (kd := 12) (ix := 0) (ci := 5) (fs := [.int 0, .int (nI t0), .ref (ad 13 0), .ref (ad 14 0), .ref (ad 15 0), .ref (ad 16 0), .ref (ad 17 0), .ref (ad 18 0), .int (nI (r0 + 1)), .ref (ad 19 0), .ref (ad 20 0), .ref (ad 21 0), .ref (ad 22 0), .ref (ad 23 0), .ref (ad 24 0), .int (jB b0), .ref (ad 25 0)])  (sset_self _ _ _ _) rfl in_X4_load_X4 8 (by decide) (by decide +kernel) rfl rfl dX4_load_303 ?_
              refine s_iconst (v := 1) dX4_load_306 (by decide) ?_
              refine s_isub dX4_load_307 ?_
              refine s_eqi (y := nI r0) (nI_m1 (by omega)) ?_
              exact s_iret rfl (rfl) dX4_load_308 (Nat.le_of_ble_eq_true rfl) (Nat.le_of_ble_eq_true rfl) (⟨rfl, (sSame.rfl |>.set (P := pMd) (by simp [pMd]) _ |>.set (P := pMd) (by simp [pMd]) _ |>.set (P := pMd) (by simp [pMd]) _ |>.set (P := pMd) (by simp [pMd]) _ |>.set (P := pMd) (by simp [pMd]) _ |>.set (P := pMd) (by simp [pMd]) _ |>.set (P := pMd) (by simp [pMd]) _ |>.set (P := pMd) (by simp [pMd]) _ |>.set (P := pMd) (by simp [pMd]) _ |>.set (P := pMd) (by simp [pMd]) _), ⟨(0, t0, hd, on, tw, dp, cl, gr, (r0 + 1), upd kd r0 (nI 0), upd (upd (upd fl (3 * r0) a) (3 * r0 + 1) b) (3 * r0 + 2) c, upd co r0 (-1), upd (upd (upd sm (3 * r0 + 0) 0) (3 * r0 + 1) 0) (3 * r0 + 2) 0, wk, sp, b0, mu), ⟨(sset_self _ _ _ _), ((sset_k _ _ (by decide)).trans ((sset_k _ _ (by decide)).trans ((sset_k _ _ (by decide)).trans ((sset_k _ _ (by decide)).trans ((sset_k _ _ (by decide)).trans ((sset_k _ _ (by decide)).trans ((sset_k _ _ (by decide)).trans ((sset_k _ _ (by decide)).trans ((sset_k _ _ (by decide)).trans ((sset_k _ _ (by decide)).trans (hm.2.1))))))))))), ((sset_k _ _ (by decide)).trans ((sset_k _ _ (by decide)).trans ((sset_k _ _ (by decide)).trans ((sset_k _ _ (by decide)).trans ((sset_k _ _ (by decide)).trans ((sset_k _ _ (by decide)).trans ((sset_k _ _ (by decide)).trans ((sset_k _ _ (by decide)).trans ((sset_k _ _ (by decide)).trans ((sset_k _ _ (by decide)).trans (hm.2.2.1))))))))))), ((sset_k _ _ (by decide)).trans ((sset_k _ _ (by decide)).trans ((sset_k _ _ (by decide)).trans ((sset_k _ _ (by decide)).trans ((sset_k _ _ (by decide)).trans ((sset_k _ _ (by decide)).trans ((sset_k _ _ (by decide)).trans ((sset_k _ _ (by decide)).trans ((sset_k _ _ (by decide)).trans ((sset_k _ _ (by decide)).trans (hm.2.2.2.1))))))))))), ((sset_k _ _ (by decide)).trans ((sset_k _ _ (by decide)).trans ((sset_k _ _ (by decide)).trans ((sset_k _ _ (by decide)).trans ((sset_k _ _ (by decide)).trans ((sset_k _ _ (by decide)).trans ((sset_k _ _ (by decide)).trans ((sset_k _ _ (by decide)).trans ((sset_k _ _ (by decide)).trans ((sset_k _ _ (by decide)).trans (hm.2.2.2.2.1))))))))))), ((sset_k _ _ (by decide)).trans ((sset_k _ _ (by decide)).trans ((sset_k _ _ (by decide)).trans ((sset_k _ _ (by decide)).trans ((sset_k _ _ (by decide)).trans ((sset_k _ _ (by decide)).trans ((sset_k _ _ (by decide)).trans ((sset_k _ _ (by decide)).trans ((sset_k _ _ (by decide)).trans ((sset_k _ _ (by decide)).trans (hm.2.2.2.2.2.1))))))))))), ((sset_k _ _ (by decide)).trans ((sset_k _ _ (by decide)).trans ((sset_k _ _ (by decide)).trans ((sset_k _ _ (by decide)).trans ((sset_k _ _ (by decide)).trans ((sset_k _ _ (by decide)).trans ((sset_k _ _ (by decide)).trans ((sset_k _ _ (by decide)).trans ((sset_k _ _ (by decide)).trans ((sset_k _ _ (by decide)).trans (hm.2.2.2.2.2.2.1))))))))))), ((sset_k _ _ (by decide)).trans ((sset_k _ _ (by decide)).trans ((sset_k _ _ (by decide)).trans ((sset_k _ _ (by decide)).trans ((sset_k _ _ (by decide)).trans ((sset_k _ _ (by decide)).trans ((sset_k _ _ (by decide)).trans ((sset_k _ _ (by decide)).trans (sset_self _ _ _ _))))))))), ((sset_k _ _ (by decide)).trans ((sset_k _ _ (by decide)).trans ((sset_k _ _ (by decide)).trans ((sset_k _ _ (by decide)).trans ((sset_k _ _ (by decide)).trans (sset_self _ _ _ _)))))), ((sset_k _ _ (by decide)).trans ((sset_k _ _ (by decide)).trans ((sset_k _ _ (by decide)).trans ((sset_k _ _ (by decide)).trans (sset_self _ _ _ _))))), ((sset_k _ _ (by decide)).trans (sset_self _ _ _ _)), ((sset_k _ _ (by decide)).trans ((sset_k _ _ (by decide)).trans ((sset_k _ _ (by decide)).trans ((sset_k _ _ (by decide)).trans ((sset_k _ _ (by decide)).trans ((sset_k _ _ (by decide)).trans ((sset_k _ _ (by decide)).trans ((sset_k _ _ (by decide)).trans ((sset_k _ _ (by decide)).trans ((sset_k _ _ (by decide)).trans (hm.2.2.2.2.2.2.2.2.2.2.2.1))))))))))), ((sset_k _ _ (by decide)).trans ((sset_k _ _ (by decide)).trans ((sset_k _ _ (by decide)).trans ((sset_k _ _ (by decide)).trans ((sset_k _ _ (by decide)).trans ((sset_k _ _ (by decide)).trans ((sset_k _ _ (by decide)).trans ((sset_k _ _ (by decide)).trans ((sset_k _ _ (by decide)).trans ((sset_k _ _ (by decide)).trans (hm.2.2.2.2.2.2.2.2.2.2.2.2.1))))))))))), ((sset_k _ _ (by decide)).trans ((sset_k _ _ (by decide)).trans ((sset_k _ _ (by decide)).trans ((sset_k _ _ (by decide)).trans ((sset_k _ _ (by decide)).trans ((sset_k _ _ (by decide)).trans ((sset_k _ _ (by decide)).trans ((sset_k _ _ (by decide)).trans ((sset_k _ _ (by decide)).trans ((sset_k _ _ (by decide)).trans (hm.2.2.2.2.2.2.2.2.2.2.2.2.2)))))))))))⟩, rfl, by rw [ea]; exact hI.ldR _ _ _ _⟩, _, rfl, fun _ => by rw [ev, i2]⟩)
            · obtain ⟨rfl, ea⟩ := hrel.c3 hn1 hfk (by have z9 := (nI_eq (a := r0) (b := 60) (by omega) (by omega)).mp c187; omega)
              refine s_aload_n dX4_load_190 rfl ?_
              refine s_iconst (v := 3) dX4_load_191 (by decide) ?_
              refine s_callV (As := [.int 3]) (rest := []) (n := 1) (kd := 12) (ix := 0) (fun l hl => c_X4_raise G l hl ad M c0 t0 hd on tw dp cl gr r0 kd fl co sm wk sp b0 mu ⟨hm.1, hm.2.1, hm.2.2.1, hm.2.2.2.1, hm.2.2.2.2.1, hm.2.2.2.2.2.1, hm.2.2.2.2.2.2.1, hm.2.2.2.2.2.2.2.1, hm.2.2.2.2.2.2.2.2.1, hm.2.2.2.2.2.2.2.2.2.1, hm.2.2.2.2.2.2.2.2.2.2.1, hm.2.2.2.2.2.2.2.2.2.2.2.1, hm.2.2.2.2.2.2.2.2.2.2.2.2.1, hm.2.2.2.2.2.2.2.2.2.2.2.2.2⟩ 3) gX4_load_X4_raise rfl (by decide +kernel) hm.1 rfl rfl ⟨(Nat.le_of_ble_eq_true rfl), (Nat.le_of_ble_eq_true rfl)⟩ ⟨(Nat.le_of_ble_eq_true rfl), (Nat.le_of_ble_eq_true rfl)⟩ (Nat.le_of_ble_eq_true rfl) dX4_load_192 rfl (fun r9 ad9 M9 h9 => ?_)
              obtain ⟨rfl, rfl, hm9, hs9⟩ := h9
              exact s_iret rfl (rfl) dX4_load_195 (Nat.le_of_ble_eq_true rfl) (Nat.le_of_ble_eq_true rfl) (⟨rfl, (sSame.rfl.trans hs9), ⟨(3, t0, hd, on, tw, dp, cl, gr, r0, kd, fl, co, sm, wk, sp, b0, mu), hm9, rfl, by rw [ea]; exact hI.any _ _ _ _ _⟩, _, rfl, fun q => absurd q (by decide)⟩)
    · refine s_iload_n dX4_load_16 rfl ?_
      refine s_callS (As := [.int (nI 1)]) (rest := []) (n := 1) (fun l hl => c_X4_treesIn G l hl ad M 1 (by omega)) gX4_load_X4_treesIn rfl (by decide +kernel) rfl ⟨(Nat.le_of_ble_eq_true rfl), (Nat.le_of_ble_eq_true rfl)⟩ ⟨(Nat.le_of_ble_eq_true rfl), (Nat.le_of_ble_eq_true rfl)⟩ (Nat.le_of_ble_eq_true rfl) dX4_load_17 rfl (fun r9 ad9 M9 h9 => ?_)
      obtain ⟨rfl, rfl, rfl⟩ := h9
      have etf : tfI (nI 1) = 2 := tfI_in (by omega)
      refine s_st (st' := [.int 2]) rfl ?_
      refine s_goto 24 dX4_load_20 (by decide) ?_
      refine s_istore dX4_load_24 rfl rfl ?_
      refine s_lv (lv' := [some (.ref (ad 12 0)), some (.int (nI 1)), some (.int a), some (.int b), some (.int c), some (.int (jB zq)), some (.int 2), none, none]) rfl ?_
      refine s_aload_n dX4_load_26 rfl ?_
      refine s_iload_n dX4_load_27 rfl ?_
      refine s_callV (As := [.int a]) (rest := []) (n := 1) (kd := 12) (ix := 0) (fun l hl => c_X4_isTree G l hl ad M c0 t0 hd on tw dp cl gr r0 kd fl co sm wk sp b0 mu ⟨hm.1, hm.2.1, hm.2.2.1, hm.2.2.2.1, hm.2.2.2.2.1, hm.2.2.2.2.2.1, hm.2.2.2.2.2.2.1, hm.2.2.2.2.2.2.2.1, hm.2.2.2.2.2.2.2.2.1, hm.2.2.2.2.2.2.2.2.2.1, hm.2.2.2.2.2.2.2.2.2.2.1, hm.2.2.2.2.2.2.2.2.2.2.2.1, hm.2.2.2.2.2.2.2.2.2.2.2.2.1, hm.2.2.2.2.2.2.2.2.2.2.2.2.2⟩ (by omega) a) gX4_load_X4_isTree rfl (by decide +kernel) hm.1 rfl rfl ⟨(Nat.le_of_ble_eq_true rfl), (Nat.le_of_ble_eq_true rfl)⟩ ⟨(Nat.le_of_ble_eq_true rfl), (Nat.le_of_ble_eq_true rfl)⟩ (Nat.le_of_ble_eq_true rfl) dX4_load_28 rfl (fun r9 ad9 M9 h9 => ?_)
      obtain ⟨rfl, rfl, za, rfl, hza⟩ := h9
      rw [i1] at hza
      refine s_if_eq 63 dX4_load_31 (by decide) (fun c31 => ?_) (fun c31 => ?_)
      · obtain ⟨rfl, ea⟩ := hrel.c1 (Or.inl (fun q => by have z9 := hza.mpr q; rw [jB_0.mp c31] at z9; cases z9))
        refine s_aload_n dX4_load_63 rfl ?_
        refine s_iconst (v := 1) dX4_load_64 (by decide) ?_
        refine s_callV (As := [.int 1]) (rest := []) (n := 1) (kd := 12) (ix := 0) (fun l hl => c_X4_raise G l hl ad M c0 t0 hd on tw dp cl gr r0 kd fl co sm wk sp b0 mu ⟨hm.1, hm.2.1, hm.2.2.1, hm.2.2.2.1, hm.2.2.2.2.1, hm.2.2.2.2.2.1, hm.2.2.2.2.2.2.1, hm.2.2.2.2.2.2.2.1, hm.2.2.2.2.2.2.2.2.1, hm.2.2.2.2.2.2.2.2.2.1, hm.2.2.2.2.2.2.2.2.2.2.1, hm.2.2.2.2.2.2.2.2.2.2.2.1, hm.2.2.2.2.2.2.2.2.2.2.2.2.1, hm.2.2.2.2.2.2.2.2.2.2.2.2.2⟩ 1) gX4_load_X4_raise rfl (by decide +kernel) hm.1 rfl rfl ⟨(Nat.le_of_ble_eq_true rfl), (Nat.le_of_ble_eq_true rfl)⟩ ⟨(Nat.le_of_ble_eq_true rfl), (Nat.le_of_ble_eq_true rfl)⟩ (Nat.le_of_ble_eq_true rfl) dX4_load_65 rfl (fun r9 ad9 M9 h9 => ?_)
        obtain ⟨rfl, rfl, hm9, hs9⟩ := h9
        exact s_iret rfl (rfl) dX4_load_68 (Nat.le_of_ble_eq_true rfl) (Nat.le_of_ble_eq_true rfl) (⟨rfl, (sSame.rfl.trans hs9), ⟨(1, t0, hd, on, tw, dp, cl, gr, r0, kd, fl, co, sm, wk, sp, b0, mu), hm9, rfl, by rw [ea]; exact hI.any _ _ _ _ _⟩, _, rfl, fun q => absurd q (by decide)⟩)
      · refine s_iload dX4_load_34 rfl ?_
        refine s_iconst (v := 1) dX4_load_36 (by decide) ?_
        refine s_icmp_le 48 dX4_load_37 (by decide) (fun c37 => absurd c37 (by decide)) (fun c37 => ?_)
        refine s_aload_n dX4_load_40 rfl ?_
        refine s_iload_n dX4_load_41 rfl ?_
        refine s_callV (As := [.int b]) (rest := []) (n := 1) (kd := 12) (ix := 0) (fun l hl => c_X4_isTree G l hl ad M c0 t0 hd on tw dp cl gr r0 kd fl co sm wk sp b0 mu ⟨hm.1, hm.2.1, hm.2.2.1, hm.2.2.2.1, hm.2.2.2.2.1, hm.2.2.2.2.2.1, hm.2.2.2.2.2.2.1, hm.2.2.2.2.2.2.2.1, hm.2.2.2.2.2.2.2.2.1, hm.2.2.2.2.2.2.2.2.2.1, hm.2.2.2.2.2.2.2.2.2.2.1, hm.2.2.2.2.2.2.2.2.2.2.2.1, hm.2.2.2.2.2.2.2.2.2.2.2.2.1, hm.2.2.2.2.2.2.2.2.2.2.2.2.2⟩ (by omega) b) gX4_load_X4_isTree rfl (by decide +kernel) hm.1 rfl rfl ⟨(Nat.le_of_ble_eq_true rfl), (Nat.le_of_ble_eq_true rfl)⟩ ⟨(Nat.le_of_ble_eq_true rfl), (Nat.le_of_ble_eq_true rfl)⟩ (Nat.le_of_ble_eq_true rfl) dX4_load_42 rfl (fun r9 ad9 M9 h9 => ?_)
        obtain ⟨rfl, rfl, zb, rfl, hzb⟩ := h9
        rw [i1] at hzb
        refine s_if_eq 63 dX4_load_45 (by decide) (fun c45 => ?_) (fun c45 => ?_)
        · obtain ⟨rfl, ea⟩ := hrel.c1 (Or.inr (Or.inl ⟨by rw [etf]; omega, (fun q => by have z9 := hzb.mpr q; rw [jB_0.mp c45] at z9; cases z9)⟩))
          refine s_aload_n dX4_load_63 rfl ?_
          refine s_iconst (v := 1) dX4_load_64 (by decide) ?_
          refine s_callV (As := [.int 1]) (rest := []) (n := 1) (kd := 12) (ix := 0) (fun l hl => c_X4_raise G l hl ad M c0 t0 hd on tw dp cl gr r0 kd fl co sm wk sp b0 mu ⟨hm.1, hm.2.1, hm.2.2.1, hm.2.2.2.1, hm.2.2.2.2.1, hm.2.2.2.2.2.1, hm.2.2.2.2.2.2.1, hm.2.2.2.2.2.2.2.1, hm.2.2.2.2.2.2.2.2.1, hm.2.2.2.2.2.2.2.2.2.1, hm.2.2.2.2.2.2.2.2.2.2.1, hm.2.2.2.2.2.2.2.2.2.2.2.1, hm.2.2.2.2.2.2.2.2.2.2.2.2.1, hm.2.2.2.2.2.2.2.2.2.2.2.2.2⟩ 1) gX4_load_X4_raise rfl (by decide +kernel) hm.1 rfl rfl ⟨(Nat.le_of_ble_eq_true rfl), (Nat.le_of_ble_eq_true rfl)⟩ ⟨(Nat.le_of_ble_eq_true rfl), (Nat.le_of_ble_eq_true rfl)⟩ (Nat.le_of_ble_eq_true rfl) dX4_load_65 rfl (fun r9 ad9 M9 h9 => ?_)
          obtain ⟨rfl, rfl, hm9, hs9⟩ := h9
          exact s_iret rfl (rfl) dX4_load_68 (Nat.le_of_ble_eq_true rfl) (Nat.le_of_ble_eq_true rfl) (⟨rfl, (sSame.rfl.trans hs9), ⟨(1, t0, hd, on, tw, dp, cl, gr, r0, kd, fl, co, sm, wk, sp, b0, mu), hm9, rfl, by rw [ea]; exact hI.any _ _ _ _ _⟩, _, rfl, fun q => absurd q (by decide)⟩)
        · refine s_iload dX4_load_48 rfl ?_
          refine s_iconst (v := 2) dX4_load_50 (by decide) ?_
          refine s_icmp_le 69 dX4_load_51 (by decide) (fun c51 => ?_) (fun c51 => absurd (by decide) c51)
          have hn1 : ¬ lC1 α (nI 1) a b c := fun z => z.elim (fun z => z (hza.mp (Bool.of_not_eq_false (fun q => c31 (jB_0.mpr q))))) (fun z => z.elim (fun z => z.2 (hzb.mp (Bool.of_not_eq_false (fun q => c45 (jB_0.mpr q))))) (fun z => absurd z.1 (by rw [etf]; omega)))
          refine s_iload dX4_load_69 rfl ?_
          refine s_if_ne 80 dX4_load_71 (by decide) (fun c71 => ?_) (fun c71 => absurd c71 (c13))
          refine s_iload_n dX4_load_80 rfl ?_
          refine s_iconst (v := 1) dX4_load_81 (by decide) ?_
          refine s_icmp_ne 98 dX4_load_82 (by decide) (fun c82 => absurd (rfl) c82) (fun c82 => ?_)
          refine s_iload dX4_load_85 rfl ?_
          refine s_i2l dX4_load_87 ?_
          refine s_lconst (v := 0) dX4_load_88 (by decide) ?_
          refine s_ldc2 (v := 2) dX4_load_89 (by decide +kernel) ?_
          refine s_callS (As := [.long c.toInt64, .long 0, .long 2]) (rest := []) (n := 3) (fun l hl => c_X4_in G l hl ad M c.toInt64 0 2) gX4_load_X4_in rfl (by decide +kernel) rfl ⟨(Nat.le_of_ble_eq_true rfl), (Nat.le_of_ble_eq_true rfl)⟩ ⟨(Nat.le_of_ble_eq_true rfl), (Nat.le_of_ble_eq_true rfl)⟩ (Nat.le_of_ble_eq_true rfl) dX4_load_92 rfl (fun r9 ad9 M9 h9 => ?_)
          obtain ⟨rfl, rfl, e9⟩ := h9
          obtain ⟨zl, e8, hzl⟩ := in_z (x := c) (a := 0) (b := 2) (A := 0) (B := 2) (by decide) (by decide)
          rw [e8] at e9
          subst e9
          refine s_goto 168 dX4_load_95 (by decide) ?_
          refine s_istore dX4_load_168 rfl rfl ?_
          refine s_lv (lv' := [some (.ref (ad 12 0)), some (.int (nI 1)), some (.int a), some (.int b), some (.int c), some (.int (jB zq)), some (.int 2), some (.int (jB zl)), none]) rfl ?_
          refine s_iload dX4_load_170 rfl ?_
          refine s_if_ne 181 dX4_load_172 (by decide) (fun c172 => ?_) (fun c172 => ?_)
          · have hfk : fitsK (nI 1) b c := by rw [show fitsK (nI 1) b c = _ from fitsK_1 b c]; exact let3.mpr (let2.mp (hzl.mp (Bool.of_not_eq_false (fun q => c172 (jB_0.mpr q)))))
            refine s_aload_n dX4_load_181 rfl ?_
            refine s_get (kd := 12) (ix := 0) (ci := 5) (fs := [.int c0, .int (nI t0), .ref (ad 13 0), .ref (ad 14 0), .ref (ad 15 0), .ref (ad 16 0), .ref (ad 17 0), .ref (ad 18 0), .int (nI r0), .ref (ad 19 0), .ref (ad 20 0), .ref (ad 21 0), .ref (ad 22 0), .ref (ad 23 0), .ref (ad 24 0), .int (jB b0), .ref (ad 25 0)])  hm.1 rfl in_X4_load_X4 8 (by decide) (by decide +kernel) rfl rfl dX4_load_182 ?_
            refine s_bipush (v := 60) dX4_load_185 (by decide) ?_
            refine s_icmp_ne 196 dX4_load_187 (by decide) (fun c187 => ?_) (fun c187 => ?_)
            · obtain ⟨rfl, ev, hR1, ea⟩ := hrel.c0 hn1 hfk (fun z9 => c187 (by rw [show r0 = 60 by omega]; rfl))
              have hr1 : r0 < 60 := by omega
              refine s_aload_n dX4_load_196 rfl ?_
              refine s_iconst (v := 0) dX4_load_197 (by decide) ?_
              refine s_put (kd := 12) (ix := 0) (ci := 5) (v := .int 0) (ty := tyX4 0) (fs := [.int c0, .int (nI t0), .ref (ad 13 0), .ref (ad 14 0), .ref (ad 15 0), .ref (ad 16 0), .ref (ad 17 0), .ref (ad 18 0), .int (nI r0), .ref (ad 19 0), .ref (ad 20 0), .ref (ad 21 0), .ref (ad 22 0), .ref (ad 23 0), .ref (ad 24 0), .int (jB b0), .ref (ad 25 0)])  tyX4 tyX4_ok nmX4 hm.1 rfl in_X4_load_X4 0 (by decide) (by decide +kernel) rfl rfl (tyX4_ok 0 (by decide)) (rfl) (rfl) (Nat.le_of_ble_eq_true rfl) dX4_load_198 ?_
              refine s_M (M' := (sset M 12 0 (.inr (5, [.int 0, .int (nI t0), .ref (ad 13 0), .ref (ad 14 0), .ref (ad 15 0), .ref (ad 16 0), .ref (ad 17 0), .ref (ad 18 0), .int (nI r0), .ref (ad 19 0), .ref (ad 20 0), .ref (ad 21 0), .ref (ad 22 0), .ref (ad 23 0), .ref (ad 24 0), .int (jB b0), .ref (ad 25 0)])))) rfl ?_
              refine s_aload_n dX4_load_201 rfl ?_
              refine s_get (kd := 12) (ix := 0) (ci := 5) (fs := [.int 0, .int (nI t0), .ref (ad 13 0), .ref (ad 14 0), .ref (ad 15 0), .ref (ad 16 0), .ref (ad 17 0), .ref (ad 18 0), .int (nI r0), .ref (ad 19 0), .ref (ad 20 0), .ref (ad 21 0), .ref (ad 22 0), .ref (ad 23 0), .ref (ad 24 0), .int (jB b0), .ref (ad 25 0)])  (sset_self _ _ _ _) rfl in_X4_load_X4 9 (by decide) (by decide +kernel) rfl rfl dX4_load_202 ?_
              refine s_aload_n dX4_load_205 rfl ?_
              refine s_get (kd := 12) (ix := 0) (ci := 5) (fs := [.int 0, .int (nI t0), .ref (ad 13 0), .ref (ad 14 0), .ref (ad 15 0), .ref (ad 16 0), .ref (ad 17 0), .ref (ad 18 0), .int (nI r0), .ref (ad 19 0), .ref (ad 20 0), .ref (ad 21 0), .ref (ad 22 0), .ref (ad 23 0), .ref (ad 24 0), .int (jB b0), .ref (ad 25 0)])  (sset_self _ _ _ _) rfl in_X4_load_X4 8 (by decide) (by decide +kernel) rfl rfl dX4_load_206 ?_
              refine s_iload_n dX4_load_209 rfl ?_
              refine s_iast (kd := 19) (ix := 0) (n := 60) (f := kd) (j := r0) (x := nI 1) ((sset_k _ _ (by decide)).trans (hm.2.2.2.2.2.2.2.1))  (rfl) (by omega) (by decide) dX4_load_210 ?_
              refine s_aload_n dX4_load_211 rfl ?_
              refine s_get (kd := 12) (ix := 0) (ci := 5) (fs := [.int 0, .int (nI t0), .ref (ad 13 0), .ref (ad 14 0), .ref (ad 15 0), .ref (ad 16 0), .ref (ad 17 0), .ref (ad 18 0), .int (nI r0), .ref (ad 19 0), .ref (ad 20 0), .ref (ad 21 0), .ref (ad 22 0), .ref (ad 23 0), .ref (ad 24 0), .int (jB b0), .ref (ad 25 0)])  ((sset_k _ _ (by decide)).trans (sset_self _ _ _ _)) rfl in_X4_load_X4 10 (by decide) (by decide +kernel) rfl rfl dX4_load_212 ?_
              refine s_iconst (v := 3) dX4_load_215 (by decide) ?_
              refine s_aload_n dX4_load_216 rfl ?_
              refine s_get (kd := 12) (ix := 0) (ci := 5) (fs := [.int 0, .int (nI t0), .ref (ad 13 0), .ref (ad 14 0), .ref (ad 15 0), .ref (ad 16 0), .ref (ad 17 0), .ref (ad 18 0), .int (nI r0), .ref (ad 19 0), .ref (ad 20 0), .ref (ad 21 0), .ref (ad 22 0), .ref (ad 23 0), .ref (ad 24 0), .int (jB b0), .ref (ad 25 0)])  ((sset_k _ _ (by decide)).trans (sset_self _ _ _ _)) rfl in_X4_load_X4 8 (by decide) (by decide +kernel) rfl rfl dX4_load_217 ?_
              refine s_imul dX4_load_220 ?_
              refine s_eqi (y := nI (3 * r0)) (nI_mul 3 r0) ?_
              refine s_iload_n dX4_load_221 rfl ?_
              refine s_iast (kd := 20) (ix := 0) (n := 180) (f := fl) (j := 3 * r0) (x := a) ((sset_k _ _ (by decide)).trans ((sset_k _ _ (by decide)).trans (hm.2.2.2.2.2.2.2.2.1)))  (rfl) (by omega) (by decide) dX4_load_222 ?_
              refine s_aload_n dX4_load_223 rfl ?_
              refine s_get (kd := 12) (ix := 0) (ci := 5) (fs := [.int 0, .int (nI t0), .ref (ad 13 0), .ref (ad 14 0), .ref (ad 15 0), .ref (ad 16 0), .ref (ad 17 0), .ref (ad 18 0), .int (nI r0), .ref (ad 19 0), .ref (ad 20 0), .ref (ad 21 0), .ref (ad 22 0), .ref (ad 23 0), .ref (ad 24 0), .int (jB b0), .ref (ad 25 0)])  ((sset_k _ _ (by decide)).trans ((sset_k _ _ (by decide)).trans (sset_self _ _ _ _))) rfl in_X4_load_X4 10 (by decide) (by decide +kernel) rfl rfl dX4_load_224 ?_
              refine s_iconst (v := 3) dX4_load_227 (by decide) ?_
              refine s_aload_n dX4_load_228 rfl ?_
              refine s_get (kd := 12) (ix := 0) (ci := 5) (fs := [.int 0, .int (nI t0), .ref (ad 13 0), .ref (ad 14 0), .ref (ad 15 0), .ref (ad 16 0), .ref (ad 17 0), .ref (ad 18 0), .int (nI r0), .ref (ad 19 0), .ref (ad 20 0), .ref (ad 21 0), .ref (ad 22 0), .ref (ad 23 0), .ref (ad 24 0), .int (jB b0), .ref (ad 25 0)])  ((sset_k _ _ (by decide)).trans ((sset_k _ _ (by decide)).trans (sset_self _ _ _ _))) rfl in_X4_load_X4 8 (by decide) (by decide +kernel) rfl rfl dX4_load_229 ?_
              refine s_imul dX4_load_232 ?_
              refine s_eqi (y := nI (3 * r0)) (nI_mul 3 r0) ?_
              refine s_iconst (v := 1) dX4_load_233 (by decide) ?_
              refine s_iadd dX4_load_234 ?_
              refine s_eqi (y := nI (3 * r0 + 1)) (nI_add _ _) ?_
              refine s_iload_n dX4_load_235 rfl ?_
              refine s_iast (kd := 20) (ix := 0) (n := 180) (f := upd fl (3 * r0) a) (j := 3 * r0 + 1) (x := b) (sset_self _ _ _ _)  (rfl) (by omega) (by decide) dX4_load_236 ?_
              refine s_aload_n dX4_load_237 rfl ?_
              refine s_get (kd := 12) (ix := 0) (ci := 5) (fs := [.int 0, .int (nI t0), .ref (ad 13 0), .ref (ad 14 0), .ref (ad 15 0), .ref (ad 16 0), .ref (ad 17 0), .ref (ad 18 0), .int (nI r0), .ref (ad 19 0), .ref (ad 20 0), .ref (ad 21 0), .ref (ad 22 0), .ref (ad 23 0), .ref (ad 24 0), .int (jB b0), .ref (ad 25 0)])  ((sset_k _ _ (by decide)).trans ((sset_k _ _ (by decide)).trans ((sset_k _ _ (by decide)).trans (sset_self _ _ _ _)))) rfl in_X4_load_X4 10 (by decide) (by decide +kernel) rfl rfl dX4_load_238 ?_
              refine s_iconst (v := 3) dX4_load_241 (by decide) ?_
              refine s_aload_n dX4_load_242 rfl ?_
              refine s_get (kd := 12) (ix := 0) (ci := 5) (fs := [.int 0, .int (nI t0), .ref (ad 13 0), .ref (ad 14 0), .ref (ad 15 0), .ref (ad 16 0), .ref (ad 17 0), .ref (ad 18 0), .int (nI r0), .ref (ad 19 0), .ref (ad 20 0), .ref (ad 21 0), .ref (ad 22 0), .ref (ad 23 0), .ref (ad 24 0), .int (jB b0), .ref (ad 25 0)])  ((sset_k _ _ (by decide)).trans ((sset_k _ _ (by decide)).trans ((sset_k _ _ (by decide)).trans (sset_self _ _ _ _)))) rfl in_X4_load_X4 8 (by decide) (by decide +kernel) rfl rfl dX4_load_243 ?_
              refine s_imul dX4_load_246 ?_
              refine s_eqi (y := nI (3 * r0)) (nI_mul 3 r0) ?_
              refine s_iconst (v := 2) dX4_load_247 (by decide) ?_
              refine s_iadd dX4_load_248 ?_
              refine s_eqi (y := nI (3 * r0 + 2)) (nI_add _ _) ?_
              refine s_iload dX4_load_249 rfl ?_
              refine s_iast (kd := 20) (ix := 0) (n := 180) (f := upd (upd fl (3 * r0) a) (3 * r0 + 1) b) (j := 3 * r0 + 2) (x := c) (sset_self _ _ _ _)  (rfl) (by omega) (by decide) dX4_load_251 ?_
              refine s_aload_n dX4_load_252 rfl ?_
              refine s_get (kd := 12) (ix := 0) (ci := 5) (fs := [.int 0, .int (nI t0), .ref (ad 13 0), .ref (ad 14 0), .ref (ad 15 0), .ref (ad 16 0), .ref (ad 17 0), .ref (ad 18 0), .int (nI r0), .ref (ad 19 0), .ref (ad 20 0), .ref (ad 21 0), .ref (ad 22 0), .ref (ad 23 0), .ref (ad 24 0), .int (jB b0), .ref (ad 25 0)])  ((sset_k _ _ (by decide)).trans ((sset_k _ _ (by decide)).trans ((sset_k _ _ (by decide)).trans ((sset_k _ _ (by decide)).trans (sset_self _ _ _ _))))) rfl in_X4_load_X4 11 (by decide) (by decide +kernel) rfl rfl dX4_load_253 ?_
              refine s_aload_n dX4_load_256 rfl ?_
              refine s_get (kd := 12) (ix := 0) (ci := 5) (fs := [.int 0, .int (nI t0), .ref (ad 13 0), .ref (ad 14 0), .ref (ad 15 0), .ref (ad 16 0), .ref (ad 17 0), .ref (ad 18 0), .int (nI r0), .ref (ad 19 0), .ref (ad 20 0), .ref (ad 21 0), .ref (ad 22 0), .ref (ad 23 0), .ref (ad 24 0), .int (jB b0), .ref (ad 25 0)])  ((sset_k _ _ (by decide)).trans ((sset_k _ _ (by decide)).trans ((sset_k _ _ (by decide)).trans ((sset_k _ _ (by decide)).trans (sset_self _ _ _ _))))) rfl in_X4_load_X4 8 (by decide) (by decide +kernel) rfl rfl dX4_load_257 ?_
              refine s_iconst (v := -1) dX4_load_260 (by decide) ?_
              refine s_iast (kd := 21) (ix := 0) (n := 60) (f := co) (j := r0) (x := (-1)) ((sset_k _ _ (by decide)).trans ((sset_k _ _ (by decide)).trans ((sset_k _ _ (by decide)).trans ((sset_k _ _ (by decide)).trans ((sset_k _ _ (by decide)).trans (hm.2.2.2.2.2.2.2.2.2.1))))))  (rfl) (by omega) (by decide) dX4_load_261 ?_
              refine s_iconst (v := 0) dX4_load_262 (by decide) ?_
              refine s_istore dX4_load_263 rfl rfl ?_
              refine s_lv (lv' := [some (.ref (ad 12 0)), some (.int (nI 1)), some (.int a), some (.int b), some (.int c), some (.int (jB zq)), some (.int 2), some (.int (jB zl)), some (.int 0)]) rfl ?_
              refine s_iload dX4_load_265 rfl ?_
              refine s_iconst (v := 3) dX4_load_267 (by decide) ?_
              refine s_icmp_ge 292 dX4_load_268 (by decide) (fun c268 => absurd c268 (by decide)) (fun c268 => ?_)
              refine s_aload_n dX4_load_271 rfl ?_
              refine s_get (kd := 12) (ix := 0) (ci := 5) (fs := [.int 0, .int (nI t0), .ref (ad 13 0), .ref (ad 14 0), .ref (ad 15 0), .ref (ad 16 0), .ref (ad 17 0), .ref (ad 18 0), .int (nI r0), .ref (ad 19 0), .ref (ad 20 0), .ref (ad 21 0), .ref (ad 22 0), .ref (ad 23 0), .ref (ad 24 0), .int (jB b0), .ref (ad 25 0)])  ((sset_k _ _ (by decide)).trans ((sset_k _ _ (by decide)).trans ((sset_k _ _ (by decide)).trans ((sset_k _ _ (by decide)).trans ((sset_k _ _ (by decide)).trans (sset_self _ _ _ _)))))) rfl in_X4_load_X4 12 (by decide) (by decide +kernel) rfl rfl dX4_load_272 ?_
              refine s_iconst (v := 3) dX4_load_275 (by decide) ?_
              refine s_aload_n dX4_load_276 rfl ?_
              refine s_get (kd := 12) (ix := 0) (ci := 5) (fs := [.int 0, .int (nI t0), .ref (ad 13 0), .ref (ad 14 0), .ref (ad 15 0), .ref (ad 16 0), .ref (ad 17 0), .ref (ad 18 0), .int (nI r0), .ref (ad 19 0), .ref (ad 20 0), .ref (ad 21 0), .ref (ad 22 0), .ref (ad 23 0), .ref (ad 24 0), .int (jB b0), .ref (ad 25 0)])  ((sset_k _ _ (by decide)).trans ((sset_k _ _ (by decide)).trans ((sset_k _ _ (by decide)).trans ((sset_k _ _ (by decide)).trans ((sset_k _ _ (by decide)).trans (sset_self _ _ _ _)))))) rfl in_X4_load_X4 8 (by decide) (by decide +kernel) rfl rfl dX4_load_277 ?_
              refine s_imul dX4_load_280 ?_
              refine s_eqi (y := nI (3 * r0)) (nI_mul 3 r0) ?_
              refine s_iload dX4_load_281 rfl ?_
              refine s_iadd dX4_load_283 ?_
              refine s_eqi (y := nI (3 * r0 + 0)) (nI_add _ _) ?_
              refine s_iconst (v := 0) dX4_load_284 (by decide) ?_
              refine s_iast (kd := 22) (ix := 0) (n := 180) (f := sm) (j := 3 * r0 + 0) (x := 0) ((sset_k _ _ (by decide)).trans ((sset_k _ _ (by decide)).trans ((sset_k _ _ (by decide)).trans ((sset_k _ _ (by decide)).trans ((sset_k _ _ (by decide)).trans ((sset_k _ _ (by decide)).trans (hm.2.2.2.2.2.2.2.2.2.2.1)))))))  (rfl) (by omega) (by decide) dX4_load_285 ?_
              refine s_iinc (v := 1) dX4_load_286 rfl (by decide) rfl ?_
              refine s_lv (lv' := [some (.ref (ad 12 0)), some (.int (nI 1)), some (.int a), some (.int b), some (.int c), some (.int (jB zq)), some (.int 2), some (.int (jB zl)), some (.int 1)]) rfl ?_
              refine s_goto 265 dX4_load_289 (by decide) ?_
              refine s_iload dX4_load_265 rfl ?_
              refine s_iconst (v := 3) dX4_load_267 (by decide) ?_
              refine s_icmp_ge 292 dX4_load_268 (by decide) (fun c268 => absurd c268 (by decide)) (fun c268 => ?_)
              refine s_aload_n dX4_load_271 rfl ?_
              refine s_get (kd := 12) (ix := 0) (ci := 5) (fs := [.int 0, .int (nI t0), .ref (ad 13 0), .ref (ad 14 0), .ref (ad 15 0), .ref (ad 16 0), .ref (ad 17 0), .ref (ad 18 0), .int (nI r0), .ref (ad 19 0), .ref (ad 20 0), .ref (ad 21 0), .ref (ad 22 0), .ref (ad 23 0), .ref (ad 24 0), .int (jB b0), .ref (ad 25 0)])  ((sset_k _ _ (by decide)).trans ((sset_k _ _ (by decide)).trans ((sset_k _ _ (by decide)).trans ((sset_k _ _ (by decide)).trans ((sset_k _ _ (by decide)).trans ((sset_k _ _ (by decide)).trans (sset_self _ _ _ _))))))) rfl in_X4_load_X4 12 (by decide) (by decide +kernel) rfl rfl dX4_load_272 ?_
              refine s_iconst (v := 3) dX4_load_275 (by decide) ?_
              refine s_aload_n dX4_load_276 rfl ?_
              refine s_get (kd := 12) (ix := 0) (ci := 5) (fs := [.int 0, .int (nI t0), .ref (ad 13 0), .ref (ad 14 0), .ref (ad 15 0), .ref (ad 16 0), .ref (ad 17 0), .ref (ad 18 0), .int (nI r0), .ref (ad 19 0), .ref (ad 20 0), .ref (ad 21 0), .ref (ad 22 0), .ref (ad 23 0), .ref (ad 24 0), .int (jB b0), .ref (ad 25 0)])  ((sset_k _ _ (by decide)).trans ((sset_k _ _ (by decide)).trans ((sset_k _ _ (by decide)).trans ((sset_k _ _ (by decide)).trans ((sset_k _ _ (by decide)).trans ((sset_k _ _ (by decide)).trans (sset_self _ _ _ _))))))) rfl in_X4_load_X4 8 (by decide) (by decide +kernel) rfl rfl dX4_load_277 ?_
              refine s_imul dX4_load_280 ?_
              refine s_eqi (y := nI (3 * r0)) (nI_mul 3 r0) ?_
              refine s_iload dX4_load_281 rfl ?_
              refine s_iadd dX4_load_283 ?_
              refine s_eqi (y := nI (3 * r0 + 1)) (nI_add _ _) ?_
              refine s_iconst (v := 0) dX4_load_284 (by decide) ?_
              refine s_iast (kd := 22) (ix := 0) (n := 180) (f := upd sm (3 * r0 + 0) 0) (j := 3 * r0 + 1) (x := 0) (sset_self _ _ _ _)  (rfl) (by omega) (by decide) dX4_load_285 ?_
              refine s_iinc (v := 2) dX4_load_286 rfl (by decide) rfl ?_
              refine s_lv (lv' := [some (.ref (ad 12 0)), some (.int (nI 1)), some (.int a), some (.int b), some (.int c), some (.int (jB zq)), some (.int 2), some (.int (jB zl)), some (.int 2)]) rfl ?_
              refine s_goto 265 dX4_load_289 (by decide) ?_
              refine s_iload dX4_load_265 rfl ?_
              refine s_iconst (v := 3) dX4_load_267 (by decide) ?_
              refine s_icmp_ge 292 dX4_load_268 (by decide) (fun c268 => absurd c268 (by decide)) (fun c268 => ?_)
              refine s_aload_n dX4_load_271 rfl ?_
              refine s_get (kd := 12) (ix := 0) (ci := 5) (fs := [.int 0, .int (nI t0), .ref (ad 13 0), .ref (ad 14 0), .ref (ad 15 0), .ref (ad 16 0), .ref (ad 17 0), .ref (ad 18 0), .int (nI r0), .ref (ad 19 0), .ref (ad 20 0), .ref (ad 21 0), .ref (ad 22 0), .ref (ad 23 0), .ref (ad 24 0), .int (jB b0), .ref (ad 25 0)])  ((sset_k _ _ (by decide)).trans ((sset_k _ _ (by decide)).trans ((sset_k _ _ (by decide)).trans ((sset_k _ _ (by decide)).trans ((sset_k _ _ (by decide)).trans ((sset_k _ _ (by decide)).trans ((sset_k _ _ (by decide)).trans (sset_self _ _ _ _)))))))) rfl in_X4_load_X4 12 (by decide) (by decide +kernel) rfl rfl dX4_load_272 ?_
              refine s_iconst (v := 3) dX4_load_275 (by decide) ?_
              refine s_aload_n dX4_load_276 rfl ?_
              refine s_get (kd := 12) (ix := 0) (ci := 5) (fs := [.int 0, .int (nI t0), .ref (ad 13 0), .ref (ad 14 0), .ref (ad 15 0), .ref (ad 16 0), .ref (ad 17 0), .ref (ad 18 0), .int (nI r0), .ref (ad 19 0), .ref (ad 20 0), .ref (ad 21 0), .ref (ad 22 0), .ref (ad 23 0), .ref (ad 24 0), .int (jB b0), .ref (ad 25 0)])  ((sset_k _ _ (by decide)).trans ((sset_k _ _ (by decide)).trans ((sset_k _ _ (by decide)).trans ((sset_k _ _ (by decide)).trans ((sset_k _ _ (by decide)).trans ((sset_k _ _ (by decide)).trans ((sset_k _ _ (by decide)).trans (sset_self _ _ _ _)))))))) rfl in_X4_load_X4 8 (by decide) (by decide +kernel) rfl rfl dX4_load_277 ?_
              refine s_imul dX4_load_280 ?_
              refine s_eqi (y := nI (3 * r0)) (nI_mul 3 r0) ?_
              refine s_iload dX4_load_281 rfl ?_
              refine s_iadd dX4_load_283 ?_
              refine s_eqi (y := nI (3 * r0 + 2)) (nI_add _ _) ?_
              refine s_iconst (v := 0) dX4_load_284 (by decide) ?_
              refine s_iast (kd := 22) (ix := 0) (n := 180) (f := upd (upd sm (3 * r0 + 0) 0) (3 * r0 + 1) 0) (j := 3 * r0 + 2) (x := 0) (sset_self _ _ _ _)  (rfl) (by omega) (by decide) dX4_load_285 ?_
              refine s_iinc (v := 3) dX4_load_286 rfl (by decide) rfl ?_
              refine s_lv (lv' := [some (.ref (ad 12 0)), some (.int (nI 1)), some (.int a), some (.int b), some (.int c), some (.int (jB zq)), some (.int 2), some (.int (jB zl)), some (.int 3)]) rfl ?_
              refine s_goto 265 dX4_load_289 (by decide) ?_
              refine s_iload dX4_load_265 rfl ?_
              refine s_iconst (v := 3) dX4_load_267 (by decide) ?_
              refine s_icmp_ge 292 dX4_load_268 (by decide) (fun c268 => ?_) (fun c268 => absurd (by decide) c268)
              refine s_aload_n dX4_load_292 rfl ?_
              refine s_dup dX4_load_293 rfl ?_
              refine s_get (kd := 12) (ix := 0) (ci := 5) (fs := [.int 0, .int (nI t0), .ref (ad 13 0), .ref (ad 14 0), .ref (ad 15 0), .ref (ad 16 0), .ref (ad 17 0), .ref (ad 18 0), .int (nI r0), .ref (ad 19 0), .ref (ad 20 0), .ref (ad 21 0), .ref (ad 22 0), .ref (ad 23 0), .ref (ad 24 0), .int (jB b0), .ref (ad 25 0)])  ((sset_k _ _ (by decide)).trans ((sset_k _ _ (by decide)).trans ((sset_k _ _ (by decide)).trans ((sset_k _ _ (by decide)).trans ((sset_k _ _ (by decide)).trans ((sset_k _ _ (by decide)).trans ((sset_k _ _ (by decide)).trans ((sset_k _ _ (by decide)).trans (sset_self _ _ _ _))))))))) rfl in_X4_load_X4 8 (by decide) (by decide +kernel) rfl rfl dX4_load_294 ?_
              refine s_iconst (v := 1) dX4_load_297 (by decide) ?_
              refine s_iadd dX4_load_298 ?_
              refine s_eqi (y := nI (r0 + 1)) (nI_1 _) ?_
              refine s_put (kd := 12) (ix := 0) (ci := 5) (v := .int (nI (r0 + 1))) (ty := tyX4 8) (fs := [.int 0, .int (nI t0), .ref (ad 13 0), .ref (ad 14 0), .ref (ad 15 0), .ref (ad 16 0), .ref (ad 17 0), .ref (ad 18 0), .int (nI r0), .ref (ad 19 0), .ref (ad 20 0), .ref (ad 21 0), .ref (ad 22 0), .ref (ad 23 0), .ref (ad 24 0), .int (jB b0), .ref (ad 25 0)])  tyX4 tyX4_ok nmX4 ((sset_k _ _ (by decide)).trans ((sset_k _ _ (by decide)).trans ((sset_k _ _ (by decide)).trans ((sset_k _ _ (by decide)).trans ((sset_k _ _ (by decide)).trans ((sset_k _ _ (by decide)).trans ((sset_k _ _ (by decide)).trans ((sset_k _ _ (by decide)).trans (sset_self _ _ _ _))))))))) rfl in_X4_load_X4 8 (by decide) (by decide +kernel) rfl rfl (tyX4_ok 8 (by decide)) (rfl) (rfl) (Nat.le_of_ble_eq_true rfl) dX4_load_299 ?_
              refine s_M (M' := (sset (sset (sset (sset (sset (sset (sset (sset (sset (sset M 12 0 (.inr (5, [.int 0, .int (nI t0), .ref (ad 13 0), .ref (ad 14 0), .ref (ad 15 0), .ref (ad 16 0), .ref (ad 17 0), .ref (ad 18 0), .int (nI r0), .ref (ad 19 0), .ref (ad 20 0), .ref (ad 21 0), .ref (ad 22 0), .ref (ad 23 0), .ref (ad 24 0), .int (jB b0), .ref (ad 25 0)]))) 19 0 (.inl (gI G, 60, .inl (upd kd r0 (nI 1))))) 20 0 (.inl (gI G, 180, .inl (upd fl (3 * r0) a)))) 20 0 (.inl (gI G, 180, .inl (upd (upd fl (3 * r0) a) (3 * r0 + 1) b)))) 20 0 (.inl (gI G, 180, .inl (upd (upd (upd fl (3 * r0) a) (3 * r0 + 1) b) (3 * r0 + 2) c)))) 21 0 (.inl (gI G, 60, .inl (upd co r0 (-1))))) 22 0 (.inl (gI G, 180, .inl (upd sm (3 * r0 + 0) 0)))) 22 0 (.inl (gI G, 180, .inl (upd (upd sm (3 * r0 + 0) 0) (3 * r0 + 1) 0)))) 22 0 (.inl (gI G, 180, .inl (upd (upd (upd sm (3 * r0 + 0) 0) (3 * r0 + 1) 0) (3 * r0 + 2) 0)))) 12 0 (.inr (5, [.int 0, .int (nI t0), .ref (ad 13 0), .ref (ad 14 0), .ref (ad 15 0), .ref (ad 16 0), .ref (ad 17 0), .ref (ad 18 0), .int (nI (r0 + 1)), .ref (ad 19 0), .ref (ad 20 0), .ref (ad 21 0), .ref (ad 22 0), .ref (ad 23 0), .ref (ad 24 0), .int (jB b0), .ref (ad 25 0)])))) rfl ?_
              refine s_aload_n dX4_load_302 rfl ?_
              refine s_get (kd := 12) (ix := 0) (ci := 5) (fs := [.int 0, .int (nI t0), .ref (ad 13 0), .ref (ad 14 0), .ref (ad 15 0), .ref (ad 16 0), .ref (ad 17 0), .ref (ad 18 0), .int (nI (r0 + 1)), .ref (ad 19 0), .ref (ad 20 0), .ref (ad 21 0), .ref (ad 22 0), .ref (ad 23 0), .ref (ad 24 0), .int (jB b0), .ref (ad 25 0)])  (sset_self _ _ _ _) rfl in_X4_load_X4 8 (by decide) (by decide +kernel) rfl rfl dX4_load_303 ?_
              refine s_iconst (v := 1) dX4_load_306 (by decide) ?_
              refine s_isub dX4_load_307 ?_
              refine s_eqi (y := nI r0) (nI_m1 (by omega)) ?_
              exact s_iret rfl (rfl) dX4_load_308 (Nat.le_of_ble_eq_true rfl) (Nat.le_of_ble_eq_true rfl) (⟨rfl, (sSame.rfl |>.set (P := pMd) (by simp [pMd]) _ |>.set (P := pMd) (by simp [pMd]) _ |>.set (P := pMd) (by simp [pMd]) _ |>.set (P := pMd) (by simp [pMd]) _ |>.set (P := pMd) (by simp [pMd]) _ |>.set (P := pMd) (by simp [pMd]) _ |>.set (P := pMd) (by simp [pMd]) _ |>.set (P := pMd) (by simp [pMd]) _ |>.set (P := pMd) (by simp [pMd]) _ |>.set (P := pMd) (by simp [pMd]) _), ⟨(0, t0, hd, on, tw, dp, cl, gr, (r0 + 1), upd kd r0 (nI 1), upd (upd (upd fl (3 * r0) a) (3 * r0 + 1) b) (3 * r0 + 2) c, upd co r0 (-1), upd (upd (upd sm (3 * r0 + 0) 0) (3 * r0 + 1) 0) (3 * r0 + 2) 0, wk, sp, b0, mu), ⟨(sset_self _ _ _ _), ((sset_k _ _ (by decide)).trans ((sset_k _ _ (by decide)).trans ((sset_k _ _ (by decide)).trans ((sset_k _ _ (by decide)).trans ((sset_k _ _ (by decide)).trans ((sset_k _ _ (by decide)).trans ((sset_k _ _ (by decide)).trans ((sset_k _ _ (by decide)).trans ((sset_k _ _ (by decide)).trans ((sset_k _ _ (by decide)).trans (hm.2.1))))))))))), ((sset_k _ _ (by decide)).trans ((sset_k _ _ (by decide)).trans ((sset_k _ _ (by decide)).trans ((sset_k _ _ (by decide)).trans ((sset_k _ _ (by decide)).trans ((sset_k _ _ (by decide)).trans ((sset_k _ _ (by decide)).trans ((sset_k _ _ (by decide)).trans ((sset_k _ _ (by decide)).trans ((sset_k _ _ (by decide)).trans (hm.2.2.1))))))))))), ((sset_k _ _ (by decide)).trans ((sset_k _ _ (by decide)).trans ((sset_k _ _ (by decide)).trans ((sset_k _ _ (by decide)).trans ((sset_k _ _ (by decide)).trans ((sset_k _ _ (by decide)).trans ((sset_k _ _ (by decide)).trans ((sset_k _ _ (by decide)).trans ((sset_k _ _ (by decide)).trans ((sset_k _ _ (by decide)).trans (hm.2.2.2.1))))))))))), ((sset_k _ _ (by decide)).trans ((sset_k _ _ (by decide)).trans ((sset_k _ _ (by decide)).trans ((sset_k _ _ (by decide)).trans ((sset_k _ _ (by decide)).trans ((sset_k _ _ (by decide)).trans ((sset_k _ _ (by decide)).trans ((sset_k _ _ (by decide)).trans ((sset_k _ _ (by decide)).trans ((sset_k _ _ (by decide)).trans (hm.2.2.2.2.1))))))))))), ((sset_k _ _ (by decide)).trans ((sset_k _ _ (by decide)).trans ((sset_k _ _ (by decide)).trans ((sset_k _ _ (by decide)).trans ((sset_k _ _ (by decide)).trans ((sset_k _ _ (by decide)).trans ((sset_k _ _ (by decide)).trans ((sset_k _ _ (by decide)).trans ((sset_k _ _ (by decide)).trans ((sset_k _ _ (by decide)).trans (hm.2.2.2.2.2.1))))))))))), ((sset_k _ _ (by decide)).trans ((sset_k _ _ (by decide)).trans ((sset_k _ _ (by decide)).trans ((sset_k _ _ (by decide)).trans ((sset_k _ _ (by decide)).trans ((sset_k _ _ (by decide)).trans ((sset_k _ _ (by decide)).trans ((sset_k _ _ (by decide)).trans ((sset_k _ _ (by decide)).trans ((sset_k _ _ (by decide)).trans (hm.2.2.2.2.2.2.1))))))))))), ((sset_k _ _ (by decide)).trans ((sset_k _ _ (by decide)).trans ((sset_k _ _ (by decide)).trans ((sset_k _ _ (by decide)).trans ((sset_k _ _ (by decide)).trans ((sset_k _ _ (by decide)).trans ((sset_k _ _ (by decide)).trans ((sset_k _ _ (by decide)).trans (sset_self _ _ _ _))))))))), ((sset_k _ _ (by decide)).trans ((sset_k _ _ (by decide)).trans ((sset_k _ _ (by decide)).trans ((sset_k _ _ (by decide)).trans ((sset_k _ _ (by decide)).trans (sset_self _ _ _ _)))))), ((sset_k _ _ (by decide)).trans ((sset_k _ _ (by decide)).trans ((sset_k _ _ (by decide)).trans ((sset_k _ _ (by decide)).trans (sset_self _ _ _ _))))), ((sset_k _ _ (by decide)).trans (sset_self _ _ _ _)), ((sset_k _ _ (by decide)).trans ((sset_k _ _ (by decide)).trans ((sset_k _ _ (by decide)).trans ((sset_k _ _ (by decide)).trans ((sset_k _ _ (by decide)).trans ((sset_k _ _ (by decide)).trans ((sset_k _ _ (by decide)).trans ((sset_k _ _ (by decide)).trans ((sset_k _ _ (by decide)).trans ((sset_k _ _ (by decide)).trans (hm.2.2.2.2.2.2.2.2.2.2.2.1))))))))))), ((sset_k _ _ (by decide)).trans ((sset_k _ _ (by decide)).trans ((sset_k _ _ (by decide)).trans ((sset_k _ _ (by decide)).trans ((sset_k _ _ (by decide)).trans ((sset_k _ _ (by decide)).trans ((sset_k _ _ (by decide)).trans ((sset_k _ _ (by decide)).trans ((sset_k _ _ (by decide)).trans ((sset_k _ _ (by decide)).trans (hm.2.2.2.2.2.2.2.2.2.2.2.2.1))))))))))), ((sset_k _ _ (by decide)).trans ((sset_k _ _ (by decide)).trans ((sset_k _ _ (by decide)).trans ((sset_k _ _ (by decide)).trans ((sset_k _ _ (by decide)).trans ((sset_k _ _ (by decide)).trans ((sset_k _ _ (by decide)).trans ((sset_k _ _ (by decide)).trans ((sset_k _ _ (by decide)).trans ((sset_k _ _ (by decide)).trans (hm.2.2.2.2.2.2.2.2.2.2.2.2.2)))))))))))⟩, rfl, by rw [ea]; exact hI.ldR _ _ _ _⟩, _, rfl, fun _ => by rw [ev, i2]⟩)
            · obtain ⟨rfl, ea⟩ := hrel.c3 hn1 hfk (by have z9 := (nI_eq (a := r0) (b := 60) (by omega) (by omega)).mp c187; omega)
              refine s_aload_n dX4_load_190 rfl ?_
              refine s_iconst (v := 3) dX4_load_191 (by decide) ?_
              refine s_callV (As := [.int 3]) (rest := []) (n := 1) (kd := 12) (ix := 0) (fun l hl => c_X4_raise G l hl ad M c0 t0 hd on tw dp cl gr r0 kd fl co sm wk sp b0 mu ⟨hm.1, hm.2.1, hm.2.2.1, hm.2.2.2.1, hm.2.2.2.2.1, hm.2.2.2.2.2.1, hm.2.2.2.2.2.2.1, hm.2.2.2.2.2.2.2.1, hm.2.2.2.2.2.2.2.2.1, hm.2.2.2.2.2.2.2.2.2.1, hm.2.2.2.2.2.2.2.2.2.2.1, hm.2.2.2.2.2.2.2.2.2.2.2.1, hm.2.2.2.2.2.2.2.2.2.2.2.2.1, hm.2.2.2.2.2.2.2.2.2.2.2.2.2⟩ 3) gX4_load_X4_raise rfl (by decide +kernel) hm.1 rfl rfl ⟨(Nat.le_of_ble_eq_true rfl), (Nat.le_of_ble_eq_true rfl)⟩ ⟨(Nat.le_of_ble_eq_true rfl), (Nat.le_of_ble_eq_true rfl)⟩ (Nat.le_of_ble_eq_true rfl) dX4_load_192 rfl (fun r9 ad9 M9 h9 => ?_)
              obtain ⟨rfl, rfl, hm9, hs9⟩ := h9
              exact s_iret rfl (rfl) dX4_load_195 (Nat.le_of_ble_eq_true rfl) (Nat.le_of_ble_eq_true rfl) (⟨rfl, (sSame.rfl.trans hs9), ⟨(3, t0, hd, on, tw, dp, cl, gr, r0, kd, fl, co, sm, wk, sp, b0, mu), hm9, rfl, by rw [ea]; exact hI.any _ _ _ _ _⟩, _, rfl, fun q => absurd q (by decide)⟩)
          · obtain ⟨rfl, ea⟩ := hrel.c2 hn1 (by rw [show fitsK (nI 1) b c = _ from fitsK_1 b c]; exact fun q => by have z9 := hzl.mpr (let2.mpr (let3.mp q)); rw [jB_0.mp c172] at z9; cases z9)
            refine s_aload_n dX4_load_175 rfl ?_
            refine s_iconst (v := 2) dX4_load_176 (by decide) ?_
            refine s_callV (As := [.int 2]) (rest := []) (n := 1) (kd := 12) (ix := 0) (fun l hl => c_X4_raise G l hl ad M c0 t0 hd on tw dp cl gr r0 kd fl co sm wk sp b0 mu ⟨hm.1, hm.2.1, hm.2.2.1, hm.2.2.2.1, hm.2.2.2.2.1, hm.2.2.2.2.2.1, hm.2.2.2.2.2.2.1, hm.2.2.2.2.2.2.2.1, hm.2.2.2.2.2.2.2.2.1, hm.2.2.2.2.2.2.2.2.2.1, hm.2.2.2.2.2.2.2.2.2.2.1, hm.2.2.2.2.2.2.2.2.2.2.2.1, hm.2.2.2.2.2.2.2.2.2.2.2.2.1, hm.2.2.2.2.2.2.2.2.2.2.2.2.2⟩ 2) gX4_load_X4_raise rfl (by decide +kernel) hm.1 rfl rfl ⟨(Nat.le_of_ble_eq_true rfl), (Nat.le_of_ble_eq_true rfl)⟩ ⟨(Nat.le_of_ble_eq_true rfl), (Nat.le_of_ble_eq_true rfl)⟩ (Nat.le_of_ble_eq_true rfl) dX4_load_177 rfl (fun r9 ad9 M9 h9 => ?_)
            obtain ⟨rfl, rfl, hm9, hs9⟩ := h9
            exact s_iret rfl (rfl) dX4_load_180 (Nat.le_of_ble_eq_true rfl) (Nat.le_of_ble_eq_true rfl) (⟨rfl, (sSame.rfl.trans hs9), ⟨(2, t0, hd, on, tw, dp, cl, gr, r0, kd, fl, co, sm, wk, sp, b0, mu), hm9, rfl, by rw [ea]; exact hI.any _ _ _ _ _⟩, _, rfl, fun q => absurd q (by decide)⟩)
    · refine s_iload_n dX4_load_16 rfl ?_
      refine s_callS (As := [.int (nI 2)]) (rest := []) (n := 1) (fun l hl => c_X4_treesIn G l hl ad M 2 (by omega)) gX4_load_X4_treesIn rfl (by decide +kernel) rfl ⟨(Nat.le_of_ble_eq_true rfl), (Nat.le_of_ble_eq_true rfl)⟩ ⟨(Nat.le_of_ble_eq_true rfl), (Nat.le_of_ble_eq_true rfl)⟩ (Nat.le_of_ble_eq_true rfl) dX4_load_17 rfl (fun r9 ad9 M9 h9 => ?_)
      obtain ⟨rfl, rfl, rfl⟩ := h9
      have etf : tfI (nI 2) = 3 := tfI_in (by omega)
      refine s_st (st' := [.int 3]) rfl ?_
      refine s_goto 24 dX4_load_20 (by decide) ?_
      refine s_istore dX4_load_24 rfl rfl ?_
      refine s_lv (lv' := [some (.ref (ad 12 0)), some (.int (nI 2)), some (.int a), some (.int b), some (.int c), some (.int (jB zq)), some (.int 3), none, none]) rfl ?_
      refine s_aload_n dX4_load_26 rfl ?_
      refine s_iload_n dX4_load_27 rfl ?_
      refine s_callV (As := [.int a]) (rest := []) (n := 1) (kd := 12) (ix := 0) (fun l hl => c_X4_isTree G l hl ad M c0 t0 hd on tw dp cl gr r0 kd fl co sm wk sp b0 mu ⟨hm.1, hm.2.1, hm.2.2.1, hm.2.2.2.1, hm.2.2.2.2.1, hm.2.2.2.2.2.1, hm.2.2.2.2.2.2.1, hm.2.2.2.2.2.2.2.1, hm.2.2.2.2.2.2.2.2.1, hm.2.2.2.2.2.2.2.2.2.1, hm.2.2.2.2.2.2.2.2.2.2.1, hm.2.2.2.2.2.2.2.2.2.2.2.1, hm.2.2.2.2.2.2.2.2.2.2.2.2.1, hm.2.2.2.2.2.2.2.2.2.2.2.2.2⟩ (by omega) a) gX4_load_X4_isTree rfl (by decide +kernel) hm.1 rfl rfl ⟨(Nat.le_of_ble_eq_true rfl), (Nat.le_of_ble_eq_true rfl)⟩ ⟨(Nat.le_of_ble_eq_true rfl), (Nat.le_of_ble_eq_true rfl)⟩ (Nat.le_of_ble_eq_true rfl) dX4_load_28 rfl (fun r9 ad9 M9 h9 => ?_)
      obtain ⟨rfl, rfl, za, rfl, hza⟩ := h9
      rw [i1] at hza
      refine s_if_eq 63 dX4_load_31 (by decide) (fun c31 => ?_) (fun c31 => ?_)
      · obtain ⟨rfl, ea⟩ := hrel.c1 (Or.inl (fun q => by have z9 := hza.mpr q; rw [jB_0.mp c31] at z9; cases z9))
        refine s_aload_n dX4_load_63 rfl ?_
        refine s_iconst (v := 1) dX4_load_64 (by decide) ?_
        refine s_callV (As := [.int 1]) (rest := []) (n := 1) (kd := 12) (ix := 0) (fun l hl => c_X4_raise G l hl ad M c0 t0 hd on tw dp cl gr r0 kd fl co sm wk sp b0 mu ⟨hm.1, hm.2.1, hm.2.2.1, hm.2.2.2.1, hm.2.2.2.2.1, hm.2.2.2.2.2.1, hm.2.2.2.2.2.2.1, hm.2.2.2.2.2.2.2.1, hm.2.2.2.2.2.2.2.2.1, hm.2.2.2.2.2.2.2.2.2.1, hm.2.2.2.2.2.2.2.2.2.2.1, hm.2.2.2.2.2.2.2.2.2.2.2.1, hm.2.2.2.2.2.2.2.2.2.2.2.2.1, hm.2.2.2.2.2.2.2.2.2.2.2.2.2⟩ 1) gX4_load_X4_raise rfl (by decide +kernel) hm.1 rfl rfl ⟨(Nat.le_of_ble_eq_true rfl), (Nat.le_of_ble_eq_true rfl)⟩ ⟨(Nat.le_of_ble_eq_true rfl), (Nat.le_of_ble_eq_true rfl)⟩ (Nat.le_of_ble_eq_true rfl) dX4_load_65 rfl (fun r9 ad9 M9 h9 => ?_)
        obtain ⟨rfl, rfl, hm9, hs9⟩ := h9
        exact s_iret rfl (rfl) dX4_load_68 (Nat.le_of_ble_eq_true rfl) (Nat.le_of_ble_eq_true rfl) (⟨rfl, (sSame.rfl.trans hs9), ⟨(1, t0, hd, on, tw, dp, cl, gr, r0, kd, fl, co, sm, wk, sp, b0, mu), hm9, rfl, by rw [ea]; exact hI.any _ _ _ _ _⟩, _, rfl, fun q => absurd q (by decide)⟩)
      · refine s_iload dX4_load_34 rfl ?_
        refine s_iconst (v := 1) dX4_load_36 (by decide) ?_
        refine s_icmp_le 48 dX4_load_37 (by decide) (fun c37 => absurd c37 (by decide)) (fun c37 => ?_)
        refine s_aload_n dX4_load_40 rfl ?_
        refine s_iload_n dX4_load_41 rfl ?_
        refine s_callV (As := [.int b]) (rest := []) (n := 1) (kd := 12) (ix := 0) (fun l hl => c_X4_isTree G l hl ad M c0 t0 hd on tw dp cl gr r0 kd fl co sm wk sp b0 mu ⟨hm.1, hm.2.1, hm.2.2.1, hm.2.2.2.1, hm.2.2.2.2.1, hm.2.2.2.2.2.1, hm.2.2.2.2.2.2.1, hm.2.2.2.2.2.2.2.1, hm.2.2.2.2.2.2.2.2.1, hm.2.2.2.2.2.2.2.2.2.1, hm.2.2.2.2.2.2.2.2.2.2.1, hm.2.2.2.2.2.2.2.2.2.2.2.1, hm.2.2.2.2.2.2.2.2.2.2.2.2.1, hm.2.2.2.2.2.2.2.2.2.2.2.2.2⟩ (by omega) b) gX4_load_X4_isTree rfl (by decide +kernel) hm.1 rfl rfl ⟨(Nat.le_of_ble_eq_true rfl), (Nat.le_of_ble_eq_true rfl)⟩ ⟨(Nat.le_of_ble_eq_true rfl), (Nat.le_of_ble_eq_true rfl)⟩ (Nat.le_of_ble_eq_true rfl) dX4_load_42 rfl (fun r9 ad9 M9 h9 => ?_)
        obtain ⟨rfl, rfl, zb, rfl, hzb⟩ := h9
        rw [i1] at hzb
        refine s_if_eq 63 dX4_load_45 (by decide) (fun c45 => ?_) (fun c45 => ?_)
        · obtain ⟨rfl, ea⟩ := hrel.c1 (Or.inr (Or.inl ⟨by rw [etf]; omega, (fun q => by have z9 := hzb.mpr q; rw [jB_0.mp c45] at z9; cases z9)⟩))
          refine s_aload_n dX4_load_63 rfl ?_
          refine s_iconst (v := 1) dX4_load_64 (by decide) ?_
          refine s_callV (As := [.int 1]) (rest := []) (n := 1) (kd := 12) (ix := 0) (fun l hl => c_X4_raise G l hl ad M c0 t0 hd on tw dp cl gr r0 kd fl co sm wk sp b0 mu ⟨hm.1, hm.2.1, hm.2.2.1, hm.2.2.2.1, hm.2.2.2.2.1, hm.2.2.2.2.2.1, hm.2.2.2.2.2.2.1, hm.2.2.2.2.2.2.2.1, hm.2.2.2.2.2.2.2.2.1, hm.2.2.2.2.2.2.2.2.2.1, hm.2.2.2.2.2.2.2.2.2.2.1, hm.2.2.2.2.2.2.2.2.2.2.2.1, hm.2.2.2.2.2.2.2.2.2.2.2.2.1, hm.2.2.2.2.2.2.2.2.2.2.2.2.2⟩ 1) gX4_load_X4_raise rfl (by decide +kernel) hm.1 rfl rfl ⟨(Nat.le_of_ble_eq_true rfl), (Nat.le_of_ble_eq_true rfl)⟩ ⟨(Nat.le_of_ble_eq_true rfl), (Nat.le_of_ble_eq_true rfl)⟩ (Nat.le_of_ble_eq_true rfl) dX4_load_65 rfl (fun r9 ad9 M9 h9 => ?_)
          obtain ⟨rfl, rfl, hm9, hs9⟩ := h9
          exact s_iret rfl (rfl) dX4_load_68 (Nat.le_of_ble_eq_true rfl) (Nat.le_of_ble_eq_true rfl) (⟨rfl, (sSame.rfl.trans hs9), ⟨(1, t0, hd, on, tw, dp, cl, gr, r0, kd, fl, co, sm, wk, sp, b0, mu), hm9, rfl, by rw [ea]; exact hI.any _ _ _ _ _⟩, _, rfl, fun q => absurd q (by decide)⟩)
        · refine s_iload dX4_load_48 rfl ?_
          refine s_iconst (v := 2) dX4_load_50 (by decide) ?_
          refine s_icmp_le 69 dX4_load_51 (by decide) (fun c51 => absurd c51 (by decide)) (fun c51 => ?_)
          refine s_aload_n dX4_load_54 rfl ?_
          refine s_iload dX4_load_55 rfl ?_
          refine s_callV (As := [.int c]) (rest := []) (n := 1) (kd := 12) (ix := 0) (fun l hl => c_X4_isTree G l hl ad M c0 t0 hd on tw dp cl gr r0 kd fl co sm wk sp b0 mu ⟨hm.1, hm.2.1, hm.2.2.1, hm.2.2.2.1, hm.2.2.2.2.1, hm.2.2.2.2.2.1, hm.2.2.2.2.2.2.1, hm.2.2.2.2.2.2.2.1, hm.2.2.2.2.2.2.2.2.1, hm.2.2.2.2.2.2.2.2.2.1, hm.2.2.2.2.2.2.2.2.2.2.1, hm.2.2.2.2.2.2.2.2.2.2.2.1, hm.2.2.2.2.2.2.2.2.2.2.2.2.1, hm.2.2.2.2.2.2.2.2.2.2.2.2.2⟩ (by omega) c) gX4_load_X4_isTree rfl (by decide +kernel) hm.1 rfl rfl ⟨(Nat.le_of_ble_eq_true rfl), (Nat.le_of_ble_eq_true rfl)⟩ ⟨(Nat.le_of_ble_eq_true rfl), (Nat.le_of_ble_eq_true rfl)⟩ (Nat.le_of_ble_eq_true rfl) dX4_load_57 rfl (fun r9 ad9 M9 h9 => ?_)
          obtain ⟨rfl, rfl, zc, rfl, hzc⟩ := h9
          rw [i1] at hzc
          refine s_if_ne 69 dX4_load_60 (by decide) (fun c60 => ?_) (fun c60 => ?_)
          · have hn1 : ¬ lC1 α (nI 2) a b c := fun z => z.elim (fun z => z (hza.mp (Bool.of_not_eq_false (fun q => c31 (jB_0.mpr q))))) (fun z => z.elim (fun z => z.2 (hzb.mp (Bool.of_not_eq_false (fun q => c45 (jB_0.mpr q))))) (fun z => z.2 (hzc.mp (Bool.of_not_eq_false (fun q => c60 (jB_0.mpr q))))))
            refine s_iload dX4_load_69 rfl ?_
            refine s_if_ne 80 dX4_load_71 (by decide) (fun c71 => ?_) (fun c71 => absurd c71 (c13))
            refine s_iload_n dX4_load_80 rfl ?_
            refine s_iconst (v := 1) dX4_load_81 (by decide) ?_
            refine s_icmp_ne 98 dX4_load_82 (by decide) (fun c82 => ?_) (fun c82 => absurd c82 (by decide))
            refine s_iload_n dX4_load_98 rfl ?_
            refine s_iconst (v := 2) dX4_load_99 (by decide) ?_
            refine s_icmp_eq 163 dX4_load_100 (by decide) (fun c100 => ?_) (fun c100 => absurd (rfl) c100)
            refine s_iconst (v := 1) dX4_load_163 (by decide) ?_
            refine s_goto 168 dX4_load_164 (by decide) ?_
            refine s_istore dX4_load_168 rfl rfl ?_
            refine s_lv (lv' := [some (.ref (ad 12 0)), some (.int (nI 2)), some (.int a), some (.int b), some (.int c), some (.int (jB zq)), some (.int 3), some (.int 1), none]) rfl ?_
            refine s_iload dX4_load_170 rfl ?_
            refine s_if_ne 181 dX4_load_172 (by decide) (fun c172 => ?_) (fun c172 => absurd c172 (by decide))
            have hfk : fitsK (nI 2) b c := by rw [show fitsK (nI 2) b c = _ from fitsK_2 b c]; trivial
            refine s_aload_n dX4_load_181 rfl ?_
            refine s_get (kd := 12) (ix := 0) (ci := 5) (fs := [.int c0, .int (nI t0), .ref (ad 13 0), .ref (ad 14 0), .ref (ad 15 0), .ref (ad 16 0), .ref (ad 17 0), .ref (ad 18 0), .int (nI r0), .ref (ad 19 0), .ref (ad 20 0), .ref (ad 21 0), .ref (ad 22 0), .ref (ad 23 0), .ref (ad 24 0), .int (jB b0), .ref (ad 25 0)])  hm.1 rfl in_X4_load_X4 8 (by decide) (by decide +kernel) rfl rfl dX4_load_182 ?_
            refine s_bipush (v := 60) dX4_load_185 (by decide) ?_
            refine s_icmp_ne 196 dX4_load_187 (by decide) (fun c187 => ?_) (fun c187 => ?_)
            · obtain ⟨rfl, ev, hR1, ea⟩ := hrel.c0 hn1 hfk (fun z9 => c187 (by rw [show r0 = 60 by omega]; rfl))
              have hr1 : r0 < 60 := by omega
              refine s_aload_n dX4_load_196 rfl ?_
              refine s_iconst (v := 0) dX4_load_197 (by decide) ?_
              refine s_put (kd := 12) (ix := 0) (ci := 5) (v := .int 0) (ty := tyX4 0) (fs := [.int c0, .int (nI t0), .ref (ad 13 0), .ref (ad 14 0), .ref (ad 15 0), .ref (ad 16 0), .ref (ad 17 0), .ref (ad 18 0), .int (nI r0), .ref (ad 19 0), .ref (ad 20 0), .ref (ad 21 0), .ref (ad 22 0), .ref (ad 23 0), .ref (ad 24 0), .int (jB b0), .ref (ad 25 0)])  tyX4 tyX4_ok nmX4 hm.1 rfl in_X4_load_X4 0 (by decide) (by decide +kernel) rfl rfl (tyX4_ok 0 (by decide)) (rfl) (rfl) (Nat.le_of_ble_eq_true rfl) dX4_load_198 ?_
              refine s_M (M' := (sset M 12 0 (.inr (5, [.int 0, .int (nI t0), .ref (ad 13 0), .ref (ad 14 0), .ref (ad 15 0), .ref (ad 16 0), .ref (ad 17 0), .ref (ad 18 0), .int (nI r0), .ref (ad 19 0), .ref (ad 20 0), .ref (ad 21 0), .ref (ad 22 0), .ref (ad 23 0), .ref (ad 24 0), .int (jB b0), .ref (ad 25 0)])))) rfl ?_
              refine s_aload_n dX4_load_201 rfl ?_
              refine s_get (kd := 12) (ix := 0) (ci := 5) (fs := [.int 0, .int (nI t0), .ref (ad 13 0), .ref (ad 14 0), .ref (ad 15 0), .ref (ad 16 0), .ref (ad 17 0), .ref (ad 18 0), .int (nI r0), .ref (ad 19 0), .ref (ad 20 0), .ref (ad 21 0), .ref (ad 22 0), .ref (ad 23 0), .ref (ad 24 0), .int (jB b0), .ref (ad 25 0)])  (sset_self _ _ _ _) rfl in_X4_load_X4 9 (by decide) (by decide +kernel) rfl rfl dX4_load_202 ?_
              refine s_aload_n dX4_load_205 rfl ?_
              refine s_get (kd := 12) (ix := 0) (ci := 5) (fs := [.int 0, .int (nI t0), .ref (ad 13 0), .ref (ad 14 0), .ref (ad 15 0), .ref (ad 16 0), .ref (ad 17 0), .ref (ad 18 0), .int (nI r0), .ref (ad 19 0), .ref (ad 20 0), .ref (ad 21 0), .ref (ad 22 0), .ref (ad 23 0), .ref (ad 24 0), .int (jB b0), .ref (ad 25 0)])  (sset_self _ _ _ _) rfl in_X4_load_X4 8 (by decide) (by decide +kernel) rfl rfl dX4_load_206 ?_
              refine s_iload_n dX4_load_209 rfl ?_
              refine s_iast (kd := 19) (ix := 0) (n := 60) (f := kd) (j := r0) (x := nI 2) ((sset_k _ _ (by decide)).trans (hm.2.2.2.2.2.2.2.1))  (rfl) (by omega) (by decide) dX4_load_210 ?_
              refine s_aload_n dX4_load_211 rfl ?_
              refine s_get (kd := 12) (ix := 0) (ci := 5) (fs := [.int 0, .int (nI t0), .ref (ad 13 0), .ref (ad 14 0), .ref (ad 15 0), .ref (ad 16 0), .ref (ad 17 0), .ref (ad 18 0), .int (nI r0), .ref (ad 19 0), .ref (ad 20 0), .ref (ad 21 0), .ref (ad 22 0), .ref (ad 23 0), .ref (ad 24 0), .int (jB b0), .ref (ad 25 0)])  ((sset_k _ _ (by decide)).trans (sset_self _ _ _ _)) rfl in_X4_load_X4 10 (by decide) (by decide +kernel) rfl rfl dX4_load_212 ?_
              refine s_iconst (v := 3) dX4_load_215 (by decide) ?_
              refine s_aload_n dX4_load_216 rfl ?_
              refine s_get (kd := 12) (ix := 0) (ci := 5) (fs := [.int 0, .int (nI t0), .ref (ad 13 0), .ref (ad 14 0), .ref (ad 15 0), .ref (ad 16 0), .ref (ad 17 0), .ref (ad 18 0), .int (nI r0), .ref (ad 19 0), .ref (ad 20 0), .ref (ad 21 0), .ref (ad 22 0), .ref (ad 23 0), .ref (ad 24 0), .int (jB b0), .ref (ad 25 0)])  ((sset_k _ _ (by decide)).trans (sset_self _ _ _ _)) rfl in_X4_load_X4 8 (by decide) (by decide +kernel) rfl rfl dX4_load_217 ?_
              refine s_imul dX4_load_220 ?_
              refine s_eqi (y := nI (3 * r0)) (nI_mul 3 r0) ?_
              refine s_iload_n dX4_load_221 rfl ?_
              refine s_iast (kd := 20) (ix := 0) (n := 180) (f := fl) (j := 3 * r0) (x := a) ((sset_k _ _ (by decide)).trans ((sset_k _ _ (by decide)).trans (hm.2.2.2.2.2.2.2.2.1)))  (rfl) (by omega) (by decide) dX4_load_222 ?_
              refine s_aload_n dX4_load_223 rfl ?_
              refine s_get (kd := 12) (ix := 0) (ci := 5) (fs := [.int 0, .int (nI t0), .ref (ad 13 0), .ref (ad 14 0), .ref (ad 15 0), .ref (ad 16 0), .ref (ad 17 0), .ref (ad 18 0), .int (nI r0), .ref (ad 19 0), .ref (ad 20 0), .ref (ad 21 0), .ref (ad 22 0), .ref (ad 23 0), .ref (ad 24 0), .int (jB b0), .ref (ad 25 0)])  ((sset_k _ _ (by decide)).trans ((sset_k _ _ (by decide)).trans (sset_self _ _ _ _))) rfl in_X4_load_X4 10 (by decide) (by decide +kernel) rfl rfl dX4_load_224 ?_
              refine s_iconst (v := 3) dX4_load_227 (by decide) ?_
              refine s_aload_n dX4_load_228 rfl ?_
              refine s_get (kd := 12) (ix := 0) (ci := 5) (fs := [.int 0, .int (nI t0), .ref (ad 13 0), .ref (ad 14 0), .ref (ad 15 0), .ref (ad 16 0), .ref (ad 17 0), .ref (ad 18 0), .int (nI r0), .ref (ad 19 0), .ref (ad 20 0), .ref (ad 21 0), .ref (ad 22 0), .ref (ad 23 0), .ref (ad 24 0), .int (jB b0), .ref (ad 25 0)])  ((sset_k _ _ (by decide)).trans ((sset_k _ _ (by decide)).trans (sset_self _ _ _ _))) rfl in_X4_load_X4 8 (by decide) (by decide +kernel) rfl rfl dX4_load_229 ?_
              refine s_imul dX4_load_232 ?_
              refine s_eqi (y := nI (3 * r0)) (nI_mul 3 r0) ?_
              refine s_iconst (v := 1) dX4_load_233 (by decide) ?_
              refine s_iadd dX4_load_234 ?_
              refine s_eqi (y := nI (3 * r0 + 1)) (nI_add _ _) ?_
              refine s_iload_n dX4_load_235 rfl ?_
              refine s_iast (kd := 20) (ix := 0) (n := 180) (f := upd fl (3 * r0) a) (j := 3 * r0 + 1) (x := b) (sset_self _ _ _ _)  (rfl) (by omega) (by decide) dX4_load_236 ?_
              refine s_aload_n dX4_load_237 rfl ?_
              refine s_get (kd := 12) (ix := 0) (ci := 5) (fs := [.int 0, .int (nI t0), .ref (ad 13 0), .ref (ad 14 0), .ref (ad 15 0), .ref (ad 16 0), .ref (ad 17 0), .ref (ad 18 0), .int (nI r0), .ref (ad 19 0), .ref (ad 20 0), .ref (ad 21 0), .ref (ad 22 0), .ref (ad 23 0), .ref (ad 24 0), .int (jB b0), .ref (ad 25 0)])  ((sset_k _ _ (by decide)).trans ((sset_k _ _ (by decide)).trans ((sset_k _ _ (by decide)).trans (sset_self _ _ _ _)))) rfl in_X4_load_X4 10 (by decide) (by decide +kernel) rfl rfl dX4_load_238 ?_
              refine s_iconst (v := 3) dX4_load_241 (by decide) ?_
              refine s_aload_n dX4_load_242 rfl ?_
              refine s_get (kd := 12) (ix := 0) (ci := 5) (fs := [.int 0, .int (nI t0), .ref (ad 13 0), .ref (ad 14 0), .ref (ad 15 0), .ref (ad 16 0), .ref (ad 17 0), .ref (ad 18 0), .int (nI r0), .ref (ad 19 0), .ref (ad 20 0), .ref (ad 21 0), .ref (ad 22 0), .ref (ad 23 0), .ref (ad 24 0), .int (jB b0), .ref (ad 25 0)])  ((sset_k _ _ (by decide)).trans ((sset_k _ _ (by decide)).trans ((sset_k _ _ (by decide)).trans (sset_self _ _ _ _)))) rfl in_X4_load_X4 8 (by decide) (by decide +kernel) rfl rfl dX4_load_243 ?_
              refine s_imul dX4_load_246 ?_
              refine s_eqi (y := nI (3 * r0)) (nI_mul 3 r0) ?_
              refine s_iconst (v := 2) dX4_load_247 (by decide) ?_
              refine s_iadd dX4_load_248 ?_
              refine s_eqi (y := nI (3 * r0 + 2)) (nI_add _ _) ?_
              refine s_iload dX4_load_249 rfl ?_
              refine s_iast (kd := 20) (ix := 0) (n := 180) (f := upd (upd fl (3 * r0) a) (3 * r0 + 1) b) (j := 3 * r0 + 2) (x := c) (sset_self _ _ _ _)  (rfl) (by omega) (by decide) dX4_load_251 ?_
              refine s_aload_n dX4_load_252 rfl ?_
              refine s_get (kd := 12) (ix := 0) (ci := 5) (fs := [.int 0, .int (nI t0), .ref (ad 13 0), .ref (ad 14 0), .ref (ad 15 0), .ref (ad 16 0), .ref (ad 17 0), .ref (ad 18 0), .int (nI r0), .ref (ad 19 0), .ref (ad 20 0), .ref (ad 21 0), .ref (ad 22 0), .ref (ad 23 0), .ref (ad 24 0), .int (jB b0), .ref (ad 25 0)])  ((sset_k _ _ (by decide)).trans ((sset_k _ _ (by decide)).trans ((sset_k _ _ (by decide)).trans ((sset_k _ _ (by decide)).trans (sset_self _ _ _ _))))) rfl in_X4_load_X4 11 (by decide) (by decide +kernel) rfl rfl dX4_load_253 ?_
              refine s_aload_n dX4_load_256 rfl ?_
              refine s_get (kd := 12) (ix := 0) (ci := 5) (fs := [.int 0, .int (nI t0), .ref (ad 13 0), .ref (ad 14 0), .ref (ad 15 0), .ref (ad 16 0), .ref (ad 17 0), .ref (ad 18 0), .int (nI r0), .ref (ad 19 0), .ref (ad 20 0), .ref (ad 21 0), .ref (ad 22 0), .ref (ad 23 0), .ref (ad 24 0), .int (jB b0), .ref (ad 25 0)])  ((sset_k _ _ (by decide)).trans ((sset_k _ _ (by decide)).trans ((sset_k _ _ (by decide)).trans ((sset_k _ _ (by decide)).trans (sset_self _ _ _ _))))) rfl in_X4_load_X4 8 (by decide) (by decide +kernel) rfl rfl dX4_load_257 ?_
              refine s_iconst (v := -1) dX4_load_260 (by decide) ?_
              refine s_iast (kd := 21) (ix := 0) (n := 60) (f := co) (j := r0) (x := (-1)) ((sset_k _ _ (by decide)).trans ((sset_k _ _ (by decide)).trans ((sset_k _ _ (by decide)).trans ((sset_k _ _ (by decide)).trans ((sset_k _ _ (by decide)).trans (hm.2.2.2.2.2.2.2.2.2.1))))))  (rfl) (by omega) (by decide) dX4_load_261 ?_
              refine s_iconst (v := 0) dX4_load_262 (by decide) ?_
              refine s_istore dX4_load_263 rfl rfl ?_
              refine s_lv (lv' := [some (.ref (ad 12 0)), some (.int (nI 2)), some (.int a), some (.int b), some (.int c), some (.int (jB zq)), some (.int 3), some (.int 1), some (.int 0)]) rfl ?_
              refine s_iload dX4_load_265 rfl ?_
              refine s_iconst (v := 3) dX4_load_267 (by decide) ?_
              refine s_icmp_ge 292 dX4_load_268 (by decide) (fun c268 => absurd c268 (by decide)) (fun c268 => ?_)
              refine s_aload_n dX4_load_271 rfl ?_
              refine s_get (kd := 12) (ix := 0) (ci := 5) (fs := [.int 0, .int (nI t0), .ref (ad 13 0), .ref (ad 14 0), .ref (ad 15 0), .ref (ad 16 0), .ref (ad 17 0), .ref (ad 18 0), .int (nI r0), .ref (ad 19 0), .ref (ad 20 0), .ref (ad 21 0), .ref (ad 22 0), .ref (ad 23 0), .ref (ad 24 0), .int (jB b0), .ref (ad 25 0)])  ((sset_k _ _ (by decide)).trans ((sset_k _ _ (by decide)).trans ((sset_k _ _ (by decide)).trans ((sset_k _ _ (by decide)).trans ((sset_k _ _ (by decide)).trans (sset_self _ _ _ _)))))) rfl in_X4_load_X4 12 (by decide) (by decide +kernel) rfl rfl dX4_load_272 ?_
              refine s_iconst (v := 3) dX4_load_275 (by decide) ?_
              refine s_aload_n dX4_load_276 rfl ?_
              refine s_get (kd := 12) (ix := 0) (ci := 5) (fs := [.int 0, .int (nI t0), .ref (ad 13 0), .ref (ad 14 0), .ref (ad 15 0), .ref (ad 16 0), .ref (ad 17 0), .ref (ad 18 0), .int (nI r0), .ref (ad 19 0), .ref (ad 20 0), .ref (ad 21 0), .ref (ad 22 0), .ref (ad 23 0), .ref (ad 24 0), .int (jB b0), .ref (ad 25 0)])  ((sset_k _ _ (by decide)).trans ((sset_k _ _ (by decide)).trans ((sset_k _ _ (by decide)).trans ((sset_k _ _ (by decide)).trans ((sset_k _ _ (by decide)).trans (sset_self _ _ _ _)))))) rfl in_X4_load_X4 8 (by decide) (by decide +kernel) rfl rfl dX4_load_277 ?_
              refine s_imul dX4_load_280 ?_
              refine s_eqi (y := nI (3 * r0)) (nI_mul 3 r0) ?_
              refine s_iload dX4_load_281 rfl ?_
              refine s_iadd dX4_load_283 ?_
              refine s_eqi (y := nI (3 * r0 + 0)) (nI_add _ _) ?_
              refine s_iconst (v := 0) dX4_load_284 (by decide) ?_
              refine s_iast (kd := 22) (ix := 0) (n := 180) (f := sm) (j := 3 * r0 + 0) (x := 0) ((sset_k _ _ (by decide)).trans ((sset_k _ _ (by decide)).trans ((sset_k _ _ (by decide)).trans ((sset_k _ _ (by decide)).trans ((sset_k _ _ (by decide)).trans ((sset_k _ _ (by decide)).trans (hm.2.2.2.2.2.2.2.2.2.2.1)))))))  (rfl) (by omega) (by decide) dX4_load_285 ?_
              refine s_iinc (v := 1) dX4_load_286 rfl (by decide) rfl ?_
              refine s_lv (lv' := [some (.ref (ad 12 0)), some (.int (nI 2)), some (.int a), some (.int b), some (.int c), some (.int (jB zq)), some (.int 3), some (.int 1), some (.int 1)]) rfl ?_
              refine s_goto 265 dX4_load_289 (by decide) ?_
              refine s_iload dX4_load_265 rfl ?_
              refine s_iconst (v := 3) dX4_load_267 (by decide) ?_
              refine s_icmp_ge 292 dX4_load_268 (by decide) (fun c268 => absurd c268 (by decide)) (fun c268 => ?_)
              refine s_aload_n dX4_load_271 rfl ?_
              refine s_get (kd := 12) (ix := 0) (ci := 5) (fs := [.int 0, .int (nI t0), .ref (ad 13 0), .ref (ad 14 0), .ref (ad 15 0), .ref (ad 16 0), .ref (ad 17 0), .ref (ad 18 0), .int (nI r0), .ref (ad 19 0), .ref (ad 20 0), .ref (ad 21 0), .ref (ad 22 0), .ref (ad 23 0), .ref (ad 24 0), .int (jB b0), .ref (ad 25 0)])  ((sset_k _ _ (by decide)).trans ((sset_k _ _ (by decide)).trans ((sset_k _ _ (by decide)).trans ((sset_k _ _ (by decide)).trans ((sset_k _ _ (by decide)).trans ((sset_k _ _ (by decide)).trans (sset_self _ _ _ _))))))) rfl in_X4_load_X4 12 (by decide) (by decide +kernel) rfl rfl dX4_load_272 ?_
              refine s_iconst (v := 3) dX4_load_275 (by decide) ?_
              refine s_aload_n dX4_load_276 rfl ?_
              refine s_get (kd := 12) (ix := 0) (ci := 5) (fs := [.int 0, .int (nI t0), .ref (ad 13 0), .ref (ad 14 0), .ref (ad 15 0), .ref (ad 16 0), .ref (ad 17 0), .ref (ad 18 0), .int (nI r0), .ref (ad 19 0), .ref (ad 20 0), .ref (ad 21 0), .ref (ad 22 0), .ref (ad 23 0), .ref (ad 24 0), .int (jB b0), .ref (ad 25 0)])  ((sset_k _ _ (by decide)).trans ((sset_k _ _ (by decide)).trans ((sset_k _ _ (by decide)).trans ((sset_k _ _ (by decide)).trans ((sset_k _ _ (by decide)).trans ((sset_k _ _ (by decide)).trans (sset_self _ _ _ _))))))) rfl in_X4_load_X4 8 (by decide) (by decide +kernel) rfl rfl dX4_load_277 ?_
              refine s_imul dX4_load_280 ?_
              refine s_eqi (y := nI (3 * r0)) (nI_mul 3 r0) ?_
              refine s_iload dX4_load_281 rfl ?_
              refine s_iadd dX4_load_283 ?_
              refine s_eqi (y := nI (3 * r0 + 1)) (nI_add _ _) ?_
              refine s_iconst (v := 0) dX4_load_284 (by decide) ?_
              refine s_iast (kd := 22) (ix := 0) (n := 180) (f := upd sm (3 * r0 + 0) 0) (j := 3 * r0 + 1) (x := 0) (sset_self _ _ _ _)  (rfl) (by omega) (by decide) dX4_load_285 ?_
              refine s_iinc (v := 2) dX4_load_286 rfl (by decide) rfl ?_
              refine s_lv (lv' := [some (.ref (ad 12 0)), some (.int (nI 2)), some (.int a), some (.int b), some (.int c), some (.int (jB zq)), some (.int 3), some (.int 1), some (.int 2)]) rfl ?_
              refine s_goto 265 dX4_load_289 (by decide) ?_
              refine s_iload dX4_load_265 rfl ?_
              refine s_iconst (v := 3) dX4_load_267 (by decide) ?_
              refine s_icmp_ge 292 dX4_load_268 (by decide) (fun c268 => absurd c268 (by decide)) (fun c268 => ?_)
              refine s_aload_n dX4_load_271 rfl ?_
              refine s_get (kd := 12) (ix := 0) (ci := 5) (fs := [.int 0, .int (nI t0), .ref (ad 13 0), .ref (ad 14 0), .ref (ad 15 0), .ref (ad 16 0), .ref (ad 17 0), .ref (ad 18 0), .int (nI r0), .ref (ad 19 0), .ref (ad 20 0), .ref (ad 21 0), .ref (ad 22 0), .ref (ad 23 0), .ref (ad 24 0), .int (jB b0), .ref (ad 25 0)])  ((sset_k _ _ (by decide)).trans ((sset_k _ _ (by decide)).trans ((sset_k _ _ (by decide)).trans ((sset_k _ _ (by decide)).trans ((sset_k _ _ (by decide)).trans ((sset_k _ _ (by decide)).trans ((sset_k _ _ (by decide)).trans (sset_self _ _ _ _)))))))) rfl in_X4_load_X4 12 (by decide) (by decide +kernel) rfl rfl dX4_load_272 ?_
              refine s_iconst (v := 3) dX4_load_275 (by decide) ?_
              refine s_aload_n dX4_load_276 rfl ?_
              refine s_get (kd := 12) (ix := 0) (ci := 5) (fs := [.int 0, .int (nI t0), .ref (ad 13 0), .ref (ad 14 0), .ref (ad 15 0), .ref (ad 16 0), .ref (ad 17 0), .ref (ad 18 0), .int (nI r0), .ref (ad 19 0), .ref (ad 20 0), .ref (ad 21 0), .ref (ad 22 0), .ref (ad 23 0), .ref (ad 24 0), .int (jB b0), .ref (ad 25 0)])  ((sset_k _ _ (by decide)).trans ((sset_k _ _ (by decide)).trans ((sset_k _ _ (by decide)).trans ((sset_k _ _ (by decide)).trans ((sset_k _ _ (by decide)).trans ((sset_k _ _ (by decide)).trans ((sset_k _ _ (by decide)).trans (sset_self _ _ _ _)))))))) rfl in_X4_load_X4 8 (by decide) (by decide +kernel) rfl rfl dX4_load_277 ?_
              refine s_imul dX4_load_280 ?_
              refine s_eqi (y := nI (3 * r0)) (nI_mul 3 r0) ?_
              refine s_iload dX4_load_281 rfl ?_
              refine s_iadd dX4_load_283 ?_
              refine s_eqi (y := nI (3 * r0 + 2)) (nI_add _ _) ?_
              refine s_iconst (v := 0) dX4_load_284 (by decide) ?_
              refine s_iast (kd := 22) (ix := 0) (n := 180) (f := upd (upd sm (3 * r0 + 0) 0) (3 * r0 + 1) 0) (j := 3 * r0 + 2) (x := 0) (sset_self _ _ _ _)  (rfl) (by omega) (by decide) dX4_load_285 ?_
              refine s_iinc (v := 3) dX4_load_286 rfl (by decide) rfl ?_
              refine s_lv (lv' := [some (.ref (ad 12 0)), some (.int (nI 2)), some (.int a), some (.int b), some (.int c), some (.int (jB zq)), some (.int 3), some (.int 1), some (.int 3)]) rfl ?_
              refine s_goto 265 dX4_load_289 (by decide) ?_
              refine s_iload dX4_load_265 rfl ?_
              refine s_iconst (v := 3) dX4_load_267 (by decide) ?_
              refine s_icmp_ge 292 dX4_load_268 (by decide) (fun c268 => ?_) (fun c268 => absurd (by decide) c268)
              refine s_aload_n dX4_load_292 rfl ?_
              refine s_dup dX4_load_293 rfl ?_
              refine s_get (kd := 12) (ix := 0) (ci := 5) (fs := [.int 0, .int (nI t0), .ref (ad 13 0), .ref (ad 14 0), .ref (ad 15 0), .ref (ad 16 0), .ref (ad 17 0), .ref (ad 18 0), .int (nI r0), .ref (ad 19 0), .ref (ad 20 0), .ref (ad 21 0), .ref (ad 22 0), .ref (ad 23 0), .ref (ad 24 0), .int (jB b0), .ref (ad 25 0)])  ((sset_k _ _ (by decide)).trans ((sset_k _ _ (by decide)).trans ((sset_k _ _ (by decide)).trans ((sset_k _ _ (by decide)).trans ((sset_k _ _ (by decide)).trans ((sset_k _ _ (by decide)).trans ((sset_k _ _ (by decide)).trans ((sset_k _ _ (by decide)).trans (sset_self _ _ _ _))))))))) rfl in_X4_load_X4 8 (by decide) (by decide +kernel) rfl rfl dX4_load_294 ?_
              refine s_iconst (v := 1) dX4_load_297 (by decide) ?_
              refine s_iadd dX4_load_298 ?_
              refine s_eqi (y := nI (r0 + 1)) (nI_1 _) ?_
              refine s_put (kd := 12) (ix := 0) (ci := 5) (v := .int (nI (r0 + 1))) (ty := tyX4 8) (fs := [.int 0, .int (nI t0), .ref (ad 13 0), .ref (ad 14 0), .ref (ad 15 0), .ref (ad 16 0), .ref (ad 17 0), .ref (ad 18 0), .int (nI r0), .ref (ad 19 0), .ref (ad 20 0), .ref (ad 21 0), .ref (ad 22 0), .ref (ad 23 0), .ref (ad 24 0), .int (jB b0), .ref (ad 25 0)])  tyX4 tyX4_ok nmX4 ((sset_k _ _ (by decide)).trans ((sset_k _ _ (by decide)).trans ((sset_k _ _ (by decide)).trans ((sset_k _ _ (by decide)).trans ((sset_k _ _ (by decide)).trans ((sset_k _ _ (by decide)).trans ((sset_k _ _ (by decide)).trans ((sset_k _ _ (by decide)).trans (sset_self _ _ _ _))))))))) rfl in_X4_load_X4 8 (by decide) (by decide +kernel) rfl rfl (tyX4_ok 8 (by decide)) (rfl) (rfl) (Nat.le_of_ble_eq_true rfl) dX4_load_299 ?_
              refine s_M (M' := (sset (sset (sset (sset (sset (sset (sset (sset (sset (sset M 12 0 (.inr (5, [.int 0, .int (nI t0), .ref (ad 13 0), .ref (ad 14 0), .ref (ad 15 0), .ref (ad 16 0), .ref (ad 17 0), .ref (ad 18 0), .int (nI r0), .ref (ad 19 0), .ref (ad 20 0), .ref (ad 21 0), .ref (ad 22 0), .ref (ad 23 0), .ref (ad 24 0), .int (jB b0), .ref (ad 25 0)]))) 19 0 (.inl (gI G, 60, .inl (upd kd r0 (nI 2))))) 20 0 (.inl (gI G, 180, .inl (upd fl (3 * r0) a)))) 20 0 (.inl (gI G, 180, .inl (upd (upd fl (3 * r0) a) (3 * r0 + 1) b)))) 20 0 (.inl (gI G, 180, .inl (upd (upd (upd fl (3 * r0) a) (3 * r0 + 1) b) (3 * r0 + 2) c)))) 21 0 (.inl (gI G, 60, .inl (upd co r0 (-1))))) 22 0 (.inl (gI G, 180, .inl (upd sm (3 * r0 + 0) 0)))) 22 0 (.inl (gI G, 180, .inl (upd (upd sm (3 * r0 + 0) 0) (3 * r0 + 1) 0)))) 22 0 (.inl (gI G, 180, .inl (upd (upd (upd sm (3 * r0 + 0) 0) (3 * r0 + 1) 0) (3 * r0 + 2) 0)))) 12 0 (.inr (5, [.int 0, .int (nI t0), .ref (ad 13 0), .ref (ad 14 0), .ref (ad 15 0), .ref (ad 16 0), .ref (ad 17 0), .ref (ad 18 0), .int (nI (r0 + 1)), .ref (ad 19 0), .ref (ad 20 0), .ref (ad 21 0), .ref (ad 22 0), .ref (ad 23 0), .ref (ad 24 0), .int (jB b0), .ref (ad 25 0)])))) rfl ?_
              refine s_aload_n dX4_load_302 rfl ?_
              refine s_get (kd := 12) (ix := 0) (ci := 5) (fs := [.int 0, .int (nI t0), .ref (ad 13 0), .ref (ad 14 0), .ref (ad 15 0), .ref (ad 16 0), .ref (ad 17 0), .ref (ad 18 0), .int (nI (r0 + 1)), .ref (ad 19 0), .ref (ad 20 0), .ref (ad 21 0), .ref (ad 22 0), .ref (ad 23 0), .ref (ad 24 0), .int (jB b0), .ref (ad 25 0)])  (sset_self _ _ _ _) rfl in_X4_load_X4 8 (by decide) (by decide +kernel) rfl rfl dX4_load_303 ?_
              refine s_iconst (v := 1) dX4_load_306 (by decide) ?_
              refine s_isub dX4_load_307 ?_
              refine s_eqi (y := nI r0) (nI_m1 (by omega)) ?_
              exact s_iret rfl (rfl) dX4_load_308 (Nat.le_of_ble_eq_true rfl) (Nat.le_of_ble_eq_true rfl) (⟨rfl, (sSame.rfl |>.set (P := pMd) (by simp [pMd]) _ |>.set (P := pMd) (by simp [pMd]) _ |>.set (P := pMd) (by simp [pMd]) _ |>.set (P := pMd) (by simp [pMd]) _ |>.set (P := pMd) (by simp [pMd]) _ |>.set (P := pMd) (by simp [pMd]) _ |>.set (P := pMd) (by simp [pMd]) _ |>.set (P := pMd) (by simp [pMd]) _ |>.set (P := pMd) (by simp [pMd]) _ |>.set (P := pMd) (by simp [pMd]) _), ⟨(0, t0, hd, on, tw, dp, cl, gr, (r0 + 1), upd kd r0 (nI 2), upd (upd (upd fl (3 * r0) a) (3 * r0 + 1) b) (3 * r0 + 2) c, upd co r0 (-1), upd (upd (upd sm (3 * r0 + 0) 0) (3 * r0 + 1) 0) (3 * r0 + 2) 0, wk, sp, b0, mu), ⟨(sset_self _ _ _ _), ((sset_k _ _ (by decide)).trans ((sset_k _ _ (by decide)).trans ((sset_k _ _ (by decide)).trans ((sset_k _ _ (by decide)).trans ((sset_k _ _ (by decide)).trans ((sset_k _ _ (by decide)).trans ((sset_k _ _ (by decide)).trans ((sset_k _ _ (by decide)).trans ((sset_k _ _ (by decide)).trans ((sset_k _ _ (by decide)).trans (hm.2.1))))))))))), ((sset_k _ _ (by decide)).trans ((sset_k _ _ (by decide)).trans ((sset_k _ _ (by decide)).trans ((sset_k _ _ (by decide)).trans ((sset_k _ _ (by decide)).trans ((sset_k _ _ (by decide)).trans ((sset_k _ _ (by decide)).trans ((sset_k _ _ (by decide)).trans ((sset_k _ _ (by decide)).trans ((sset_k _ _ (by decide)).trans (hm.2.2.1))))))))))), ((sset_k _ _ (by decide)).trans ((sset_k _ _ (by decide)).trans ((sset_k _ _ (by decide)).trans ((sset_k _ _ (by decide)).trans ((sset_k _ _ (by decide)).trans ((sset_k _ _ (by decide)).trans ((sset_k _ _ (by decide)).trans ((sset_k _ _ (by decide)).trans ((sset_k _ _ (by decide)).trans ((sset_k _ _ (by decide)).trans (hm.2.2.2.1))))))))))), ((sset_k _ _ (by decide)).trans ((sset_k _ _ (by decide)).trans ((sset_k _ _ (by decide)).trans ((sset_k _ _ (by decide)).trans ((sset_k _ _ (by decide)).trans ((sset_k _ _ (by decide)).trans ((sset_k _ _ (by decide)).trans ((sset_k _ _ (by decide)).trans ((sset_k _ _ (by decide)).trans ((sset_k _ _ (by decide)).trans (hm.2.2.2.2.1))))))))))), ((sset_k _ _ (by decide)).trans ((sset_k _ _ (by decide)).trans ((sset_k _ _ (by decide)).trans ((sset_k _ _ (by decide)).trans ((sset_k _ _ (by decide)).trans ((sset_k _ _ (by decide)).trans ((sset_k _ _ (by decide)).trans ((sset_k _ _ (by decide)).trans ((sset_k _ _ (by decide)).trans ((sset_k _ _ (by decide)).trans (hm.2.2.2.2.2.1))))))))))), ((sset_k _ _ (by decide)).trans ((sset_k _ _ (by decide)).trans ((sset_k _ _ (by decide)).trans ((sset_k _ _ (by decide)).trans ((sset_k _ _ (by decide)).trans ((sset_k _ _ (by decide)).trans ((sset_k _ _ (by decide)).trans ((sset_k _ _ (by decide)).trans ((sset_k _ _ (by decide)).trans ((sset_k _ _ (by decide)).trans (hm.2.2.2.2.2.2.1))))))))))), ((sset_k _ _ (by decide)).trans ((sset_k _ _ (by decide)).trans ((sset_k _ _ (by decide)).trans ((sset_k _ _ (by decide)).trans ((sset_k _ _ (by decide)).trans ((sset_k _ _ (by decide)).trans ((sset_k _ _ (by decide)).trans ((sset_k _ _ (by decide)).trans (sset_self _ _ _ _))))))))), ((sset_k _ _ (by decide)).trans ((sset_k _ _ (by decide)).trans ((sset_k _ _ (by decide)).trans ((sset_k _ _ (by decide)).trans ((sset_k _ _ (by decide)).trans (sset_self _ _ _ _)))))), ((sset_k _ _ (by decide)).trans ((sset_k _ _ (by decide)).trans ((sset_k _ _ (by decide)).trans ((sset_k _ _ (by decide)).trans (sset_self _ _ _ _))))), ((sset_k _ _ (by decide)).trans (sset_self _ _ _ _)), ((sset_k _ _ (by decide)).trans ((sset_k _ _ (by decide)).trans ((sset_k _ _ (by decide)).trans ((sset_k _ _ (by decide)).trans ((sset_k _ _ (by decide)).trans ((sset_k _ _ (by decide)).trans ((sset_k _ _ (by decide)).trans ((sset_k _ _ (by decide)).trans ((sset_k _ _ (by decide)).trans ((sset_k _ _ (by decide)).trans (hm.2.2.2.2.2.2.2.2.2.2.2.1))))))))))), ((sset_k _ _ (by decide)).trans ((sset_k _ _ (by decide)).trans ((sset_k _ _ (by decide)).trans ((sset_k _ _ (by decide)).trans ((sset_k _ _ (by decide)).trans ((sset_k _ _ (by decide)).trans ((sset_k _ _ (by decide)).trans ((sset_k _ _ (by decide)).trans ((sset_k _ _ (by decide)).trans ((sset_k _ _ (by decide)).trans (hm.2.2.2.2.2.2.2.2.2.2.2.2.1))))))))))), ((sset_k _ _ (by decide)).trans ((sset_k _ _ (by decide)).trans ((sset_k _ _ (by decide)).trans ((sset_k _ _ (by decide)).trans ((sset_k _ _ (by decide)).trans ((sset_k _ _ (by decide)).trans ((sset_k _ _ (by decide)).trans ((sset_k _ _ (by decide)).trans ((sset_k _ _ (by decide)).trans ((sset_k _ _ (by decide)).trans (hm.2.2.2.2.2.2.2.2.2.2.2.2.2)))))))))))⟩, rfl, by rw [ea]; exact hI.ldR _ _ _ _⟩, _, rfl, fun _ => by rw [ev, i2]⟩)
            · obtain ⟨rfl, ea⟩ := hrel.c3 hn1 hfk (by have z9 := (nI_eq (a := r0) (b := 60) (by omega) (by omega)).mp c187; omega)
              refine s_aload_n dX4_load_190 rfl ?_
              refine s_iconst (v := 3) dX4_load_191 (by decide) ?_
              refine s_callV (As := [.int 3]) (rest := []) (n := 1) (kd := 12) (ix := 0) (fun l hl => c_X4_raise G l hl ad M c0 t0 hd on tw dp cl gr r0 kd fl co sm wk sp b0 mu ⟨hm.1, hm.2.1, hm.2.2.1, hm.2.2.2.1, hm.2.2.2.2.1, hm.2.2.2.2.2.1, hm.2.2.2.2.2.2.1, hm.2.2.2.2.2.2.2.1, hm.2.2.2.2.2.2.2.2.1, hm.2.2.2.2.2.2.2.2.2.1, hm.2.2.2.2.2.2.2.2.2.2.1, hm.2.2.2.2.2.2.2.2.2.2.2.1, hm.2.2.2.2.2.2.2.2.2.2.2.2.1, hm.2.2.2.2.2.2.2.2.2.2.2.2.2⟩ 3) gX4_load_X4_raise rfl (by decide +kernel) hm.1 rfl rfl ⟨(Nat.le_of_ble_eq_true rfl), (Nat.le_of_ble_eq_true rfl)⟩ ⟨(Nat.le_of_ble_eq_true rfl), (Nat.le_of_ble_eq_true rfl)⟩ (Nat.le_of_ble_eq_true rfl) dX4_load_192 rfl (fun r9 ad9 M9 h9 => ?_)
              obtain ⟨rfl, rfl, hm9, hs9⟩ := h9
              exact s_iret rfl (rfl) dX4_load_195 (Nat.le_of_ble_eq_true rfl) (Nat.le_of_ble_eq_true rfl) (⟨rfl, (sSame.rfl.trans hs9), ⟨(3, t0, hd, on, tw, dp, cl, gr, r0, kd, fl, co, sm, wk, sp, b0, mu), hm9, rfl, by rw [ea]; exact hI.any _ _ _ _ _⟩, _, rfl, fun q => absurd q (by decide)⟩)
          · obtain ⟨rfl, ea⟩ := hrel.c1 (Or.inr (Or.inr ⟨by rw [etf]; omega, (fun q => by have z9 := hzc.mpr q; rw [jB_0.mp c60] at z9; cases z9)⟩))
            refine s_aload_n dX4_load_63 rfl ?_
            refine s_iconst (v := 1) dX4_load_64 (by decide) ?_
            refine s_callV (As := [.int 1]) (rest := []) (n := 1) (kd := 12) (ix := 0) (fun l hl => c_X4_raise G l hl ad M c0 t0 hd on tw dp cl gr r0 kd fl co sm wk sp b0 mu ⟨hm.1, hm.2.1, hm.2.2.1, hm.2.2.2.1, hm.2.2.2.2.1, hm.2.2.2.2.2.1, hm.2.2.2.2.2.2.1, hm.2.2.2.2.2.2.2.1, hm.2.2.2.2.2.2.2.2.1, hm.2.2.2.2.2.2.2.2.2.1, hm.2.2.2.2.2.2.2.2.2.2.1, hm.2.2.2.2.2.2.2.2.2.2.2.1, hm.2.2.2.2.2.2.2.2.2.2.2.2.1, hm.2.2.2.2.2.2.2.2.2.2.2.2.2⟩ 1) gX4_load_X4_raise rfl (by decide +kernel) hm.1 rfl rfl ⟨(Nat.le_of_ble_eq_true rfl), (Nat.le_of_ble_eq_true rfl)⟩ ⟨(Nat.le_of_ble_eq_true rfl), (Nat.le_of_ble_eq_true rfl)⟩ (Nat.le_of_ble_eq_true rfl) dX4_load_65 rfl (fun r9 ad9 M9 h9 => ?_)
            obtain ⟨rfl, rfl, hm9, hs9⟩ := h9
            exact s_iret rfl (rfl) dX4_load_68 (Nat.le_of_ble_eq_true rfl) (Nat.le_of_ble_eq_true rfl) (⟨rfl, (sSame.rfl.trans hs9), ⟨(1, t0, hd, on, tw, dp, cl, gr, r0, kd, fl, co, sm, wk, sp, b0, mu), hm9, rfl, by rw [ea]; exact hI.any _ _ _ _ _⟩, _, rfl, fun q => absurd q (by decide)⟩)
    · refine s_iload_n dX4_load_16 rfl ?_
      refine s_callS (As := [.int (nI 3)]) (rest := []) (n := 1) (fun l hl => c_X4_treesIn G l hl ad M 3 (by omega)) gX4_load_X4_treesIn rfl (by decide +kernel) rfl ⟨(Nat.le_of_ble_eq_true rfl), (Nat.le_of_ble_eq_true rfl)⟩ ⟨(Nat.le_of_ble_eq_true rfl), (Nat.le_of_ble_eq_true rfl)⟩ (Nat.le_of_ble_eq_true rfl) dX4_load_17 rfl (fun r9 ad9 M9 h9 => ?_)
      obtain ⟨rfl, rfl, rfl⟩ := h9
      have etf : tfI (nI 3) = 1 := tfI_in (by omega)
      refine s_st (st' := [.int 1]) rfl ?_
      refine s_goto 24 dX4_load_20 (by decide) ?_
      refine s_istore dX4_load_24 rfl rfl ?_
      refine s_lv (lv' := [some (.ref (ad 12 0)), some (.int (nI 3)), some (.int a), some (.int b), some (.int c), some (.int (jB zq)), some (.int 1), none, none]) rfl ?_
      refine s_aload_n dX4_load_26 rfl ?_
      refine s_iload_n dX4_load_27 rfl ?_
      refine s_callV (As := [.int a]) (rest := []) (n := 1) (kd := 12) (ix := 0) (fun l hl => c_X4_isTree G l hl ad M c0 t0 hd on tw dp cl gr r0 kd fl co sm wk sp b0 mu ⟨hm.1, hm.2.1, hm.2.2.1, hm.2.2.2.1, hm.2.2.2.2.1, hm.2.2.2.2.2.1, hm.2.2.2.2.2.2.1, hm.2.2.2.2.2.2.2.1, hm.2.2.2.2.2.2.2.2.1, hm.2.2.2.2.2.2.2.2.2.1, hm.2.2.2.2.2.2.2.2.2.2.1, hm.2.2.2.2.2.2.2.2.2.2.2.1, hm.2.2.2.2.2.2.2.2.2.2.2.2.1, hm.2.2.2.2.2.2.2.2.2.2.2.2.2⟩ (by omega) a) gX4_load_X4_isTree rfl (by decide +kernel) hm.1 rfl rfl ⟨(Nat.le_of_ble_eq_true rfl), (Nat.le_of_ble_eq_true rfl)⟩ ⟨(Nat.le_of_ble_eq_true rfl), (Nat.le_of_ble_eq_true rfl)⟩ (Nat.le_of_ble_eq_true rfl) dX4_load_28 rfl (fun r9 ad9 M9 h9 => ?_)
      obtain ⟨rfl, rfl, za, rfl, hza⟩ := h9
      rw [i1] at hza
      refine s_if_eq 63 dX4_load_31 (by decide) (fun c31 => ?_) (fun c31 => ?_)
      · obtain ⟨rfl, ea⟩ := hrel.c1 (Or.inl (fun q => by have z9 := hza.mpr q; rw [jB_0.mp c31] at z9; cases z9))
        refine s_aload_n dX4_load_63 rfl ?_
        refine s_iconst (v := 1) dX4_load_64 (by decide) ?_
        refine s_callV (As := [.int 1]) (rest := []) (n := 1) (kd := 12) (ix := 0) (fun l hl => c_X4_raise G l hl ad M c0 t0 hd on tw dp cl gr r0 kd fl co sm wk sp b0 mu ⟨hm.1, hm.2.1, hm.2.2.1, hm.2.2.2.1, hm.2.2.2.2.1, hm.2.2.2.2.2.1, hm.2.2.2.2.2.2.1, hm.2.2.2.2.2.2.2.1, hm.2.2.2.2.2.2.2.2.1, hm.2.2.2.2.2.2.2.2.2.1, hm.2.2.2.2.2.2.2.2.2.2.1, hm.2.2.2.2.2.2.2.2.2.2.2.1, hm.2.2.2.2.2.2.2.2.2.2.2.2.1, hm.2.2.2.2.2.2.2.2.2.2.2.2.2⟩ 1) gX4_load_X4_raise rfl (by decide +kernel) hm.1 rfl rfl ⟨(Nat.le_of_ble_eq_true rfl), (Nat.le_of_ble_eq_true rfl)⟩ ⟨(Nat.le_of_ble_eq_true rfl), (Nat.le_of_ble_eq_true rfl)⟩ (Nat.le_of_ble_eq_true rfl) dX4_load_65 rfl (fun r9 ad9 M9 h9 => ?_)
        obtain ⟨rfl, rfl, hm9, hs9⟩ := h9
        exact s_iret rfl (rfl) dX4_load_68 (Nat.le_of_ble_eq_true rfl) (Nat.le_of_ble_eq_true rfl) (⟨rfl, (sSame.rfl.trans hs9), ⟨(1, t0, hd, on, tw, dp, cl, gr, r0, kd, fl, co, sm, wk, sp, b0, mu), hm9, rfl, by rw [ea]; exact hI.any _ _ _ _ _⟩, _, rfl, fun q => absurd q (by decide)⟩)
      · refine s_iload dX4_load_34 rfl ?_
        refine s_iconst (v := 1) dX4_load_36 (by decide) ?_
        refine s_icmp_le 48 dX4_load_37 (by decide) (fun c37 => ?_) (fun c37 => absurd (by decide) c37)
        refine s_iload dX4_load_48 rfl ?_
        refine s_iconst (v := 2) dX4_load_50 (by decide) ?_
        refine s_icmp_le 69 dX4_load_51 (by decide) (fun c51 => ?_) (fun c51 => absurd (by decide) c51)
        have hn1 : ¬ lC1 α (nI 3) a b c := fun z => z.elim (fun z => z (hza.mp (Bool.of_not_eq_false (fun q => c31 (jB_0.mpr q))))) (fun z => z.elim (fun z => absurd z.1 (by rw [etf]; omega)) (fun z => absurd z.1 (by rw [etf]; omega)))
        refine s_iload dX4_load_69 rfl ?_
        refine s_if_ne 80 dX4_load_71 (by decide) (fun c71 => ?_) (fun c71 => absurd c71 (c13))
        refine s_iload_n dX4_load_80 rfl ?_
        refine s_iconst (v := 1) dX4_load_81 (by decide) ?_
        refine s_icmp_ne 98 dX4_load_82 (by decide) (fun c82 => ?_) (fun c82 => absurd c82 (by decide))
        refine s_iload_n dX4_load_98 rfl ?_
        refine s_iconst (v := 2) dX4_load_99 (by decide) ?_
        refine s_icmp_eq 163 dX4_load_100 (by decide) (fun c100 => absurd c100 (by decide)) (fun c100 => ?_)
        refine s_iload_n dX4_load_103 rfl ?_
        refine s_iconst (v := 3) dX4_load_104 (by decide) ?_
        refine s_icmp_ne 138 dX4_load_105 (by decide) (fun c105 => absurd (rfl) c105) (fun c105 => ?_)
        refine s_iload_n dX4_load_108 rfl ?_
        refine s_i2l dX4_load_109 ?_
        refine s_ldc2 (v := -10) dX4_load_110 (by decide +kernel) ?_
        refine s_ldc2 (v := 10) dX4_load_113 (by decide +kernel) ?_
        refine s_callS (As := [.long b.toInt64, .long (-10), .long 10]) (rest := []) (n := 3) (fun l hl => c_X4_in G l hl ad M b.toInt64 (-10) 10) gX4_load_X4_in rfl (by decide +kernel) rfl ⟨(Nat.le_of_ble_eq_true rfl), (Nat.le_of_ble_eq_true rfl)⟩ ⟨(Nat.le_of_ble_eq_true rfl), (Nat.le_of_ble_eq_true rfl)⟩ (Nat.le_of_ble_eq_true rfl) dX4_load_116 rfl (fun r9 ad9 M9 h9 => ?_)
        obtain ⟨rfl, rfl, e9⟩ := h9
        obtain ⟨zv, e8, hzv⟩ := in_z (x := b) (a := (-10)) (b := 10) (A := (-10)) (B := 10) (by decide) (by decide)
        rw [e8] at e9
        subst e9
        refine s_if_eq 167 dX4_load_119 (by decide) (fun c119 => ?_) (fun c119 => ?_)
        · refine s_iconst (v := 0) dX4_load_167 (by decide) ?_
          refine s_istore dX4_load_168 rfl rfl ?_
          refine s_lv (lv' := [some (.ref (ad 12 0)), some (.int (nI 3)), some (.int a), some (.int b), some (.int c), some (.int (jB zq)), some (.int 1), some (.int 0), none]) rfl ?_
          refine s_iload dX4_load_170 rfl ?_
          refine s_if_ne 181 dX4_load_172 (by decide) (fun c172 => absurd (rfl) c172) (fun c172 => ?_)
          obtain ⟨rfl, ea⟩ := hrel.c2 hn1 (by rw [show fitsK (nI 3) b c = _ from fitsK_3 b c]; exact fun q => by have z9 := hzv.mpr q.1; rw [jB_0.mp c119] at z9; cases z9)
          refine s_aload_n dX4_load_175 rfl ?_
          refine s_iconst (v := 2) dX4_load_176 (by decide) ?_
          refine s_callV (As := [.int 2]) (rest := []) (n := 1) (kd := 12) (ix := 0) (fun l hl => c_X4_raise G l hl ad M c0 t0 hd on tw dp cl gr r0 kd fl co sm wk sp b0 mu ⟨hm.1, hm.2.1, hm.2.2.1, hm.2.2.2.1, hm.2.2.2.2.1, hm.2.2.2.2.2.1, hm.2.2.2.2.2.2.1, hm.2.2.2.2.2.2.2.1, hm.2.2.2.2.2.2.2.2.1, hm.2.2.2.2.2.2.2.2.2.1, hm.2.2.2.2.2.2.2.2.2.2.1, hm.2.2.2.2.2.2.2.2.2.2.2.1, hm.2.2.2.2.2.2.2.2.2.2.2.2.1, hm.2.2.2.2.2.2.2.2.2.2.2.2.2⟩ 2) gX4_load_X4_raise rfl (by decide +kernel) hm.1 rfl rfl ⟨(Nat.le_of_ble_eq_true rfl), (Nat.le_of_ble_eq_true rfl)⟩ ⟨(Nat.le_of_ble_eq_true rfl), (Nat.le_of_ble_eq_true rfl)⟩ (Nat.le_of_ble_eq_true rfl) dX4_load_177 rfl (fun r9 ad9 M9 h9 => ?_)
          obtain ⟨rfl, rfl, hm9, hs9⟩ := h9
          exact s_iret rfl (rfl) dX4_load_180 (Nat.le_of_ble_eq_true rfl) (Nat.le_of_ble_eq_true rfl) (⟨rfl, (sSame.rfl.trans hs9), ⟨(2, t0, hd, on, tw, dp, cl, gr, r0, kd, fl, co, sm, wk, sp, b0, mu), hm9, rfl, by rw [ea]; exact hI.any _ _ _ _ _⟩, _, rfl, fun q => absurd q (by decide)⟩)
        · refine s_iload dX4_load_122 rfl ?_
          refine s_i2l dX4_load_124 ?_
          refine s_lconst (v := 0) dX4_load_125 (by decide) ?_
          refine s_ldc2 (v := 2) dX4_load_126 (by decide +kernel) ?_
          refine s_callS (As := [.long c.toInt64, .long 0, .long 2]) (rest := []) (n := 3) (fun l hl => c_X4_in G l hl ad M c.toInt64 0 2) gX4_load_X4_in rfl (by decide +kernel) rfl ⟨(Nat.le_of_ble_eq_true rfl), (Nat.le_of_ble_eq_true rfl)⟩ ⟨(Nat.le_of_ble_eq_true rfl), (Nat.le_of_ble_eq_true rfl)⟩ (Nat.le_of_ble_eq_true rfl) dX4_load_129 rfl (fun r9 ad9 M9 h9 => ?_)
          obtain ⟨rfl, rfl, e9⟩ := h9
          obtain ⟨zl, e8, hzl⟩ := in_z (x := c) (a := 0) (b := 2) (A := 0) (B := 2) (by decide) (by decide)
          rw [e8] at e9
          subst e9
          refine s_if_eq 167 dX4_load_132 (by decide) (fun c132 => ?_) (fun c132 => ?_)
          · refine s_iconst (v := 0) dX4_load_167 (by decide) ?_
            refine s_istore dX4_load_168 rfl rfl ?_
            refine s_lv (lv' := [some (.ref (ad 12 0)), some (.int (nI 3)), some (.int a), some (.int b), some (.int c), some (.int (jB zq)), some (.int 1), some (.int 0), none]) rfl ?_
            refine s_iload dX4_load_170 rfl ?_
            refine s_if_ne 181 dX4_load_172 (by decide) (fun c172 => absurd (rfl) c172) (fun c172 => ?_)
            obtain ⟨rfl, ea⟩ := hrel.c2 hn1 (by rw [show fitsK (nI 3) b c = _ from fitsK_3 b c]; exact fun q => by have z9 := hzl.mpr (let2.mpr (let3.mp q.2)); rw [jB_0.mp c132] at z9; cases z9)
            refine s_aload_n dX4_load_175 rfl ?_
            refine s_iconst (v := 2) dX4_load_176 (by decide) ?_
            refine s_callV (As := [.int 2]) (rest := []) (n := 1) (kd := 12) (ix := 0) (fun l hl => c_X4_raise G l hl ad M c0 t0 hd on tw dp cl gr r0 kd fl co sm wk sp b0 mu ⟨hm.1, hm.2.1, hm.2.2.1, hm.2.2.2.1, hm.2.2.2.2.1, hm.2.2.2.2.2.1, hm.2.2.2.2.2.2.1, hm.2.2.2.2.2.2.2.1, hm.2.2.2.2.2.2.2.2.1, hm.2.2.2.2.2.2.2.2.2.1, hm.2.2.2.2.2.2.2.2.2.2.1, hm.2.2.2.2.2.2.2.2.2.2.2.1, hm.2.2.2.2.2.2.2.2.2.2.2.2.1, hm.2.2.2.2.2.2.2.2.2.2.2.2.2⟩ 2) gX4_load_X4_raise rfl (by decide +kernel) hm.1 rfl rfl ⟨(Nat.le_of_ble_eq_true rfl), (Nat.le_of_ble_eq_true rfl)⟩ ⟨(Nat.le_of_ble_eq_true rfl), (Nat.le_of_ble_eq_true rfl)⟩ (Nat.le_of_ble_eq_true rfl) dX4_load_177 rfl (fun r9 ad9 M9 h9 => ?_)
            obtain ⟨rfl, rfl, hm9, hs9⟩ := h9
            exact s_iret rfl (rfl) dX4_load_180 (Nat.le_of_ble_eq_true rfl) (Nat.le_of_ble_eq_true rfl) (⟨rfl, (sSame.rfl.trans hs9), ⟨(2, t0, hd, on, tw, dp, cl, gr, r0, kd, fl, co, sm, wk, sp, b0, mu), hm9, rfl, by rw [ea]; exact hI.any _ _ _ _ _⟩, _, rfl, fun q => absurd q (by decide)⟩)
          · refine s_goto 163 dX4_load_135 (by decide) ?_
            refine s_iconst (v := 1) dX4_load_163 (by decide) ?_
            refine s_goto 168 dX4_load_164 (by decide) ?_
            refine s_istore dX4_load_168 rfl rfl ?_
            refine s_lv (lv' := [some (.ref (ad 12 0)), some (.int (nI 3)), some (.int a), some (.int b), some (.int c), some (.int (jB zq)), some (.int 1), some (.int 1), none]) rfl ?_
            refine s_iload dX4_load_170 rfl ?_
            refine s_if_ne 181 dX4_load_172 (by decide) (fun c172 => ?_) (fun c172 => absurd c172 (by decide))
            have hfk : fitsK (nI 3) b c := by rw [show fitsK (nI 3) b c = _ from fitsK_3 b c]; exact ⟨(hzv.mp (Bool.of_not_eq_false (fun q => c119 (jB_0.mpr q)))), let3.mpr (let2.mp (hzl.mp (Bool.of_not_eq_false (fun q => c132 (jB_0.mpr q)))))⟩
            refine s_aload_n dX4_load_181 rfl ?_
            refine s_get (kd := 12) (ix := 0) (ci := 5) (fs := [.int c0, .int (nI t0), .ref (ad 13 0), .ref (ad 14 0), .ref (ad 15 0), .ref (ad 16 0), .ref (ad 17 0), .ref (ad 18 0), .int (nI r0), .ref (ad 19 0), .ref (ad 20 0), .ref (ad 21 0), .ref (ad 22 0), .ref (ad 23 0), .ref (ad 24 0), .int (jB b0), .ref (ad 25 0)])  hm.1 rfl in_X4_load_X4 8 (by decide) (by decide +kernel) rfl rfl dX4_load_182 ?_
            refine s_bipush (v := 60) dX4_load_185 (by decide) ?_
            refine s_icmp_ne 196 dX4_load_187 (by decide) (fun c187 => ?_) (fun c187 => ?_)
            · obtain ⟨rfl, ev, hR1, ea⟩ := hrel.c0 hn1 hfk (fun z9 => c187 (by rw [show r0 = 60 by omega]; rfl))
              have hr1 : r0 < 60 := by omega
              refine s_aload_n dX4_load_196 rfl ?_
              refine s_iconst (v := 0) dX4_load_197 (by decide) ?_
              refine s_put (kd := 12) (ix := 0) (ci := 5) (v := .int 0) (ty := tyX4 0) (fs := [.int c0, .int (nI t0), .ref (ad 13 0), .ref (ad 14 0), .ref (ad 15 0), .ref (ad 16 0), .ref (ad 17 0), .ref (ad 18 0), .int (nI r0), .ref (ad 19 0), .ref (ad 20 0), .ref (ad 21 0), .ref (ad 22 0), .ref (ad 23 0), .ref (ad 24 0), .int (jB b0), .ref (ad 25 0)])  tyX4 tyX4_ok nmX4 hm.1 rfl in_X4_load_X4 0 (by decide) (by decide +kernel) rfl rfl (tyX4_ok 0 (by decide)) (rfl) (rfl) (Nat.le_of_ble_eq_true rfl) dX4_load_198 ?_
              refine s_M (M' := (sset M 12 0 (.inr (5, [.int 0, .int (nI t0), .ref (ad 13 0), .ref (ad 14 0), .ref (ad 15 0), .ref (ad 16 0), .ref (ad 17 0), .ref (ad 18 0), .int (nI r0), .ref (ad 19 0), .ref (ad 20 0), .ref (ad 21 0), .ref (ad 22 0), .ref (ad 23 0), .ref (ad 24 0), .int (jB b0), .ref (ad 25 0)])))) rfl ?_
              refine s_aload_n dX4_load_201 rfl ?_
              refine s_get (kd := 12) (ix := 0) (ci := 5) (fs := [.int 0, .int (nI t0), .ref (ad 13 0), .ref (ad 14 0), .ref (ad 15 0), .ref (ad 16 0), .ref (ad 17 0), .ref (ad 18 0), .int (nI r0), .ref (ad 19 0), .ref (ad 20 0), .ref (ad 21 0), .ref (ad 22 0), .ref (ad 23 0), .ref (ad 24 0), .int (jB b0), .ref (ad 25 0)])  (sset_self _ _ _ _) rfl in_X4_load_X4 9 (by decide) (by decide +kernel) rfl rfl dX4_load_202 ?_
              refine s_aload_n dX4_load_205 rfl ?_
              refine s_get (kd := 12) (ix := 0) (ci := 5) (fs := [.int 0, .int (nI t0), .ref (ad 13 0), .ref (ad 14 0), .ref (ad 15 0), .ref (ad 16 0), .ref (ad 17 0), .ref (ad 18 0), .int (nI r0), .ref (ad 19 0), .ref (ad 20 0), .ref (ad 21 0), .ref (ad 22 0), .ref (ad 23 0), .ref (ad 24 0), .int (jB b0), .ref (ad 25 0)])  (sset_self _ _ _ _) rfl in_X4_load_X4 8 (by decide) (by decide +kernel) rfl rfl dX4_load_206 ?_
              refine s_iload_n dX4_load_209 rfl ?_
              refine s_iast (kd := 19) (ix := 0) (n := 60) (f := kd) (j := r0) (x := nI 3) ((sset_k _ _ (by decide)).trans (hm.2.2.2.2.2.2.2.1))  (rfl) (by omega) (by decide) dX4_load_210 ?_
              refine s_aload_n dX4_load_211 rfl ?_
              refine s_get (kd := 12) (ix := 0) (ci := 5) (fs := [.int 0, .int (nI t0), .ref (ad 13 0), .ref (ad 14 0), .ref (ad 15 0), .ref (ad 16 0), .ref (ad 17 0), .ref (ad 18 0), .int (nI r0), .ref (ad 19 0), .ref (ad 20 0), .ref (ad 21 0), .ref (ad 22 0), .ref (ad 23 0), .ref (ad 24 0), .int (jB b0), .ref (ad 25 0)])  ((sset_k _ _ (by decide)).trans (sset_self _ _ _ _)) rfl in_X4_load_X4 10 (by decide) (by decide +kernel) rfl rfl dX4_load_212 ?_
              refine s_iconst (v := 3) dX4_load_215 (by decide) ?_
              refine s_aload_n dX4_load_216 rfl ?_
              refine s_get (kd := 12) (ix := 0) (ci := 5) (fs := [.int 0, .int (nI t0), .ref (ad 13 0), .ref (ad 14 0), .ref (ad 15 0), .ref (ad 16 0), .ref (ad 17 0), .ref (ad 18 0), .int (nI r0), .ref (ad 19 0), .ref (ad 20 0), .ref (ad 21 0), .ref (ad 22 0), .ref (ad 23 0), .ref (ad 24 0), .int (jB b0), .ref (ad 25 0)])  ((sset_k _ _ (by decide)).trans (sset_self _ _ _ _)) rfl in_X4_load_X4 8 (by decide) (by decide +kernel) rfl rfl dX4_load_217 ?_
              refine s_imul dX4_load_220 ?_
              refine s_eqi (y := nI (3 * r0)) (nI_mul 3 r0) ?_
              refine s_iload_n dX4_load_221 rfl ?_
              refine s_iast (kd := 20) (ix := 0) (n := 180) (f := fl) (j := 3 * r0) (x := a) ((sset_k _ _ (by decide)).trans ((sset_k _ _ (by decide)).trans (hm.2.2.2.2.2.2.2.2.1)))  (rfl) (by omega) (by decide) dX4_load_222 ?_
              refine s_aload_n dX4_load_223 rfl ?_
              refine s_get (kd := 12) (ix := 0) (ci := 5) (fs := [.int 0, .int (nI t0), .ref (ad 13 0), .ref (ad 14 0), .ref (ad 15 0), .ref (ad 16 0), .ref (ad 17 0), .ref (ad 18 0), .int (nI r0), .ref (ad 19 0), .ref (ad 20 0), .ref (ad 21 0), .ref (ad 22 0), .ref (ad 23 0), .ref (ad 24 0), .int (jB b0), .ref (ad 25 0)])  ((sset_k _ _ (by decide)).trans ((sset_k _ _ (by decide)).trans (sset_self _ _ _ _))) rfl in_X4_load_X4 10 (by decide) (by decide +kernel) rfl rfl dX4_load_224 ?_
              refine s_iconst (v := 3) dX4_load_227 (by decide) ?_
              refine s_aload_n dX4_load_228 rfl ?_
              refine s_get (kd := 12) (ix := 0) (ci := 5) (fs := [.int 0, .int (nI t0), .ref (ad 13 0), .ref (ad 14 0), .ref (ad 15 0), .ref (ad 16 0), .ref (ad 17 0), .ref (ad 18 0), .int (nI r0), .ref (ad 19 0), .ref (ad 20 0), .ref (ad 21 0), .ref (ad 22 0), .ref (ad 23 0), .ref (ad 24 0), .int (jB b0), .ref (ad 25 0)])  ((sset_k _ _ (by decide)).trans ((sset_k _ _ (by decide)).trans (sset_self _ _ _ _))) rfl in_X4_load_X4 8 (by decide) (by decide +kernel) rfl rfl dX4_load_229 ?_
              refine s_imul dX4_load_232 ?_
              refine s_eqi (y := nI (3 * r0)) (nI_mul 3 r0) ?_
              refine s_iconst (v := 1) dX4_load_233 (by decide) ?_
              refine s_iadd dX4_load_234 ?_
              refine s_eqi (y := nI (3 * r0 + 1)) (nI_add _ _) ?_
              refine s_iload_n dX4_load_235 rfl ?_
              refine s_iast (kd := 20) (ix := 0) (n := 180) (f := upd fl (3 * r0) a) (j := 3 * r0 + 1) (x := b) (sset_self _ _ _ _)  (rfl) (by omega) (by decide) dX4_load_236 ?_
              refine s_aload_n dX4_load_237 rfl ?_
              refine s_get (kd := 12) (ix := 0) (ci := 5) (fs := [.int 0, .int (nI t0), .ref (ad 13 0), .ref (ad 14 0), .ref (ad 15 0), .ref (ad 16 0), .ref (ad 17 0), .ref (ad 18 0), .int (nI r0), .ref (ad 19 0), .ref (ad 20 0), .ref (ad 21 0), .ref (ad 22 0), .ref (ad 23 0), .ref (ad 24 0), .int (jB b0), .ref (ad 25 0)])  ((sset_k _ _ (by decide)).trans ((sset_k _ _ (by decide)).trans ((sset_k _ _ (by decide)).trans (sset_self _ _ _ _)))) rfl in_X4_load_X4 10 (by decide) (by decide +kernel) rfl rfl dX4_load_238 ?_
              refine s_iconst (v := 3) dX4_load_241 (by decide) ?_
              refine s_aload_n dX4_load_242 rfl ?_
              refine s_get (kd := 12) (ix := 0) (ci := 5) (fs := [.int 0, .int (nI t0), .ref (ad 13 0), .ref (ad 14 0), .ref (ad 15 0), .ref (ad 16 0), .ref (ad 17 0), .ref (ad 18 0), .int (nI r0), .ref (ad 19 0), .ref (ad 20 0), .ref (ad 21 0), .ref (ad 22 0), .ref (ad 23 0), .ref (ad 24 0), .int (jB b0), .ref (ad 25 0)])  ((sset_k _ _ (by decide)).trans ((sset_k _ _ (by decide)).trans ((sset_k _ _ (by decide)).trans (sset_self _ _ _ _)))) rfl in_X4_load_X4 8 (by decide) (by decide +kernel) rfl rfl dX4_load_243 ?_
              refine s_imul dX4_load_246 ?_
              refine s_eqi (y := nI (3 * r0)) (nI_mul 3 r0) ?_
              refine s_iconst (v := 2) dX4_load_247 (by decide) ?_
              refine s_iadd dX4_load_248 ?_
              refine s_eqi (y := nI (3 * r0 + 2)) (nI_add _ _) ?_
              refine s_iload dX4_load_249 rfl ?_
              refine s_iast (kd := 20) (ix := 0) (n := 180) (f := upd (upd fl (3 * r0) a) (3 * r0 + 1) b) (j := 3 * r0 + 2) (x := c) (sset_self _ _ _ _)  (rfl) (by omega) (by decide) dX4_load_251 ?_
              refine s_aload_n dX4_load_252 rfl ?_
              refine s_get (kd := 12) (ix := 0) (ci := 5) (fs := [.int 0, .int (nI t0), .ref (ad 13 0), .ref (ad 14 0), .ref (ad 15 0), .ref (ad 16 0), .ref (ad 17 0), .ref (ad 18 0), .int (nI r0), .ref (ad 19 0), .ref (ad 20 0), .ref (ad 21 0), .ref (ad 22 0), .ref (ad 23 0), .ref (ad 24 0), .int (jB b0), .ref (ad 25 0)])  ((sset_k _ _ (by decide)).trans ((sset_k _ _ (by decide)).trans ((sset_k _ _ (by decide)).trans ((sset_k _ _ (by decide)).trans (sset_self _ _ _ _))))) rfl in_X4_load_X4 11 (by decide) (by decide +kernel) rfl rfl dX4_load_253 ?_
              refine s_aload_n dX4_load_256 rfl ?_
              refine s_get (kd := 12) (ix := 0) (ci := 5) (fs := [.int 0, .int (nI t0), .ref (ad 13 0), .ref (ad 14 0), .ref (ad 15 0), .ref (ad 16 0), .ref (ad 17 0), .ref (ad 18 0), .int (nI r0), .ref (ad 19 0), .ref (ad 20 0), .ref (ad 21 0), .ref (ad 22 0), .ref (ad 23 0), .ref (ad 24 0), .int (jB b0), .ref (ad 25 0)])  ((sset_k _ _ (by decide)).trans ((sset_k _ _ (by decide)).trans ((sset_k _ _ (by decide)).trans ((sset_k _ _ (by decide)).trans (sset_self _ _ _ _))))) rfl in_X4_load_X4 8 (by decide) (by decide +kernel) rfl rfl dX4_load_257 ?_
              refine s_iconst (v := -1) dX4_load_260 (by decide) ?_
              refine s_iast (kd := 21) (ix := 0) (n := 60) (f := co) (j := r0) (x := (-1)) ((sset_k _ _ (by decide)).trans ((sset_k _ _ (by decide)).trans ((sset_k _ _ (by decide)).trans ((sset_k _ _ (by decide)).trans ((sset_k _ _ (by decide)).trans (hm.2.2.2.2.2.2.2.2.2.1))))))  (rfl) (by omega) (by decide) dX4_load_261 ?_
              refine s_iconst (v := 0) dX4_load_262 (by decide) ?_
              refine s_istore dX4_load_263 rfl rfl ?_
              refine s_lv (lv' := [some (.ref (ad 12 0)), some (.int (nI 3)), some (.int a), some (.int b), some (.int c), some (.int (jB zq)), some (.int 1), some (.int 1), some (.int 0)]) rfl ?_
              refine s_iload dX4_load_265 rfl ?_
              refine s_iconst (v := 3) dX4_load_267 (by decide) ?_
              refine s_icmp_ge 292 dX4_load_268 (by decide) (fun c268 => absurd c268 (by decide)) (fun c268 => ?_)
              refine s_aload_n dX4_load_271 rfl ?_
              refine s_get (kd := 12) (ix := 0) (ci := 5) (fs := [.int 0, .int (nI t0), .ref (ad 13 0), .ref (ad 14 0), .ref (ad 15 0), .ref (ad 16 0), .ref (ad 17 0), .ref (ad 18 0), .int (nI r0), .ref (ad 19 0), .ref (ad 20 0), .ref (ad 21 0), .ref (ad 22 0), .ref (ad 23 0), .ref (ad 24 0), .int (jB b0), .ref (ad 25 0)])  ((sset_k _ _ (by decide)).trans ((sset_k _ _ (by decide)).trans ((sset_k _ _ (by decide)).trans ((sset_k _ _ (by decide)).trans ((sset_k _ _ (by decide)).trans (sset_self _ _ _ _)))))) rfl in_X4_load_X4 12 (by decide) (by decide +kernel) rfl rfl dX4_load_272 ?_
              refine s_iconst (v := 3) dX4_load_275 (by decide) ?_
              refine s_aload_n dX4_load_276 rfl ?_
              refine s_get (kd := 12) (ix := 0) (ci := 5) (fs := [.int 0, .int (nI t0), .ref (ad 13 0), .ref (ad 14 0), .ref (ad 15 0), .ref (ad 16 0), .ref (ad 17 0), .ref (ad 18 0), .int (nI r0), .ref (ad 19 0), .ref (ad 20 0), .ref (ad 21 0), .ref (ad 22 0), .ref (ad 23 0), .ref (ad 24 0), .int (jB b0), .ref (ad 25 0)])  ((sset_k _ _ (by decide)).trans ((sset_k _ _ (by decide)).trans ((sset_k _ _ (by decide)).trans ((sset_k _ _ (by decide)).trans ((sset_k _ _ (by decide)).trans (sset_self _ _ _ _)))))) rfl in_X4_load_X4 8 (by decide) (by decide +kernel) rfl rfl dX4_load_277 ?_
              refine s_imul dX4_load_280 ?_
              refine s_eqi (y := nI (3 * r0)) (nI_mul 3 r0) ?_
              refine s_iload dX4_load_281 rfl ?_
              refine s_iadd dX4_load_283 ?_
              refine s_eqi (y := nI (3 * r0 + 0)) (nI_add _ _) ?_
              refine s_iconst (v := 0) dX4_load_284 (by decide) ?_
              refine s_iast (kd := 22) (ix := 0) (n := 180) (f := sm) (j := 3 * r0 + 0) (x := 0) ((sset_k _ _ (by decide)).trans ((sset_k _ _ (by decide)).trans ((sset_k _ _ (by decide)).trans ((sset_k _ _ (by decide)).trans ((sset_k _ _ (by decide)).trans ((sset_k _ _ (by decide)).trans (hm.2.2.2.2.2.2.2.2.2.2.1)))))))  (rfl) (by omega) (by decide) dX4_load_285 ?_
              refine s_iinc (v := 1) dX4_load_286 rfl (by decide) rfl ?_
              refine s_lv (lv' := [some (.ref (ad 12 0)), some (.int (nI 3)), some (.int a), some (.int b), some (.int c), some (.int (jB zq)), some (.int 1), some (.int 1), some (.int 1)]) rfl ?_
              refine s_goto 265 dX4_load_289 (by decide) ?_
              refine s_iload dX4_load_265 rfl ?_
              refine s_iconst (v := 3) dX4_load_267 (by decide) ?_
              refine s_icmp_ge 292 dX4_load_268 (by decide) (fun c268 => absurd c268 (by decide)) (fun c268 => ?_)
              refine s_aload_n dX4_load_271 rfl ?_
              refine s_get (kd := 12) (ix := 0) (ci := 5) (fs := [.int 0, .int (nI t0), .ref (ad 13 0), .ref (ad 14 0), .ref (ad 15 0), .ref (ad 16 0), .ref (ad 17 0), .ref (ad 18 0), .int (nI r0), .ref (ad 19 0), .ref (ad 20 0), .ref (ad 21 0), .ref (ad 22 0), .ref (ad 23 0), .ref (ad 24 0), .int (jB b0), .ref (ad 25 0)])  ((sset_k _ _ (by decide)).trans ((sset_k _ _ (by decide)).trans ((sset_k _ _ (by decide)).trans ((sset_k _ _ (by decide)).trans ((sset_k _ _ (by decide)).trans ((sset_k _ _ (by decide)).trans (sset_self _ _ _ _))))))) rfl in_X4_load_X4 12 (by decide) (by decide +kernel) rfl rfl dX4_load_272 ?_
              refine s_iconst (v := 3) dX4_load_275 (by decide) ?_
              refine s_aload_n dX4_load_276 rfl ?_
              refine s_get (kd := 12) (ix := 0) (ci := 5) (fs := [.int 0, .int (nI t0), .ref (ad 13 0), .ref (ad 14 0), .ref (ad 15 0), .ref (ad 16 0), .ref (ad 17 0), .ref (ad 18 0), .int (nI r0), .ref (ad 19 0), .ref (ad 20 0), .ref (ad 21 0), .ref (ad 22 0), .ref (ad 23 0), .ref (ad 24 0), .int (jB b0), .ref (ad 25 0)])  ((sset_k _ _ (by decide)).trans ((sset_k _ _ (by decide)).trans ((sset_k _ _ (by decide)).trans ((sset_k _ _ (by decide)).trans ((sset_k _ _ (by decide)).trans ((sset_k _ _ (by decide)).trans (sset_self _ _ _ _))))))) rfl in_X4_load_X4 8 (by decide) (by decide +kernel) rfl rfl dX4_load_277 ?_
              refine s_imul dX4_load_280 ?_
              refine s_eqi (y := nI (3 * r0)) (nI_mul 3 r0) ?_
              refine s_iload dX4_load_281 rfl ?_
              refine s_iadd dX4_load_283 ?_
              refine s_eqi (y := nI (3 * r0 + 1)) (nI_add _ _) ?_
              refine s_iconst (v := 0) dX4_load_284 (by decide) ?_
              refine s_iast (kd := 22) (ix := 0) (n := 180) (f := upd sm (3 * r0 + 0) 0) (j := 3 * r0 + 1) (x := 0) (sset_self _ _ _ _)  (rfl) (by omega) (by decide) dX4_load_285 ?_
              refine s_iinc (v := 2) dX4_load_286 rfl (by decide) rfl ?_
              refine s_lv (lv' := [some (.ref (ad 12 0)), some (.int (nI 3)), some (.int a), some (.int b), some (.int c), some (.int (jB zq)), some (.int 1), some (.int 1), some (.int 2)]) rfl ?_
              refine s_goto 265 dX4_load_289 (by decide) ?_
              refine s_iload dX4_load_265 rfl ?_
              refine s_iconst (v := 3) dX4_load_267 (by decide) ?_
              refine s_icmp_ge 292 dX4_load_268 (by decide) (fun c268 => absurd c268 (by decide)) (fun c268 => ?_)
              refine s_aload_n dX4_load_271 rfl ?_
              refine s_get (kd := 12) (ix := 0) (ci := 5) (fs := [.int 0, .int (nI t0), .ref (ad 13 0), .ref (ad 14 0), .ref (ad 15 0), .ref (ad 16 0), .ref (ad 17 0), .ref (ad 18 0), .int (nI r0), .ref (ad 19 0), .ref (ad 20 0), .ref (ad 21 0), .ref (ad 22 0), .ref (ad 23 0), .ref (ad 24 0), .int (jB b0), .ref (ad 25 0)])  ((sset_k _ _ (by decide)).trans ((sset_k _ _ (by decide)).trans ((sset_k _ _ (by decide)).trans ((sset_k _ _ (by decide)).trans ((sset_k _ _ (by decide)).trans ((sset_k _ _ (by decide)).trans ((sset_k _ _ (by decide)).trans (sset_self _ _ _ _)))))))) rfl in_X4_load_X4 12 (by decide) (by decide +kernel) rfl rfl dX4_load_272 ?_
              refine s_iconst (v := 3) dX4_load_275 (by decide) ?_
              refine s_aload_n dX4_load_276 rfl ?_
              refine s_get (kd := 12) (ix := 0) (ci := 5) (fs := [.int 0, .int (nI t0), .ref (ad 13 0), .ref (ad 14 0), .ref (ad 15 0), .ref (ad 16 0), .ref (ad 17 0), .ref (ad 18 0), .int (nI r0), .ref (ad 19 0), .ref (ad 20 0), .ref (ad 21 0), .ref (ad 22 0), .ref (ad 23 0), .ref (ad 24 0), .int (jB b0), .ref (ad 25 0)])  ((sset_k _ _ (by decide)).trans ((sset_k _ _ (by decide)).trans ((sset_k _ _ (by decide)).trans ((sset_k _ _ (by decide)).trans ((sset_k _ _ (by decide)).trans ((sset_k _ _ (by decide)).trans ((sset_k _ _ (by decide)).trans (sset_self _ _ _ _)))))))) rfl in_X4_load_X4 8 (by decide) (by decide +kernel) rfl rfl dX4_load_277 ?_
              refine s_imul dX4_load_280 ?_
              refine s_eqi (y := nI (3 * r0)) (nI_mul 3 r0) ?_
              refine s_iload dX4_load_281 rfl ?_
              refine s_iadd dX4_load_283 ?_
              refine s_eqi (y := nI (3 * r0 + 2)) (nI_add _ _) ?_
              refine s_iconst (v := 0) dX4_load_284 (by decide) ?_
              refine s_iast (kd := 22) (ix := 0) (n := 180) (f := upd (upd sm (3 * r0 + 0) 0) (3 * r0 + 1) 0) (j := 3 * r0 + 2) (x := 0) (sset_self _ _ _ _)  (rfl) (by omega) (by decide) dX4_load_285 ?_
              refine s_iinc (v := 3) dX4_load_286 rfl (by decide) rfl ?_
              refine s_lv (lv' := [some (.ref (ad 12 0)), some (.int (nI 3)), some (.int a), some (.int b), some (.int c), some (.int (jB zq)), some (.int 1), some (.int 1), some (.int 3)]) rfl ?_
              refine s_goto 265 dX4_load_289 (by decide) ?_
              refine s_iload dX4_load_265 rfl ?_
              refine s_iconst (v := 3) dX4_load_267 (by decide) ?_
              refine s_icmp_ge 292 dX4_load_268 (by decide) (fun c268 => ?_) (fun c268 => absurd (by decide) c268)
              refine s_aload_n dX4_load_292 rfl ?_
              refine s_dup dX4_load_293 rfl ?_
              refine s_get (kd := 12) (ix := 0) (ci := 5) (fs := [.int 0, .int (nI t0), .ref (ad 13 0), .ref (ad 14 0), .ref (ad 15 0), .ref (ad 16 0), .ref (ad 17 0), .ref (ad 18 0), .int (nI r0), .ref (ad 19 0), .ref (ad 20 0), .ref (ad 21 0), .ref (ad 22 0), .ref (ad 23 0), .ref (ad 24 0), .int (jB b0), .ref (ad 25 0)])  ((sset_k _ _ (by decide)).trans ((sset_k _ _ (by decide)).trans ((sset_k _ _ (by decide)).trans ((sset_k _ _ (by decide)).trans ((sset_k _ _ (by decide)).trans ((sset_k _ _ (by decide)).trans ((sset_k _ _ (by decide)).trans ((sset_k _ _ (by decide)).trans (sset_self _ _ _ _))))))))) rfl in_X4_load_X4 8 (by decide) (by decide +kernel) rfl rfl dX4_load_294 ?_
              refine s_iconst (v := 1) dX4_load_297 (by decide) ?_
              refine s_iadd dX4_load_298 ?_
              refine s_eqi (y := nI (r0 + 1)) (nI_1 _) ?_
              refine s_put (kd := 12) (ix := 0) (ci := 5) (v := .int (nI (r0 + 1))) (ty := tyX4 8) (fs := [.int 0, .int (nI t0), .ref (ad 13 0), .ref (ad 14 0), .ref (ad 15 0), .ref (ad 16 0), .ref (ad 17 0), .ref (ad 18 0), .int (nI r0), .ref (ad 19 0), .ref (ad 20 0), .ref (ad 21 0), .ref (ad 22 0), .ref (ad 23 0), .ref (ad 24 0), .int (jB b0), .ref (ad 25 0)])  tyX4 tyX4_ok nmX4 ((sset_k _ _ (by decide)).trans ((sset_k _ _ (by decide)).trans ((sset_k _ _ (by decide)).trans ((sset_k _ _ (by decide)).trans ((sset_k _ _ (by decide)).trans ((sset_k _ _ (by decide)).trans ((sset_k _ _ (by decide)).trans ((sset_k _ _ (by decide)).trans (sset_self _ _ _ _))))))))) rfl in_X4_load_X4 8 (by decide) (by decide +kernel) rfl rfl (tyX4_ok 8 (by decide)) (rfl) (rfl) (Nat.le_of_ble_eq_true rfl) dX4_load_299 ?_
              refine s_M (M' := (sset (sset (sset (sset (sset (sset (sset (sset (sset (sset M 12 0 (.inr (5, [.int 0, .int (nI t0), .ref (ad 13 0), .ref (ad 14 0), .ref (ad 15 0), .ref (ad 16 0), .ref (ad 17 0), .ref (ad 18 0), .int (nI r0), .ref (ad 19 0), .ref (ad 20 0), .ref (ad 21 0), .ref (ad 22 0), .ref (ad 23 0), .ref (ad 24 0), .int (jB b0), .ref (ad 25 0)]))) 19 0 (.inl (gI G, 60, .inl (upd kd r0 (nI 3))))) 20 0 (.inl (gI G, 180, .inl (upd fl (3 * r0) a)))) 20 0 (.inl (gI G, 180, .inl (upd (upd fl (3 * r0) a) (3 * r0 + 1) b)))) 20 0 (.inl (gI G, 180, .inl (upd (upd (upd fl (3 * r0) a) (3 * r0 + 1) b) (3 * r0 + 2) c)))) 21 0 (.inl (gI G, 60, .inl (upd co r0 (-1))))) 22 0 (.inl (gI G, 180, .inl (upd sm (3 * r0 + 0) 0)))) 22 0 (.inl (gI G, 180, .inl (upd (upd sm (3 * r0 + 0) 0) (3 * r0 + 1) 0)))) 22 0 (.inl (gI G, 180, .inl (upd (upd (upd sm (3 * r0 + 0) 0) (3 * r0 + 1) 0) (3 * r0 + 2) 0)))) 12 0 (.inr (5, [.int 0, .int (nI t0), .ref (ad 13 0), .ref (ad 14 0), .ref (ad 15 0), .ref (ad 16 0), .ref (ad 17 0), .ref (ad 18 0), .int (nI (r0 + 1)), .ref (ad 19 0), .ref (ad 20 0), .ref (ad 21 0), .ref (ad 22 0), .ref (ad 23 0), .ref (ad 24 0), .int (jB b0), .ref (ad 25 0)])))) rfl ?_
              refine s_aload_n dX4_load_302 rfl ?_
              refine s_get (kd := 12) (ix := 0) (ci := 5) (fs := [.int 0, .int (nI t0), .ref (ad 13 0), .ref (ad 14 0), .ref (ad 15 0), .ref (ad 16 0), .ref (ad 17 0), .ref (ad 18 0), .int (nI (r0 + 1)), .ref (ad 19 0), .ref (ad 20 0), .ref (ad 21 0), .ref (ad 22 0), .ref (ad 23 0), .ref (ad 24 0), .int (jB b0), .ref (ad 25 0)])  (sset_self _ _ _ _) rfl in_X4_load_X4 8 (by decide) (by decide +kernel) rfl rfl dX4_load_303 ?_
              refine s_iconst (v := 1) dX4_load_306 (by decide) ?_
              refine s_isub dX4_load_307 ?_
              refine s_eqi (y := nI r0) (nI_m1 (by omega)) ?_
              exact s_iret rfl (rfl) dX4_load_308 (Nat.le_of_ble_eq_true rfl) (Nat.le_of_ble_eq_true rfl) (⟨rfl, (sSame.rfl |>.set (P := pMd) (by simp [pMd]) _ |>.set (P := pMd) (by simp [pMd]) _ |>.set (P := pMd) (by simp [pMd]) _ |>.set (P := pMd) (by simp [pMd]) _ |>.set (P := pMd) (by simp [pMd]) _ |>.set (P := pMd) (by simp [pMd]) _ |>.set (P := pMd) (by simp [pMd]) _ |>.set (P := pMd) (by simp [pMd]) _ |>.set (P := pMd) (by simp [pMd]) _ |>.set (P := pMd) (by simp [pMd]) _), ⟨(0, t0, hd, on, tw, dp, cl, gr, (r0 + 1), upd kd r0 (nI 3), upd (upd (upd fl (3 * r0) a) (3 * r0 + 1) b) (3 * r0 + 2) c, upd co r0 (-1), upd (upd (upd sm (3 * r0 + 0) 0) (3 * r0 + 1) 0) (3 * r0 + 2) 0, wk, sp, b0, mu), ⟨(sset_self _ _ _ _), ((sset_k _ _ (by decide)).trans ((sset_k _ _ (by decide)).trans ((sset_k _ _ (by decide)).trans ((sset_k _ _ (by decide)).trans ((sset_k _ _ (by decide)).trans ((sset_k _ _ (by decide)).trans ((sset_k _ _ (by decide)).trans ((sset_k _ _ (by decide)).trans ((sset_k _ _ (by decide)).trans ((sset_k _ _ (by decide)).trans (hm.2.1))))))))))), ((sset_k _ _ (by decide)).trans ((sset_k _ _ (by decide)).trans ((sset_k _ _ (by decide)).trans ((sset_k _ _ (by decide)).trans ((sset_k _ _ (by decide)).trans ((sset_k _ _ (by decide)).trans ((sset_k _ _ (by decide)).trans ((sset_k _ _ (by decide)).trans ((sset_k _ _ (by decide)).trans ((sset_k _ _ (by decide)).trans (hm.2.2.1))))))))))), ((sset_k _ _ (by decide)).trans ((sset_k _ _ (by decide)).trans ((sset_k _ _ (by decide)).trans ((sset_k _ _ (by decide)).trans ((sset_k _ _ (by decide)).trans ((sset_k _ _ (by decide)).trans ((sset_k _ _ (by decide)).trans ((sset_k _ _ (by decide)).trans ((sset_k _ _ (by decide)).trans ((sset_k _ _ (by decide)).trans (hm.2.2.2.1))))))))))), ((sset_k _ _ (by decide)).trans ((sset_k _ _ (by decide)).trans ((sset_k _ _ (by decide)).trans ((sset_k _ _ (by decide)).trans ((sset_k _ _ (by decide)).trans ((sset_k _ _ (by decide)).trans ((sset_k _ _ (by decide)).trans ((sset_k _ _ (by decide)).trans ((sset_k _ _ (by decide)).trans ((sset_k _ _ (by decide)).trans (hm.2.2.2.2.1))))))))))), ((sset_k _ _ (by decide)).trans ((sset_k _ _ (by decide)).trans ((sset_k _ _ (by decide)).trans ((sset_k _ _ (by decide)).trans ((sset_k _ _ (by decide)).trans ((sset_k _ _ (by decide)).trans ((sset_k _ _ (by decide)).trans ((sset_k _ _ (by decide)).trans ((sset_k _ _ (by decide)).trans ((sset_k _ _ (by decide)).trans (hm.2.2.2.2.2.1))))))))))), ((sset_k _ _ (by decide)).trans ((sset_k _ _ (by decide)).trans ((sset_k _ _ (by decide)).trans ((sset_k _ _ (by decide)).trans ((sset_k _ _ (by decide)).trans ((sset_k _ _ (by decide)).trans ((sset_k _ _ (by decide)).trans ((sset_k _ _ (by decide)).trans ((sset_k _ _ (by decide)).trans ((sset_k _ _ (by decide)).trans (hm.2.2.2.2.2.2.1))))))))))), ((sset_k _ _ (by decide)).trans ((sset_k _ _ (by decide)).trans ((sset_k _ _ (by decide)).trans ((sset_k _ _ (by decide)).trans ((sset_k _ _ (by decide)).trans ((sset_k _ _ (by decide)).trans ((sset_k _ _ (by decide)).trans ((sset_k _ _ (by decide)).trans (sset_self _ _ _ _))))))))), ((sset_k _ _ (by decide)).trans ((sset_k _ _ (by decide)).trans ((sset_k _ _ (by decide)).trans ((sset_k _ _ (by decide)).trans ((sset_k _ _ (by decide)).trans (sset_self _ _ _ _)))))), ((sset_k _ _ (by decide)).trans ((sset_k _ _ (by decide)).trans ((sset_k _ _ (by decide)).trans ((sset_k _ _ (by decide)).trans (sset_self _ _ _ _))))), ((sset_k _ _ (by decide)).trans (sset_self _ _ _ _)), ((sset_k _ _ (by decide)).trans ((sset_k _ _ (by decide)).trans ((sset_k _ _ (by decide)).trans ((sset_k _ _ (by decide)).trans ((sset_k _ _ (by decide)).trans ((sset_k _ _ (by decide)).trans ((sset_k _ _ (by decide)).trans ((sset_k _ _ (by decide)).trans ((sset_k _ _ (by decide)).trans ((sset_k _ _ (by decide)).trans (hm.2.2.2.2.2.2.2.2.2.2.2.1))))))))))), ((sset_k _ _ (by decide)).trans ((sset_k _ _ (by decide)).trans ((sset_k _ _ (by decide)).trans ((sset_k _ _ (by decide)).trans ((sset_k _ _ (by decide)).trans ((sset_k _ _ (by decide)).trans ((sset_k _ _ (by decide)).trans ((sset_k _ _ (by decide)).trans ((sset_k _ _ (by decide)).trans ((sset_k _ _ (by decide)).trans (hm.2.2.2.2.2.2.2.2.2.2.2.2.1))))))))))), ((sset_k _ _ (by decide)).trans ((sset_k _ _ (by decide)).trans ((sset_k _ _ (by decide)).trans ((sset_k _ _ (by decide)).trans ((sset_k _ _ (by decide)).trans ((sset_k _ _ (by decide)).trans ((sset_k _ _ (by decide)).trans ((sset_k _ _ (by decide)).trans ((sset_k _ _ (by decide)).trans ((sset_k _ _ (by decide)).trans (hm.2.2.2.2.2.2.2.2.2.2.2.2.2)))))))))))⟩, rfl, by rw [ea]; exact hI.ldR _ _ _ _⟩, _, rfl, fun _ => by rw [ev, i2]⟩)
            · obtain ⟨rfl, ea⟩ := hrel.c3 hn1 hfk (by have z9 := (nI_eq (a := r0) (b := 60) (by omega) (by omega)).mp c187; omega)
              refine s_aload_n dX4_load_190 rfl ?_
              refine s_iconst (v := 3) dX4_load_191 (by decide) ?_
              refine s_callV (As := [.int 3]) (rest := []) (n := 1) (kd := 12) (ix := 0) (fun l hl => c_X4_raise G l hl ad M c0 t0 hd on tw dp cl gr r0 kd fl co sm wk sp b0 mu ⟨hm.1, hm.2.1, hm.2.2.1, hm.2.2.2.1, hm.2.2.2.2.1, hm.2.2.2.2.2.1, hm.2.2.2.2.2.2.1, hm.2.2.2.2.2.2.2.1, hm.2.2.2.2.2.2.2.2.1, hm.2.2.2.2.2.2.2.2.2.1, hm.2.2.2.2.2.2.2.2.2.2.1, hm.2.2.2.2.2.2.2.2.2.2.2.1, hm.2.2.2.2.2.2.2.2.2.2.2.2.1, hm.2.2.2.2.2.2.2.2.2.2.2.2.2⟩ 3) gX4_load_X4_raise rfl (by decide +kernel) hm.1 rfl rfl ⟨(Nat.le_of_ble_eq_true rfl), (Nat.le_of_ble_eq_true rfl)⟩ ⟨(Nat.le_of_ble_eq_true rfl), (Nat.le_of_ble_eq_true rfl)⟩ (Nat.le_of_ble_eq_true rfl) dX4_load_192 rfl (fun r9 ad9 M9 h9 => ?_)
              obtain ⟨rfl, rfl, hm9, hs9⟩ := h9
              exact s_iret rfl (rfl) dX4_load_195 (Nat.le_of_ble_eq_true rfl) (Nat.le_of_ble_eq_true rfl) (⟨rfl, (sSame.rfl.trans hs9), ⟨(3, t0, hd, on, tw, dp, cl, gr, r0, kd, fl, co, sm, wk, sp, b0, mu), hm9, rfl, by rw [ea]; exact hI.any _ _ _ _ _⟩, _, rfl, fun q => absurd q (by decide)⟩)
    · refine s_iload_n dX4_load_16 rfl ?_
      refine s_callS (As := [.int (nI 4)]) (rest := []) (n := 1) (fun l hl => c_X4_treesIn G l hl ad M 4 (by omega)) gX4_load_X4_treesIn rfl (by decide +kernel) rfl ⟨(Nat.le_of_ble_eq_true rfl), (Nat.le_of_ble_eq_true rfl)⟩ ⟨(Nat.le_of_ble_eq_true rfl), (Nat.le_of_ble_eq_true rfl)⟩ (Nat.le_of_ble_eq_true rfl) dX4_load_17 rfl (fun r9 ad9 M9 h9 => ?_)
      obtain ⟨rfl, rfl, rfl⟩ := h9
      have etf : tfI (nI 4) = 2 := tfI_in (by omega)
      refine s_st (st' := [.int 2]) rfl ?_
      refine s_goto 24 dX4_load_20 (by decide) ?_
      refine s_istore dX4_load_24 rfl rfl ?_
      refine s_lv (lv' := [some (.ref (ad 12 0)), some (.int (nI 4)), some (.int a), some (.int b), some (.int c), some (.int (jB zq)), some (.int 2), none, none]) rfl ?_
      refine s_aload_n dX4_load_26 rfl ?_
      refine s_iload_n dX4_load_27 rfl ?_
      refine s_callV (As := [.int a]) (rest := []) (n := 1) (kd := 12) (ix := 0) (fun l hl => c_X4_isTree G l hl ad M c0 t0 hd on tw dp cl gr r0 kd fl co sm wk sp b0 mu ⟨hm.1, hm.2.1, hm.2.2.1, hm.2.2.2.1, hm.2.2.2.2.1, hm.2.2.2.2.2.1, hm.2.2.2.2.2.2.1, hm.2.2.2.2.2.2.2.1, hm.2.2.2.2.2.2.2.2.1, hm.2.2.2.2.2.2.2.2.2.1, hm.2.2.2.2.2.2.2.2.2.2.1, hm.2.2.2.2.2.2.2.2.2.2.2.1, hm.2.2.2.2.2.2.2.2.2.2.2.2.1, hm.2.2.2.2.2.2.2.2.2.2.2.2.2⟩ (by omega) a) gX4_load_X4_isTree rfl (by decide +kernel) hm.1 rfl rfl ⟨(Nat.le_of_ble_eq_true rfl), (Nat.le_of_ble_eq_true rfl)⟩ ⟨(Nat.le_of_ble_eq_true rfl), (Nat.le_of_ble_eq_true rfl)⟩ (Nat.le_of_ble_eq_true rfl) dX4_load_28 rfl (fun r9 ad9 M9 h9 => ?_)
      obtain ⟨rfl, rfl, za, rfl, hza⟩ := h9
      rw [i1] at hza
      refine s_if_eq 63 dX4_load_31 (by decide) (fun c31 => ?_) (fun c31 => ?_)
      · obtain ⟨rfl, ea⟩ := hrel.c1 (Or.inl (fun q => by have z9 := hza.mpr q; rw [jB_0.mp c31] at z9; cases z9))
        refine s_aload_n dX4_load_63 rfl ?_
        refine s_iconst (v := 1) dX4_load_64 (by decide) ?_
        refine s_callV (As := [.int 1]) (rest := []) (n := 1) (kd := 12) (ix := 0) (fun l hl => c_X4_raise G l hl ad M c0 t0 hd on tw dp cl gr r0 kd fl co sm wk sp b0 mu ⟨hm.1, hm.2.1, hm.2.2.1, hm.2.2.2.1, hm.2.2.2.2.1, hm.2.2.2.2.2.1, hm.2.2.2.2.2.2.1, hm.2.2.2.2.2.2.2.1, hm.2.2.2.2.2.2.2.2.1, hm.2.2.2.2.2.2.2.2.2.1, hm.2.2.2.2.2.2.2.2.2.2.1, hm.2.2.2.2.2.2.2.2.2.2.2.1, hm.2.2.2.2.2.2.2.2.2.2.2.2.1, hm.2.2.2.2.2.2.2.2.2.2.2.2.2⟩ 1) gX4_load_X4_raise rfl (by decide +kernel) hm.1 rfl rfl ⟨(Nat.le_of_ble_eq_true rfl), (Nat.le_of_ble_eq_true rfl)⟩ ⟨(Nat.le_of_ble_eq_true rfl), (Nat.le_of_ble_eq_true rfl)⟩ (Nat.le_of_ble_eq_true rfl) dX4_load_65 rfl (fun r9 ad9 M9 h9 => ?_)
        obtain ⟨rfl, rfl, hm9, hs9⟩ := h9
        exact s_iret rfl (rfl) dX4_load_68 (Nat.le_of_ble_eq_true rfl) (Nat.le_of_ble_eq_true rfl) (⟨rfl, (sSame.rfl.trans hs9), ⟨(1, t0, hd, on, tw, dp, cl, gr, r0, kd, fl, co, sm, wk, sp, b0, mu), hm9, rfl, by rw [ea]; exact hI.any _ _ _ _ _⟩, _, rfl, fun q => absurd q (by decide)⟩)
      · refine s_iload dX4_load_34 rfl ?_
        refine s_iconst (v := 1) dX4_load_36 (by decide) ?_
        refine s_icmp_le 48 dX4_load_37 (by decide) (fun c37 => absurd c37 (by decide)) (fun c37 => ?_)
        refine s_aload_n dX4_load_40 rfl ?_
        refine s_iload_n dX4_load_41 rfl ?_
        refine s_callV (As := [.int b]) (rest := []) (n := 1) (kd := 12) (ix := 0) (fun l hl => c_X4_isTree G l hl ad M c0 t0 hd on tw dp cl gr r0 kd fl co sm wk sp b0 mu ⟨hm.1, hm.2.1, hm.2.2.1, hm.2.2.2.1, hm.2.2.2.2.1, hm.2.2.2.2.2.1, hm.2.2.2.2.2.2.1, hm.2.2.2.2.2.2.2.1, hm.2.2.2.2.2.2.2.2.1, hm.2.2.2.2.2.2.2.2.2.1, hm.2.2.2.2.2.2.2.2.2.2.1, hm.2.2.2.2.2.2.2.2.2.2.2.1, hm.2.2.2.2.2.2.2.2.2.2.2.2.1, hm.2.2.2.2.2.2.2.2.2.2.2.2.2⟩ (by omega) b) gX4_load_X4_isTree rfl (by decide +kernel) hm.1 rfl rfl ⟨(Nat.le_of_ble_eq_true rfl), (Nat.le_of_ble_eq_true rfl)⟩ ⟨(Nat.le_of_ble_eq_true rfl), (Nat.le_of_ble_eq_true rfl)⟩ (Nat.le_of_ble_eq_true rfl) dX4_load_42 rfl (fun r9 ad9 M9 h9 => ?_)
        obtain ⟨rfl, rfl, zb, rfl, hzb⟩ := h9
        rw [i1] at hzb
        refine s_if_eq 63 dX4_load_45 (by decide) (fun c45 => ?_) (fun c45 => ?_)
        · obtain ⟨rfl, ea⟩ := hrel.c1 (Or.inr (Or.inl ⟨by rw [etf]; omega, (fun q => by have z9 := hzb.mpr q; rw [jB_0.mp c45] at z9; cases z9)⟩))
          refine s_aload_n dX4_load_63 rfl ?_
          refine s_iconst (v := 1) dX4_load_64 (by decide) ?_
          refine s_callV (As := [.int 1]) (rest := []) (n := 1) (kd := 12) (ix := 0) (fun l hl => c_X4_raise G l hl ad M c0 t0 hd on tw dp cl gr r0 kd fl co sm wk sp b0 mu ⟨hm.1, hm.2.1, hm.2.2.1, hm.2.2.2.1, hm.2.2.2.2.1, hm.2.2.2.2.2.1, hm.2.2.2.2.2.2.1, hm.2.2.2.2.2.2.2.1, hm.2.2.2.2.2.2.2.2.1, hm.2.2.2.2.2.2.2.2.2.1, hm.2.2.2.2.2.2.2.2.2.2.1, hm.2.2.2.2.2.2.2.2.2.2.2.1, hm.2.2.2.2.2.2.2.2.2.2.2.2.1, hm.2.2.2.2.2.2.2.2.2.2.2.2.2⟩ 1) gX4_load_X4_raise rfl (by decide +kernel) hm.1 rfl rfl ⟨(Nat.le_of_ble_eq_true rfl), (Nat.le_of_ble_eq_true rfl)⟩ ⟨(Nat.le_of_ble_eq_true rfl), (Nat.le_of_ble_eq_true rfl)⟩ (Nat.le_of_ble_eq_true rfl) dX4_load_65 rfl (fun r9 ad9 M9 h9 => ?_)
          obtain ⟨rfl, rfl, hm9, hs9⟩ := h9
          exact s_iret rfl (rfl) dX4_load_68 (Nat.le_of_ble_eq_true rfl) (Nat.le_of_ble_eq_true rfl) (⟨rfl, (sSame.rfl.trans hs9), ⟨(1, t0, hd, on, tw, dp, cl, gr, r0, kd, fl, co, sm, wk, sp, b0, mu), hm9, rfl, by rw [ea]; exact hI.any _ _ _ _ _⟩, _, rfl, fun q => absurd q (by decide)⟩)
        · refine s_iload dX4_load_48 rfl ?_
          refine s_iconst (v := 2) dX4_load_50 (by decide) ?_
          refine s_icmp_le 69 dX4_load_51 (by decide) (fun c51 => ?_) (fun c51 => absurd (by decide) c51)
          have hn1 : ¬ lC1 α (nI 4) a b c := fun z => z.elim (fun z => z (hza.mp (Bool.of_not_eq_false (fun q => c31 (jB_0.mpr q))))) (fun z => z.elim (fun z => z.2 (hzb.mp (Bool.of_not_eq_false (fun q => c45 (jB_0.mpr q))))) (fun z => absurd z.1 (by rw [etf]; omega)))
          refine s_iload dX4_load_69 rfl ?_
          refine s_if_ne 80 dX4_load_71 (by decide) (fun c71 => ?_) (fun c71 => absurd c71 (c13))
          refine s_iload_n dX4_load_80 rfl ?_
          refine s_iconst (v := 1) dX4_load_81 (by decide) ?_
          refine s_icmp_ne 98 dX4_load_82 (by decide) (fun c82 => ?_) (fun c82 => absurd c82 (by decide))
          refine s_iload_n dX4_load_98 rfl ?_
          refine s_iconst (v := 2) dX4_load_99 (by decide) ?_
          refine s_icmp_eq 163 dX4_load_100 (by decide) (fun c100 => absurd c100 (by decide)) (fun c100 => ?_)
          refine s_iload_n dX4_load_103 rfl ?_
          refine s_iconst (v := 3) dX4_load_104 (by decide) ?_
          refine s_icmp_ne 138 dX4_load_105 (by decide) (fun c105 => ?_) (fun c105 => absurd c105 (by decide))
          refine s_iload_n dX4_load_138 rfl ?_
          refine s_iconst (v := 5) dX4_load_139 (by decide) ?_
          refine s_icmp_ne 157 dX4_load_140 (by decide) (fun c140 => ?_) (fun c140 => absurd c140 (by decide))
          refine s_iload dX4_load_157 rfl ?_
          refine s_iconst (v := -1) dX4_load_159 (by decide) ?_
          refine s_icmp_ne 167 dX4_load_160 (by decide) (fun c160 => ?_) (fun c160 => ?_)
          · refine s_iconst (v := 0) dX4_load_167 (by decide) ?_
            refine s_istore dX4_load_168 rfl rfl ?_
            refine s_lv (lv' := [some (.ref (ad 12 0)), some (.int (nI 4)), some (.int a), some (.int b), some (.int c), some (.int (jB zq)), some (.int 2), some (.int 0), none]) rfl ?_
            refine s_iload dX4_load_170 rfl ?_
            refine s_if_ne 181 dX4_load_172 (by decide) (fun c172 => absurd (rfl) c172) (fun c172 => ?_)
            obtain ⟨rfl, ea⟩ := hrel.c2 hn1 (by rw [show fitsK (nI 4) b c = _ from fitsK_4 b c]; exact c160)
            refine s_aload_n dX4_load_175 rfl ?_
            refine s_iconst (v := 2) dX4_load_176 (by decide) ?_
            refine s_callV (As := [.int 2]) (rest := []) (n := 1) (kd := 12) (ix := 0) (fun l hl => c_X4_raise G l hl ad M c0 t0 hd on tw dp cl gr r0 kd fl co sm wk sp b0 mu ⟨hm.1, hm.2.1, hm.2.2.1, hm.2.2.2.1, hm.2.2.2.2.1, hm.2.2.2.2.2.1, hm.2.2.2.2.2.2.1, hm.2.2.2.2.2.2.2.1, hm.2.2.2.2.2.2.2.2.1, hm.2.2.2.2.2.2.2.2.2.1, hm.2.2.2.2.2.2.2.2.2.2.1, hm.2.2.2.2.2.2.2.2.2.2.2.1, hm.2.2.2.2.2.2.2.2.2.2.2.2.1, hm.2.2.2.2.2.2.2.2.2.2.2.2.2⟩ 2) gX4_load_X4_raise rfl (by decide +kernel) hm.1 rfl rfl ⟨(Nat.le_of_ble_eq_true rfl), (Nat.le_of_ble_eq_true rfl)⟩ ⟨(Nat.le_of_ble_eq_true rfl), (Nat.le_of_ble_eq_true rfl)⟩ (Nat.le_of_ble_eq_true rfl) dX4_load_177 rfl (fun r9 ad9 M9 h9 => ?_)
            obtain ⟨rfl, rfl, hm9, hs9⟩ := h9
            exact s_iret rfl (rfl) dX4_load_180 (Nat.le_of_ble_eq_true rfl) (Nat.le_of_ble_eq_true rfl) (⟨rfl, (sSame.rfl.trans hs9), ⟨(2, t0, hd, on, tw, dp, cl, gr, r0, kd, fl, co, sm, wk, sp, b0, mu), hm9, rfl, by rw [ea]; exact hI.any _ _ _ _ _⟩, _, rfl, fun q => absurd q (by decide)⟩)
          · refine s_iconst (v := 1) dX4_load_163 (by decide) ?_
            refine s_goto 168 dX4_load_164 (by decide) ?_
            refine s_istore dX4_load_168 rfl rfl ?_
            refine s_lv (lv' := [some (.ref (ad 12 0)), some (.int (nI 4)), some (.int a), some (.int b), some (.int c), some (.int (jB zq)), some (.int 2), some (.int 1), none]) rfl ?_
            refine s_iload dX4_load_170 rfl ?_
            refine s_if_ne 181 dX4_load_172 (by decide) (fun c172 => ?_) (fun c172 => absurd c172 (by decide))
            have hfk : fitsK (nI 4) b c := by rw [show fitsK (nI 4) b c = _ from fitsK_4 b c]; exact c160
            refine s_aload_n dX4_load_181 rfl ?_
            refine s_get (kd := 12) (ix := 0) (ci := 5) (fs := [.int c0, .int (nI t0), .ref (ad 13 0), .ref (ad 14 0), .ref (ad 15 0), .ref (ad 16 0), .ref (ad 17 0), .ref (ad 18 0), .int (nI r0), .ref (ad 19 0), .ref (ad 20 0), .ref (ad 21 0), .ref (ad 22 0), .ref (ad 23 0), .ref (ad 24 0), .int (jB b0), .ref (ad 25 0)])  hm.1 rfl in_X4_load_X4 8 (by decide) (by decide +kernel) rfl rfl dX4_load_182 ?_
            refine s_bipush (v := 60) dX4_load_185 (by decide) ?_
            refine s_icmp_ne 196 dX4_load_187 (by decide) (fun c187 => ?_) (fun c187 => ?_)
            · obtain ⟨rfl, ev, hR1, ea⟩ := hrel.c0 hn1 hfk (fun z9 => c187 (by rw [show r0 = 60 by omega]; rfl))
              have hr1 : r0 < 60 := by omega
              refine s_aload_n dX4_load_196 rfl ?_
              refine s_iconst (v := 0) dX4_load_197 (by decide) ?_
              refine s_put (kd := 12) (ix := 0) (ci := 5) (v := .int 0) (ty := tyX4 0) (fs := [.int c0, .int (nI t0), .ref (ad 13 0), .ref (ad 14 0), .ref (ad 15 0), .ref (ad 16 0), .ref (ad 17 0), .ref (ad 18 0), .int (nI r0), .ref (ad 19 0), .ref (ad 20 0), .ref (ad 21 0), .ref (ad 22 0), .ref (ad 23 0), .ref (ad 24 0), .int (jB b0), .ref (ad 25 0)])  tyX4 tyX4_ok nmX4 hm.1 rfl in_X4_load_X4 0 (by decide) (by decide +kernel) rfl rfl (tyX4_ok 0 (by decide)) (rfl) (rfl) (Nat.le_of_ble_eq_true rfl) dX4_load_198 ?_
              refine s_M (M' := (sset M 12 0 (.inr (5, [.int 0, .int (nI t0), .ref (ad 13 0), .ref (ad 14 0), .ref (ad 15 0), .ref (ad 16 0), .ref (ad 17 0), .ref (ad 18 0), .int (nI r0), .ref (ad 19 0), .ref (ad 20 0), .ref (ad 21 0), .ref (ad 22 0), .ref (ad 23 0), .ref (ad 24 0), .int (jB b0), .ref (ad 25 0)])))) rfl ?_
              refine s_aload_n dX4_load_201 rfl ?_
              refine s_get (kd := 12) (ix := 0) (ci := 5) (fs := [.int 0, .int (nI t0), .ref (ad 13 0), .ref (ad 14 0), .ref (ad 15 0), .ref (ad 16 0), .ref (ad 17 0), .ref (ad 18 0), .int (nI r0), .ref (ad 19 0), .ref (ad 20 0), .ref (ad 21 0), .ref (ad 22 0), .ref (ad 23 0), .ref (ad 24 0), .int (jB b0), .ref (ad 25 0)])  (sset_self _ _ _ _) rfl in_X4_load_X4 9 (by decide) (by decide +kernel) rfl rfl dX4_load_202 ?_
              refine s_aload_n dX4_load_205 rfl ?_
              refine s_get (kd := 12) (ix := 0) (ci := 5) (fs := [.int 0, .int (nI t0), .ref (ad 13 0), .ref (ad 14 0), .ref (ad 15 0), .ref (ad 16 0), .ref (ad 17 0), .ref (ad 18 0), .int (nI r0), .ref (ad 19 0), .ref (ad 20 0), .ref (ad 21 0), .ref (ad 22 0), .ref (ad 23 0), .ref (ad 24 0), .int (jB b0), .ref (ad 25 0)])  (sset_self _ _ _ _) rfl in_X4_load_X4 8 (by decide) (by decide +kernel) rfl rfl dX4_load_206 ?_
              refine s_iload_n dX4_load_209 rfl ?_
              refine s_iast (kd := 19) (ix := 0) (n := 60) (f := kd) (j := r0) (x := nI 4) ((sset_k _ _ (by decide)).trans (hm.2.2.2.2.2.2.2.1))  (rfl) (by omega) (by decide) dX4_load_210 ?_
              refine s_aload_n dX4_load_211 rfl ?_
              refine s_get (kd := 12) (ix := 0) (ci := 5) (fs := [.int 0, .int (nI t0), .ref (ad 13 0), .ref (ad 14 0), .ref (ad 15 0), .ref (ad 16 0), .ref (ad 17 0), .ref (ad 18 0), .int (nI r0), .ref (ad 19 0), .ref (ad 20 0), .ref (ad 21 0), .ref (ad 22 0), .ref (ad 23 0), .ref (ad 24 0), .int (jB b0), .ref (ad 25 0)])  ((sset_k _ _ (by decide)).trans (sset_self _ _ _ _)) rfl in_X4_load_X4 10 (by decide) (by decide +kernel) rfl rfl dX4_load_212 ?_
              refine s_iconst (v := 3) dX4_load_215 (by decide) ?_
              refine s_aload_n dX4_load_216 rfl ?_
              refine s_get (kd := 12) (ix := 0) (ci := 5) (fs := [.int 0, .int (nI t0), .ref (ad 13 0), .ref (ad 14 0), .ref (ad 15 0), .ref (ad 16 0), .ref (ad 17 0), .ref (ad 18 0), .int (nI r0), .ref (ad 19 0), .ref (ad 20 0), .ref (ad 21 0), .ref (ad 22 0), .ref (ad 23 0), .ref (ad 24 0), .int (jB b0), .ref (ad 25 0)])  ((sset_k _ _ (by decide)).trans (sset_self _ _ _ _)) rfl in_X4_load_X4 8 (by decide) (by decide +kernel) rfl rfl dX4_load_217 ?_
              refine s_imul dX4_load_220 ?_
              refine s_eqi (y := nI (3 * r0)) (nI_mul 3 r0) ?_
              refine s_iload_n dX4_load_221 rfl ?_
              refine s_iast (kd := 20) (ix := 0) (n := 180) (f := fl) (j := 3 * r0) (x := a) ((sset_k _ _ (by decide)).trans ((sset_k _ _ (by decide)).trans (hm.2.2.2.2.2.2.2.2.1)))  (rfl) (by omega) (by decide) dX4_load_222 ?_
              refine s_aload_n dX4_load_223 rfl ?_
              refine s_get (kd := 12) (ix := 0) (ci := 5) (fs := [.int 0, .int (nI t0), .ref (ad 13 0), .ref (ad 14 0), .ref (ad 15 0), .ref (ad 16 0), .ref (ad 17 0), .ref (ad 18 0), .int (nI r0), .ref (ad 19 0), .ref (ad 20 0), .ref (ad 21 0), .ref (ad 22 0), .ref (ad 23 0), .ref (ad 24 0), .int (jB b0), .ref (ad 25 0)])  ((sset_k _ _ (by decide)).trans ((sset_k _ _ (by decide)).trans (sset_self _ _ _ _))) rfl in_X4_load_X4 10 (by decide) (by decide +kernel) rfl rfl dX4_load_224 ?_
              refine s_iconst (v := 3) dX4_load_227 (by decide) ?_
              refine s_aload_n dX4_load_228 rfl ?_
              refine s_get (kd := 12) (ix := 0) (ci := 5) (fs := [.int 0, .int (nI t0), .ref (ad 13 0), .ref (ad 14 0), .ref (ad 15 0), .ref (ad 16 0), .ref (ad 17 0), .ref (ad 18 0), .int (nI r0), .ref (ad 19 0), .ref (ad 20 0), .ref (ad 21 0), .ref (ad 22 0), .ref (ad 23 0), .ref (ad 24 0), .int (jB b0), .ref (ad 25 0)])  ((sset_k _ _ (by decide)).trans ((sset_k _ _ (by decide)).trans (sset_self _ _ _ _))) rfl in_X4_load_X4 8 (by decide) (by decide +kernel) rfl rfl dX4_load_229 ?_
              refine s_imul dX4_load_232 ?_
              refine s_eqi (y := nI (3 * r0)) (nI_mul 3 r0) ?_
              refine s_iconst (v := 1) dX4_load_233 (by decide) ?_
              refine s_iadd dX4_load_234 ?_
              refine s_eqi (y := nI (3 * r0 + 1)) (nI_add _ _) ?_
              refine s_iload_n dX4_load_235 rfl ?_
              refine s_iast (kd := 20) (ix := 0) (n := 180) (f := upd fl (3 * r0) a) (j := 3 * r0 + 1) (x := b) (sset_self _ _ _ _)  (rfl) (by omega) (by decide) dX4_load_236 ?_
              refine s_aload_n dX4_load_237 rfl ?_
              refine s_get (kd := 12) (ix := 0) (ci := 5) (fs := [.int 0, .int (nI t0), .ref (ad 13 0), .ref (ad 14 0), .ref (ad 15 0), .ref (ad 16 0), .ref (ad 17 0), .ref (ad 18 0), .int (nI r0), .ref (ad 19 0), .ref (ad 20 0), .ref (ad 21 0), .ref (ad 22 0), .ref (ad 23 0), .ref (ad 24 0), .int (jB b0), .ref (ad 25 0)])  ((sset_k _ _ (by decide)).trans ((sset_k _ _ (by decide)).trans ((sset_k _ _ (by decide)).trans (sset_self _ _ _ _)))) rfl in_X4_load_X4 10 (by decide) (by decide +kernel) rfl rfl dX4_load_238 ?_
              refine s_iconst (v := 3) dX4_load_241 (by decide) ?_
              refine s_aload_n dX4_load_242 rfl ?_
              refine s_get (kd := 12) (ix := 0) (ci := 5) (fs := [.int 0, .int (nI t0), .ref (ad 13 0), .ref (ad 14 0), .ref (ad 15 0), .ref (ad 16 0), .ref (ad 17 0), .ref (ad 18 0), .int (nI r0), .ref (ad 19 0), .ref (ad 20 0), .ref (ad 21 0), .ref (ad 22 0), .ref (ad 23 0), .ref (ad 24 0), .int (jB b0), .ref (ad 25 0)])  ((sset_k _ _ (by decide)).trans ((sset_k _ _ (by decide)).trans ((sset_k _ _ (by decide)).trans (sset_self _ _ _ _)))) rfl in_X4_load_X4 8 (by decide) (by decide +kernel) rfl rfl dX4_load_243 ?_
              refine s_imul dX4_load_246 ?_
              refine s_eqi (y := nI (3 * r0)) (nI_mul 3 r0) ?_
              refine s_iconst (v := 2) dX4_load_247 (by decide) ?_
              refine s_iadd dX4_load_248 ?_
              refine s_eqi (y := nI (3 * r0 + 2)) (nI_add _ _) ?_
              refine s_iload dX4_load_249 rfl ?_
              refine s_iast (kd := 20) (ix := 0) (n := 180) (f := upd (upd fl (3 * r0) a) (3 * r0 + 1) b) (j := 3 * r0 + 2) (x := c) (sset_self _ _ _ _)  (rfl) (by omega) (by decide) dX4_load_251 ?_
              refine s_aload_n dX4_load_252 rfl ?_
              refine s_get (kd := 12) (ix := 0) (ci := 5) (fs := [.int 0, .int (nI t0), .ref (ad 13 0), .ref (ad 14 0), .ref (ad 15 0), .ref (ad 16 0), .ref (ad 17 0), .ref (ad 18 0), .int (nI r0), .ref (ad 19 0), .ref (ad 20 0), .ref (ad 21 0), .ref (ad 22 0), .ref (ad 23 0), .ref (ad 24 0), .int (jB b0), .ref (ad 25 0)])  ((sset_k _ _ (by decide)).trans ((sset_k _ _ (by decide)).trans ((sset_k _ _ (by decide)).trans ((sset_k _ _ (by decide)).trans (sset_self _ _ _ _))))) rfl in_X4_load_X4 11 (by decide) (by decide +kernel) rfl rfl dX4_load_253 ?_
              refine s_aload_n dX4_load_256 rfl ?_
              refine s_get (kd := 12) (ix := 0) (ci := 5) (fs := [.int 0, .int (nI t0), .ref (ad 13 0), .ref (ad 14 0), .ref (ad 15 0), .ref (ad 16 0), .ref (ad 17 0), .ref (ad 18 0), .int (nI r0), .ref (ad 19 0), .ref (ad 20 0), .ref (ad 21 0), .ref (ad 22 0), .ref (ad 23 0), .ref (ad 24 0), .int (jB b0), .ref (ad 25 0)])  ((sset_k _ _ (by decide)).trans ((sset_k _ _ (by decide)).trans ((sset_k _ _ (by decide)).trans ((sset_k _ _ (by decide)).trans (sset_self _ _ _ _))))) rfl in_X4_load_X4 8 (by decide) (by decide +kernel) rfl rfl dX4_load_257 ?_
              refine s_iconst (v := -1) dX4_load_260 (by decide) ?_
              refine s_iast (kd := 21) (ix := 0) (n := 60) (f := co) (j := r0) (x := (-1)) ((sset_k _ _ (by decide)).trans ((sset_k _ _ (by decide)).trans ((sset_k _ _ (by decide)).trans ((sset_k _ _ (by decide)).trans ((sset_k _ _ (by decide)).trans (hm.2.2.2.2.2.2.2.2.2.1))))))  (rfl) (by omega) (by decide) dX4_load_261 ?_
              refine s_iconst (v := 0) dX4_load_262 (by decide) ?_
              refine s_istore dX4_load_263 rfl rfl ?_
              refine s_lv (lv' := [some (.ref (ad 12 0)), some (.int (nI 4)), some (.int a), some (.int b), some (.int c), some (.int (jB zq)), some (.int 2), some (.int 1), some (.int 0)]) rfl ?_
              refine s_iload dX4_load_265 rfl ?_
              refine s_iconst (v := 3) dX4_load_267 (by decide) ?_
              refine s_icmp_ge 292 dX4_load_268 (by decide) (fun c268 => absurd c268 (by decide)) (fun c268 => ?_)
              refine s_aload_n dX4_load_271 rfl ?_
              refine s_get (kd := 12) (ix := 0) (ci := 5) (fs := [.int 0, .int (nI t0), .ref (ad 13 0), .ref (ad 14 0), .ref (ad 15 0), .ref (ad 16 0), .ref (ad 17 0), .ref (ad 18 0), .int (nI r0), .ref (ad 19 0), .ref (ad 20 0), .ref (ad 21 0), .ref (ad 22 0), .ref (ad 23 0), .ref (ad 24 0), .int (jB b0), .ref (ad 25 0)])  ((sset_k _ _ (by decide)).trans ((sset_k _ _ (by decide)).trans ((sset_k _ _ (by decide)).trans ((sset_k _ _ (by decide)).trans ((sset_k _ _ (by decide)).trans (sset_self _ _ _ _)))))) rfl in_X4_load_X4 12 (by decide) (by decide +kernel) rfl rfl dX4_load_272 ?_
              refine s_iconst (v := 3) dX4_load_275 (by decide) ?_
              refine s_aload_n dX4_load_276 rfl ?_
              refine s_get (kd := 12) (ix := 0) (ci := 5) (fs := [.int 0, .int (nI t0), .ref (ad 13 0), .ref (ad 14 0), .ref (ad 15 0), .ref (ad 16 0), .ref (ad 17 0), .ref (ad 18 0), .int (nI r0), .ref (ad 19 0), .ref (ad 20 0), .ref (ad 21 0), .ref (ad 22 0), .ref (ad 23 0), .ref (ad 24 0), .int (jB b0), .ref (ad 25 0)])  ((sset_k _ _ (by decide)).trans ((sset_k _ _ (by decide)).trans ((sset_k _ _ (by decide)).trans ((sset_k _ _ (by decide)).trans ((sset_k _ _ (by decide)).trans (sset_self _ _ _ _)))))) rfl in_X4_load_X4 8 (by decide) (by decide +kernel) rfl rfl dX4_load_277 ?_
              refine s_imul dX4_load_280 ?_
              refine s_eqi (y := nI (3 * r0)) (nI_mul 3 r0) ?_
              refine s_iload dX4_load_281 rfl ?_
              refine s_iadd dX4_load_283 ?_
              refine s_eqi (y := nI (3 * r0 + 0)) (nI_add _ _) ?_
              refine s_iconst (v := 0) dX4_load_284 (by decide) ?_
              refine s_iast (kd := 22) (ix := 0) (n := 180) (f := sm) (j := 3 * r0 + 0) (x := 0) ((sset_k _ _ (by decide)).trans ((sset_k _ _ (by decide)).trans ((sset_k _ _ (by decide)).trans ((sset_k _ _ (by decide)).trans ((sset_k _ _ (by decide)).trans ((sset_k _ _ (by decide)).trans (hm.2.2.2.2.2.2.2.2.2.2.1)))))))  (rfl) (by omega) (by decide) dX4_load_285 ?_
              refine s_iinc (v := 1) dX4_load_286 rfl (by decide) rfl ?_
              refine s_lv (lv' := [some (.ref (ad 12 0)), some (.int (nI 4)), some (.int a), some (.int b), some (.int c), some (.int (jB zq)), some (.int 2), some (.int 1), some (.int 1)]) rfl ?_
              refine s_goto 265 dX4_load_289 (by decide) ?_
              refine s_iload dX4_load_265 rfl ?_
              refine s_iconst (v := 3) dX4_load_267 (by decide) ?_
              refine s_icmp_ge 292 dX4_load_268 (by decide) (fun c268 => absurd c268 (by decide)) (fun c268 => ?_)
              refine s_aload_n dX4_load_271 rfl ?_
              refine s_get (kd := 12) (ix := 0) (ci := 5) (fs := [.int 0, .int (nI t0), .ref (ad 13 0), .ref (ad 14 0), .ref (ad 15 0), .ref (ad 16 0), .ref (ad 17 0), .ref (ad 18 0), .int (nI r0), .ref (ad 19 0), .ref (ad 20 0), .ref (ad 21 0), .ref (ad 22 0), .ref (ad 23 0), .ref (ad 24 0), .int (jB b0), .ref (ad 25 0)])  ((sset_k _ _ (by decide)).trans ((sset_k _ _ (by decide)).trans ((sset_k _ _ (by decide)).trans ((sset_k _ _ (by decide)).trans ((sset_k _ _ (by decide)).trans ((sset_k _ _ (by decide)).trans (sset_self _ _ _ _))))))) rfl in_X4_load_X4 12 (by decide) (by decide +kernel) rfl rfl dX4_load_272 ?_
              refine s_iconst (v := 3) dX4_load_275 (by decide) ?_
              refine s_aload_n dX4_load_276 rfl ?_
              refine s_get (kd := 12) (ix := 0) (ci := 5) (fs := [.int 0, .int (nI t0), .ref (ad 13 0), .ref (ad 14 0), .ref (ad 15 0), .ref (ad 16 0), .ref (ad 17 0), .ref (ad 18 0), .int (nI r0), .ref (ad 19 0), .ref (ad 20 0), .ref (ad 21 0), .ref (ad 22 0), .ref (ad 23 0), .ref (ad 24 0), .int (jB b0), .ref (ad 25 0)])  ((sset_k _ _ (by decide)).trans ((sset_k _ _ (by decide)).trans ((sset_k _ _ (by decide)).trans ((sset_k _ _ (by decide)).trans ((sset_k _ _ (by decide)).trans ((sset_k _ _ (by decide)).trans (sset_self _ _ _ _))))))) rfl in_X4_load_X4 8 (by decide) (by decide +kernel) rfl rfl dX4_load_277 ?_
              refine s_imul dX4_load_280 ?_
              refine s_eqi (y := nI (3 * r0)) (nI_mul 3 r0) ?_
              refine s_iload dX4_load_281 rfl ?_
              refine s_iadd dX4_load_283 ?_
              refine s_eqi (y := nI (3 * r0 + 1)) (nI_add _ _) ?_
              refine s_iconst (v := 0) dX4_load_284 (by decide) ?_
              refine s_iast (kd := 22) (ix := 0) (n := 180) (f := upd sm (3 * r0 + 0) 0) (j := 3 * r0 + 1) (x := 0) (sset_self _ _ _ _)  (rfl) (by omega) (by decide) dX4_load_285 ?_
              refine s_iinc (v := 2) dX4_load_286 rfl (by decide) rfl ?_
              refine s_lv (lv' := [some (.ref (ad 12 0)), some (.int (nI 4)), some (.int a), some (.int b), some (.int c), some (.int (jB zq)), some (.int 2), some (.int 1), some (.int 2)]) rfl ?_
              refine s_goto 265 dX4_load_289 (by decide) ?_
              refine s_iload dX4_load_265 rfl ?_
              refine s_iconst (v := 3) dX4_load_267 (by decide) ?_
              refine s_icmp_ge 292 dX4_load_268 (by decide) (fun c268 => absurd c268 (by decide)) (fun c268 => ?_)
              refine s_aload_n dX4_load_271 rfl ?_
              refine s_get (kd := 12) (ix := 0) (ci := 5) (fs := [.int 0, .int (nI t0), .ref (ad 13 0), .ref (ad 14 0), .ref (ad 15 0), .ref (ad 16 0), .ref (ad 17 0), .ref (ad 18 0), .int (nI r0), .ref (ad 19 0), .ref (ad 20 0), .ref (ad 21 0), .ref (ad 22 0), .ref (ad 23 0), .ref (ad 24 0), .int (jB b0), .ref (ad 25 0)])  ((sset_k _ _ (by decide)).trans ((sset_k _ _ (by decide)).trans ((sset_k _ _ (by decide)).trans ((sset_k _ _ (by decide)).trans ((sset_k _ _ (by decide)).trans ((sset_k _ _ (by decide)).trans ((sset_k _ _ (by decide)).trans (sset_self _ _ _ _)))))))) rfl in_X4_load_X4 12 (by decide) (by decide +kernel) rfl rfl dX4_load_272 ?_
              refine s_iconst (v := 3) dX4_load_275 (by decide) ?_
              refine s_aload_n dX4_load_276 rfl ?_
              refine s_get (kd := 12) (ix := 0) (ci := 5) (fs := [.int 0, .int (nI t0), .ref (ad 13 0), .ref (ad 14 0), .ref (ad 15 0), .ref (ad 16 0), .ref (ad 17 0), .ref (ad 18 0), .int (nI r0), .ref (ad 19 0), .ref (ad 20 0), .ref (ad 21 0), .ref (ad 22 0), .ref (ad 23 0), .ref (ad 24 0), .int (jB b0), .ref (ad 25 0)])  ((sset_k _ _ (by decide)).trans ((sset_k _ _ (by decide)).trans ((sset_k _ _ (by decide)).trans ((sset_k _ _ (by decide)).trans ((sset_k _ _ (by decide)).trans ((sset_k _ _ (by decide)).trans ((sset_k _ _ (by decide)).trans (sset_self _ _ _ _)))))))) rfl in_X4_load_X4 8 (by decide) (by decide +kernel) rfl rfl dX4_load_277 ?_
              refine s_imul dX4_load_280 ?_
              refine s_eqi (y := nI (3 * r0)) (nI_mul 3 r0) ?_
              refine s_iload dX4_load_281 rfl ?_
              refine s_iadd dX4_load_283 ?_
              refine s_eqi (y := nI (3 * r0 + 2)) (nI_add _ _) ?_
              refine s_iconst (v := 0) dX4_load_284 (by decide) ?_
              refine s_iast (kd := 22) (ix := 0) (n := 180) (f := upd (upd sm (3 * r0 + 0) 0) (3 * r0 + 1) 0) (j := 3 * r0 + 2) (x := 0) (sset_self _ _ _ _)  (rfl) (by omega) (by decide) dX4_load_285 ?_
              refine s_iinc (v := 3) dX4_load_286 rfl (by decide) rfl ?_
              refine s_lv (lv' := [some (.ref (ad 12 0)), some (.int (nI 4)), some (.int a), some (.int b), some (.int c), some (.int (jB zq)), some (.int 2), some (.int 1), some (.int 3)]) rfl ?_
              refine s_goto 265 dX4_load_289 (by decide) ?_
              refine s_iload dX4_load_265 rfl ?_
              refine s_iconst (v := 3) dX4_load_267 (by decide) ?_
              refine s_icmp_ge 292 dX4_load_268 (by decide) (fun c268 => ?_) (fun c268 => absurd (by decide) c268)
              refine s_aload_n dX4_load_292 rfl ?_
              refine s_dup dX4_load_293 rfl ?_
              refine s_get (kd := 12) (ix := 0) (ci := 5) (fs := [.int 0, .int (nI t0), .ref (ad 13 0), .ref (ad 14 0), .ref (ad 15 0), .ref (ad 16 0), .ref (ad 17 0), .ref (ad 18 0), .int (nI r0), .ref (ad 19 0), .ref (ad 20 0), .ref (ad 21 0), .ref (ad 22 0), .ref (ad 23 0), .ref (ad 24 0), .int (jB b0), .ref (ad 25 0)])  ((sset_k _ _ (by decide)).trans ((sset_k _ _ (by decide)).trans ((sset_k _ _ (by decide)).trans ((sset_k _ _ (by decide)).trans ((sset_k _ _ (by decide)).trans ((sset_k _ _ (by decide)).trans ((sset_k _ _ (by decide)).trans ((sset_k _ _ (by decide)).trans (sset_self _ _ _ _))))))))) rfl in_X4_load_X4 8 (by decide) (by decide +kernel) rfl rfl dX4_load_294 ?_
              refine s_iconst (v := 1) dX4_load_297 (by decide) ?_
              refine s_iadd dX4_load_298 ?_
              refine s_eqi (y := nI (r0 + 1)) (nI_1 _) ?_
              refine s_put (kd := 12) (ix := 0) (ci := 5) (v := .int (nI (r0 + 1))) (ty := tyX4 8) (fs := [.int 0, .int (nI t0), .ref (ad 13 0), .ref (ad 14 0), .ref (ad 15 0), .ref (ad 16 0), .ref (ad 17 0), .ref (ad 18 0), .int (nI r0), .ref (ad 19 0), .ref (ad 20 0), .ref (ad 21 0), .ref (ad 22 0), .ref (ad 23 0), .ref (ad 24 0), .int (jB b0), .ref (ad 25 0)])  tyX4 tyX4_ok nmX4 ((sset_k _ _ (by decide)).trans ((sset_k _ _ (by decide)).trans ((sset_k _ _ (by decide)).trans ((sset_k _ _ (by decide)).trans ((sset_k _ _ (by decide)).trans ((sset_k _ _ (by decide)).trans ((sset_k _ _ (by decide)).trans ((sset_k _ _ (by decide)).trans (sset_self _ _ _ _))))))))) rfl in_X4_load_X4 8 (by decide) (by decide +kernel) rfl rfl (tyX4_ok 8 (by decide)) (rfl) (rfl) (Nat.le_of_ble_eq_true rfl) dX4_load_299 ?_
              refine s_M (M' := (sset (sset (sset (sset (sset (sset (sset (sset (sset (sset M 12 0 (.inr (5, [.int 0, .int (nI t0), .ref (ad 13 0), .ref (ad 14 0), .ref (ad 15 0), .ref (ad 16 0), .ref (ad 17 0), .ref (ad 18 0), .int (nI r0), .ref (ad 19 0), .ref (ad 20 0), .ref (ad 21 0), .ref (ad 22 0), .ref (ad 23 0), .ref (ad 24 0), .int (jB b0), .ref (ad 25 0)]))) 19 0 (.inl (gI G, 60, .inl (upd kd r0 (nI 4))))) 20 0 (.inl (gI G, 180, .inl (upd fl (3 * r0) a)))) 20 0 (.inl (gI G, 180, .inl (upd (upd fl (3 * r0) a) (3 * r0 + 1) b)))) 20 0 (.inl (gI G, 180, .inl (upd (upd (upd fl (3 * r0) a) (3 * r0 + 1) b) (3 * r0 + 2) c)))) 21 0 (.inl (gI G, 60, .inl (upd co r0 (-1))))) 22 0 (.inl (gI G, 180, .inl (upd sm (3 * r0 + 0) 0)))) 22 0 (.inl (gI G, 180, .inl (upd (upd sm (3 * r0 + 0) 0) (3 * r0 + 1) 0)))) 22 0 (.inl (gI G, 180, .inl (upd (upd (upd sm (3 * r0 + 0) 0) (3 * r0 + 1) 0) (3 * r0 + 2) 0)))) 12 0 (.inr (5, [.int 0, .int (nI t0), .ref (ad 13 0), .ref (ad 14 0), .ref (ad 15 0), .ref (ad 16 0), .ref (ad 17 0), .ref (ad 18 0), .int (nI (r0 + 1)), .ref (ad 19 0), .ref (ad 20 0), .ref (ad 21 0), .ref (ad 22 0), .ref (ad 23 0), .ref (ad 24 0), .int (jB b0), .ref (ad 25 0)])))) rfl ?_
              refine s_aload_n dX4_load_302 rfl ?_
              refine s_get (kd := 12) (ix := 0) (ci := 5) (fs := [.int 0, .int (nI t0), .ref (ad 13 0), .ref (ad 14 0), .ref (ad 15 0), .ref (ad 16 0), .ref (ad 17 0), .ref (ad 18 0), .int (nI (r0 + 1)), .ref (ad 19 0), .ref (ad 20 0), .ref (ad 21 0), .ref (ad 22 0), .ref (ad 23 0), .ref (ad 24 0), .int (jB b0), .ref (ad 25 0)])  (sset_self _ _ _ _) rfl in_X4_load_X4 8 (by decide) (by decide +kernel) rfl rfl dX4_load_303 ?_
              refine s_iconst (v := 1) dX4_load_306 (by decide) ?_
              refine s_isub dX4_load_307 ?_
              refine s_eqi (y := nI r0) (nI_m1 (by omega)) ?_
              exact s_iret rfl (rfl) dX4_load_308 (Nat.le_of_ble_eq_true rfl) (Nat.le_of_ble_eq_true rfl) (⟨rfl, (sSame.rfl |>.set (P := pMd) (by simp [pMd]) _ |>.set (P := pMd) (by simp [pMd]) _ |>.set (P := pMd) (by simp [pMd]) _ |>.set (P := pMd) (by simp [pMd]) _ |>.set (P := pMd) (by simp [pMd]) _ |>.set (P := pMd) (by simp [pMd]) _ |>.set (P := pMd) (by simp [pMd]) _ |>.set (P := pMd) (by simp [pMd]) _ |>.set (P := pMd) (by simp [pMd]) _ |>.set (P := pMd) (by simp [pMd]) _), ⟨(0, t0, hd, on, tw, dp, cl, gr, (r0 + 1), upd kd r0 (nI 4), upd (upd (upd fl (3 * r0) a) (3 * r0 + 1) b) (3 * r0 + 2) c, upd co r0 (-1), upd (upd (upd sm (3 * r0 + 0) 0) (3 * r0 + 1) 0) (3 * r0 + 2) 0, wk, sp, b0, mu), ⟨(sset_self _ _ _ _), ((sset_k _ _ (by decide)).trans ((sset_k _ _ (by decide)).trans ((sset_k _ _ (by decide)).trans ((sset_k _ _ (by decide)).trans ((sset_k _ _ (by decide)).trans ((sset_k _ _ (by decide)).trans ((sset_k _ _ (by decide)).trans ((sset_k _ _ (by decide)).trans ((sset_k _ _ (by decide)).trans ((sset_k _ _ (by decide)).trans (hm.2.1))))))))))), ((sset_k _ _ (by decide)).trans ((sset_k _ _ (by decide)).trans ((sset_k _ _ (by decide)).trans ((sset_k _ _ (by decide)).trans ((sset_k _ _ (by decide)).trans ((sset_k _ _ (by decide)).trans ((sset_k _ _ (by decide)).trans ((sset_k _ _ (by decide)).trans ((sset_k _ _ (by decide)).trans ((sset_k _ _ (by decide)).trans (hm.2.2.1))))))))))), ((sset_k _ _ (by decide)).trans ((sset_k _ _ (by decide)).trans ((sset_k _ _ (by decide)).trans ((sset_k _ _ (by decide)).trans ((sset_k _ _ (by decide)).trans ((sset_k _ _ (by decide)).trans ((sset_k _ _ (by decide)).trans ((sset_k _ _ (by decide)).trans ((sset_k _ _ (by decide)).trans ((sset_k _ _ (by decide)).trans (hm.2.2.2.1))))))))))), ((sset_k _ _ (by decide)).trans ((sset_k _ _ (by decide)).trans ((sset_k _ _ (by decide)).trans ((sset_k _ _ (by decide)).trans ((sset_k _ _ (by decide)).trans ((sset_k _ _ (by decide)).trans ((sset_k _ _ (by decide)).trans ((sset_k _ _ (by decide)).trans ((sset_k _ _ (by decide)).trans ((sset_k _ _ (by decide)).trans (hm.2.2.2.2.1))))))))))), ((sset_k _ _ (by decide)).trans ((sset_k _ _ (by decide)).trans ((sset_k _ _ (by decide)).trans ((sset_k _ _ (by decide)).trans ((sset_k _ _ (by decide)).trans ((sset_k _ _ (by decide)).trans ((sset_k _ _ (by decide)).trans ((sset_k _ _ (by decide)).trans ((sset_k _ _ (by decide)).trans ((sset_k _ _ (by decide)).trans (hm.2.2.2.2.2.1))))))))))), ((sset_k _ _ (by decide)).trans ((sset_k _ _ (by decide)).trans ((sset_k _ _ (by decide)).trans ((sset_k _ _ (by decide)).trans ((sset_k _ _ (by decide)).trans ((sset_k _ _ (by decide)).trans ((sset_k _ _ (by decide)).trans ((sset_k _ _ (by decide)).trans ((sset_k _ _ (by decide)).trans ((sset_k _ _ (by decide)).trans (hm.2.2.2.2.2.2.1))))))))))), ((sset_k _ _ (by decide)).trans ((sset_k _ _ (by decide)).trans ((sset_k _ _ (by decide)).trans ((sset_k _ _ (by decide)).trans ((sset_k _ _ (by decide)).trans ((sset_k _ _ (by decide)).trans ((sset_k _ _ (by decide)).trans ((sset_k _ _ (by decide)).trans (sset_self _ _ _ _))))))))), ((sset_k _ _ (by decide)).trans ((sset_k _ _ (by decide)).trans ((sset_k _ _ (by decide)).trans ((sset_k _ _ (by decide)).trans ((sset_k _ _ (by decide)).trans (sset_self _ _ _ _)))))), ((sset_k _ _ (by decide)).trans ((sset_k _ _ (by decide)).trans ((sset_k _ _ (by decide)).trans ((sset_k _ _ (by decide)).trans (sset_self _ _ _ _))))), ((sset_k _ _ (by decide)).trans (sset_self _ _ _ _)), ((sset_k _ _ (by decide)).trans ((sset_k _ _ (by decide)).trans ((sset_k _ _ (by decide)).trans ((sset_k _ _ (by decide)).trans ((sset_k _ _ (by decide)).trans ((sset_k _ _ (by decide)).trans ((sset_k _ _ (by decide)).trans ((sset_k _ _ (by decide)).trans ((sset_k _ _ (by decide)).trans ((sset_k _ _ (by decide)).trans (hm.2.2.2.2.2.2.2.2.2.2.2.1))))))))))), ((sset_k _ _ (by decide)).trans ((sset_k _ _ (by decide)).trans ((sset_k _ _ (by decide)).trans ((sset_k _ _ (by decide)).trans ((sset_k _ _ (by decide)).trans ((sset_k _ _ (by decide)).trans ((sset_k _ _ (by decide)).trans ((sset_k _ _ (by decide)).trans ((sset_k _ _ (by decide)).trans ((sset_k _ _ (by decide)).trans (hm.2.2.2.2.2.2.2.2.2.2.2.2.1))))))))))), ((sset_k _ _ (by decide)).trans ((sset_k _ _ (by decide)).trans ((sset_k _ _ (by decide)).trans ((sset_k _ _ (by decide)).trans ((sset_k _ _ (by decide)).trans ((sset_k _ _ (by decide)).trans ((sset_k _ _ (by decide)).trans ((sset_k _ _ (by decide)).trans ((sset_k _ _ (by decide)).trans ((sset_k _ _ (by decide)).trans (hm.2.2.2.2.2.2.2.2.2.2.2.2.2)))))))))))⟩, rfl, by rw [ea]; exact hI.ldR _ _ _ _⟩, _, rfl, fun _ => by rw [ev, i2]⟩)
            · obtain ⟨rfl, ea⟩ := hrel.c3 hn1 hfk (by have z9 := (nI_eq (a := r0) (b := 60) (by omega) (by omega)).mp c187; omega)
              refine s_aload_n dX4_load_190 rfl ?_
              refine s_iconst (v := 3) dX4_load_191 (by decide) ?_
              refine s_callV (As := [.int 3]) (rest := []) (n := 1) (kd := 12) (ix := 0) (fun l hl => c_X4_raise G l hl ad M c0 t0 hd on tw dp cl gr r0 kd fl co sm wk sp b0 mu ⟨hm.1, hm.2.1, hm.2.2.1, hm.2.2.2.1, hm.2.2.2.2.1, hm.2.2.2.2.2.1, hm.2.2.2.2.2.2.1, hm.2.2.2.2.2.2.2.1, hm.2.2.2.2.2.2.2.2.1, hm.2.2.2.2.2.2.2.2.2.1, hm.2.2.2.2.2.2.2.2.2.2.1, hm.2.2.2.2.2.2.2.2.2.2.2.1, hm.2.2.2.2.2.2.2.2.2.2.2.2.1, hm.2.2.2.2.2.2.2.2.2.2.2.2.2⟩ 3) gX4_load_X4_raise rfl (by decide +kernel) hm.1 rfl rfl ⟨(Nat.le_of_ble_eq_true rfl), (Nat.le_of_ble_eq_true rfl)⟩ ⟨(Nat.le_of_ble_eq_true rfl), (Nat.le_of_ble_eq_true rfl)⟩ (Nat.le_of_ble_eq_true rfl) dX4_load_192 rfl (fun r9 ad9 M9 h9 => ?_)
              obtain ⟨rfl, rfl, hm9, hs9⟩ := h9
              exact s_iret rfl (rfl) dX4_load_195 (Nat.le_of_ble_eq_true rfl) (Nat.le_of_ble_eq_true rfl) (⟨rfl, (sSame.rfl.trans hs9), ⟨(3, t0, hd, on, tw, dp, cl, gr, r0, kd, fl, co, sm, wk, sp, b0, mu), hm9, rfl, by rw [ea]; exact hI.any _ _ _ _ _⟩, _, rfl, fun q => absurd q (by decide)⟩)
    · refine s_iload_n dX4_load_16 rfl ?_
      refine s_callS (As := [.int (nI 5)]) (rest := []) (n := 1) (fun l hl => c_X4_treesIn G l hl ad M 5 (by omega)) gX4_load_X4_treesIn rfl (by decide +kernel) rfl ⟨(Nat.le_of_ble_eq_true rfl), (Nat.le_of_ble_eq_true rfl)⟩ ⟨(Nat.le_of_ble_eq_true rfl), (Nat.le_of_ble_eq_true rfl)⟩ (Nat.le_of_ble_eq_true rfl) dX4_load_17 rfl (fun r9 ad9 M9 h9 => ?_)
      obtain ⟨rfl, rfl, rfl⟩ := h9
      have etf : tfI (nI 5) = 1 := tfI_in (by omega)
      refine s_st (st' := [.int 1]) rfl ?_
      refine s_goto 24 dX4_load_20 (by decide) ?_
      refine s_istore dX4_load_24 rfl rfl ?_
      refine s_lv (lv' := [some (.ref (ad 12 0)), some (.int (nI 5)), some (.int a), some (.int b), some (.int c), some (.int (jB zq)), some (.int 1), none, none]) rfl ?_
      refine s_aload_n dX4_load_26 rfl ?_
      refine s_iload_n dX4_load_27 rfl ?_
      refine s_callV (As := [.int a]) (rest := []) (n := 1) (kd := 12) (ix := 0) (fun l hl => c_X4_isTree G l hl ad M c0 t0 hd on tw dp cl gr r0 kd fl co sm wk sp b0 mu ⟨hm.1, hm.2.1, hm.2.2.1, hm.2.2.2.1, hm.2.2.2.2.1, hm.2.2.2.2.2.1, hm.2.2.2.2.2.2.1, hm.2.2.2.2.2.2.2.1, hm.2.2.2.2.2.2.2.2.1, hm.2.2.2.2.2.2.2.2.2.1, hm.2.2.2.2.2.2.2.2.2.2.1, hm.2.2.2.2.2.2.2.2.2.2.2.1, hm.2.2.2.2.2.2.2.2.2.2.2.2.1, hm.2.2.2.2.2.2.2.2.2.2.2.2.2⟩ (by omega) a) gX4_load_X4_isTree rfl (by decide +kernel) hm.1 rfl rfl ⟨(Nat.le_of_ble_eq_true rfl), (Nat.le_of_ble_eq_true rfl)⟩ ⟨(Nat.le_of_ble_eq_true rfl), (Nat.le_of_ble_eq_true rfl)⟩ (Nat.le_of_ble_eq_true rfl) dX4_load_28 rfl (fun r9 ad9 M9 h9 => ?_)
      obtain ⟨rfl, rfl, za, rfl, hza⟩ := h9
      rw [i1] at hza
      refine s_if_eq 63 dX4_load_31 (by decide) (fun c31 => ?_) (fun c31 => ?_)
      · obtain ⟨rfl, ea⟩ := hrel.c1 (Or.inl (fun q => by have z9 := hza.mpr q; rw [jB_0.mp c31] at z9; cases z9))
        refine s_aload_n dX4_load_63 rfl ?_
        refine s_iconst (v := 1) dX4_load_64 (by decide) ?_
        refine s_callV (As := [.int 1]) (rest := []) (n := 1) (kd := 12) (ix := 0) (fun l hl => c_X4_raise G l hl ad M c0 t0 hd on tw dp cl gr r0 kd fl co sm wk sp b0 mu ⟨hm.1, hm.2.1, hm.2.2.1, hm.2.2.2.1, hm.2.2.2.2.1, hm.2.2.2.2.2.1, hm.2.2.2.2.2.2.1, hm.2.2.2.2.2.2.2.1, hm.2.2.2.2.2.2.2.2.1, hm.2.2.2.2.2.2.2.2.2.1, hm.2.2.2.2.2.2.2.2.2.2.1, hm.2.2.2.2.2.2.2.2.2.2.2.1, hm.2.2.2.2.2.2.2.2.2.2.2.2.1, hm.2.2.2.2.2.2.2.2.2.2.2.2.2⟩ 1) gX4_load_X4_raise rfl (by decide +kernel) hm.1 rfl rfl ⟨(Nat.le_of_ble_eq_true rfl), (Nat.le_of_ble_eq_true rfl)⟩ ⟨(Nat.le_of_ble_eq_true rfl), (Nat.le_of_ble_eq_true rfl)⟩ (Nat.le_of_ble_eq_true rfl) dX4_load_65 rfl (fun r9 ad9 M9 h9 => ?_)
        obtain ⟨rfl, rfl, hm9, hs9⟩ := h9
        exact s_iret rfl (rfl) dX4_load_68 (Nat.le_of_ble_eq_true rfl) (Nat.le_of_ble_eq_true rfl) (⟨rfl, (sSame.rfl.trans hs9), ⟨(1, t0, hd, on, tw, dp, cl, gr, r0, kd, fl, co, sm, wk, sp, b0, mu), hm9, rfl, by rw [ea]; exact hI.any _ _ _ _ _⟩, _, rfl, fun q => absurd q (by decide)⟩)
      · refine s_iload dX4_load_34 rfl ?_
        refine s_iconst (v := 1) dX4_load_36 (by decide) ?_
        refine s_icmp_le 48 dX4_load_37 (by decide) (fun c37 => ?_) (fun c37 => absurd (by decide) c37)
        refine s_iload dX4_load_48 rfl ?_
        refine s_iconst (v := 2) dX4_load_50 (by decide) ?_
        refine s_icmp_le 69 dX4_load_51 (by decide) (fun c51 => ?_) (fun c51 => absurd (by decide) c51)
        have hn1 : ¬ lC1 α (nI 5) a b c := fun z => z.elim (fun z => z (hza.mp (Bool.of_not_eq_false (fun q => c31 (jB_0.mpr q))))) (fun z => z.elim (fun z => absurd z.1 (by rw [etf]; omega)) (fun z => absurd z.1 (by rw [etf]; omega)))
        refine s_iload dX4_load_69 rfl ?_
        refine s_if_ne 80 dX4_load_71 (by decide) (fun c71 => ?_) (fun c71 => absurd c71 (c13))
        refine s_iload_n dX4_load_80 rfl ?_
        refine s_iconst (v := 1) dX4_load_81 (by decide) ?_
        refine s_icmp_ne 98 dX4_load_82 (by decide) (fun c82 => ?_) (fun c82 => absurd c82 (by decide))
        refine s_iload_n dX4_load_98 rfl ?_
        refine s_iconst (v := 2) dX4_load_99 (by decide) ?_
        refine s_icmp_eq 163 dX4_load_100 (by decide) (fun c100 => absurd c100 (by decide)) (fun c100 => ?_)
        refine s_iload_n dX4_load_103 rfl ?_
        refine s_iconst (v := 3) dX4_load_104 (by decide) ?_
        refine s_icmp_ne 138 dX4_load_105 (by decide) (fun c105 => ?_) (fun c105 => absurd c105 (by decide))
        refine s_iload_n dX4_load_138 rfl ?_
        refine s_iconst (v := 5) dX4_load_139 (by decide) ?_
        refine s_icmp_ne 157 dX4_load_140 (by decide) (fun c140 => absurd (rfl) c140) (fun c140 => ?_)
        refine s_iload_n dX4_load_143 rfl ?_
        refine s_iconst (v := -1) dX4_load_144 (by decide) ?_
        refine s_icmp_ne 167 dX4_load_145 (by decide) (fun c145 => ?_) (fun c145 => ?_)
        · refine s_iconst (v := 0) dX4_load_167 (by decide) ?_
          refine s_istore dX4_load_168 rfl rfl ?_
          refine s_lv (lv' := [some (.ref (ad 12 0)), some (.int (nI 5)), some (.int a), some (.int b), some (.int c), some (.int (jB zq)), some (.int 1), some (.int 0), none]) rfl ?_
          refine s_iload dX4_load_170 rfl ?_
          refine s_if_ne 181 dX4_load_172 (by decide) (fun c172 => absurd (rfl) c172) (fun c172 => ?_)
          obtain ⟨rfl, ea⟩ := hrel.c2 hn1 (by rw [show fitsK (nI 5) b c = _ from fitsK_5 b c]; exact fun q => c145 q.1)
          refine s_aload_n dX4_load_175 rfl ?_
          refine s_iconst (v := 2) dX4_load_176 (by decide) ?_
          refine s_callV (As := [.int 2]) (rest := []) (n := 1) (kd := 12) (ix := 0) (fun l hl => c_X4_raise G l hl ad M c0 t0 hd on tw dp cl gr r0 kd fl co sm wk sp b0 mu ⟨hm.1, hm.2.1, hm.2.2.1, hm.2.2.2.1, hm.2.2.2.2.1, hm.2.2.2.2.2.1, hm.2.2.2.2.2.2.1, hm.2.2.2.2.2.2.2.1, hm.2.2.2.2.2.2.2.2.1, hm.2.2.2.2.2.2.2.2.2.1, hm.2.2.2.2.2.2.2.2.2.2.1, hm.2.2.2.2.2.2.2.2.2.2.2.1, hm.2.2.2.2.2.2.2.2.2.2.2.2.1, hm.2.2.2.2.2.2.2.2.2.2.2.2.2⟩ 2) gX4_load_X4_raise rfl (by decide +kernel) hm.1 rfl rfl ⟨(Nat.le_of_ble_eq_true rfl), (Nat.le_of_ble_eq_true rfl)⟩ ⟨(Nat.le_of_ble_eq_true rfl), (Nat.le_of_ble_eq_true rfl)⟩ (Nat.le_of_ble_eq_true rfl) dX4_load_177 rfl (fun r9 ad9 M9 h9 => ?_)
          obtain ⟨rfl, rfl, hm9, hs9⟩ := h9
          exact s_iret rfl (rfl) dX4_load_180 (Nat.le_of_ble_eq_true rfl) (Nat.le_of_ble_eq_true rfl) (⟨rfl, (sSame.rfl.trans hs9), ⟨(2, t0, hd, on, tw, dp, cl, gr, r0, kd, fl, co, sm, wk, sp, b0, mu), hm9, rfl, by rw [ea]; exact hI.any _ _ _ _ _⟩, _, rfl, fun q => absurd q (by decide)⟩)
        · refine s_iload dX4_load_148 rfl ?_
          refine s_iconst (v := -1) dX4_load_150 (by decide) ?_
          refine s_icmp_ne 167 dX4_load_151 (by decide) (fun c151 => ?_) (fun c151 => ?_)
          · refine s_iconst (v := 0) dX4_load_167 (by decide) ?_
            refine s_istore dX4_load_168 rfl rfl ?_
            refine s_lv (lv' := [some (.ref (ad 12 0)), some (.int (nI 5)), some (.int a), some (.int b), some (.int c), some (.int (jB zq)), some (.int 1), some (.int 0), none]) rfl ?_
            refine s_iload dX4_load_170 rfl ?_
            refine s_if_ne 181 dX4_load_172 (by decide) (fun c172 => absurd (rfl) c172) (fun c172 => ?_)
            obtain ⟨rfl, ea⟩ := hrel.c2 hn1 (by rw [show fitsK (nI 5) b c = _ from fitsK_5 b c]; exact fun q => c151 q.2)
            refine s_aload_n dX4_load_175 rfl ?_
            refine s_iconst (v := 2) dX4_load_176 (by decide) ?_
            refine s_callV (As := [.int 2]) (rest := []) (n := 1) (kd := 12) (ix := 0) (fun l hl => c_X4_raise G l hl ad M c0 t0 hd on tw dp cl gr r0 kd fl co sm wk sp b0 mu ⟨hm.1, hm.2.1, hm.2.2.1, hm.2.2.2.1, hm.2.2.2.2.1, hm.2.2.2.2.2.1, hm.2.2.2.2.2.2.1, hm.2.2.2.2.2.2.2.1, hm.2.2.2.2.2.2.2.2.1, hm.2.2.2.2.2.2.2.2.2.1, hm.2.2.2.2.2.2.2.2.2.2.1, hm.2.2.2.2.2.2.2.2.2.2.2.1, hm.2.2.2.2.2.2.2.2.2.2.2.2.1, hm.2.2.2.2.2.2.2.2.2.2.2.2.2⟩ 2) gX4_load_X4_raise rfl (by decide +kernel) hm.1 rfl rfl ⟨(Nat.le_of_ble_eq_true rfl), (Nat.le_of_ble_eq_true rfl)⟩ ⟨(Nat.le_of_ble_eq_true rfl), (Nat.le_of_ble_eq_true rfl)⟩ (Nat.le_of_ble_eq_true rfl) dX4_load_177 rfl (fun r9 ad9 M9 h9 => ?_)
            obtain ⟨rfl, rfl, hm9, hs9⟩ := h9
            exact s_iret rfl (rfl) dX4_load_180 (Nat.le_of_ble_eq_true rfl) (Nat.le_of_ble_eq_true rfl) (⟨rfl, (sSame.rfl.trans hs9), ⟨(2, t0, hd, on, tw, dp, cl, gr, r0, kd, fl, co, sm, wk, sp, b0, mu), hm9, rfl, by rw [ea]; exact hI.any _ _ _ _ _⟩, _, rfl, fun q => absurd q (by decide)⟩)
          · refine s_goto 163 dX4_load_154 (by decide) ?_
            refine s_iconst (v := 1) dX4_load_163 (by decide) ?_
            refine s_goto 168 dX4_load_164 (by decide) ?_
            refine s_istore dX4_load_168 rfl rfl ?_
            refine s_lv (lv' := [some (.ref (ad 12 0)), some (.int (nI 5)), some (.int a), some (.int b), some (.int c), some (.int (jB zq)), some (.int 1), some (.int 1), none]) rfl ?_
            refine s_iload dX4_load_170 rfl ?_
            refine s_if_ne 181 dX4_load_172 (by decide) (fun c172 => ?_) (fun c172 => absurd c172 (by decide))
            have hfk : fitsK (nI 5) b c := by rw [show fitsK (nI 5) b c = _ from fitsK_5 b c]; exact ⟨c145, c151⟩
            refine s_aload_n dX4_load_181 rfl ?_
            refine s_get (kd := 12) (ix := 0) (ci := 5) (fs := [.int c0, .int (nI t0), .ref (ad 13 0), .ref (ad 14 0), .ref (ad 15 0), .ref (ad 16 0), .ref (ad 17 0), .ref (ad 18 0), .int (nI r0), .ref (ad 19 0), .ref (ad 20 0), .ref (ad 21 0), .ref (ad 22 0), .ref (ad 23 0), .ref (ad 24 0), .int (jB b0), .ref (ad 25 0)])  hm.1 rfl in_X4_load_X4 8 (by decide) (by decide +kernel) rfl rfl dX4_load_182 ?_
            refine s_bipush (v := 60) dX4_load_185 (by decide) ?_
            refine s_icmp_ne 196 dX4_load_187 (by decide) (fun c187 => ?_) (fun c187 => ?_)
            · obtain ⟨rfl, ev, hR1, ea⟩ := hrel.c0 hn1 hfk (fun z9 => c187 (by rw [show r0 = 60 by omega]; rfl))
              have hr1 : r0 < 60 := by omega
              refine s_aload_n dX4_load_196 rfl ?_
              refine s_iconst (v := 0) dX4_load_197 (by decide) ?_
              refine s_put (kd := 12) (ix := 0) (ci := 5) (v := .int 0) (ty := tyX4 0) (fs := [.int c0, .int (nI t0), .ref (ad 13 0), .ref (ad 14 0), .ref (ad 15 0), .ref (ad 16 0), .ref (ad 17 0), .ref (ad 18 0), .int (nI r0), .ref (ad 19 0), .ref (ad 20 0), .ref (ad 21 0), .ref (ad 22 0), .ref (ad 23 0), .ref (ad 24 0), .int (jB b0), .ref (ad 25 0)])  tyX4 tyX4_ok nmX4 hm.1 rfl in_X4_load_X4 0 (by decide) (by decide +kernel) rfl rfl (tyX4_ok 0 (by decide)) (rfl) (rfl) (Nat.le_of_ble_eq_true rfl) dX4_load_198 ?_
              refine s_M (M' := (sset M 12 0 (.inr (5, [.int 0, .int (nI t0), .ref (ad 13 0), .ref (ad 14 0), .ref (ad 15 0), .ref (ad 16 0), .ref (ad 17 0), .ref (ad 18 0), .int (nI r0), .ref (ad 19 0), .ref (ad 20 0), .ref (ad 21 0), .ref (ad 22 0), .ref (ad 23 0), .ref (ad 24 0), .int (jB b0), .ref (ad 25 0)])))) rfl ?_
              refine s_aload_n dX4_load_201 rfl ?_
              refine s_get (kd := 12) (ix := 0) (ci := 5) (fs := [.int 0, .int (nI t0), .ref (ad 13 0), .ref (ad 14 0), .ref (ad 15 0), .ref (ad 16 0), .ref (ad 17 0), .ref (ad 18 0), .int (nI r0), .ref (ad 19 0), .ref (ad 20 0), .ref (ad 21 0), .ref (ad 22 0), .ref (ad 23 0), .ref (ad 24 0), .int (jB b0), .ref (ad 25 0)])  (sset_self _ _ _ _) rfl in_X4_load_X4 9 (by decide) (by decide +kernel) rfl rfl dX4_load_202 ?_
              refine s_aload_n dX4_load_205 rfl ?_
              refine s_get (kd := 12) (ix := 0) (ci := 5) (fs := [.int 0, .int (nI t0), .ref (ad 13 0), .ref (ad 14 0), .ref (ad 15 0), .ref (ad 16 0), .ref (ad 17 0), .ref (ad 18 0), .int (nI r0), .ref (ad 19 0), .ref (ad 20 0), .ref (ad 21 0), .ref (ad 22 0), .ref (ad 23 0), .ref (ad 24 0), .int (jB b0), .ref (ad 25 0)])  (sset_self _ _ _ _) rfl in_X4_load_X4 8 (by decide) (by decide +kernel) rfl rfl dX4_load_206 ?_
              refine s_iload_n dX4_load_209 rfl ?_
              refine s_iast (kd := 19) (ix := 0) (n := 60) (f := kd) (j := r0) (x := nI 5) ((sset_k _ _ (by decide)).trans (hm.2.2.2.2.2.2.2.1))  (rfl) (by omega) (by decide) dX4_load_210 ?_
              refine s_aload_n dX4_load_211 rfl ?_
              refine s_get (kd := 12) (ix := 0) (ci := 5) (fs := [.int 0, .int (nI t0), .ref (ad 13 0), .ref (ad 14 0), .ref (ad 15 0), .ref (ad 16 0), .ref (ad 17 0), .ref (ad 18 0), .int (nI r0), .ref (ad 19 0), .ref (ad 20 0), .ref (ad 21 0), .ref (ad 22 0), .ref (ad 23 0), .ref (ad 24 0), .int (jB b0), .ref (ad 25 0)])  ((sset_k _ _ (by decide)).trans (sset_self _ _ _ _)) rfl in_X4_load_X4 10 (by decide) (by decide +kernel) rfl rfl dX4_load_212 ?_
              refine s_iconst (v := 3) dX4_load_215 (by decide) ?_
              refine s_aload_n dX4_load_216 rfl ?_
              refine s_get (kd := 12) (ix := 0) (ci := 5) (fs := [.int 0, .int (nI t0), .ref (ad 13 0), .ref (ad 14 0), .ref (ad 15 0), .ref (ad 16 0), .ref (ad 17 0), .ref (ad 18 0), .int (nI r0), .ref (ad 19 0), .ref (ad 20 0), .ref (ad 21 0), .ref (ad 22 0), .ref (ad 23 0), .ref (ad 24 0), .int (jB b0), .ref (ad 25 0)])  ((sset_k _ _ (by decide)).trans (sset_self _ _ _ _)) rfl in_X4_load_X4 8 (by decide) (by decide +kernel) rfl rfl dX4_load_217 ?_
              refine s_imul dX4_load_220 ?_
              refine s_eqi (y := nI (3 * r0)) (nI_mul 3 r0) ?_
              refine s_iload_n dX4_load_221 rfl ?_
              refine s_iast (kd := 20) (ix := 0) (n := 180) (f := fl) (j := 3 * r0) (x := a) ((sset_k _ _ (by decide)).trans ((sset_k _ _ (by decide)).trans (hm.2.2.2.2.2.2.2.2.1)))  (rfl) (by omega) (by decide) dX4_load_222 ?_
              refine s_aload_n dX4_load_223 rfl ?_
              refine s_get (kd := 12) (ix := 0) (ci := 5) (fs := [.int 0, .int (nI t0), .ref (ad 13 0), .ref (ad 14 0), .ref (ad 15 0), .ref (ad 16 0), .ref (ad 17 0), .ref (ad 18 0), .int (nI r0), .ref (ad 19 0), .ref (ad 20 0), .ref (ad 21 0), .ref (ad 22 0), .ref (ad 23 0), .ref (ad 24 0), .int (jB b0), .ref (ad 25 0)])  ((sset_k _ _ (by decide)).trans ((sset_k _ _ (by decide)).trans (sset_self _ _ _ _))) rfl in_X4_load_X4 10 (by decide) (by decide +kernel) rfl rfl dX4_load_224 ?_
              refine s_iconst (v := 3) dX4_load_227 (by decide) ?_
              refine s_aload_n dX4_load_228 rfl ?_
              refine s_get (kd := 12) (ix := 0) (ci := 5) (fs := [.int 0, .int (nI t0), .ref (ad 13 0), .ref (ad 14 0), .ref (ad 15 0), .ref (ad 16 0), .ref (ad 17 0), .ref (ad 18 0), .int (nI r0), .ref (ad 19 0), .ref (ad 20 0), .ref (ad 21 0), .ref (ad 22 0), .ref (ad 23 0), .ref (ad 24 0), .int (jB b0), .ref (ad 25 0)])  ((sset_k _ _ (by decide)).trans ((sset_k _ _ (by decide)).trans (sset_self _ _ _ _))) rfl in_X4_load_X4 8 (by decide) (by decide +kernel) rfl rfl dX4_load_229 ?_
              refine s_imul dX4_load_232 ?_
              refine s_eqi (y := nI (3 * r0)) (nI_mul 3 r0) ?_
              refine s_iconst (v := 1) dX4_load_233 (by decide) ?_
              refine s_iadd dX4_load_234 ?_
              refine s_eqi (y := nI (3 * r0 + 1)) (nI_add _ _) ?_
              refine s_iload_n dX4_load_235 rfl ?_
              refine s_iast (kd := 20) (ix := 0) (n := 180) (f := upd fl (3 * r0) a) (j := 3 * r0 + 1) (x := b) (sset_self _ _ _ _)  (rfl) (by omega) (by decide) dX4_load_236 ?_
              refine s_aload_n dX4_load_237 rfl ?_
              refine s_get (kd := 12) (ix := 0) (ci := 5) (fs := [.int 0, .int (nI t0), .ref (ad 13 0), .ref (ad 14 0), .ref (ad 15 0), .ref (ad 16 0), .ref (ad 17 0), .ref (ad 18 0), .int (nI r0), .ref (ad 19 0), .ref (ad 20 0), .ref (ad 21 0), .ref (ad 22 0), .ref (ad 23 0), .ref (ad 24 0), .int (jB b0), .ref (ad 25 0)])  ((sset_k _ _ (by decide)).trans ((sset_k _ _ (by decide)).trans ((sset_k _ _ (by decide)).trans (sset_self _ _ _ _)))) rfl in_X4_load_X4 10 (by decide) (by decide +kernel) rfl rfl dX4_load_238 ?_
              refine s_iconst (v := 3) dX4_load_241 (by decide) ?_
              refine s_aload_n dX4_load_242 rfl ?_
              refine s_get (kd := 12) (ix := 0) (ci := 5) (fs := [.int 0, .int (nI t0), .ref (ad 13 0), .ref (ad 14 0), .ref (ad 15 0), .ref (ad 16 0), .ref (ad 17 0), .ref (ad 18 0), .int (nI r0), .ref (ad 19 0), .ref (ad 20 0), .ref (ad 21 0), .ref (ad 22 0), .ref (ad 23 0), .ref (ad 24 0), .int (jB b0), .ref (ad 25 0)])  ((sset_k _ _ (by decide)).trans ((sset_k _ _ (by decide)).trans ((sset_k _ _ (by decide)).trans (sset_self _ _ _ _)))) rfl in_X4_load_X4 8 (by decide) (by decide +kernel) rfl rfl dX4_load_243 ?_
              refine s_imul dX4_load_246 ?_
              refine s_eqi (y := nI (3 * r0)) (nI_mul 3 r0) ?_
              refine s_iconst (v := 2) dX4_load_247 (by decide) ?_
              refine s_iadd dX4_load_248 ?_
              refine s_eqi (y := nI (3 * r0 + 2)) (nI_add _ _) ?_
              refine s_iload dX4_load_249 rfl ?_
              refine s_iast (kd := 20) (ix := 0) (n := 180) (f := upd (upd fl (3 * r0) a) (3 * r0 + 1) b) (j := 3 * r0 + 2) (x := c) (sset_self _ _ _ _)  (rfl) (by omega) (by decide) dX4_load_251 ?_
              refine s_aload_n dX4_load_252 rfl ?_
              refine s_get (kd := 12) (ix := 0) (ci := 5) (fs := [.int 0, .int (nI t0), .ref (ad 13 0), .ref (ad 14 0), .ref (ad 15 0), .ref (ad 16 0), .ref (ad 17 0), .ref (ad 18 0), .int (nI r0), .ref (ad 19 0), .ref (ad 20 0), .ref (ad 21 0), .ref (ad 22 0), .ref (ad 23 0), .ref (ad 24 0), .int (jB b0), .ref (ad 25 0)])  ((sset_k _ _ (by decide)).trans ((sset_k _ _ (by decide)).trans ((sset_k _ _ (by decide)).trans ((sset_k _ _ (by decide)).trans (sset_self _ _ _ _))))) rfl in_X4_load_X4 11 (by decide) (by decide +kernel) rfl rfl dX4_load_253 ?_
              refine s_aload_n dX4_load_256 rfl ?_
              refine s_get (kd := 12) (ix := 0) (ci := 5) (fs := [.int 0, .int (nI t0), .ref (ad 13 0), .ref (ad 14 0), .ref (ad 15 0), .ref (ad 16 0), .ref (ad 17 0), .ref (ad 18 0), .int (nI r0), .ref (ad 19 0), .ref (ad 20 0), .ref (ad 21 0), .ref (ad 22 0), .ref (ad 23 0), .ref (ad 24 0), .int (jB b0), .ref (ad 25 0)])  ((sset_k _ _ (by decide)).trans ((sset_k _ _ (by decide)).trans ((sset_k _ _ (by decide)).trans ((sset_k _ _ (by decide)).trans (sset_self _ _ _ _))))) rfl in_X4_load_X4 8 (by decide) (by decide +kernel) rfl rfl dX4_load_257 ?_
              refine s_iconst (v := -1) dX4_load_260 (by decide) ?_
              refine s_iast (kd := 21) (ix := 0) (n := 60) (f := co) (j := r0) (x := (-1)) ((sset_k _ _ (by decide)).trans ((sset_k _ _ (by decide)).trans ((sset_k _ _ (by decide)).trans ((sset_k _ _ (by decide)).trans ((sset_k _ _ (by decide)).trans (hm.2.2.2.2.2.2.2.2.2.1))))))  (rfl) (by omega) (by decide) dX4_load_261 ?_
              refine s_iconst (v := 0) dX4_load_262 (by decide) ?_
              refine s_istore dX4_load_263 rfl rfl ?_
              refine s_lv (lv' := [some (.ref (ad 12 0)), some (.int (nI 5)), some (.int a), some (.int b), some (.int c), some (.int (jB zq)), some (.int 1), some (.int 1), some (.int 0)]) rfl ?_
              refine s_iload dX4_load_265 rfl ?_
              refine s_iconst (v := 3) dX4_load_267 (by decide) ?_
              refine s_icmp_ge 292 dX4_load_268 (by decide) (fun c268 => absurd c268 (by decide)) (fun c268 => ?_)
              refine s_aload_n dX4_load_271 rfl ?_
              refine s_get (kd := 12) (ix := 0) (ci := 5) (fs := [.int 0, .int (nI t0), .ref (ad 13 0), .ref (ad 14 0), .ref (ad 15 0), .ref (ad 16 0), .ref (ad 17 0), .ref (ad 18 0), .int (nI r0), .ref (ad 19 0), .ref (ad 20 0), .ref (ad 21 0), .ref (ad 22 0), .ref (ad 23 0), .ref (ad 24 0), .int (jB b0), .ref (ad 25 0)])  ((sset_k _ _ (by decide)).trans ((sset_k _ _ (by decide)).trans ((sset_k _ _ (by decide)).trans ((sset_k _ _ (by decide)).trans ((sset_k _ _ (by decide)).trans (sset_self _ _ _ _)))))) rfl in_X4_load_X4 12 (by decide) (by decide +kernel) rfl rfl dX4_load_272 ?_
              refine s_iconst (v := 3) dX4_load_275 (by decide) ?_
              refine s_aload_n dX4_load_276 rfl ?_
              refine s_get (kd := 12) (ix := 0) (ci := 5) (fs := [.int 0, .int (nI t0), .ref (ad 13 0), .ref (ad 14 0), .ref (ad 15 0), .ref (ad 16 0), .ref (ad 17 0), .ref (ad 18 0), .int (nI r0), .ref (ad 19 0), .ref (ad 20 0), .ref (ad 21 0), .ref (ad 22 0), .ref (ad 23 0), .ref (ad 24 0), .int (jB b0), .ref (ad 25 0)])  ((sset_k _ _ (by decide)).trans ((sset_k _ _ (by decide)).trans ((sset_k _ _ (by decide)).trans ((sset_k _ _ (by decide)).trans ((sset_k _ _ (by decide)).trans (sset_self _ _ _ _)))))) rfl in_X4_load_X4 8 (by decide) (by decide +kernel) rfl rfl dX4_load_277 ?_
              refine s_imul dX4_load_280 ?_
              refine s_eqi (y := nI (3 * r0)) (nI_mul 3 r0) ?_
              refine s_iload dX4_load_281 rfl ?_
              refine s_iadd dX4_load_283 ?_
              refine s_eqi (y := nI (3 * r0 + 0)) (nI_add _ _) ?_
              refine s_iconst (v := 0) dX4_load_284 (by decide) ?_
              refine s_iast (kd := 22) (ix := 0) (n := 180) (f := sm) (j := 3 * r0 + 0) (x := 0) ((sset_k _ _ (by decide)).trans ((sset_k _ _ (by decide)).trans ((sset_k _ _ (by decide)).trans ((sset_k _ _ (by decide)).trans ((sset_k _ _ (by decide)).trans ((sset_k _ _ (by decide)).trans (hm.2.2.2.2.2.2.2.2.2.2.1)))))))  (rfl) (by omega) (by decide) dX4_load_285 ?_
              refine s_iinc (v := 1) dX4_load_286 rfl (by decide) rfl ?_
              refine s_lv (lv' := [some (.ref (ad 12 0)), some (.int (nI 5)), some (.int a), some (.int b), some (.int c), some (.int (jB zq)), some (.int 1), some (.int 1), some (.int 1)]) rfl ?_
              refine s_goto 265 dX4_load_289 (by decide) ?_
              refine s_iload dX4_load_265 rfl ?_
              refine s_iconst (v := 3) dX4_load_267 (by decide) ?_
              refine s_icmp_ge 292 dX4_load_268 (by decide) (fun c268 => absurd c268 (by decide)) (fun c268 => ?_)
              refine s_aload_n dX4_load_271 rfl ?_
              refine s_get (kd := 12) (ix := 0) (ci := 5) (fs := [.int 0, .int (nI t0), .ref (ad 13 0), .ref (ad 14 0), .ref (ad 15 0), .ref (ad 16 0), .ref (ad 17 0), .ref (ad 18 0), .int (nI r0), .ref (ad 19 0), .ref (ad 20 0), .ref (ad 21 0), .ref (ad 22 0), .ref (ad 23 0), .ref (ad 24 0), .int (jB b0), .ref (ad 25 0)])  ((sset_k _ _ (by decide)).trans ((sset_k _ _ (by decide)).trans ((sset_k _ _ (by decide)).trans ((sset_k _ _ (by decide)).trans ((sset_k _ _ (by decide)).trans ((sset_k _ _ (by decide)).trans (sset_self _ _ _ _))))))) rfl in_X4_load_X4 12 (by decide) (by decide +kernel) rfl rfl dX4_load_272 ?_
              refine s_iconst (v := 3) dX4_load_275 (by decide) ?_
              refine s_aload_n dX4_load_276 rfl ?_
              refine s_get (kd := 12) (ix := 0) (ci := 5) (fs := [.int 0, .int (nI t0), .ref (ad 13 0), .ref (ad 14 0), .ref (ad 15 0), .ref (ad 16 0), .ref (ad 17 0), .ref (ad 18 0), .int (nI r0), .ref (ad 19 0), .ref (ad 20 0), .ref (ad 21 0), .ref (ad 22 0), .ref (ad 23 0), .ref (ad 24 0), .int (jB b0), .ref (ad 25 0)])  ((sset_k _ _ (by decide)).trans ((sset_k _ _ (by decide)).trans ((sset_k _ _ (by decide)).trans ((sset_k _ _ (by decide)).trans ((sset_k _ _ (by decide)).trans ((sset_k _ _ (by decide)).trans (sset_self _ _ _ _))))))) rfl in_X4_load_X4 8 (by decide) (by decide +kernel) rfl rfl dX4_load_277 ?_
              refine s_imul dX4_load_280 ?_
              refine s_eqi (y := nI (3 * r0)) (nI_mul 3 r0) ?_
              refine s_iload dX4_load_281 rfl ?_
              refine s_iadd dX4_load_283 ?_
              refine s_eqi (y := nI (3 * r0 + 1)) (nI_add _ _) ?_
              refine s_iconst (v := 0) dX4_load_284 (by decide) ?_
              refine s_iast (kd := 22) (ix := 0) (n := 180) (f := upd sm (3 * r0 + 0) 0) (j := 3 * r0 + 1) (x := 0) (sset_self _ _ _ _)  (rfl) (by omega) (by decide) dX4_load_285 ?_
              refine s_iinc (v := 2) dX4_load_286 rfl (by decide) rfl ?_
              refine s_lv (lv' := [some (.ref (ad 12 0)), some (.int (nI 5)), some (.int a), some (.int b), some (.int c), some (.int (jB zq)), some (.int 1), some (.int 1), some (.int 2)]) rfl ?_
              refine s_goto 265 dX4_load_289 (by decide) ?_
              refine s_iload dX4_load_265 rfl ?_
              refine s_iconst (v := 3) dX4_load_267 (by decide) ?_
              refine s_icmp_ge 292 dX4_load_268 (by decide) (fun c268 => absurd c268 (by decide)) (fun c268 => ?_)
              refine s_aload_n dX4_load_271 rfl ?_
              refine s_get (kd := 12) (ix := 0) (ci := 5) (fs := [.int 0, .int (nI t0), .ref (ad 13 0), .ref (ad 14 0), .ref (ad 15 0), .ref (ad 16 0), .ref (ad 17 0), .ref (ad 18 0), .int (nI r0), .ref (ad 19 0), .ref (ad 20 0), .ref (ad 21 0), .ref (ad 22 0), .ref (ad 23 0), .ref (ad 24 0), .int (jB b0), .ref (ad 25 0)])  ((sset_k _ _ (by decide)).trans ((sset_k _ _ (by decide)).trans ((sset_k _ _ (by decide)).trans ((sset_k _ _ (by decide)).trans ((sset_k _ _ (by decide)).trans ((sset_k _ _ (by decide)).trans ((sset_k _ _ (by decide)).trans (sset_self _ _ _ _)))))))) rfl in_X4_load_X4 12 (by decide) (by decide +kernel) rfl rfl dX4_load_272 ?_
              refine s_iconst (v := 3) dX4_load_275 (by decide) ?_
              refine s_aload_n dX4_load_276 rfl ?_
              refine s_get (kd := 12) (ix := 0) (ci := 5) (fs := [.int 0, .int (nI t0), .ref (ad 13 0), .ref (ad 14 0), .ref (ad 15 0), .ref (ad 16 0), .ref (ad 17 0), .ref (ad 18 0), .int (nI r0), .ref (ad 19 0), .ref (ad 20 0), .ref (ad 21 0), .ref (ad 22 0), .ref (ad 23 0), .ref (ad 24 0), .int (jB b0), .ref (ad 25 0)])  ((sset_k _ _ (by decide)).trans ((sset_k _ _ (by decide)).trans ((sset_k _ _ (by decide)).trans ((sset_k _ _ (by decide)).trans ((sset_k _ _ (by decide)).trans ((sset_k _ _ (by decide)).trans ((sset_k _ _ (by decide)).trans (sset_self _ _ _ _)))))))) rfl in_X4_load_X4 8 (by decide) (by decide +kernel) rfl rfl dX4_load_277 ?_
              refine s_imul dX4_load_280 ?_
              refine s_eqi (y := nI (3 * r0)) (nI_mul 3 r0) ?_
              refine s_iload dX4_load_281 rfl ?_
              refine s_iadd dX4_load_283 ?_
              refine s_eqi (y := nI (3 * r0 + 2)) (nI_add _ _) ?_
              refine s_iconst (v := 0) dX4_load_284 (by decide) ?_
              refine s_iast (kd := 22) (ix := 0) (n := 180) (f := upd (upd sm (3 * r0 + 0) 0) (3 * r0 + 1) 0) (j := 3 * r0 + 2) (x := 0) (sset_self _ _ _ _)  (rfl) (by omega) (by decide) dX4_load_285 ?_
              refine s_iinc (v := 3) dX4_load_286 rfl (by decide) rfl ?_
              refine s_lv (lv' := [some (.ref (ad 12 0)), some (.int (nI 5)), some (.int a), some (.int b), some (.int c), some (.int (jB zq)), some (.int 1), some (.int 1), some (.int 3)]) rfl ?_
              refine s_goto 265 dX4_load_289 (by decide) ?_
              refine s_iload dX4_load_265 rfl ?_
              refine s_iconst (v := 3) dX4_load_267 (by decide) ?_
              refine s_icmp_ge 292 dX4_load_268 (by decide) (fun c268 => ?_) (fun c268 => absurd (by decide) c268)
              refine s_aload_n dX4_load_292 rfl ?_
              refine s_dup dX4_load_293 rfl ?_
              refine s_get (kd := 12) (ix := 0) (ci := 5) (fs := [.int 0, .int (nI t0), .ref (ad 13 0), .ref (ad 14 0), .ref (ad 15 0), .ref (ad 16 0), .ref (ad 17 0), .ref (ad 18 0), .int (nI r0), .ref (ad 19 0), .ref (ad 20 0), .ref (ad 21 0), .ref (ad 22 0), .ref (ad 23 0), .ref (ad 24 0), .int (jB b0), .ref (ad 25 0)])  ((sset_k _ _ (by decide)).trans ((sset_k _ _ (by decide)).trans ((sset_k _ _ (by decide)).trans ((sset_k _ _ (by decide)).trans ((sset_k _ _ (by decide)).trans ((sset_k _ _ (by decide)).trans ((sset_k _ _ (by decide)).trans ((sset_k _ _ (by decide)).trans (sset_self _ _ _ _))))))))) rfl in_X4_load_X4 8 (by decide) (by decide +kernel) rfl rfl dX4_load_294 ?_
              refine s_iconst (v := 1) dX4_load_297 (by decide) ?_
              refine s_iadd dX4_load_298 ?_
              refine s_eqi (y := nI (r0 + 1)) (nI_1 _) ?_
              refine s_put (kd := 12) (ix := 0) (ci := 5) (v := .int (nI (r0 + 1))) (ty := tyX4 8) (fs := [.int 0, .int (nI t0), .ref (ad 13 0), .ref (ad 14 0), .ref (ad 15 0), .ref (ad 16 0), .ref (ad 17 0), .ref (ad 18 0), .int (nI r0), .ref (ad 19 0), .ref (ad 20 0), .ref (ad 21 0), .ref (ad 22 0), .ref (ad 23 0), .ref (ad 24 0), .int (jB b0), .ref (ad 25 0)])  tyX4 tyX4_ok nmX4 ((sset_k _ _ (by decide)).trans ((sset_k _ _ (by decide)).trans ((sset_k _ _ (by decide)).trans ((sset_k _ _ (by decide)).trans ((sset_k _ _ (by decide)).trans ((sset_k _ _ (by decide)).trans ((sset_k _ _ (by decide)).trans ((sset_k _ _ (by decide)).trans (sset_self _ _ _ _))))))))) rfl in_X4_load_X4 8 (by decide) (by decide +kernel) rfl rfl (tyX4_ok 8 (by decide)) (rfl) (rfl) (Nat.le_of_ble_eq_true rfl) dX4_load_299 ?_
              refine s_M (M' := (sset (sset (sset (sset (sset (sset (sset (sset (sset (sset M 12 0 (.inr (5, [.int 0, .int (nI t0), .ref (ad 13 0), .ref (ad 14 0), .ref (ad 15 0), .ref (ad 16 0), .ref (ad 17 0), .ref (ad 18 0), .int (nI r0), .ref (ad 19 0), .ref (ad 20 0), .ref (ad 21 0), .ref (ad 22 0), .ref (ad 23 0), .ref (ad 24 0), .int (jB b0), .ref (ad 25 0)]))) 19 0 (.inl (gI G, 60, .inl (upd kd r0 (nI 5))))) 20 0 (.inl (gI G, 180, .inl (upd fl (3 * r0) a)))) 20 0 (.inl (gI G, 180, .inl (upd (upd fl (3 * r0) a) (3 * r0 + 1) b)))) 20 0 (.inl (gI G, 180, .inl (upd (upd (upd fl (3 * r0) a) (3 * r0 + 1) b) (3 * r0 + 2) c)))) 21 0 (.inl (gI G, 60, .inl (upd co r0 (-1))))) 22 0 (.inl (gI G, 180, .inl (upd sm (3 * r0 + 0) 0)))) 22 0 (.inl (gI G, 180, .inl (upd (upd sm (3 * r0 + 0) 0) (3 * r0 + 1) 0)))) 22 0 (.inl (gI G, 180, .inl (upd (upd (upd sm (3 * r0 + 0) 0) (3 * r0 + 1) 0) (3 * r0 + 2) 0)))) 12 0 (.inr (5, [.int 0, .int (nI t0), .ref (ad 13 0), .ref (ad 14 0), .ref (ad 15 0), .ref (ad 16 0), .ref (ad 17 0), .ref (ad 18 0), .int (nI (r0 + 1)), .ref (ad 19 0), .ref (ad 20 0), .ref (ad 21 0), .ref (ad 22 0), .ref (ad 23 0), .ref (ad 24 0), .int (jB b0), .ref (ad 25 0)])))) rfl ?_
              refine s_aload_n dX4_load_302 rfl ?_
              refine s_get (kd := 12) (ix := 0) (ci := 5) (fs := [.int 0, .int (nI t0), .ref (ad 13 0), .ref (ad 14 0), .ref (ad 15 0), .ref (ad 16 0), .ref (ad 17 0), .ref (ad 18 0), .int (nI (r0 + 1)), .ref (ad 19 0), .ref (ad 20 0), .ref (ad 21 0), .ref (ad 22 0), .ref (ad 23 0), .ref (ad 24 0), .int (jB b0), .ref (ad 25 0)])  (sset_self _ _ _ _) rfl in_X4_load_X4 8 (by decide) (by decide +kernel) rfl rfl dX4_load_303 ?_
              refine s_iconst (v := 1) dX4_load_306 (by decide) ?_
              refine s_isub dX4_load_307 ?_
              refine s_eqi (y := nI r0) (nI_m1 (by omega)) ?_
              exact s_iret rfl (rfl) dX4_load_308 (Nat.le_of_ble_eq_true rfl) (Nat.le_of_ble_eq_true rfl) (⟨rfl, (sSame.rfl |>.set (P := pMd) (by simp [pMd]) _ |>.set (P := pMd) (by simp [pMd]) _ |>.set (P := pMd) (by simp [pMd]) _ |>.set (P := pMd) (by simp [pMd]) _ |>.set (P := pMd) (by simp [pMd]) _ |>.set (P := pMd) (by simp [pMd]) _ |>.set (P := pMd) (by simp [pMd]) _ |>.set (P := pMd) (by simp [pMd]) _ |>.set (P := pMd) (by simp [pMd]) _ |>.set (P := pMd) (by simp [pMd]) _), ⟨(0, t0, hd, on, tw, dp, cl, gr, (r0 + 1), upd kd r0 (nI 5), upd (upd (upd fl (3 * r0) a) (3 * r0 + 1) b) (3 * r0 + 2) c, upd co r0 (-1), upd (upd (upd sm (3 * r0 + 0) 0) (3 * r0 + 1) 0) (3 * r0 + 2) 0, wk, sp, b0, mu), ⟨(sset_self _ _ _ _), ((sset_k _ _ (by decide)).trans ((sset_k _ _ (by decide)).trans ((sset_k _ _ (by decide)).trans ((sset_k _ _ (by decide)).trans ((sset_k _ _ (by decide)).trans ((sset_k _ _ (by decide)).trans ((sset_k _ _ (by decide)).trans ((sset_k _ _ (by decide)).trans ((sset_k _ _ (by decide)).trans ((sset_k _ _ (by decide)).trans (hm.2.1))))))))))), ((sset_k _ _ (by decide)).trans ((sset_k _ _ (by decide)).trans ((sset_k _ _ (by decide)).trans ((sset_k _ _ (by decide)).trans ((sset_k _ _ (by decide)).trans ((sset_k _ _ (by decide)).trans ((sset_k _ _ (by decide)).trans ((sset_k _ _ (by decide)).trans ((sset_k _ _ (by decide)).trans ((sset_k _ _ (by decide)).trans (hm.2.2.1))))))))))), ((sset_k _ _ (by decide)).trans ((sset_k _ _ (by decide)).trans ((sset_k _ _ (by decide)).trans ((sset_k _ _ (by decide)).trans ((sset_k _ _ (by decide)).trans ((sset_k _ _ (by decide)).trans ((sset_k _ _ (by decide)).trans ((sset_k _ _ (by decide)).trans ((sset_k _ _ (by decide)).trans ((sset_k _ _ (by decide)).trans (hm.2.2.2.1))))))))))), ((sset_k _ _ (by decide)).trans ((sset_k _ _ (by decide)).trans ((sset_k _ _ (by decide)).trans ((sset_k _ _ (by decide)).trans ((sset_k _ _ (by decide)).trans ((sset_k _ _ (by decide)).trans ((sset_k _ _ (by decide)).trans ((sset_k _ _ (by decide)).trans ((sset_k _ _ (by decide)).trans ((sset_k _ _ (by decide)).trans (hm.2.2.2.2.1))))))))))), ((sset_k _ _ (by decide)).trans ((sset_k _ _ (by decide)).trans ((sset_k _ _ (by decide)).trans ((sset_k _ _ (by decide)).trans ((sset_k _ _ (by decide)).trans ((sset_k _ _ (by decide)).trans ((sset_k _ _ (by decide)).trans ((sset_k _ _ (by decide)).trans ((sset_k _ _ (by decide)).trans ((sset_k _ _ (by decide)).trans (hm.2.2.2.2.2.1))))))))))), ((sset_k _ _ (by decide)).trans ((sset_k _ _ (by decide)).trans ((sset_k _ _ (by decide)).trans ((sset_k _ _ (by decide)).trans ((sset_k _ _ (by decide)).trans ((sset_k _ _ (by decide)).trans ((sset_k _ _ (by decide)).trans ((sset_k _ _ (by decide)).trans ((sset_k _ _ (by decide)).trans ((sset_k _ _ (by decide)).trans (hm.2.2.2.2.2.2.1))))))))))), ((sset_k _ _ (by decide)).trans ((sset_k _ _ (by decide)).trans ((sset_k _ _ (by decide)).trans ((sset_k _ _ (by decide)).trans ((sset_k _ _ (by decide)).trans ((sset_k _ _ (by decide)).trans ((sset_k _ _ (by decide)).trans ((sset_k _ _ (by decide)).trans (sset_self _ _ _ _))))))))), ((sset_k _ _ (by decide)).trans ((sset_k _ _ (by decide)).trans ((sset_k _ _ (by decide)).trans ((sset_k _ _ (by decide)).trans ((sset_k _ _ (by decide)).trans (sset_self _ _ _ _)))))), ((sset_k _ _ (by decide)).trans ((sset_k _ _ (by decide)).trans ((sset_k _ _ (by decide)).trans ((sset_k _ _ (by decide)).trans (sset_self _ _ _ _))))), ((sset_k _ _ (by decide)).trans (sset_self _ _ _ _)), ((sset_k _ _ (by decide)).trans ((sset_k _ _ (by decide)).trans ((sset_k _ _ (by decide)).trans ((sset_k _ _ (by decide)).trans ((sset_k _ _ (by decide)).trans ((sset_k _ _ (by decide)).trans ((sset_k _ _ (by decide)).trans ((sset_k _ _ (by decide)).trans ((sset_k _ _ (by decide)).trans ((sset_k _ _ (by decide)).trans (hm.2.2.2.2.2.2.2.2.2.2.2.1))))))))))), ((sset_k _ _ (by decide)).trans ((sset_k _ _ (by decide)).trans ((sset_k _ _ (by decide)).trans ((sset_k _ _ (by decide)).trans ((sset_k _ _ (by decide)).trans ((sset_k _ _ (by decide)).trans ((sset_k _ _ (by decide)).trans ((sset_k _ _ (by decide)).trans ((sset_k _ _ (by decide)).trans ((sset_k _ _ (by decide)).trans (hm.2.2.2.2.2.2.2.2.2.2.2.2.1))))))))))), ((sset_k _ _ (by decide)).trans ((sset_k _ _ (by decide)).trans ((sset_k _ _ (by decide)).trans ((sset_k _ _ (by decide)).trans ((sset_k _ _ (by decide)).trans ((sset_k _ _ (by decide)).trans ((sset_k _ _ (by decide)).trans ((sset_k _ _ (by decide)).trans ((sset_k _ _ (by decide)).trans ((sset_k _ _ (by decide)).trans (hm.2.2.2.2.2.2.2.2.2.2.2.2.2)))))))))))⟩, rfl, by rw [ea]; exact hI.ldR _ _ _ _⟩, _, rfl, fun _ => by rw [ev, i2]⟩)
            · obtain ⟨rfl, ea⟩ := hrel.c3 hn1 hfk (by have z9 := (nI_eq (a := r0) (b := 60) (by omega) (by omega)).mp c187; omega)
              refine s_aload_n dX4_load_190 rfl ?_
              refine s_iconst (v := 3) dX4_load_191 (by decide) ?_
              refine s_callV (As := [.int 3]) (rest := []) (n := 1) (kd := 12) (ix := 0) (fun l hl => c_X4_raise G l hl ad M c0 t0 hd on tw dp cl gr r0 kd fl co sm wk sp b0 mu ⟨hm.1, hm.2.1, hm.2.2.1, hm.2.2.2.1, hm.2.2.2.2.1, hm.2.2.2.2.2.1, hm.2.2.2.2.2.2.1, hm.2.2.2.2.2.2.2.1, hm.2.2.2.2.2.2.2.2.1, hm.2.2.2.2.2.2.2.2.2.1, hm.2.2.2.2.2.2.2.2.2.2.1, hm.2.2.2.2.2.2.2.2.2.2.2.1, hm.2.2.2.2.2.2.2.2.2.2.2.2.1, hm.2.2.2.2.2.2.2.2.2.2.2.2.2⟩ 3) gX4_load_X4_raise rfl (by decide +kernel) hm.1 rfl rfl ⟨(Nat.le_of_ble_eq_true rfl), (Nat.le_of_ble_eq_true rfl)⟩ ⟨(Nat.le_of_ble_eq_true rfl), (Nat.le_of_ble_eq_true rfl)⟩ (Nat.le_of_ble_eq_true rfl) dX4_load_192 rfl (fun r9 ad9 M9 h9 => ?_)
              obtain ⟨rfl, rfl, hm9, hs9⟩ := h9
              exact s_iret rfl (rfl) dX4_load_195 (Nat.le_of_ble_eq_true rfl) (Nat.le_of_ble_eq_true rfl) (⟨rfl, (sSame.rfl.trans hs9), ⟨(3, t0, hd, on, tw, dp, cl, gr, r0, kd, fl, co, sm, wk, sp, b0, mu), hm9, rfl, by rw [ea]; exact hI.any _ _ _ _ _⟩, _, rfl, fun q => absurd q (by decide)⟩)
    · refine s_iload_n dX4_load_16 rfl ?_
      refine s_callS (As := [.int (nI 6)]) (rest := []) (n := 1) (fun l hl => c_X4_treesIn G l hl ad M 6 (by omega)) gX4_load_X4_treesIn rfl (by decide +kernel) rfl ⟨(Nat.le_of_ble_eq_true rfl), (Nat.le_of_ble_eq_true rfl)⟩ ⟨(Nat.le_of_ble_eq_true rfl), (Nat.le_of_ble_eq_true rfl)⟩ (Nat.le_of_ble_eq_true rfl) dX4_load_17 rfl (fun r9 ad9 M9 h9 => ?_)
      obtain ⟨rfl, rfl, rfl⟩ := h9
      have etf : tfI (nI 6) = 2 := tfI_in (by omega)
      refine s_st (st' := [.int 2]) rfl ?_
      refine s_goto 24 dX4_load_20 (by decide) ?_
      refine s_istore dX4_load_24 rfl rfl ?_
      refine s_lv (lv' := [some (.ref (ad 12 0)), some (.int (nI 6)), some (.int a), some (.int b), some (.int c), some (.int (jB zq)), some (.int 2), none, none]) rfl ?_
      refine s_aload_n dX4_load_26 rfl ?_
      refine s_iload_n dX4_load_27 rfl ?_
      refine s_callV (As := [.int a]) (rest := []) (n := 1) (kd := 12) (ix := 0) (fun l hl => c_X4_isTree G l hl ad M c0 t0 hd on tw dp cl gr r0 kd fl co sm wk sp b0 mu ⟨hm.1, hm.2.1, hm.2.2.1, hm.2.2.2.1, hm.2.2.2.2.1, hm.2.2.2.2.2.1, hm.2.2.2.2.2.2.1, hm.2.2.2.2.2.2.2.1, hm.2.2.2.2.2.2.2.2.1, hm.2.2.2.2.2.2.2.2.2.1, hm.2.2.2.2.2.2.2.2.2.2.1, hm.2.2.2.2.2.2.2.2.2.2.2.1, hm.2.2.2.2.2.2.2.2.2.2.2.2.1, hm.2.2.2.2.2.2.2.2.2.2.2.2.2⟩ (by omega) a) gX4_load_X4_isTree rfl (by decide +kernel) hm.1 rfl rfl ⟨(Nat.le_of_ble_eq_true rfl), (Nat.le_of_ble_eq_true rfl)⟩ ⟨(Nat.le_of_ble_eq_true rfl), (Nat.le_of_ble_eq_true rfl)⟩ (Nat.le_of_ble_eq_true rfl) dX4_load_28 rfl (fun r9 ad9 M9 h9 => ?_)
      obtain ⟨rfl, rfl, za, rfl, hza⟩ := h9
      rw [i1] at hza
      refine s_if_eq 63 dX4_load_31 (by decide) (fun c31 => ?_) (fun c31 => ?_)
      · obtain ⟨rfl, ea⟩ := hrel.c1 (Or.inl (fun q => by have z9 := hza.mpr q; rw [jB_0.mp c31] at z9; cases z9))
        refine s_aload_n dX4_load_63 rfl ?_
        refine s_iconst (v := 1) dX4_load_64 (by decide) ?_
        refine s_callV (As := [.int 1]) (rest := []) (n := 1) (kd := 12) (ix := 0) (fun l hl => c_X4_raise G l hl ad M c0 t0 hd on tw dp cl gr r0 kd fl co sm wk sp b0 mu ⟨hm.1, hm.2.1, hm.2.2.1, hm.2.2.2.1, hm.2.2.2.2.1, hm.2.2.2.2.2.1, hm.2.2.2.2.2.2.1, hm.2.2.2.2.2.2.2.1, hm.2.2.2.2.2.2.2.2.1, hm.2.2.2.2.2.2.2.2.2.1, hm.2.2.2.2.2.2.2.2.2.2.1, hm.2.2.2.2.2.2.2.2.2.2.2.1, hm.2.2.2.2.2.2.2.2.2.2.2.2.1, hm.2.2.2.2.2.2.2.2.2.2.2.2.2⟩ 1) gX4_load_X4_raise rfl (by decide +kernel) hm.1 rfl rfl ⟨(Nat.le_of_ble_eq_true rfl), (Nat.le_of_ble_eq_true rfl)⟩ ⟨(Nat.le_of_ble_eq_true rfl), (Nat.le_of_ble_eq_true rfl)⟩ (Nat.le_of_ble_eq_true rfl) dX4_load_65 rfl (fun r9 ad9 M9 h9 => ?_)
        obtain ⟨rfl, rfl, hm9, hs9⟩ := h9
        exact s_iret rfl (rfl) dX4_load_68 (Nat.le_of_ble_eq_true rfl) (Nat.le_of_ble_eq_true rfl) (⟨rfl, (sSame.rfl.trans hs9), ⟨(1, t0, hd, on, tw, dp, cl, gr, r0, kd, fl, co, sm, wk, sp, b0, mu), hm9, rfl, by rw [ea]; exact hI.any _ _ _ _ _⟩, _, rfl, fun q => absurd q (by decide)⟩)
      · refine s_iload dX4_load_34 rfl ?_
        refine s_iconst (v := 1) dX4_load_36 (by decide) ?_
        refine s_icmp_le 48 dX4_load_37 (by decide) (fun c37 => absurd c37 (by decide)) (fun c37 => ?_)
        refine s_aload_n dX4_load_40 rfl ?_
        refine s_iload_n dX4_load_41 rfl ?_
        refine s_callV (As := [.int b]) (rest := []) (n := 1) (kd := 12) (ix := 0) (fun l hl => c_X4_isTree G l hl ad M c0 t0 hd on tw dp cl gr r0 kd fl co sm wk sp b0 mu ⟨hm.1, hm.2.1, hm.2.2.1, hm.2.2.2.1, hm.2.2.2.2.1, hm.2.2.2.2.2.1, hm.2.2.2.2.2.2.1, hm.2.2.2.2.2.2.2.1, hm.2.2.2.2.2.2.2.2.1, hm.2.2.2.2.2.2.2.2.2.1, hm.2.2.2.2.2.2.2.2.2.2.1, hm.2.2.2.2.2.2.2.2.2.2.2.1, hm.2.2.2.2.2.2.2.2.2.2.2.2.1, hm.2.2.2.2.2.2.2.2.2.2.2.2.2⟩ (by omega) b) gX4_load_X4_isTree rfl (by decide +kernel) hm.1 rfl rfl ⟨(Nat.le_of_ble_eq_true rfl), (Nat.le_of_ble_eq_true rfl)⟩ ⟨(Nat.le_of_ble_eq_true rfl), (Nat.le_of_ble_eq_true rfl)⟩ (Nat.le_of_ble_eq_true rfl) dX4_load_42 rfl (fun r9 ad9 M9 h9 => ?_)
        obtain ⟨rfl, rfl, zb, rfl, hzb⟩ := h9
        rw [i1] at hzb
        refine s_if_eq 63 dX4_load_45 (by decide) (fun c45 => ?_) (fun c45 => ?_)
        · obtain ⟨rfl, ea⟩ := hrel.c1 (Or.inr (Or.inl ⟨by rw [etf]; omega, (fun q => by have z9 := hzb.mpr q; rw [jB_0.mp c45] at z9; cases z9)⟩))
          refine s_aload_n dX4_load_63 rfl ?_
          refine s_iconst (v := 1) dX4_load_64 (by decide) ?_
          refine s_callV (As := [.int 1]) (rest := []) (n := 1) (kd := 12) (ix := 0) (fun l hl => c_X4_raise G l hl ad M c0 t0 hd on tw dp cl gr r0 kd fl co sm wk sp b0 mu ⟨hm.1, hm.2.1, hm.2.2.1, hm.2.2.2.1, hm.2.2.2.2.1, hm.2.2.2.2.2.1, hm.2.2.2.2.2.2.1, hm.2.2.2.2.2.2.2.1, hm.2.2.2.2.2.2.2.2.1, hm.2.2.2.2.2.2.2.2.2.1, hm.2.2.2.2.2.2.2.2.2.2.1, hm.2.2.2.2.2.2.2.2.2.2.2.1, hm.2.2.2.2.2.2.2.2.2.2.2.2.1, hm.2.2.2.2.2.2.2.2.2.2.2.2.2⟩ 1) gX4_load_X4_raise rfl (by decide +kernel) hm.1 rfl rfl ⟨(Nat.le_of_ble_eq_true rfl), (Nat.le_of_ble_eq_true rfl)⟩ ⟨(Nat.le_of_ble_eq_true rfl), (Nat.le_of_ble_eq_true rfl)⟩ (Nat.le_of_ble_eq_true rfl) dX4_load_65 rfl (fun r9 ad9 M9 h9 => ?_)
          obtain ⟨rfl, rfl, hm9, hs9⟩ := h9
          exact s_iret rfl (rfl) dX4_load_68 (Nat.le_of_ble_eq_true rfl) (Nat.le_of_ble_eq_true rfl) (⟨rfl, (sSame.rfl.trans hs9), ⟨(1, t0, hd, on, tw, dp, cl, gr, r0, kd, fl, co, sm, wk, sp, b0, mu), hm9, rfl, by rw [ea]; exact hI.any _ _ _ _ _⟩, _, rfl, fun q => absurd q (by decide)⟩)
        · refine s_iload dX4_load_48 rfl ?_
          refine s_iconst (v := 2) dX4_load_50 (by decide) ?_
          refine s_icmp_le 69 dX4_load_51 (by decide) (fun c51 => ?_) (fun c51 => absurd (by decide) c51)
          have hn1 : ¬ lC1 α (nI 6) a b c := fun z => z.elim (fun z => z (hza.mp (Bool.of_not_eq_false (fun q => c31 (jB_0.mpr q))))) (fun z => z.elim (fun z => z.2 (hzb.mp (Bool.of_not_eq_false (fun q => c45 (jB_0.mpr q))))) (fun z => absurd z.1 (by rw [etf]; omega)))
          refine s_iload dX4_load_69 rfl ?_
          refine s_if_ne 80 dX4_load_71 (by decide) (fun c71 => ?_) (fun c71 => absurd c71 (c13))
          refine s_iload_n dX4_load_80 rfl ?_
          refine s_iconst (v := 1) dX4_load_81 (by decide) ?_
          refine s_icmp_ne 98 dX4_load_82 (by decide) (fun c82 => ?_) (fun c82 => absurd c82 (by decide))
          refine s_iload_n dX4_load_98 rfl ?_
          refine s_iconst (v := 2) dX4_load_99 (by decide) ?_
          refine s_icmp_eq 163 dX4_load_100 (by decide) (fun c100 => absurd c100 (by decide)) (fun c100 => ?_)
          refine s_iload_n dX4_load_103 rfl ?_
          refine s_iconst (v := 3) dX4_load_104 (by decide) ?_
          refine s_icmp_ne 138 dX4_load_105 (by decide) (fun c105 => ?_) (fun c105 => absurd c105 (by decide))
          refine s_iload_n dX4_load_138 rfl ?_
          refine s_iconst (v := 5) dX4_load_139 (by decide) ?_
          refine s_icmp_ne 157 dX4_load_140 (by decide) (fun c140 => ?_) (fun c140 => absurd c140 (by decide))
          refine s_iload dX4_load_157 rfl ?_
          refine s_iconst (v := -1) dX4_load_159 (by decide) ?_
          refine s_icmp_ne 167 dX4_load_160 (by decide) (fun c160 => ?_) (fun c160 => ?_)
          · refine s_iconst (v := 0) dX4_load_167 (by decide) ?_
            refine s_istore dX4_load_168 rfl rfl ?_
            refine s_lv (lv' := [some (.ref (ad 12 0)), some (.int (nI 6)), some (.int a), some (.int b), some (.int c), some (.int (jB zq)), some (.int 2), some (.int 0), none]) rfl ?_
            refine s_iload dX4_load_170 rfl ?_
            refine s_if_ne 181 dX4_load_172 (by decide) (fun c172 => absurd (rfl) c172) (fun c172 => ?_)
            obtain ⟨rfl, ea⟩ := hrel.c2 hn1 (by rw [show fitsK (nI 6) b c = _ from fitsK_6 b c]; exact c160)
            refine s_aload_n dX4_load_175 rfl ?_
            refine s_iconst (v := 2) dX4_load_176 (by decide) ?_
            refine s_callV (As := [.int 2]) (rest := []) (n := 1) (kd := 12) (ix := 0) (fun l hl => c_X4_raise G l hl ad M c0 t0 hd on tw dp cl gr r0 kd fl co sm wk sp b0 mu ⟨hm.1, hm.2.1, hm.2.2.1, hm.2.2.2.1, hm.2.2.2.2.1, hm.2.2.2.2.2.1, hm.2.2.2.2.2.2.1, hm.2.2.2.2.2.2.2.1, hm.2.2.2.2.2.2.2.2.1, hm.2.2.2.2.2.2.2.2.2.1, hm.2.2.2.2.2.2.2.2.2.2.1, hm.2.2.2.2.2.2.2.2.2.2.2.1, hm.2.2.2.2.2.2.2.2.2.2.2.2.1, hm.2.2.2.2.2.2.2.2.2.2.2.2.2⟩ 2) gX4_load_X4_raise rfl (by decide +kernel) hm.1 rfl rfl ⟨(Nat.le_of_ble_eq_true rfl), (Nat.le_of_ble_eq_true rfl)⟩ ⟨(Nat.le_of_ble_eq_true rfl), (Nat.le_of_ble_eq_true rfl)⟩ (Nat.le_of_ble_eq_true rfl) dX4_load_177 rfl (fun r9 ad9 M9 h9 => ?_)
            obtain ⟨rfl, rfl, hm9, hs9⟩ := h9
            exact s_iret rfl (rfl) dX4_load_180 (Nat.le_of_ble_eq_true rfl) (Nat.le_of_ble_eq_true rfl) (⟨rfl, (sSame.rfl.trans hs9), ⟨(2, t0, hd, on, tw, dp, cl, gr, r0, kd, fl, co, sm, wk, sp, b0, mu), hm9, rfl, by rw [ea]; exact hI.any _ _ _ _ _⟩, _, rfl, fun q => absurd q (by decide)⟩)
          · refine s_iconst (v := 1) dX4_load_163 (by decide) ?_
            refine s_goto 168 dX4_load_164 (by decide) ?_
            refine s_istore dX4_load_168 rfl rfl ?_
            refine s_lv (lv' := [some (.ref (ad 12 0)), some (.int (nI 6)), some (.int a), some (.int b), some (.int c), some (.int (jB zq)), some (.int 2), some (.int 1), none]) rfl ?_
            refine s_iload dX4_load_170 rfl ?_
            refine s_if_ne 181 dX4_load_172 (by decide) (fun c172 => ?_) (fun c172 => absurd c172 (by decide))
            have hfk : fitsK (nI 6) b c := by rw [show fitsK (nI 6) b c = _ from fitsK_6 b c]; exact c160
            refine s_aload_n dX4_load_181 rfl ?_
            refine s_get (kd := 12) (ix := 0) (ci := 5) (fs := [.int c0, .int (nI t0), .ref (ad 13 0), .ref (ad 14 0), .ref (ad 15 0), .ref (ad 16 0), .ref (ad 17 0), .ref (ad 18 0), .int (nI r0), .ref (ad 19 0), .ref (ad 20 0), .ref (ad 21 0), .ref (ad 22 0), .ref (ad 23 0), .ref (ad 24 0), .int (jB b0), .ref (ad 25 0)])  hm.1 rfl in_X4_load_X4 8 (by decide) (by decide +kernel) rfl rfl dX4_load_182 ?_
            refine s_bipush (v := 60) dX4_load_185 (by decide) ?_
            refine s_icmp_ne 196 dX4_load_187 (by decide) (fun c187 => ?_) (fun c187 => ?_)
            · obtain ⟨rfl, ev, hR1, ea⟩ := hrel.c0 hn1 hfk (fun z9 => c187 (by rw [show r0 = 60 by omega]; rfl))
              have hr1 : r0 < 60 := by omega
              refine s_aload_n dX4_load_196 rfl ?_
              refine s_iconst (v := 0) dX4_load_197 (by decide) ?_
              refine s_put (kd := 12) (ix := 0) (ci := 5) (v := .int 0) (ty := tyX4 0) (fs := [.int c0, .int (nI t0), .ref (ad 13 0), .ref (ad 14 0), .ref (ad 15 0), .ref (ad 16 0), .ref (ad 17 0), .ref (ad 18 0), .int (nI r0), .ref (ad 19 0), .ref (ad 20 0), .ref (ad 21 0), .ref (ad 22 0), .ref (ad 23 0), .ref (ad 24 0), .int (jB b0), .ref (ad 25 0)])  tyX4 tyX4_ok nmX4 hm.1 rfl in_X4_load_X4 0 (by decide) (by decide +kernel) rfl rfl (tyX4_ok 0 (by decide)) (rfl) (rfl) (Nat.le_of_ble_eq_true rfl) dX4_load_198 ?_
              refine s_M (M' := (sset M 12 0 (.inr (5, [.int 0, .int (nI t0), .ref (ad 13 0), .ref (ad 14 0), .ref (ad 15 0), .ref (ad 16 0), .ref (ad 17 0), .ref (ad 18 0), .int (nI r0), .ref (ad 19 0), .ref (ad 20 0), .ref (ad 21 0), .ref (ad 22 0), .ref (ad 23 0), .ref (ad 24 0), .int (jB b0), .ref (ad 25 0)])))) rfl ?_
              refine s_aload_n dX4_load_201 rfl ?_
              refine s_get (kd := 12) (ix := 0) (ci := 5) (fs := [.int 0, .int (nI t0), .ref (ad 13 0), .ref (ad 14 0), .ref (ad 15 0), .ref (ad 16 0), .ref (ad 17 0), .ref (ad 18 0), .int (nI r0), .ref (ad 19 0), .ref (ad 20 0), .ref (ad 21 0), .ref (ad 22 0), .ref (ad 23 0), .ref (ad 24 0), .int (jB b0), .ref (ad 25 0)])  (sset_self _ _ _ _) rfl in_X4_load_X4 9 (by decide) (by decide +kernel) rfl rfl dX4_load_202 ?_
              refine s_aload_n dX4_load_205 rfl ?_
              refine s_get (kd := 12) (ix := 0) (ci := 5) (fs := [.int 0, .int (nI t0), .ref (ad 13 0), .ref (ad 14 0), .ref (ad 15 0), .ref (ad 16 0), .ref (ad 17 0), .ref (ad 18 0), .int (nI r0), .ref (ad 19 0), .ref (ad 20 0), .ref (ad 21 0), .ref (ad 22 0), .ref (ad 23 0), .ref (ad 24 0), .int (jB b0), .ref (ad 25 0)])  (sset_self _ _ _ _) rfl in_X4_load_X4 8 (by decide) (by decide +kernel) rfl rfl dX4_load_206 ?_
              refine s_iload_n dX4_load_209 rfl ?_
              refine s_iast (kd := 19) (ix := 0) (n := 60) (f := kd) (j := r0) (x := nI 6) ((sset_k _ _ (by decide)).trans (hm.2.2.2.2.2.2.2.1))  (rfl) (by omega) (by decide) dX4_load_210 ?_
              refine s_aload_n dX4_load_211 rfl ?_
              refine s_get (kd := 12) (ix := 0) (ci := 5) (fs := [.int 0, .int (nI t0), .ref (ad 13 0), .ref (ad 14 0), .ref (ad 15 0), .ref (ad 16 0), .ref (ad 17 0), .ref (ad 18 0), .int (nI r0), .ref (ad 19 0), .ref (ad 20 0), .ref (ad 21 0), .ref (ad 22 0), .ref (ad 23 0), .ref (ad 24 0), .int (jB b0), .ref (ad 25 0)])  ((sset_k _ _ (by decide)).trans (sset_self _ _ _ _)) rfl in_X4_load_X4 10 (by decide) (by decide +kernel) rfl rfl dX4_load_212 ?_
              refine s_iconst (v := 3) dX4_load_215 (by decide) ?_
              refine s_aload_n dX4_load_216 rfl ?_
              refine s_get (kd := 12) (ix := 0) (ci := 5) (fs := [.int 0, .int (nI t0), .ref (ad 13 0), .ref (ad 14 0), .ref (ad 15 0), .ref (ad 16 0), .ref (ad 17 0), .ref (ad 18 0), .int (nI r0), .ref (ad 19 0), .ref (ad 20 0), .ref (ad 21 0), .ref (ad 22 0), .ref (ad 23 0), .ref (ad 24 0), .int (jB b0), .ref (ad 25 0)])  ((sset_k _ _ (by decide)).trans (sset_self _ _ _ _)) rfl in_X4_load_X4 8 (by decide) (by decide +kernel) rfl rfl dX4_load_217 ?_
              refine s_imul dX4_load_220 ?_
              refine s_eqi (y := nI (3 * r0)) (nI_mul 3 r0) ?_
              refine s_iload_n dX4_load_221 rfl ?_
              refine s_iast (kd := 20) (ix := 0) (n := 180) (f := fl) (j := 3 * r0) (x := a) ((sset_k _ _ (by decide)).trans ((sset_k _ _ (by decide)).trans (hm.2.2.2.2.2.2.2.2.1)))  (rfl) (by omega) (by decide) dX4_load_222 ?_
              refine s_aload_n dX4_load_223 rfl ?_
              refine s_get (kd := 12) (ix := 0) (ci := 5) (fs := [.int 0, .int (nI t0), .ref (ad 13 0), .ref (ad 14 0), .ref (ad 15 0), .ref (ad 16 0), .ref (ad 17 0), .ref (ad 18 0), .int (nI r0), .ref (ad 19 0), .ref (ad 20 0), .ref (ad 21 0), .ref (ad 22 0), .ref (ad 23 0), .ref (ad 24 0), .int (jB b0), .ref (ad 25 0)])  ((sset_k _ _ (by decide)).trans ((sset_k _ _ (by decide)).trans (sset_self _ _ _ _))) rfl in_X4_load_X4 10 (by decide) (by decide +kernel) rfl rfl dX4_load_224 ?_
              refine s_iconst (v := 3) dX4_load_227 (by decide) ?_
              refine s_aload_n dX4_load_228 rfl ?_
              refine s_get (kd := 12) (ix := 0) (ci := 5) (fs := [.int 0, .int (nI t0), .ref (ad 13 0), .ref (ad 14 0), .ref (ad 15 0), .ref (ad 16 0), .ref (ad 17 0), .ref (ad 18 0), .int (nI r0), .ref (ad 19 0), .ref (ad 20 0), .ref (ad 21 0), .ref (ad 22 0), .ref (ad 23 0), .ref (ad 24 0), .int (jB b0), .ref (ad 25 0)])  ((sset_k _ _ (by decide)).trans ((sset_k _ _ (by decide)).trans (sset_self _ _ _ _))) rfl in_X4_load_X4 8 (by decide) (by decide +kernel) rfl rfl dX4_load_229 ?_
              refine s_imul dX4_load_232 ?_
              refine s_eqi (y := nI (3 * r0)) (nI_mul 3 r0) ?_
              refine s_iconst (v := 1) dX4_load_233 (by decide) ?_
              refine s_iadd dX4_load_234 ?_
              refine s_eqi (y := nI (3 * r0 + 1)) (nI_add _ _) ?_
              refine s_iload_n dX4_load_235 rfl ?_
              refine s_iast (kd := 20) (ix := 0) (n := 180) (f := upd fl (3 * r0) a) (j := 3 * r0 + 1) (x := b) (sset_self _ _ _ _)  (rfl) (by omega) (by decide) dX4_load_236 ?_
              refine s_aload_n dX4_load_237 rfl ?_
              refine s_get (kd := 12) (ix := 0) (ci := 5) (fs := [.int 0, .int (nI t0), .ref (ad 13 0), .ref (ad 14 0), .ref (ad 15 0), .ref (ad 16 0), .ref (ad 17 0), .ref (ad 18 0), .int (nI r0), .ref (ad 19 0), .ref (ad 20 0), .ref (ad 21 0), .ref (ad 22 0), .ref (ad 23 0), .ref (ad 24 0), .int (jB b0), .ref (ad 25 0)])  ((sset_k _ _ (by decide)).trans ((sset_k _ _ (by decide)).trans ((sset_k _ _ (by decide)).trans (sset_self _ _ _ _)))) rfl in_X4_load_X4 10 (by decide) (by decide +kernel) rfl rfl dX4_load_238 ?_
              refine s_iconst (v := 3) dX4_load_241 (by decide) ?_
              refine s_aload_n dX4_load_242 rfl ?_
              refine s_get (kd := 12) (ix := 0) (ci := 5) (fs := [.int 0, .int (nI t0), .ref (ad 13 0), .ref (ad 14 0), .ref (ad 15 0), .ref (ad 16 0), .ref (ad 17 0), .ref (ad 18 0), .int (nI r0), .ref (ad 19 0), .ref (ad 20 0), .ref (ad 21 0), .ref (ad 22 0), .ref (ad 23 0), .ref (ad 24 0), .int (jB b0), .ref (ad 25 0)])  ((sset_k _ _ (by decide)).trans ((sset_k _ _ (by decide)).trans ((sset_k _ _ (by decide)).trans (sset_self _ _ _ _)))) rfl in_X4_load_X4 8 (by decide) (by decide +kernel) rfl rfl dX4_load_243 ?_
              refine s_imul dX4_load_246 ?_
              refine s_eqi (y := nI (3 * r0)) (nI_mul 3 r0) ?_
              refine s_iconst (v := 2) dX4_load_247 (by decide) ?_
              refine s_iadd dX4_load_248 ?_
              refine s_eqi (y := nI (3 * r0 + 2)) (nI_add _ _) ?_
              refine s_iload dX4_load_249 rfl ?_
              refine s_iast (kd := 20) (ix := 0) (n := 180) (f := upd (upd fl (3 * r0) a) (3 * r0 + 1) b) (j := 3 * r0 + 2) (x := c) (sset_self _ _ _ _)  (rfl) (by omega) (by decide) dX4_load_251 ?_
              refine s_aload_n dX4_load_252 rfl ?_
              refine s_get (kd := 12) (ix := 0) (ci := 5) (fs := [.int 0, .int (nI t0), .ref (ad 13 0), .ref (ad 14 0), .ref (ad 15 0), .ref (ad 16 0), .ref (ad 17 0), .ref (ad 18 0), .int (nI r0), .ref (ad 19 0), .ref (ad 20 0), .ref (ad 21 0), .ref (ad 22 0), .ref (ad 23 0), .ref (ad 24 0), .int (jB b0), .ref (ad 25 0)])  ((sset_k _ _ (by decide)).trans ((sset_k _ _ (by decide)).trans ((sset_k _ _ (by decide)).trans ((sset_k _ _ (by decide)).trans (sset_self _ _ _ _))))) rfl in_X4_load_X4 11 (by decide) (by decide +kernel) rfl rfl dX4_load_253 ?_
              refine s_aload_n dX4_load_256 rfl ?_
              refine s_get (kd := 12) (ix := 0) (ci := 5) (fs := [.int 0, .int (nI t0), .ref (ad 13 0), .ref (ad 14 0), .ref (ad 15 0), .ref (ad 16 0), .ref (ad 17 0), .ref (ad 18 0), .int (nI r0), .ref (ad 19 0), .ref (ad 20 0), .ref (ad 21 0), .ref (ad 22 0), .ref (ad 23 0), .ref (ad 24 0), .int (jB b0), .ref (ad 25 0)])  ((sset_k _ _ (by decide)).trans ((sset_k _ _ (by decide)).trans ((sset_k _ _ (by decide)).trans ((sset_k _ _ (by decide)).trans (sset_self _ _ _ _))))) rfl in_X4_load_X4 8 (by decide) (by decide +kernel) rfl rfl dX4_load_257 ?_
              refine s_iconst (v := -1) dX4_load_260 (by decide) ?_
              refine s_iast (kd := 21) (ix := 0) (n := 60) (f := co) (j := r0) (x := (-1)) ((sset_k _ _ (by decide)).trans ((sset_k _ _ (by decide)).trans ((sset_k _ _ (by decide)).trans ((sset_k _ _ (by decide)).trans ((sset_k _ _ (by decide)).trans (hm.2.2.2.2.2.2.2.2.2.1))))))  (rfl) (by omega) (by decide) dX4_load_261 ?_
              refine s_iconst (v := 0) dX4_load_262 (by decide) ?_
              refine s_istore dX4_load_263 rfl rfl ?_
              refine s_lv (lv' := [some (.ref (ad 12 0)), some (.int (nI 6)), some (.int a), some (.int b), some (.int c), some (.int (jB zq)), some (.int 2), some (.int 1), some (.int 0)]) rfl ?_
              refine s_iload dX4_load_265 rfl ?_
              refine s_iconst (v := 3) dX4_load_267 (by decide) ?_
              refine s_icmp_ge 292 dX4_load_268 (by decide) (fun c268 => absurd c268 (by decide)) (fun c268 => ?_)
              refine s_aload_n dX4_load_271 rfl ?_
              refine s_get (kd := 12) (ix := 0) (ci := 5) (fs := [.int 0, .int (nI t0), .ref (ad 13 0), .ref (ad 14 0), .ref (ad 15 0), .ref (ad 16 0), .ref (ad 17 0), .ref (ad 18 0), .int (nI r0), .ref (ad 19 0), .ref (ad 20 0), .ref (ad 21 0), .ref (ad 22 0), .ref (ad 23 0), .ref (ad 24 0), .int (jB b0), .ref (ad 25 0)])  ((sset_k _ _ (by decide)).trans ((sset_k _ _ (by decide)).trans ((sset_k _ _ (by decide)).trans ((sset_k _ _ (by decide)).trans ((sset_k _ _ (by decide)).trans (sset_self _ _ _ _)))))) rfl in_X4_load_X4 12 (by decide) (by decide +kernel) rfl rfl dX4_load_272 ?_
              refine s_iconst (v := 3) dX4_load_275 (by decide) ?_
              refine s_aload_n dX4_load_276 rfl ?_
              refine s_get (kd := 12) (ix := 0) (ci := 5) (fs := [.int 0, .int (nI t0), .ref (ad 13 0), .ref (ad 14 0), .ref (ad 15 0), .ref (ad 16 0), .ref (ad 17 0), .ref (ad 18 0), .int (nI r0), .ref (ad 19 0), .ref (ad 20 0), .ref (ad 21 0), .ref (ad 22 0), .ref (ad 23 0), .ref (ad 24 0), .int (jB b0), .ref (ad 25 0)])  ((sset_k _ _ (by decide)).trans ((sset_k _ _ (by decide)).trans ((sset_k _ _ (by decide)).trans ((sset_k _ _ (by decide)).trans ((sset_k _ _ (by decide)).trans (sset_self _ _ _ _)))))) rfl in_X4_load_X4 8 (by decide) (by decide +kernel) rfl rfl dX4_load_277 ?_
              refine s_imul dX4_load_280 ?_
              refine s_eqi (y := nI (3 * r0)) (nI_mul 3 r0) ?_
              refine s_iload dX4_load_281 rfl ?_
              refine s_iadd dX4_load_283 ?_
              refine s_eqi (y := nI (3 * r0 + 0)) (nI_add _ _) ?_
              refine s_iconst (v := 0) dX4_load_284 (by decide) ?_
              refine s_iast (kd := 22) (ix := 0) (n := 180) (f := sm) (j := 3 * r0 + 0) (x := 0) ((sset_k _ _ (by decide)).trans ((sset_k _ _ (by decide)).trans ((sset_k _ _ (by decide)).trans ((sset_k _ _ (by decide)).trans ((sset_k _ _ (by decide)).trans ((sset_k _ _ (by decide)).trans (hm.2.2.2.2.2.2.2.2.2.2.1)))))))  (rfl) (by omega) (by decide) dX4_load_285 ?_
              refine s_iinc (v := 1) dX4_load_286 rfl (by decide) rfl ?_
              refine s_lv (lv' := [some (.ref (ad 12 0)), some (.int (nI 6)), some (.int a), some (.int b), some (.int c), some (.int (jB zq)), some (.int 2), some (.int 1), some (.int 1)]) rfl ?_
              refine s_goto 265 dX4_load_289 (by decide) ?_
              refine s_iload dX4_load_265 rfl ?_
              refine s_iconst (v := 3) dX4_load_267 (by decide) ?_
              refine s_icmp_ge 292 dX4_load_268 (by decide) (fun c268 => absurd c268 (by decide)) (fun c268 => ?_)
              refine s_aload_n dX4_load_271 rfl ?_
              refine s_get (kd := 12) (ix := 0) (ci := 5) (fs := [.int 0, .int (nI t0), .ref (ad 13 0), .ref (ad 14 0), .ref (ad 15 0), .ref (ad 16 0), .ref (ad 17 0), .ref (ad 18 0), .int (nI r0), .ref (ad 19 0), .ref (ad 20 0), .ref (ad 21 0), .ref (ad 22 0), .ref (ad 23 0), .ref (ad 24 0), .int (jB b0), .ref (ad 25 0)])  ((sset_k _ _ (by decide)).trans ((sset_k _ _ (by decide)).trans ((sset_k _ _ (by decide)).trans ((sset_k _ _ (by decide)).trans ((sset_k _ _ (by decide)).trans ((sset_k _ _ (by decide)).trans (sset_self _ _ _ _))))))) rfl in_X4_load_X4 12 (by decide) (by decide +kernel) rfl rfl dX4_load_272 ?_
              refine s_iconst (v := 3) dX4_load_275 (by decide) ?_
              refine s_aload_n dX4_load_276 rfl ?_
              refine s_get (kd := 12) (ix := 0) (ci := 5) (fs := [.int 0, .int (nI t0), .ref (ad 13 0), .ref (ad 14 0), .ref (ad 15 0), .ref (ad 16 0), .ref (ad 17 0), .ref (ad 18 0), .int (nI r0), .ref (ad 19 0), .ref (ad 20 0), .ref (ad 21 0), .ref (ad 22 0), .ref (ad 23 0), .ref (ad 24 0), .int (jB b0), .ref (ad 25 0)])  ((sset_k _ _ (by decide)).trans ((sset_k _ _ (by decide)).trans ((sset_k _ _ (by decide)).trans ((sset_k _ _ (by decide)).trans ((sset_k _ _ (by decide)).trans ((sset_k _ _ (by decide)).trans (sset_self _ _ _ _))))))) rfl in_X4_load_X4 8 (by decide) (by decide +kernel) rfl rfl dX4_load_277 ?_
              refine s_imul dX4_load_280 ?_
              refine s_eqi (y := nI (3 * r0)) (nI_mul 3 r0) ?_
              refine s_iload dX4_load_281 rfl ?_
              refine s_iadd dX4_load_283 ?_
              refine s_eqi (y := nI (3 * r0 + 1)) (nI_add _ _) ?_
              refine s_iconst (v := 0) dX4_load_284 (by decide) ?_
              refine s_iast (kd := 22) (ix := 0) (n := 180) (f := upd sm (3 * r0 + 0) 0) (j := 3 * r0 + 1) (x := 0) (sset_self _ _ _ _)  (rfl) (by omega) (by decide) dX4_load_285 ?_
              refine s_iinc (v := 2) dX4_load_286 rfl (by decide) rfl ?_
              refine s_lv (lv' := [some (.ref (ad 12 0)), some (.int (nI 6)), some (.int a), some (.int b), some (.int c), some (.int (jB zq)), some (.int 2), some (.int 1), some (.int 2)]) rfl ?_
              refine s_goto 265 dX4_load_289 (by decide) ?_
              refine s_iload dX4_load_265 rfl ?_
              refine s_iconst (v := 3) dX4_load_267 (by decide) ?_
              refine s_icmp_ge 292 dX4_load_268 (by decide) (fun c268 => absurd c268 (by decide)) (fun c268 => ?_)
              refine s_aload_n dX4_load_271 rfl ?_
              refine s_get (kd := 12) (ix := 0) (ci := 5) (fs := [.int 0, .int (nI t0), .ref (ad 13 0), .ref (ad 14 0), .ref (ad 15 0), .ref (ad 16 0), .ref (ad 17 0), .ref (ad 18 0), .int (nI r0), .ref (ad 19 0), .ref (ad 20 0), .ref (ad 21 0), .ref (ad 22 0), .ref (ad 23 0), .ref (ad 24 0), .int (jB b0), .ref (ad 25 0)])  ((sset_k _ _ (by decide)).trans ((sset_k _ _ (by decide)).trans ((sset_k _ _ (by decide)).trans ((sset_k _ _ (by decide)).trans ((sset_k _ _ (by decide)).trans ((sset_k _ _ (by decide)).trans ((sset_k _ _ (by decide)).trans (sset_self _ _ _ _)))))))) rfl in_X4_load_X4 12 (by decide) (by decide +kernel) rfl rfl dX4_load_272 ?_
              refine s_iconst (v := 3) dX4_load_275 (by decide) ?_
              refine s_aload_n dX4_load_276 rfl ?_
              refine s_get (kd := 12) (ix := 0) (ci := 5) (fs := [.int 0, .int (nI t0), .ref (ad 13 0), .ref (ad 14 0), .ref (ad 15 0), .ref (ad 16 0), .ref (ad 17 0), .ref (ad 18 0), .int (nI r0), .ref (ad 19 0), .ref (ad 20 0), .ref (ad 21 0), .ref (ad 22 0), .ref (ad 23 0), .ref (ad 24 0), .int (jB b0), .ref (ad 25 0)])  ((sset_k _ _ (by decide)).trans ((sset_k _ _ (by decide)).trans ((sset_k _ _ (by decide)).trans ((sset_k _ _ (by decide)).trans ((sset_k _ _ (by decide)).trans ((sset_k _ _ (by decide)).trans ((sset_k _ _ (by decide)).trans (sset_self _ _ _ _)))))))) rfl in_X4_load_X4 8 (by decide) (by decide +kernel) rfl rfl dX4_load_277 ?_
              refine s_imul dX4_load_280 ?_
              refine s_eqi (y := nI (3 * r0)) (nI_mul 3 r0) ?_
              refine s_iload dX4_load_281 rfl ?_
              refine s_iadd dX4_load_283 ?_
              refine s_eqi (y := nI (3 * r0 + 2)) (nI_add _ _) ?_
              refine s_iconst (v := 0) dX4_load_284 (by decide) ?_
              refine s_iast (kd := 22) (ix := 0) (n := 180) (f := upd (upd sm (3 * r0 + 0) 0) (3 * r0 + 1) 0) (j := 3 * r0 + 2) (x := 0) (sset_self _ _ _ _)  (rfl) (by omega) (by decide) dX4_load_285 ?_
              refine s_iinc (v := 3) dX4_load_286 rfl (by decide) rfl ?_
              refine s_lv (lv' := [some (.ref (ad 12 0)), some (.int (nI 6)), some (.int a), some (.int b), some (.int c), some (.int (jB zq)), some (.int 2), some (.int 1), some (.int 3)]) rfl ?_
              refine s_goto 265 dX4_load_289 (by decide) ?_
              refine s_iload dX4_load_265 rfl ?_
              refine s_iconst (v := 3) dX4_load_267 (by decide) ?_
              refine s_icmp_ge 292 dX4_load_268 (by decide) (fun c268 => ?_) (fun c268 => absurd (by decide) c268)
              refine s_aload_n dX4_load_292 rfl ?_
              refine s_dup dX4_load_293 rfl ?_
              refine s_get (kd := 12) (ix := 0) (ci := 5) (fs := [.int 0, .int (nI t0), .ref (ad 13 0), .ref (ad 14 0), .ref (ad 15 0), .ref (ad 16 0), .ref (ad 17 0), .ref (ad 18 0), .int (nI r0), .ref (ad 19 0), .ref (ad 20 0), .ref (ad 21 0), .ref (ad 22 0), .ref (ad 23 0), .ref (ad 24 0), .int (jB b0), .ref (ad 25 0)])  ((sset_k _ _ (by decide)).trans ((sset_k _ _ (by decide)).trans ((sset_k _ _ (by decide)).trans ((sset_k _ _ (by decide)).trans ((sset_k _ _ (by decide)).trans ((sset_k _ _ (by decide)).trans ((sset_k _ _ (by decide)).trans ((sset_k _ _ (by decide)).trans (sset_self _ _ _ _))))))))) rfl in_X4_load_X4 8 (by decide) (by decide +kernel) rfl rfl dX4_load_294 ?_
              refine s_iconst (v := 1) dX4_load_297 (by decide) ?_
              refine s_iadd dX4_load_298 ?_
              refine s_eqi (y := nI (r0 + 1)) (nI_1 _) ?_
              refine s_put (kd := 12) (ix := 0) (ci := 5) (v := .int (nI (r0 + 1))) (ty := tyX4 8) (fs := [.int 0, .int (nI t0), .ref (ad 13 0), .ref (ad 14 0), .ref (ad 15 0), .ref (ad 16 0), .ref (ad 17 0), .ref (ad 18 0), .int (nI r0), .ref (ad 19 0), .ref (ad 20 0), .ref (ad 21 0), .ref (ad 22 0), .ref (ad 23 0), .ref (ad 24 0), .int (jB b0), .ref (ad 25 0)])  tyX4 tyX4_ok nmX4 ((sset_k _ _ (by decide)).trans ((sset_k _ _ (by decide)).trans ((sset_k _ _ (by decide)).trans ((sset_k _ _ (by decide)).trans ((sset_k _ _ (by decide)).trans ((sset_k _ _ (by decide)).trans ((sset_k _ _ (by decide)).trans ((sset_k _ _ (by decide)).trans (sset_self _ _ _ _))))))))) rfl in_X4_load_X4 8 (by decide) (by decide +kernel) rfl rfl (tyX4_ok 8 (by decide)) (rfl) (rfl) (Nat.le_of_ble_eq_true rfl) dX4_load_299 ?_
              refine s_M (M' := (sset (sset (sset (sset (sset (sset (sset (sset (sset (sset M 12 0 (.inr (5, [.int 0, .int (nI t0), .ref (ad 13 0), .ref (ad 14 0), .ref (ad 15 0), .ref (ad 16 0), .ref (ad 17 0), .ref (ad 18 0), .int (nI r0), .ref (ad 19 0), .ref (ad 20 0), .ref (ad 21 0), .ref (ad 22 0), .ref (ad 23 0), .ref (ad 24 0), .int (jB b0), .ref (ad 25 0)]))) 19 0 (.inl (gI G, 60, .inl (upd kd r0 (nI 6))))) 20 0 (.inl (gI G, 180, .inl (upd fl (3 * r0) a)))) 20 0 (.inl (gI G, 180, .inl (upd (upd fl (3 * r0) a) (3 * r0 + 1) b)))) 20 0 (.inl (gI G, 180, .inl (upd (upd (upd fl (3 * r0) a) (3 * r0 + 1) b) (3 * r0 + 2) c)))) 21 0 (.inl (gI G, 60, .inl (upd co r0 (-1))))) 22 0 (.inl (gI G, 180, .inl (upd sm (3 * r0 + 0) 0)))) 22 0 (.inl (gI G, 180, .inl (upd (upd sm (3 * r0 + 0) 0) (3 * r0 + 1) 0)))) 22 0 (.inl (gI G, 180, .inl (upd (upd (upd sm (3 * r0 + 0) 0) (3 * r0 + 1) 0) (3 * r0 + 2) 0)))) 12 0 (.inr (5, [.int 0, .int (nI t0), .ref (ad 13 0), .ref (ad 14 0), .ref (ad 15 0), .ref (ad 16 0), .ref (ad 17 0), .ref (ad 18 0), .int (nI (r0 + 1)), .ref (ad 19 0), .ref (ad 20 0), .ref (ad 21 0), .ref (ad 22 0), .ref (ad 23 0), .ref (ad 24 0), .int (jB b0), .ref (ad 25 0)])))) rfl ?_
              refine s_aload_n dX4_load_302 rfl ?_
              refine s_get (kd := 12) (ix := 0) (ci := 5) (fs := [.int 0, .int (nI t0), .ref (ad 13 0), .ref (ad 14 0), .ref (ad 15 0), .ref (ad 16 0), .ref (ad 17 0), .ref (ad 18 0), .int (nI (r0 + 1)), .ref (ad 19 0), .ref (ad 20 0), .ref (ad 21 0), .ref (ad 22 0), .ref (ad 23 0), .ref (ad 24 0), .int (jB b0), .ref (ad 25 0)])  (sset_self _ _ _ _) rfl in_X4_load_X4 8 (by decide) (by decide +kernel) rfl rfl dX4_load_303 ?_
              refine s_iconst (v := 1) dX4_load_306 (by decide) ?_
              refine s_isub dX4_load_307 ?_
              refine s_eqi (y := nI r0) (nI_m1 (by omega)) ?_
              exact s_iret rfl (rfl) dX4_load_308 (Nat.le_of_ble_eq_true rfl) (Nat.le_of_ble_eq_true rfl) (⟨rfl, (sSame.rfl |>.set (P := pMd) (by simp [pMd]) _ |>.set (P := pMd) (by simp [pMd]) _ |>.set (P := pMd) (by simp [pMd]) _ |>.set (P := pMd) (by simp [pMd]) _ |>.set (P := pMd) (by simp [pMd]) _ |>.set (P := pMd) (by simp [pMd]) _ |>.set (P := pMd) (by simp [pMd]) _ |>.set (P := pMd) (by simp [pMd]) _ |>.set (P := pMd) (by simp [pMd]) _ |>.set (P := pMd) (by simp [pMd]) _), ⟨(0, t0, hd, on, tw, dp, cl, gr, (r0 + 1), upd kd r0 (nI 6), upd (upd (upd fl (3 * r0) a) (3 * r0 + 1) b) (3 * r0 + 2) c, upd co r0 (-1), upd (upd (upd sm (3 * r0 + 0) 0) (3 * r0 + 1) 0) (3 * r0 + 2) 0, wk, sp, b0, mu), ⟨(sset_self _ _ _ _), ((sset_k _ _ (by decide)).trans ((sset_k _ _ (by decide)).trans ((sset_k _ _ (by decide)).trans ((sset_k _ _ (by decide)).trans ((sset_k _ _ (by decide)).trans ((sset_k _ _ (by decide)).trans ((sset_k _ _ (by decide)).trans ((sset_k _ _ (by decide)).trans ((sset_k _ _ (by decide)).trans ((sset_k _ _ (by decide)).trans (hm.2.1))))))))))), ((sset_k _ _ (by decide)).trans ((sset_k _ _ (by decide)).trans ((sset_k _ _ (by decide)).trans ((sset_k _ _ (by decide)).trans ((sset_k _ _ (by decide)).trans ((sset_k _ _ (by decide)).trans ((sset_k _ _ (by decide)).trans ((sset_k _ _ (by decide)).trans ((sset_k _ _ (by decide)).trans ((sset_k _ _ (by decide)).trans (hm.2.2.1))))))))))), ((sset_k _ _ (by decide)).trans ((sset_k _ _ (by decide)).trans ((sset_k _ _ (by decide)).trans ((sset_k _ _ (by decide)).trans ((sset_k _ _ (by decide)).trans ((sset_k _ _ (by decide)).trans ((sset_k _ _ (by decide)).trans ((sset_k _ _ (by decide)).trans ((sset_k _ _ (by decide)).trans ((sset_k _ _ (by decide)).trans (hm.2.2.2.1))))))))))), ((sset_k _ _ (by decide)).trans ((sset_k _ _ (by decide)).trans ((sset_k _ _ (by decide)).trans ((sset_k _ _ (by decide)).trans ((sset_k _ _ (by decide)).trans ((sset_k _ _ (by decide)).trans ((sset_k _ _ (by decide)).trans ((sset_k _ _ (by decide)).trans ((sset_k _ _ (by decide)).trans ((sset_k _ _ (by decide)).trans (hm.2.2.2.2.1))))))))))), ((sset_k _ _ (by decide)).trans ((sset_k _ _ (by decide)).trans ((sset_k _ _ (by decide)).trans ((sset_k _ _ (by decide)).trans ((sset_k _ _ (by decide)).trans ((sset_k _ _ (by decide)).trans ((sset_k _ _ (by decide)).trans ((sset_k _ _ (by decide)).trans ((sset_k _ _ (by decide)).trans ((sset_k _ _ (by decide)).trans (hm.2.2.2.2.2.1))))))))))), ((sset_k _ _ (by decide)).trans ((sset_k _ _ (by decide)).trans ((sset_k _ _ (by decide)).trans ((sset_k _ _ (by decide)).trans ((sset_k _ _ (by decide)).trans ((sset_k _ _ (by decide)).trans ((sset_k _ _ (by decide)).trans ((sset_k _ _ (by decide)).trans ((sset_k _ _ (by decide)).trans ((sset_k _ _ (by decide)).trans (hm.2.2.2.2.2.2.1))))))))))), ((sset_k _ _ (by decide)).trans ((sset_k _ _ (by decide)).trans ((sset_k _ _ (by decide)).trans ((sset_k _ _ (by decide)).trans ((sset_k _ _ (by decide)).trans ((sset_k _ _ (by decide)).trans ((sset_k _ _ (by decide)).trans ((sset_k _ _ (by decide)).trans (sset_self _ _ _ _))))))))), ((sset_k _ _ (by decide)).trans ((sset_k _ _ (by decide)).trans ((sset_k _ _ (by decide)).trans ((sset_k _ _ (by decide)).trans ((sset_k _ _ (by decide)).trans (sset_self _ _ _ _)))))), ((sset_k _ _ (by decide)).trans ((sset_k _ _ (by decide)).trans ((sset_k _ _ (by decide)).trans ((sset_k _ _ (by decide)).trans (sset_self _ _ _ _))))), ((sset_k _ _ (by decide)).trans (sset_self _ _ _ _)), ((sset_k _ _ (by decide)).trans ((sset_k _ _ (by decide)).trans ((sset_k _ _ (by decide)).trans ((sset_k _ _ (by decide)).trans ((sset_k _ _ (by decide)).trans ((sset_k _ _ (by decide)).trans ((sset_k _ _ (by decide)).trans ((sset_k _ _ (by decide)).trans ((sset_k _ _ (by decide)).trans ((sset_k _ _ (by decide)).trans (hm.2.2.2.2.2.2.2.2.2.2.2.1))))))))))), ((sset_k _ _ (by decide)).trans ((sset_k _ _ (by decide)).trans ((sset_k _ _ (by decide)).trans ((sset_k _ _ (by decide)).trans ((sset_k _ _ (by decide)).trans ((sset_k _ _ (by decide)).trans ((sset_k _ _ (by decide)).trans ((sset_k _ _ (by decide)).trans ((sset_k _ _ (by decide)).trans ((sset_k _ _ (by decide)).trans (hm.2.2.2.2.2.2.2.2.2.2.2.2.1))))))))))), ((sset_k _ _ (by decide)).trans ((sset_k _ _ (by decide)).trans ((sset_k _ _ (by decide)).trans ((sset_k _ _ (by decide)).trans ((sset_k _ _ (by decide)).trans ((sset_k _ _ (by decide)).trans ((sset_k _ _ (by decide)).trans ((sset_k _ _ (by decide)).trans ((sset_k _ _ (by decide)).trans ((sset_k _ _ (by decide)).trans (hm.2.2.2.2.2.2.2.2.2.2.2.2.2)))))))))))⟩, rfl, by rw [ea]; exact hI.ldR _ _ _ _⟩, _, rfl, fun _ => by rw [ev, i2]⟩)
            · obtain ⟨rfl, ea⟩ := hrel.c3 hn1 hfk (by have z9 := (nI_eq (a := r0) (b := 60) (by omega) (by omega)).mp c187; omega)
              refine s_aload_n dX4_load_190 rfl ?_
              refine s_iconst (v := 3) dX4_load_191 (by decide) ?_
              refine s_callV (As := [.int 3]) (rest := []) (n := 1) (kd := 12) (ix := 0) (fun l hl => c_X4_raise G l hl ad M c0 t0 hd on tw dp cl gr r0 kd fl co sm wk sp b0 mu ⟨hm.1, hm.2.1, hm.2.2.1, hm.2.2.2.1, hm.2.2.2.2.1, hm.2.2.2.2.2.1, hm.2.2.2.2.2.2.1, hm.2.2.2.2.2.2.2.1, hm.2.2.2.2.2.2.2.2.1, hm.2.2.2.2.2.2.2.2.2.1, hm.2.2.2.2.2.2.2.2.2.2.1, hm.2.2.2.2.2.2.2.2.2.2.2.1, hm.2.2.2.2.2.2.2.2.2.2.2.2.1, hm.2.2.2.2.2.2.2.2.2.2.2.2.2⟩ 3) gX4_load_X4_raise rfl (by decide +kernel) hm.1 rfl rfl ⟨(Nat.le_of_ble_eq_true rfl), (Nat.le_of_ble_eq_true rfl)⟩ ⟨(Nat.le_of_ble_eq_true rfl), (Nat.le_of_ble_eq_true rfl)⟩ (Nat.le_of_ble_eq_true rfl) dX4_load_192 rfl (fun r9 ad9 M9 h9 => ?_)
              obtain ⟨rfl, rfl, hm9, hs9⟩ := h9
              exact s_iret rfl (rfl) dX4_load_195 (Nat.le_of_ble_eq_true rfl) (Nat.le_of_ble_eq_true rfl) (⟨rfl, (sSame.rfl.trans hs9), ⟨(3, t0, hd, on, tw, dp, cl, gr, r0, kd, fl, co, sm, wk, sp, b0, mu), hm9, rfl, by rw [ea]; exact hI.any _ _ _ _ _⟩, _, rfl, fun q => absurd q (by decide)⟩)
abbrev mX4_cofactor : sMeth := (cX4_cofactor, 3, RX4, wsX4_cofactor, { frames := 2, cells := 0, slots := 0, locals := 46 }, none, "cofactor", [])
theorem in_X4_cofactor_X4 : ∀ w ∈ wsX40, w ∈ wsX4_cofactor := by decide +kernel
set_option maxHeartbeats 4000000 in
set_option maxRecDepth 100000 in
theorem c_X4_cofactor (G : sG) (l : Launch) (hl : l.stackTraces = false) (ad : sAd) (M : sM) (c0 : Int32) (t0 : Nat) (hd : Nat → Int32) (on : Nat → Int32) (tw : Nat → Int32) (dp : Nat → Int32) (cl : Nat → Int32) (gr : Nat → Int32) (r0 : Nat) (kd : Nat → Int32) (fl : Nat → Int32) (co : Nat → Int32) (sm : Nat → Int32) (wk : Nat → Int64) (sp : Nat → Int64) (b0 : Bool) (mu : Nat → Int32) (hm : hMd G ad M (c0, t0, hd, on, tw, dp, cl, gr, r0, kd, fl, co, sm, wk, sp, b0, mu)) (α : sAl) (hA : AI α) (hI : RI α (c0, t0, hd, on, tw, dp, cl, gr, r0, kd, fl, co, sm, wk, sp, b0, mu)) (x t : Int32) (k : Nat) (α' : sAl) (hrel : cfRel α x t k α') : sMet G l yX4_cofactor mX4_cofactor [.ref (ad 12 0), .int x, .int t] ad M (mPostV G ad M k α') (fun _ _ _ => False) := by
  obtain ⟨i1, i2, i3, i4⟩ := id hI
  have hT := hA.1
  have hR60 := hA.2.1
  refine sMet.of hl (by decide +kernel) rfl rfl rfl rfl (Nat.le_of_ble_eq_true rfl) (fun X => ?_)
  refine s_lv (lv' := [some (.ref (ad 12 0)), some (.int x), some (.int t)]) rfl ?_
  refine s_aload_n dX4_cofactor_0 rfl ?_
  refine s_aload_n dX4_cofactor_1 rfl ?_
  refine s_iload_n dX4_cofactor_2 rfl ?_
  refine s_callV (As := [.int x]) (rest := [.ref (ad 12 0)]) (n := 1) (kd := 12) (ix := 0) (fun l hl => c_X4_isRow G l hl ad M c0 t0 hd on tw dp cl gr r0 kd fl co sm wk sp b0 mu ⟨hm.1, hm.2.1, hm.2.2.1, hm.2.2.2.1, hm.2.2.2.2.1, hm.2.2.2.2.2.1, hm.2.2.2.2.2.2.1, hm.2.2.2.2.2.2.2.1, hm.2.2.2.2.2.2.2.2.1, hm.2.2.2.2.2.2.2.2.2.1, hm.2.2.2.2.2.2.2.2.2.2.1, hm.2.2.2.2.2.2.2.2.2.2.2.1, hm.2.2.2.2.2.2.2.2.2.2.2.2.1, hm.2.2.2.2.2.2.2.2.2.2.2.2.2⟩ (by omega) x) gX4_cofactor_X4_isRow rfl (by decide +kernel) hm.1 rfl rfl ⟨(Nat.le_of_ble_eq_true rfl), (Nat.le_of_ble_eq_true rfl)⟩ ⟨(Nat.le_of_ble_eq_true rfl), (Nat.le_of_ble_eq_true rfl)⟩ (Nat.le_of_ble_eq_true rfl) dX4_cofactor_3 rfl (fun r9 ad9 M9 h9 => ?_)
  obtain ⟨rfl, rfl, zr, rfl, hzr⟩ := h9
  rw [i2] at hzr
  refine s_if_eq 17 dX4_cofactor_6 (by decide) (fun c6 => ?_) (fun c6 => ?_)
  · obtain ⟨rfl, ea⟩ := hrel.c1 (Or.inl (fun q => by have z9 := hzr.mpr q; rw [jB_0.mp c6] at z9; cases z9))
    refine s_iconst (v := 1) dX4_cofactor_17 (by decide) ?_
    refine s_goto 37 dX4_cofactor_18 (by decide) ?_
    refine s_put (kd := 12) (ix := 0) (ci := 5) (v := .int 1) (ty := tyX4 0) (fs := [.int c0, .int (nI t0), .ref (ad 13 0), .ref (ad 14 0), .ref (ad 15 0), .ref (ad 16 0), .ref (ad 17 0), .ref (ad 18 0), .int (nI r0), .ref (ad 19 0), .ref (ad 20 0), .ref (ad 21 0), .ref (ad 22 0), .ref (ad 23 0), .ref (ad 24 0), .int (jB b0), .ref (ad 25 0)])  tyX4 tyX4_ok nmX4 hm.1 rfl in_X4_cofactor_X4 0 (by decide) (by decide +kernel) rfl rfl (tyX4_ok 0 (by decide)) (rfl) (rfl) (Nat.le_of_ble_eq_true rfl) dX4_cofactor_37 ?_
    refine s_M (M' := (sset M 12 0 (.inr (5, [.int 1, .int (nI t0), .ref (ad 13 0), .ref (ad 14 0), .ref (ad 15 0), .ref (ad 16 0), .ref (ad 17 0), .ref (ad 18 0), .int (nI r0), .ref (ad 19 0), .ref (ad 20 0), .ref (ad 21 0), .ref (ad 22 0), .ref (ad 23 0), .ref (ad 24 0), .int (jB b0), .ref (ad 25 0)])))) rfl ?_
    refine s_aload_n dX4_cofactor_40 rfl ?_
    refine s_get (kd := 12) (ix := 0) (ci := 5) (fs := [.int 1, .int (nI t0), .ref (ad 13 0), .ref (ad 14 0), .ref (ad 15 0), .ref (ad 16 0), .ref (ad 17 0), .ref (ad 18 0), .int (nI r0), .ref (ad 19 0), .ref (ad 20 0), .ref (ad 21 0), .ref (ad 22 0), .ref (ad 23 0), .ref (ad 24 0), .int (jB b0), .ref (ad 25 0)])  (sset_self _ _ _ _) rfl in_X4_cofactor_X4 0 (by decide) (by decide +kernel) rfl rfl dX4_cofactor_41 ?_
    refine s_if_ne 54 dX4_cofactor_44 (by decide) (fun c44 => ?_) (fun c44 => absurd c44 (by decide))
    exact s_vret rfl dX4_cofactor_54 (Nat.le_of_ble_eq_true rfl) (Nat.le_of_ble_eq_true rfl) (⟨rfl, (sSame.rfl |>.set (P := pMd) (by simp [pMd]) _), ⟨(1, t0, hd, on, tw, dp, cl, gr, r0, kd, fl, co, sm, wk, sp, b0, mu), ⟨(sset_self _ _ _ _), ((sset_k _ _ (by decide)).trans (hm.2.1)), ((sset_k _ _ (by decide)).trans (hm.2.2.1)), ((sset_k _ _ (by decide)).trans (hm.2.2.2.1)), ((sset_k _ _ (by decide)).trans (hm.2.2.2.2.1)), ((sset_k _ _ (by decide)).trans (hm.2.2.2.2.2.1)), ((sset_k _ _ (by decide)).trans (hm.2.2.2.2.2.2.1)), ((sset_k _ _ (by decide)).trans (hm.2.2.2.2.2.2.2.1)), ((sset_k _ _ (by decide)).trans (hm.2.2.2.2.2.2.2.2.1)), ((sset_k _ _ (by decide)).trans (hm.2.2.2.2.2.2.2.2.2.1)), ((sset_k _ _ (by decide)).trans (hm.2.2.2.2.2.2.2.2.2.2.1)), ((sset_k _ _ (by decide)).trans (hm.2.2.2.2.2.2.2.2.2.2.2.1)), ((sset_k _ _ (by decide)).trans (hm.2.2.2.2.2.2.2.2.2.2.2.2.1)), ((sset_k _ _ (by decide)).trans (hm.2.2.2.2.2.2.2.2.2.2.2.2.2))⟩, rfl, by rw [ea]; exact hI.any _ _ _ _ _⟩, rfl⟩)
  · refine s_aload_n dX4_cofactor_9 rfl ?_
    refine s_iload_n dX4_cofactor_10 rfl ?_
    refine s_callV (As := [.int t]) (rest := [.ref (ad 12 0)]) (n := 1) (kd := 12) (ix := 0) (fun l hl => c_X4_isTree G l hl ad M c0 t0 hd on tw dp cl gr r0 kd fl co sm wk sp b0 mu ⟨hm.1, hm.2.1, hm.2.2.1, hm.2.2.2.1, hm.2.2.2.2.1, hm.2.2.2.2.2.1, hm.2.2.2.2.2.2.1, hm.2.2.2.2.2.2.2.1, hm.2.2.2.2.2.2.2.2.1, hm.2.2.2.2.2.2.2.2.2.1, hm.2.2.2.2.2.2.2.2.2.2.1, hm.2.2.2.2.2.2.2.2.2.2.2.1, hm.2.2.2.2.2.2.2.2.2.2.2.2.1, hm.2.2.2.2.2.2.2.2.2.2.2.2.2⟩ (by omega) t) gX4_cofactor_X4_isTree rfl (by decide +kernel) hm.1 rfl rfl ⟨(Nat.le_of_ble_eq_true rfl), (Nat.le_of_ble_eq_true rfl)⟩ ⟨(Nat.le_of_ble_eq_true rfl), (Nat.le_of_ble_eq_true rfl)⟩ (Nat.le_of_ble_eq_true rfl) dX4_cofactor_11 rfl (fun r9 ad9 M9 h9 => ?_)
    obtain ⟨rfl, rfl, zt, rfl, hzt⟩ := h9
    rw [i1] at hzt
    refine s_if_ne 21 dX4_cofactor_14 (by decide) (fun c14 => ?_) (fun c14 => ?_)
    · obtain ⟨jr, hjr, rfl⟩ := (hzr.mp (Bool.of_not_eq_false (fun q => c6 (jB_0.mpr q))))
      have hit := (hzt.mp (Bool.of_not_eq_false (fun q => c14 (jB_0.mpr q))))
      refine s_aload_n dX4_cofactor_21 rfl ?_
      refine s_get (kd := 12) (ix := 0) (ci := 5) (fs := [.int c0, .int (nI t0), .ref (ad 13 0), .ref (ad 14 0), .ref (ad 15 0), .ref (ad 16 0), .ref (ad 17 0), .ref (ad 18 0), .int (nI r0), .ref (ad 19 0), .ref (ad 20 0), .ref (ad 21 0), .ref (ad 22 0), .ref (ad 23 0), .ref (ad 24 0), .int (jB b0), .ref (ad 25 0)])  hm.1 rfl in_X4_cofactor_X4 9 (by decide) (by decide +kernel) rfl rfl dX4_cofactor_22 ?_
      refine s_iload_n dX4_cofactor_25 rfl ?_
      refine s_iald (kd := 19) (ix := 0) (n := 60) (f := kd) (j := jr) hm.2.2.2.2.2.2.2.1 (rfl) (by omega) (by decide) dX4_cofactor_26 ?_
      refine s_eqi (y := aRw α jr 0) ((i4 jr hjr).1) ?_
      refine s_bipush (v := 6) dX4_cofactor_27 (by decide) ?_
      refine s_icmp_eq 36 dX4_cofactor_29 (by decide) (fun c29 => ?_) (fun c29 => ?_)
      · obtain ⟨rfl, ea⟩ := cfRel.c0 hA hrel hjr hit c29
        refine s_iconst (v := 0) dX4_cofactor_36 (by decide) ?_
        refine s_put (kd := 12) (ix := 0) (ci := 5) (v := .int 0) (ty := tyX4 0) (fs := [.int c0, .int (nI t0), .ref (ad 13 0), .ref (ad 14 0), .ref (ad 15 0), .ref (ad 16 0), .ref (ad 17 0), .ref (ad 18 0), .int (nI r0), .ref (ad 19 0), .ref (ad 20 0), .ref (ad 21 0), .ref (ad 22 0), .ref (ad 23 0), .ref (ad 24 0), .int (jB b0), .ref (ad 25 0)])  tyX4 tyX4_ok nmX4 hm.1 rfl in_X4_cofactor_X4 0 (by decide) (by decide +kernel) rfl rfl (tyX4_ok 0 (by decide)) (rfl) (rfl) (Nat.le_of_ble_eq_true rfl) dX4_cofactor_37 ?_
        refine s_M (M' := (sset M 12 0 (.inr (5, [.int 0, .int (nI t0), .ref (ad 13 0), .ref (ad 14 0), .ref (ad 15 0), .ref (ad 16 0), .ref (ad 17 0), .ref (ad 18 0), .int (nI r0), .ref (ad 19 0), .ref (ad 20 0), .ref (ad 21 0), .ref (ad 22 0), .ref (ad 23 0), .ref (ad 24 0), .int (jB b0), .ref (ad 25 0)])))) rfl ?_
        refine s_aload_n dX4_cofactor_40 rfl ?_
        refine s_get (kd := 12) (ix := 0) (ci := 5) (fs := [.int 0, .int (nI t0), .ref (ad 13 0), .ref (ad 14 0), .ref (ad 15 0), .ref (ad 16 0), .ref (ad 17 0), .ref (ad 18 0), .int (nI r0), .ref (ad 19 0), .ref (ad 20 0), .ref (ad 21 0), .ref (ad 22 0), .ref (ad 23 0), .ref (ad 24 0), .int (jB b0), .ref (ad 25 0)])  (sset_self _ _ _ _) rfl in_X4_cofactor_X4 0 (by decide) (by decide +kernel) rfl rfl dX4_cofactor_41 ?_
        refine s_if_ne 54 dX4_cofactor_44 (by decide) (fun c44 => absurd (rfl) c44) (fun c44 => ?_)
        refine s_aload_n dX4_cofactor_47 rfl ?_
        refine s_get (kd := 12) (ix := 0) (ci := 5) (fs := [.int 0, .int (nI t0), .ref (ad 13 0), .ref (ad 14 0), .ref (ad 15 0), .ref (ad 16 0), .ref (ad 17 0), .ref (ad 18 0), .int (nI r0), .ref (ad 19 0), .ref (ad 20 0), .ref (ad 21 0), .ref (ad 22 0), .ref (ad 23 0), .ref (ad 24 0), .int (jB b0), .ref (ad 25 0)])  (sset_self _ _ _ _) rfl in_X4_cofactor_X4 11 (by decide) (by decide +kernel) rfl rfl dX4_cofactor_48 ?_
        refine s_iload_n dX4_cofactor_51 rfl ?_
        refine s_iload_n dX4_cofactor_52 rfl ?_
        refine s_iast (kd := 21) (ix := 0) (n := 60) (f := co) (j := jr) (x := t) ((sset_k _ _ (by decide)).trans (hm.2.2.2.2.2.2.2.2.2.1))  (rfl) (by omega) (by decide) dX4_cofactor_53 ?_
        exact s_vret rfl dX4_cofactor_54 (Nat.le_of_ble_eq_true rfl) (Nat.le_of_ble_eq_true rfl) (⟨rfl, (sSame.rfl |>.set (P := pMd) (by simp [pMd]) _ |>.set (P := pMd) (by simp [pMd]) _), ⟨(0, t0, hd, on, tw, dp, cl, gr, r0, kd, fl, upd co jr t, sm, wk, sp, b0, mu), ⟨((sset_k _ _ (by decide)).trans (sset_self _ _ _ _)), ((sset_k _ _ (by decide)).trans ((sset_k _ _ (by decide)).trans (hm.2.1))), ((sset_k _ _ (by decide)).trans ((sset_k _ _ (by decide)).trans (hm.2.2.1))), ((sset_k _ _ (by decide)).trans ((sset_k _ _ (by decide)).trans (hm.2.2.2.1))), ((sset_k _ _ (by decide)).trans ((sset_k _ _ (by decide)).trans (hm.2.2.2.2.1))), ((sset_k _ _ (by decide)).trans ((sset_k _ _ (by decide)).trans (hm.2.2.2.2.2.1))), ((sset_k _ _ (by decide)).trans ((sset_k _ _ (by decide)).trans (hm.2.2.2.2.2.2.1))), ((sset_k _ _ (by decide)).trans ((sset_k _ _ (by decide)).trans (hm.2.2.2.2.2.2.2.1))), ((sset_k _ _ (by decide)).trans ((sset_k _ _ (by decide)).trans (hm.2.2.2.2.2.2.2.2.1))), (sset_self _ _ _ _), ((sset_k _ _ (by decide)).trans ((sset_k _ _ (by decide)).trans (hm.2.2.2.2.2.2.2.2.2.2.1))), ((sset_k _ _ (by decide)).trans ((sset_k _ _ (by decide)).trans (hm.2.2.2.2.2.2.2.2.2.2.2.1))), ((sset_k _ _ (by decide)).trans ((sset_k _ _ (by decide)).trans (hm.2.2.2.2.2.2.2.2.2.2.2.2.1))), ((sset_k _ _ (by decide)).trans ((sset_k _ _ (by decide)).trans (hm.2.2.2.2.2.2.2.2.2.2.2.2.2)))⟩, rfl, by rw [ea]; exact hI.setC jr t⟩, rfl⟩)
      · obtain ⟨rfl, ea⟩ := cfRel.c2 hA hrel hjr hit c29
        refine s_iconst (v := 2) dX4_cofactor_32 (by decide) ?_
        refine s_goto 37 dX4_cofactor_33 (by decide) ?_
        refine s_put (kd := 12) (ix := 0) (ci := 5) (v := .int 2) (ty := tyX4 0) (fs := [.int c0, .int (nI t0), .ref (ad 13 0), .ref (ad 14 0), .ref (ad 15 0), .ref (ad 16 0), .ref (ad 17 0), .ref (ad 18 0), .int (nI r0), .ref (ad 19 0), .ref (ad 20 0), .ref (ad 21 0), .ref (ad 22 0), .ref (ad 23 0), .ref (ad 24 0), .int (jB b0), .ref (ad 25 0)])  tyX4 tyX4_ok nmX4 hm.1 rfl in_X4_cofactor_X4 0 (by decide) (by decide +kernel) rfl rfl (tyX4_ok 0 (by decide)) (rfl) (rfl) (Nat.le_of_ble_eq_true rfl) dX4_cofactor_37 ?_
        refine s_M (M' := (sset M 12 0 (.inr (5, [.int 2, .int (nI t0), .ref (ad 13 0), .ref (ad 14 0), .ref (ad 15 0), .ref (ad 16 0), .ref (ad 17 0), .ref (ad 18 0), .int (nI r0), .ref (ad 19 0), .ref (ad 20 0), .ref (ad 21 0), .ref (ad 22 0), .ref (ad 23 0), .ref (ad 24 0), .int (jB b0), .ref (ad 25 0)])))) rfl ?_
        refine s_aload_n dX4_cofactor_40 rfl ?_
        refine s_get (kd := 12) (ix := 0) (ci := 5) (fs := [.int 2, .int (nI t0), .ref (ad 13 0), .ref (ad 14 0), .ref (ad 15 0), .ref (ad 16 0), .ref (ad 17 0), .ref (ad 18 0), .int (nI r0), .ref (ad 19 0), .ref (ad 20 0), .ref (ad 21 0), .ref (ad 22 0), .ref (ad 23 0), .ref (ad 24 0), .int (jB b0), .ref (ad 25 0)])  (sset_self _ _ _ _) rfl in_X4_cofactor_X4 0 (by decide) (by decide +kernel) rfl rfl dX4_cofactor_41 ?_
        refine s_if_ne 54 dX4_cofactor_44 (by decide) (fun c44 => ?_) (fun c44 => absurd c44 (by decide))
        exact s_vret rfl dX4_cofactor_54 (Nat.le_of_ble_eq_true rfl) (Nat.le_of_ble_eq_true rfl) (⟨rfl, (sSame.rfl |>.set (P := pMd) (by simp [pMd]) _), ⟨(2, t0, hd, on, tw, dp, cl, gr, r0, kd, fl, co, sm, wk, sp, b0, mu), ⟨(sset_self _ _ _ _), ((sset_k _ _ (by decide)).trans (hm.2.1)), ((sset_k _ _ (by decide)).trans (hm.2.2.1)), ((sset_k _ _ (by decide)).trans (hm.2.2.2.1)), ((sset_k _ _ (by decide)).trans (hm.2.2.2.2.1)), ((sset_k _ _ (by decide)).trans (hm.2.2.2.2.2.1)), ((sset_k _ _ (by decide)).trans (hm.2.2.2.2.2.2.1)), ((sset_k _ _ (by decide)).trans (hm.2.2.2.2.2.2.2.1)), ((sset_k _ _ (by decide)).trans (hm.2.2.2.2.2.2.2.2.1)), ((sset_k _ _ (by decide)).trans (hm.2.2.2.2.2.2.2.2.2.1)), ((sset_k _ _ (by decide)).trans (hm.2.2.2.2.2.2.2.2.2.2.1)), ((sset_k _ _ (by decide)).trans (hm.2.2.2.2.2.2.2.2.2.2.2.1)), ((sset_k _ _ (by decide)).trans (hm.2.2.2.2.2.2.2.2.2.2.2.2.1)), ((sset_k _ _ (by decide)).trans (hm.2.2.2.2.2.2.2.2.2.2.2.2.2))⟩, rfl, by rw [ea]; exact hI.any _ _ _ _ _⟩, rfl⟩)
    · obtain ⟨rfl, ea⟩ := hrel.c1 (Or.inr (fun q => by have z9 := hzt.mpr q; rw [jB_0.mp c14] at z9; cases z9))
      refine s_iconst (v := 1) dX4_cofactor_17 (by decide) ?_
      refine s_goto 37 dX4_cofactor_18 (by decide) ?_
      refine s_put (kd := 12) (ix := 0) (ci := 5) (v := .int 1) (ty := tyX4 0) (fs := [.int c0, .int (nI t0), .ref (ad 13 0), .ref (ad 14 0), .ref (ad 15 0), .ref (ad 16 0), .ref (ad 17 0), .ref (ad 18 0), .int (nI r0), .ref (ad 19 0), .ref (ad 20 0), .ref (ad 21 0), .ref (ad 22 0), .ref (ad 23 0), .ref (ad 24 0), .int (jB b0), .ref (ad 25 0)])  tyX4 tyX4_ok nmX4 hm.1 rfl in_X4_cofactor_X4 0 (by decide) (by decide +kernel) rfl rfl (tyX4_ok 0 (by decide)) (rfl) (rfl) (Nat.le_of_ble_eq_true rfl) dX4_cofactor_37 ?_
      refine s_M (M' := (sset M 12 0 (.inr (5, [.int 1, .int (nI t0), .ref (ad 13 0), .ref (ad 14 0), .ref (ad 15 0), .ref (ad 16 0), .ref (ad 17 0), .ref (ad 18 0), .int (nI r0), .ref (ad 19 0), .ref (ad 20 0), .ref (ad 21 0), .ref (ad 22 0), .ref (ad 23 0), .ref (ad 24 0), .int (jB b0), .ref (ad 25 0)])))) rfl ?_
      refine s_aload_n dX4_cofactor_40 rfl ?_
      refine s_get (kd := 12) (ix := 0) (ci := 5) (fs := [.int 1, .int (nI t0), .ref (ad 13 0), .ref (ad 14 0), .ref (ad 15 0), .ref (ad 16 0), .ref (ad 17 0), .ref (ad 18 0), .int (nI r0), .ref (ad 19 0), .ref (ad 20 0), .ref (ad 21 0), .ref (ad 22 0), .ref (ad 23 0), .ref (ad 24 0), .int (jB b0), .ref (ad 25 0)])  (sset_self _ _ _ _) rfl in_X4_cofactor_X4 0 (by decide) (by decide +kernel) rfl rfl dX4_cofactor_41 ?_
      refine s_if_ne 54 dX4_cofactor_44 (by decide) (fun c44 => ?_) (fun c44 => absurd c44 (by decide))
      exact s_vret rfl dX4_cofactor_54 (Nat.le_of_ble_eq_true rfl) (Nat.le_of_ble_eq_true rfl) (⟨rfl, (sSame.rfl |>.set (P := pMd) (by simp [pMd]) _), ⟨(1, t0, hd, on, tw, dp, cl, gr, r0, kd, fl, co, sm, wk, sp, b0, mu), ⟨(sset_self _ _ _ _), ((sset_k _ _ (by decide)).trans (hm.2.1)), ((sset_k _ _ (by decide)).trans (hm.2.2.1)), ((sset_k _ _ (by decide)).trans (hm.2.2.2.1)), ((sset_k _ _ (by decide)).trans (hm.2.2.2.2.1)), ((sset_k _ _ (by decide)).trans (hm.2.2.2.2.2.1)), ((sset_k _ _ (by decide)).trans (hm.2.2.2.2.2.2.1)), ((sset_k _ _ (by decide)).trans (hm.2.2.2.2.2.2.2.1)), ((sset_k _ _ (by decide)).trans (hm.2.2.2.2.2.2.2.2.1)), ((sset_k _ _ (by decide)).trans (hm.2.2.2.2.2.2.2.2.2.1)), ((sset_k _ _ (by decide)).trans (hm.2.2.2.2.2.2.2.2.2.2.1)), ((sset_k _ _ (by decide)).trans (hm.2.2.2.2.2.2.2.2.2.2.2.1)), ((sset_k _ _ (by decide)).trans (hm.2.2.2.2.2.2.2.2.2.2.2.2.1)), ((sset_k _ _ (by decide)).trans (hm.2.2.2.2.2.2.2.2.2.2.2.2.2))⟩, rfl, by rw [ea]; exact hI.any _ _ _ _ _⟩, rfl⟩)
abbrev mX4_sample : sMeth := (cX4_sample, 4, RX4, wsX4_sample, { frames := 2, cells := 0, slots := 0, locals := 46 }, none, "sample", [])
theorem in_X4_sample_X4 : ∀ w ∈ wsX40, w ∈ wsX4_sample := by decide +kernel
set_option maxHeartbeats 4000000 in
set_option maxRecDepth 100000 in
theorem c_X4_sample (G : sG) (l : Launch) (hl : l.stackTraces = false) (ad : sAd) (M : sM) (c0 : Int32) (t0 : Nat) (hd : Nat → Int32) (on : Nat → Int32) (tw : Nat → Int32) (dp : Nat → Int32) (cl : Nat → Int32) (gr : Nat → Int32) (r0 : Nat) (kd : Nat → Int32) (fl : Nat → Int32) (co : Nat → Int32) (sm : Nat → Int32) (wk : Nat → Int64) (sp : Nat → Int64) (b0 : Bool) (mu : Nat → Int32) (hm : hMd G ad M (c0, t0, hd, on, tw, dp, cl, gr, r0, kd, fl, co, sm, wk, sp, b0, mu)) (α : sAl) (hA : AI α) (hI : RI α (c0, t0, hd, on, tw, dp, cl, gr, r0, kd, fl, co, sm, wk, sp, b0, mu)) (x y v : Int32) (k : Nat) (α' : sAl) (hrel : spRel α x y v k α') : sMet G l yX4_sample mX4_sample [.ref (ad 12 0), .int x, .int y, .int v] ad M (mPostV G ad M k α') (fun _ _ _ => False) := by
  obtain ⟨i1, i2, i3, i4⟩ := id hI
  have hT := hA.1
  have hR60 := hA.2.1
  refine sMet.of hl (by decide +kernel) rfl rfl rfl rfl (Nat.le_of_ble_eq_true rfl) (fun X => ?_)
  refine s_lv (lv' := [some (.ref (ad 12 0)), some (.int x), some (.int y), some (.int v)]) rfl ?_
  refine s_aload_n dX4_sample_0 rfl ?_
  refine s_aload_n dX4_sample_1 rfl ?_
  refine s_iload_n dX4_sample_2 rfl ?_
  refine s_callV (As := [.int x]) (rest := [.ref (ad 12 0)]) (n := 1) (kd := 12) (ix := 0) (fun l hl => c_X4_isRow G l hl ad M c0 t0 hd on tw dp cl gr r0 kd fl co sm wk sp b0 mu ⟨hm.1, hm.2.1, hm.2.2.1, hm.2.2.2.1, hm.2.2.2.2.1, hm.2.2.2.2.2.1, hm.2.2.2.2.2.2.1, hm.2.2.2.2.2.2.2.1, hm.2.2.2.2.2.2.2.2.1, hm.2.2.2.2.2.2.2.2.2.1, hm.2.2.2.2.2.2.2.2.2.2.1, hm.2.2.2.2.2.2.2.2.2.2.2.1, hm.2.2.2.2.2.2.2.2.2.2.2.2.1, hm.2.2.2.2.2.2.2.2.2.2.2.2.2⟩ (by omega) x) gX4_sample_X4_isRow rfl (by decide +kernel) hm.1 rfl rfl ⟨(Nat.le_of_ble_eq_true rfl), (Nat.le_of_ble_eq_true rfl)⟩ ⟨(Nat.le_of_ble_eq_true rfl), (Nat.le_of_ble_eq_true rfl)⟩ (Nat.le_of_ble_eq_true rfl) dX4_sample_3 rfl (fun r9 ad9 M9 h9 => ?_)
  obtain ⟨rfl, rfl, zr, rfl, hzr⟩ := h9
  rw [i2] at hzr
  refine s_if_eq 21 dX4_sample_6 (by decide) (fun c6 => ?_) (fun c6 => ?_)
  · obtain ⟨rfl, ea⟩ := hrel.c1 (Or.inl (fun q => by have z9 := hzr.mpr q; rw [jB_0.mp c6] at z9; cases z9))
    refine s_iconst (v := 1) dX4_sample_21 (by decide) ?_
    refine s_goto 44 dX4_sample_22 (by decide) ?_
    refine s_put (kd := 12) (ix := 0) (ci := 5) (v := .int 1) (ty := tyX4 0) (fs := [.int c0, .int (nI t0), .ref (ad 13 0), .ref (ad 14 0), .ref (ad 15 0), .ref (ad 16 0), .ref (ad 17 0), .ref (ad 18 0), .int (nI r0), .ref (ad 19 0), .ref (ad 20 0), .ref (ad 21 0), .ref (ad 22 0), .ref (ad 23 0), .ref (ad 24 0), .int (jB b0), .ref (ad 25 0)])  tyX4 tyX4_ok nmX4 hm.1 rfl in_X4_sample_X4 0 (by decide) (by decide +kernel) rfl rfl (tyX4_ok 0 (by decide)) (rfl) (rfl) (Nat.le_of_ble_eq_true rfl) dX4_sample_44 ?_
    refine s_M (M' := (sset M 12 0 (.inr (5, [.int 1, .int (nI t0), .ref (ad 13 0), .ref (ad 14 0), .ref (ad 15 0), .ref (ad 16 0), .ref (ad 17 0), .ref (ad 18 0), .int (nI r0), .ref (ad 19 0), .ref (ad 20 0), .ref (ad 21 0), .ref (ad 22 0), .ref (ad 23 0), .ref (ad 24 0), .int (jB b0), .ref (ad 25 0)])))) rfl ?_
    refine s_aload_n dX4_sample_47 rfl ?_
    refine s_get (kd := 12) (ix := 0) (ci := 5) (fs := [.int 1, .int (nI t0), .ref (ad 13 0), .ref (ad 14 0), .ref (ad 15 0), .ref (ad 16 0), .ref (ad 17 0), .ref (ad 18 0), .int (nI r0), .ref (ad 19 0), .ref (ad 20 0), .ref (ad 21 0), .ref (ad 22 0), .ref (ad 23 0), .ref (ad 24 0), .int (jB b0), .ref (ad 25 0)])  (sset_self _ _ _ _) rfl in_X4_sample_X4 0 (by decide) (by decide +kernel) rfl rfl dX4_sample_48 ?_
    refine s_if_ne 65 dX4_sample_51 (by decide) (fun c51 => ?_) (fun c51 => absurd c51 (by decide))
    exact s_vret rfl dX4_sample_65 (Nat.le_of_ble_eq_true rfl) (Nat.le_of_ble_eq_true rfl) (⟨rfl, (sSame.rfl |>.set (P := pMd) (by simp [pMd]) _), ⟨(1, t0, hd, on, tw, dp, cl, gr, r0, kd, fl, co, sm, wk, sp, b0, mu), ⟨(sset_self _ _ _ _), ((sset_k _ _ (by decide)).trans (hm.2.1)), ((sset_k _ _ (by decide)).trans (hm.2.2.1)), ((sset_k _ _ (by decide)).trans (hm.2.2.2.1)), ((sset_k _ _ (by decide)).trans (hm.2.2.2.2.1)), ((sset_k _ _ (by decide)).trans (hm.2.2.2.2.2.1)), ((sset_k _ _ (by decide)).trans (hm.2.2.2.2.2.2.1)), ((sset_k _ _ (by decide)).trans (hm.2.2.2.2.2.2.2.1)), ((sset_k _ _ (by decide)).trans (hm.2.2.2.2.2.2.2.2.1)), ((sset_k _ _ (by decide)).trans (hm.2.2.2.2.2.2.2.2.2.1)), ((sset_k _ _ (by decide)).trans (hm.2.2.2.2.2.2.2.2.2.2.1)), ((sset_k _ _ (by decide)).trans (hm.2.2.2.2.2.2.2.2.2.2.2.1)), ((sset_k _ _ (by decide)).trans (hm.2.2.2.2.2.2.2.2.2.2.2.2.1)), ((sset_k _ _ (by decide)).trans (hm.2.2.2.2.2.2.2.2.2.2.2.2.2))⟩, rfl, by rw [ea]; exact hI.any _ _ _ _ _⟩, rfl⟩)
  · refine s_iload_n dX4_sample_9 rfl ?_
    refine s_i2l dX4_sample_10 ?_
    refine s_lconst (v := 0) dX4_sample_11 (by decide) ?_
    refine s_ldc2 (v := 2) dX4_sample_12 (by decide +kernel) ?_
    refine s_callS (As := [.long y.toInt64, .long 0, .long 2]) (rest := [.ref (ad 12 0)]) (n := 3) (fun l hl => c_X4_in G l hl ad M y.toInt64 0 2) gX4_sample_X4_in rfl (by decide +kernel) rfl ⟨(Nat.le_of_ble_eq_true rfl), (Nat.le_of_ble_eq_true rfl)⟩ ⟨(Nat.le_of_ble_eq_true rfl), (Nat.le_of_ble_eq_true rfl)⟩ (Nat.le_of_ble_eq_true rfl) dX4_sample_15 rfl (fun r9 ad9 M9 h9 => ?_)
    obtain ⟨rfl, rfl, e9⟩ := h9
    obtain ⟨zl, e8, hzl⟩ := in_z (x := y) (a := 0) (b := 2) (A := 0) (B := 2) (by decide) (by decide)
    rw [e8] at e9
    subst e9
    refine s_if_ne 25 dX4_sample_18 (by decide) (fun c18 => ?_) (fun c18 => ?_)
    · refine s_iload_n dX4_sample_25 rfl ?_
      refine s_i2l dX4_sample_26 ?_
      refine s_ldc2 (v := -10) dX4_sample_27 (by decide +kernel) ?_
      refine s_ldc2 (v := 10) dX4_sample_30 (by decide +kernel) ?_
      refine s_callS (As := [.long v.toInt64, .long (-10), .long 10]) (rest := [.ref (ad 12 0)]) (n := 3) (fun l hl => c_X4_in G l hl ad M v.toInt64 (-10) 10) gX4_sample_X4_in rfl (by decide +kernel) rfl ⟨(Nat.le_of_ble_eq_true rfl), (Nat.le_of_ble_eq_true rfl)⟩ ⟨(Nat.le_of_ble_eq_true rfl), (Nat.le_of_ble_eq_true rfl)⟩ (Nat.le_of_ble_eq_true rfl) dX4_sample_33 rfl (fun r9 ad9 M9 h9 => ?_)
      obtain ⟨rfl, rfl, e9⟩ := h9
      obtain ⟨zv, e8, hzv⟩ := in_z (x := v) (a := (-10)) (b := 10) (A := (-10)) (B := 10) (by decide) (by decide)
      rw [e8] at e9
      subst e9
      refine s_if_eq 43 dX4_sample_36 (by decide) (fun c36 => ?_) (fun c36 => ?_)
      · obtain ⟨rfl, ea⟩ := hrel.c2 (hzr.mp (Bool.of_not_eq_false (fun q => c6 (jB_0.mpr q)))) (hzl.mp (Bool.of_not_eq_false (fun q => c18 (jB_0.mpr q)))) (fun q => by have z9 := hzv.mpr q; rw [jB_0.mp c36] at z9; cases z9)
        refine s_iconst (v := 2) dX4_sample_43 (by decide) ?_
        refine s_put (kd := 12) (ix := 0) (ci := 5) (v := .int 2) (ty := tyX4 0) (fs := [.int c0, .int (nI t0), .ref (ad 13 0), .ref (ad 14 0), .ref (ad 15 0), .ref (ad 16 0), .ref (ad 17 0), .ref (ad 18 0), .int (nI r0), .ref (ad 19 0), .ref (ad 20 0), .ref (ad 21 0), .ref (ad 22 0), .ref (ad 23 0), .ref (ad 24 0), .int (jB b0), .ref (ad 25 0)])  tyX4 tyX4_ok nmX4 hm.1 rfl in_X4_sample_X4 0 (by decide) (by decide +kernel) rfl rfl (tyX4_ok 0 (by decide)) (rfl) (rfl) (Nat.le_of_ble_eq_true rfl) dX4_sample_44 ?_
        refine s_M (M' := (sset M 12 0 (.inr (5, [.int 2, .int (nI t0), .ref (ad 13 0), .ref (ad 14 0), .ref (ad 15 0), .ref (ad 16 0), .ref (ad 17 0), .ref (ad 18 0), .int (nI r0), .ref (ad 19 0), .ref (ad 20 0), .ref (ad 21 0), .ref (ad 22 0), .ref (ad 23 0), .ref (ad 24 0), .int (jB b0), .ref (ad 25 0)])))) rfl ?_
        refine s_aload_n dX4_sample_47 rfl ?_
        refine s_get (kd := 12) (ix := 0) (ci := 5) (fs := [.int 2, .int (nI t0), .ref (ad 13 0), .ref (ad 14 0), .ref (ad 15 0), .ref (ad 16 0), .ref (ad 17 0), .ref (ad 18 0), .int (nI r0), .ref (ad 19 0), .ref (ad 20 0), .ref (ad 21 0), .ref (ad 22 0), .ref (ad 23 0), .ref (ad 24 0), .int (jB b0), .ref (ad 25 0)])  (sset_self _ _ _ _) rfl in_X4_sample_X4 0 (by decide) (by decide +kernel) rfl rfl dX4_sample_48 ?_
        refine s_if_ne 65 dX4_sample_51 (by decide) (fun c51 => ?_) (fun c51 => absurd c51 (by decide))
        exact s_vret rfl dX4_sample_65 (Nat.le_of_ble_eq_true rfl) (Nat.le_of_ble_eq_true rfl) (⟨rfl, (sSame.rfl |>.set (P := pMd) (by simp [pMd]) _), ⟨(2, t0, hd, on, tw, dp, cl, gr, r0, kd, fl, co, sm, wk, sp, b0, mu), ⟨(sset_self _ _ _ _), ((sset_k _ _ (by decide)).trans (hm.2.1)), ((sset_k _ _ (by decide)).trans (hm.2.2.1)), ((sset_k _ _ (by decide)).trans (hm.2.2.2.1)), ((sset_k _ _ (by decide)).trans (hm.2.2.2.2.1)), ((sset_k _ _ (by decide)).trans (hm.2.2.2.2.2.1)), ((sset_k _ _ (by decide)).trans (hm.2.2.2.2.2.2.1)), ((sset_k _ _ (by decide)).trans (hm.2.2.2.2.2.2.2.1)), ((sset_k _ _ (by decide)).trans (hm.2.2.2.2.2.2.2.2.1)), ((sset_k _ _ (by decide)).trans (hm.2.2.2.2.2.2.2.2.2.1)), ((sset_k _ _ (by decide)).trans (hm.2.2.2.2.2.2.2.2.2.2.1)), ((sset_k _ _ (by decide)).trans (hm.2.2.2.2.2.2.2.2.2.2.2.1)), ((sset_k _ _ (by decide)).trans (hm.2.2.2.2.2.2.2.2.2.2.2.2.1)), ((sset_k _ _ (by decide)).trans (hm.2.2.2.2.2.2.2.2.2.2.2.2.2))⟩, rfl, by rw [ea]; exact hI.any _ _ _ _ _⟩, rfl⟩)
      · have hvv := (hzv.mp (Bool.of_not_eq_false (fun q => c36 (jB_0.mpr q))))
        obtain ⟨lt, hl2, rfl⟩ := let2.mp (hzl.mp (Bool.of_not_eq_false (fun q => c18 (jB_0.mpr q))))
        obtain ⟨jr, hjr, rfl⟩ := (hzr.mp (Bool.of_not_eq_false (fun q => c6 (jB_0.mpr q))))
        obtain ⟨rfl, ea⟩ := spRel.c0 hA hrel hjr hl2 hvv
        refine s_iconst (v := 0) dX4_sample_39 (by decide) ?_
        refine s_goto 44 dX4_sample_40 (by decide) ?_
        refine s_put (kd := 12) (ix := 0) (ci := 5) (v := .int 0) (ty := tyX4 0) (fs := [.int c0, .int (nI t0), .ref (ad 13 0), .ref (ad 14 0), .ref (ad 15 0), .ref (ad 16 0), .ref (ad 17 0), .ref (ad 18 0), .int (nI r0), .ref (ad 19 0), .ref (ad 20 0), .ref (ad 21 0), .ref (ad 22 0), .ref (ad 23 0), .ref (ad 24 0), .int (jB b0), .ref (ad 25 0)])  tyX4 tyX4_ok nmX4 hm.1 rfl in_X4_sample_X4 0 (by decide) (by decide +kernel) rfl rfl (tyX4_ok 0 (by decide)) (rfl) (rfl) (Nat.le_of_ble_eq_true rfl) dX4_sample_44 ?_
        refine s_M (M' := (sset M 12 0 (.inr (5, [.int 0, .int (nI t0), .ref (ad 13 0), .ref (ad 14 0), .ref (ad 15 0), .ref (ad 16 0), .ref (ad 17 0), .ref (ad 18 0), .int (nI r0), .ref (ad 19 0), .ref (ad 20 0), .ref (ad 21 0), .ref (ad 22 0), .ref (ad 23 0), .ref (ad 24 0), .int (jB b0), .ref (ad 25 0)])))) rfl ?_
        refine s_aload_n dX4_sample_47 rfl ?_
        refine s_get (kd := 12) (ix := 0) (ci := 5) (fs := [.int 0, .int (nI t0), .ref (ad 13 0), .ref (ad 14 0), .ref (ad 15 0), .ref (ad 16 0), .ref (ad 17 0), .ref (ad 18 0), .int (nI r0), .ref (ad 19 0), .ref (ad 20 0), .ref (ad 21 0), .ref (ad 22 0), .ref (ad 23 0), .ref (ad 24 0), .int (jB b0), .ref (ad 25 0)])  (sset_self _ _ _ _) rfl in_X4_sample_X4 0 (by decide) (by decide +kernel) rfl rfl dX4_sample_48 ?_
        refine s_if_ne 65 dX4_sample_51 (by decide) (fun c51 => absurd (rfl) c51) (fun c51 => ?_)
        refine s_aload_n dX4_sample_54 rfl ?_
        refine s_get (kd := 12) (ix := 0) (ci := 5) (fs := [.int 0, .int (nI t0), .ref (ad 13 0), .ref (ad 14 0), .ref (ad 15 0), .ref (ad 16 0), .ref (ad 17 0), .ref (ad 18 0), .int (nI r0), .ref (ad 19 0), .ref (ad 20 0), .ref (ad 21 0), .ref (ad 22 0), .ref (ad 23 0), .ref (ad 24 0), .int (jB b0), .ref (ad 25 0)])  (sset_self _ _ _ _) rfl in_X4_sample_X4 12 (by decide) (by decide +kernel) rfl rfl dX4_sample_55 ?_
        refine s_iconst (v := 3) dX4_sample_58 (by decide) ?_
        refine s_iload_n dX4_sample_59 rfl ?_
        refine s_imul dX4_sample_60 ?_
        refine s_eqi (y := nI (3 * jr)) (nI_mul 3 jr) ?_
        refine s_iload_n dX4_sample_61 rfl ?_
        refine s_iadd dX4_sample_62 ?_
        refine s_eqi (y := nI (3 * jr + lt)) (nI_add _ _) ?_
        refine s_iload_n dX4_sample_63 rfl ?_
        refine s_iast (kd := 22) (ix := 0) (n := 180) (f := sm) (j := 3 * jr + lt) (x := v) ((sset_k _ _ (by decide)).trans (hm.2.2.2.2.2.2.2.2.2.2.1))  (rfl) (by omega) (by decide) dX4_sample_64 ?_
        exact s_vret rfl dX4_sample_65 (Nat.le_of_ble_eq_true rfl) (Nat.le_of_ble_eq_true rfl) (⟨rfl, (sSame.rfl |>.set (P := pMd) (by simp [pMd]) _ |>.set (P := pMd) (by simp [pMd]) _), ⟨(0, t0, hd, on, tw, dp, cl, gr, r0, kd, fl, co, upd sm (3 * jr + lt) v, wk, sp, b0, mu), ⟨((sset_k _ _ (by decide)).trans (sset_self _ _ _ _)), ((sset_k _ _ (by decide)).trans ((sset_k _ _ (by decide)).trans (hm.2.1))), ((sset_k _ _ (by decide)).trans ((sset_k _ _ (by decide)).trans (hm.2.2.1))), ((sset_k _ _ (by decide)).trans ((sset_k _ _ (by decide)).trans (hm.2.2.2.1))), ((sset_k _ _ (by decide)).trans ((sset_k _ _ (by decide)).trans (hm.2.2.2.2.1))), ((sset_k _ _ (by decide)).trans ((sset_k _ _ (by decide)).trans (hm.2.2.2.2.2.1))), ((sset_k _ _ (by decide)).trans ((sset_k _ _ (by decide)).trans (hm.2.2.2.2.2.2.1))), ((sset_k _ _ (by decide)).trans ((sset_k _ _ (by decide)).trans (hm.2.2.2.2.2.2.2.1))), ((sset_k _ _ (by decide)).trans ((sset_k _ _ (by decide)).trans (hm.2.2.2.2.2.2.2.2.1))), ((sset_k _ _ (by decide)).trans ((sset_k _ _ (by decide)).trans (hm.2.2.2.2.2.2.2.2.2.1))), (sset_self _ _ _ _), ((sset_k _ _ (by decide)).trans ((sset_k _ _ (by decide)).trans (hm.2.2.2.2.2.2.2.2.2.2.2.1))), ((sset_k _ _ (by decide)).trans ((sset_k _ _ (by decide)).trans (hm.2.2.2.2.2.2.2.2.2.2.2.2.1))), ((sset_k _ _ (by decide)).trans ((sset_k _ _ (by decide)).trans (hm.2.2.2.2.2.2.2.2.2.2.2.2.2)))⟩, rfl, by rw [ea]; exact hI.setS jr lt hl2 v⟩, rfl⟩)
    · obtain ⟨rfl, ea⟩ := hrel.c1 (Or.inr (fun q => by have z9 := hzl.mpr q; rw [jB_0.mp c18] at z9; cases z9))
      refine s_iconst (v := 1) dX4_sample_21 (by decide) ?_
      refine s_goto 44 dX4_sample_22 (by decide) ?_
      refine s_put (kd := 12) (ix := 0) (ci := 5) (v := .int 1) (ty := tyX4 0) (fs := [.int c0, .int (nI t0), .ref (ad 13 0), .ref (ad 14 0), .ref (ad 15 0), .ref (ad 16 0), .ref (ad 17 0), .ref (ad 18 0), .int (nI r0), .ref (ad 19 0), .ref (ad 20 0), .ref (ad 21 0), .ref (ad 22 0), .ref (ad 23 0), .ref (ad 24 0), .int (jB b0), .ref (ad 25 0)])  tyX4 tyX4_ok nmX4 hm.1 rfl in_X4_sample_X4 0 (by decide) (by decide +kernel) rfl rfl (tyX4_ok 0 (by decide)) (rfl) (rfl) (Nat.le_of_ble_eq_true rfl) dX4_sample_44 ?_
      refine s_M (M' := (sset M 12 0 (.inr (5, [.int 1, .int (nI t0), .ref (ad 13 0), .ref (ad 14 0), .ref (ad 15 0), .ref (ad 16 0), .ref (ad 17 0), .ref (ad 18 0), .int (nI r0), .ref (ad 19 0), .ref (ad 20 0), .ref (ad 21 0), .ref (ad 22 0), .ref (ad 23 0), .ref (ad 24 0), .int (jB b0), .ref (ad 25 0)])))) rfl ?_
      refine s_aload_n dX4_sample_47 rfl ?_
      refine s_get (kd := 12) (ix := 0) (ci := 5) (fs := [.int 1, .int (nI t0), .ref (ad 13 0), .ref (ad 14 0), .ref (ad 15 0), .ref (ad 16 0), .ref (ad 17 0), .ref (ad 18 0), .int (nI r0), .ref (ad 19 0), .ref (ad 20 0), .ref (ad 21 0), .ref (ad 22 0), .ref (ad 23 0), .ref (ad 24 0), .int (jB b0), .ref (ad 25 0)])  (sset_self _ _ _ _) rfl in_X4_sample_X4 0 (by decide) (by decide +kernel) rfl rfl dX4_sample_48 ?_
      refine s_if_ne 65 dX4_sample_51 (by decide) (fun c51 => ?_) (fun c51 => absurd c51 (by decide))
      exact s_vret rfl dX4_sample_65 (Nat.le_of_ble_eq_true rfl) (Nat.le_of_ble_eq_true rfl) (⟨rfl, (sSame.rfl |>.set (P := pMd) (by simp [pMd]) _), ⟨(1, t0, hd, on, tw, dp, cl, gr, r0, kd, fl, co, sm, wk, sp, b0, mu), ⟨(sset_self _ _ _ _), ((sset_k _ _ (by decide)).trans (hm.2.1)), ((sset_k _ _ (by decide)).trans (hm.2.2.1)), ((sset_k _ _ (by decide)).trans (hm.2.2.2.1)), ((sset_k _ _ (by decide)).trans (hm.2.2.2.2.1)), ((sset_k _ _ (by decide)).trans (hm.2.2.2.2.2.1)), ((sset_k _ _ (by decide)).trans (hm.2.2.2.2.2.2.1)), ((sset_k _ _ (by decide)).trans (hm.2.2.2.2.2.2.2.1)), ((sset_k _ _ (by decide)).trans (hm.2.2.2.2.2.2.2.2.1)), ((sset_k _ _ (by decide)).trans (hm.2.2.2.2.2.2.2.2.2.1)), ((sset_k _ _ (by decide)).trans (hm.2.2.2.2.2.2.2.2.2.2.1)), ((sset_k _ _ (by decide)).trans (hm.2.2.2.2.2.2.2.2.2.2.2.1)), ((sset_k _ _ (by decide)).trans (hm.2.2.2.2.2.2.2.2.2.2.2.2.1)), ((sset_k _ _ (by decide)).trans (hm.2.2.2.2.2.2.2.2.2.2.2.2.2))⟩, rfl, by rw [ea]; exact hI.any _ _ _ _ _⟩, rfl⟩)
abbrev mX4_rowAt : sMeth := (cX4_rowAt, 3, RX4, wsX4_rowAt, { frames := 2, cells := 0, slots := 0, locals := 46 }, (some .int), "rowAt", [])
theorem in_X4_rowAt_X4 : ∀ w ∈ wsX40, w ∈ wsX4_rowAt := by decide +kernel
set_option maxHeartbeats 4000000 in
set_option maxRecDepth 100000 in
theorem c_X4_rowAt (G : sG) (l : Launch) (hl : l.stackTraces = false) (ad : sAd) (M : sM) (c0 : Int32) (t0 : Nat) (hd : Nat → Int32) (on : Nat → Int32) (tw : Nat → Int32) (dp : Nat → Int32) (cl : Nat → Int32) (gr : Nat → Int32) (r0 : Nat) (kd : Nat → Int32) (fl : Nat → Int32) (co : Nat → Int32) (sm : Nat → Int32) (wk : Nat → Int64) (sp : Nat → Int64) (b0 : Bool) (mu : Nat → Int32) (hm : hMd G ad M (c0, t0, hd, on, tw, dp, cl, gr, r0, kd, fl, co, sm, wk, sp, b0, mu)) (α : sAl) (hA : AI α) (hI : RI α (c0, t0, hd, on, tw, dp, cl, gr, r0, kd, fl, co, sm, wk, sp, b0, mu)) (x y v : Int32) (k : Nat) (hrel : raR α x y k v) : sMet G l yX4_rowAt mX4_rowAt [.ref (ad 12 0), .int x, .int y] ad M (mPost G ad M k v α) (fun _ _ _ => False) := by
  obtain ⟨i1, i2, i3, i4⟩ := id hI
  have hT := hA.1
  have hR60 := hA.2.1
  refine sMet.of hl (by decide +kernel) rfl rfl rfl rfl (Nat.le_of_ble_eq_true rfl) (fun X => ?_)
  refine s_lv (lv' := [some (.ref (ad 12 0)), some (.int x), some (.int y)]) rfl ?_
  refine s_aload_n dX4_rowAt_0 rfl ?_
  refine s_aload_n dX4_rowAt_1 rfl ?_
  refine s_iload_n dX4_rowAt_2 rfl ?_
  refine s_callV (As := [.int x]) (rest := [.ref (ad 12 0)]) (n := 1) (kd := 12) (ix := 0) (fun l hl => c_X4_isRow G l hl ad M c0 t0 hd on tw dp cl gr r0 kd fl co sm wk sp b0 mu ⟨hm.1, hm.2.1, hm.2.2.1, hm.2.2.2.1, hm.2.2.2.2.1, hm.2.2.2.2.2.1, hm.2.2.2.2.2.2.1, hm.2.2.2.2.2.2.2.1, hm.2.2.2.2.2.2.2.2.1, hm.2.2.2.2.2.2.2.2.2.1, hm.2.2.2.2.2.2.2.2.2.2.1, hm.2.2.2.2.2.2.2.2.2.2.2.1, hm.2.2.2.2.2.2.2.2.2.2.2.2.1, hm.2.2.2.2.2.2.2.2.2.2.2.2.2⟩ (by omega) x) gX4_rowAt_X4_isRow rfl (by decide +kernel) hm.1 rfl rfl ⟨(Nat.le_of_ble_eq_true rfl), (Nat.le_of_ble_eq_true rfl)⟩ ⟨(Nat.le_of_ble_eq_true rfl), (Nat.le_of_ble_eq_true rfl)⟩ (Nat.le_of_ble_eq_true rfl) dX4_rowAt_3 rfl (fun r9 ad9 M9 h9 => ?_)
  obtain ⟨rfl, rfl, zr, rfl, hzr⟩ := h9
  rw [i2] at hzr
  refine s_if_eq 25 dX4_rowAt_6 (by decide) (fun c6 => ?_) (fun c6 => ?_)
  · obtain rfl := hrel.c1 (Or.inl (fun q => by have z9 := hzr.mpr q; rw [jB_0.mp c6] at z9; cases z9))
    refine s_iconst (v := 1) dX4_rowAt_25 (by decide) ?_
    refine s_put (kd := 12) (ix := 0) (ci := 5) (v := .int 1) (ty := tyX4 0) (fs := [.int c0, .int (nI t0), .ref (ad 13 0), .ref (ad 14 0), .ref (ad 15 0), .ref (ad 16 0), .ref (ad 17 0), .ref (ad 18 0), .int (nI r0), .ref (ad 19 0), .ref (ad 20 0), .ref (ad 21 0), .ref (ad 22 0), .ref (ad 23 0), .ref (ad 24 0), .int (jB b0), .ref (ad 25 0)])  tyX4 tyX4_ok nmX4 hm.1 rfl in_X4_rowAt_X4 0 (by decide) (by decide +kernel) rfl rfl (tyX4_ok 0 (by decide)) (rfl) (rfl) (Nat.le_of_ble_eq_true rfl) dX4_rowAt_26 ?_
    refine s_M (M' := (sset M 12 0 (.inr (5, [.int 1, .int (nI t0), .ref (ad 13 0), .ref (ad 14 0), .ref (ad 15 0), .ref (ad 16 0), .ref (ad 17 0), .ref (ad 18 0), .int (nI r0), .ref (ad 19 0), .ref (ad 20 0), .ref (ad 21 0), .ref (ad 22 0), .ref (ad 23 0), .ref (ad 24 0), .int (jB b0), .ref (ad 25 0)])))) rfl ?_
    refine s_aload_n dX4_rowAt_29 rfl ?_
    refine s_get (kd := 12) (ix := 0) (ci := 5) (fs := [.int 1, .int (nI t0), .ref (ad 13 0), .ref (ad 14 0), .ref (ad 15 0), .ref (ad 16 0), .ref (ad 17 0), .ref (ad 18 0), .int (nI r0), .ref (ad 19 0), .ref (ad 20 0), .ref (ad 21 0), .ref (ad 22 0), .ref (ad 23 0), .ref (ad 24 0), .int (jB b0), .ref (ad 25 0)])  (sset_self _ _ _ _) rfl in_X4_rowAt_X4 0 (by decide) (by decide +kernel) rfl rfl dX4_rowAt_30 ?_
    refine s_if_le 38 dX4_rowAt_33 (by decide) (fun c33 => absurd c33 (by decide)) (fun c33 => ?_)
    refine s_iconst (v := 0) dX4_rowAt_36 (by decide) ?_
    exact s_iret rfl (rfl) dX4_rowAt_37 (Nat.le_of_ble_eq_true rfl) (Nat.le_of_ble_eq_true rfl) (⟨rfl, (sSame.rfl |>.set (P := pMd) (by simp [pMd]) _), ⟨(1, t0, hd, on, tw, dp, cl, gr, r0, kd, fl, co, sm, wk, sp, b0, mu), ⟨(sset_self _ _ _ _), ((sset_k _ _ (by decide)).trans (hm.2.1)), ((sset_k _ _ (by decide)).trans (hm.2.2.1)), ((sset_k _ _ (by decide)).trans (hm.2.2.2.1)), ((sset_k _ _ (by decide)).trans (hm.2.2.2.2.1)), ((sset_k _ _ (by decide)).trans (hm.2.2.2.2.2.1)), ((sset_k _ _ (by decide)).trans (hm.2.2.2.2.2.2.1)), ((sset_k _ _ (by decide)).trans (hm.2.2.2.2.2.2.2.1)), ((sset_k _ _ (by decide)).trans (hm.2.2.2.2.2.2.2.2.1)), ((sset_k _ _ (by decide)).trans (hm.2.2.2.2.2.2.2.2.2.1)), ((sset_k _ _ (by decide)).trans (hm.2.2.2.2.2.2.2.2.2.2.1)), ((sset_k _ _ (by decide)).trans (hm.2.2.2.2.2.2.2.2.2.2.2.1)), ((sset_k _ _ (by decide)).trans (hm.2.2.2.2.2.2.2.2.2.2.2.2.1)), ((sset_k _ _ (by decide)).trans (hm.2.2.2.2.2.2.2.2.2.2.2.2.2))⟩, rfl, hI.any _ _ _ _ _⟩, _, rfl, fun q => absurd q (by decide)⟩)
  · refine s_iload_n dX4_rowAt_9 rfl ?_
    refine s_i2l dX4_rowAt_10 ?_
    refine s_lconst (v := 0) dX4_rowAt_11 (by decide) ?_
    refine s_ldc2 (v := 7) dX4_rowAt_12 (by decide +kernel) ?_
    refine s_callS (As := [.long y.toInt64, .long 0, .long 7]) (rest := [.ref (ad 12 0)]) (n := 3) (fun l hl => c_X4_in G l hl ad M y.toInt64 0 7) gX4_rowAt_X4_in rfl (by decide +kernel) rfl ⟨(Nat.le_of_ble_eq_true rfl), (Nat.le_of_ble_eq_true rfl)⟩ ⟨(Nat.le_of_ble_eq_true rfl), (Nat.le_of_ble_eq_true rfl)⟩ (Nat.le_of_ble_eq_true rfl) dX4_rowAt_15 rfl (fun r9 ad9 M9 h9 => ?_)
    obtain ⟨rfl, rfl, e9⟩ := h9
    obtain ⟨zw, e8, hzw⟩ := in_z (x := y) (a := 0) (b := 7) (A := 0) (B := 7) (by decide) (by decide)
    rw [e8] at e9
    subst e9
    refine s_if_eq 25 dX4_rowAt_18 (by decide) (fun c18 => ?_) (fun c18 => ?_)
    · obtain rfl := hrel.c1 (Or.inr (fun q => by have z9 := hzw.mpr q; rw [jB_0.mp c18] at z9; cases z9))
      refine s_iconst (v := 1) dX4_rowAt_25 (by decide) ?_
      refine s_put (kd := 12) (ix := 0) (ci := 5) (v := .int 1) (ty := tyX4 0) (fs := [.int c0, .int (nI t0), .ref (ad 13 0), .ref (ad 14 0), .ref (ad 15 0), .ref (ad 16 0), .ref (ad 17 0), .ref (ad 18 0), .int (nI r0), .ref (ad 19 0), .ref (ad 20 0), .ref (ad 21 0), .ref (ad 22 0), .ref (ad 23 0), .ref (ad 24 0), .int (jB b0), .ref (ad 25 0)])  tyX4 tyX4_ok nmX4 hm.1 rfl in_X4_rowAt_X4 0 (by decide) (by decide +kernel) rfl rfl (tyX4_ok 0 (by decide)) (rfl) (rfl) (Nat.le_of_ble_eq_true rfl) dX4_rowAt_26 ?_
      refine s_M (M' := (sset M 12 0 (.inr (5, [.int 1, .int (nI t0), .ref (ad 13 0), .ref (ad 14 0), .ref (ad 15 0), .ref (ad 16 0), .ref (ad 17 0), .ref (ad 18 0), .int (nI r0), .ref (ad 19 0), .ref (ad 20 0), .ref (ad 21 0), .ref (ad 22 0), .ref (ad 23 0), .ref (ad 24 0), .int (jB b0), .ref (ad 25 0)])))) rfl ?_
      refine s_aload_n dX4_rowAt_29 rfl ?_
      refine s_get (kd := 12) (ix := 0) (ci := 5) (fs := [.int 1, .int (nI t0), .ref (ad 13 0), .ref (ad 14 0), .ref (ad 15 0), .ref (ad 16 0), .ref (ad 17 0), .ref (ad 18 0), .int (nI r0), .ref (ad 19 0), .ref (ad 20 0), .ref (ad 21 0), .ref (ad 22 0), .ref (ad 23 0), .ref (ad 24 0), .int (jB b0), .ref (ad 25 0)])  (sset_self _ _ _ _) rfl in_X4_rowAt_X4 0 (by decide) (by decide +kernel) rfl rfl dX4_rowAt_30 ?_
      refine s_if_le 38 dX4_rowAt_33 (by decide) (fun c33 => absurd c33 (by decide)) (fun c33 => ?_)
      refine s_iconst (v := 0) dX4_rowAt_36 (by decide) ?_
      exact s_iret rfl (rfl) dX4_rowAt_37 (Nat.le_of_ble_eq_true rfl) (Nat.le_of_ble_eq_true rfl) (⟨rfl, (sSame.rfl |>.set (P := pMd) (by simp [pMd]) _), ⟨(1, t0, hd, on, tw, dp, cl, gr, r0, kd, fl, co, sm, wk, sp, b0, mu), ⟨(sset_self _ _ _ _), ((sset_k _ _ (by decide)).trans (hm.2.1)), ((sset_k _ _ (by decide)).trans (hm.2.2.1)), ((sset_k _ _ (by decide)).trans (hm.2.2.2.1)), ((sset_k _ _ (by decide)).trans (hm.2.2.2.2.1)), ((sset_k _ _ (by decide)).trans (hm.2.2.2.2.2.1)), ((sset_k _ _ (by decide)).trans (hm.2.2.2.2.2.2.1)), ((sset_k _ _ (by decide)).trans (hm.2.2.2.2.2.2.2.1)), ((sset_k _ _ (by decide)).trans (hm.2.2.2.2.2.2.2.2.1)), ((sset_k _ _ (by decide)).trans (hm.2.2.2.2.2.2.2.2.2.1)), ((sset_k _ _ (by decide)).trans (hm.2.2.2.2.2.2.2.2.2.2.1)), ((sset_k _ _ (by decide)).trans (hm.2.2.2.2.2.2.2.2.2.2.2.1)), ((sset_k _ _ (by decide)).trans (hm.2.2.2.2.2.2.2.2.2.2.2.2.1)), ((sset_k _ _ (by decide)).trans (hm.2.2.2.2.2.2.2.2.2.2.2.2.2))⟩, rfl, hI.any _ _ _ _ _⟩, _, rfl, fun q => absurd q (by decide)⟩)
    · obtain ⟨x9, hx9, rfl⟩ := i32_8.mp (hzw.mp (Bool.of_not_eq_false (fun q => c18 (jB_0.mpr q))))
      obtain ⟨jr, hjr, rfl⟩ := (hzr.mp (Bool.of_not_eq_false (fun q => c6 (jB_0.mpr q))))
      obtain ⟨rfl, ev⟩ := raR.c0 hA hrel hjr hx9
      refine s_iconst (v := 0) dX4_rowAt_21 (by decide) ?_
      refine s_goto 26 dX4_rowAt_22 (by decide) ?_
      refine s_put (kd := 12) (ix := 0) (ci := 5) (v := .int 0) (ty := tyX4 0) (fs := [.int c0, .int (nI t0), .ref (ad 13 0), .ref (ad 14 0), .ref (ad 15 0), .ref (ad 16 0), .ref (ad 17 0), .ref (ad 18 0), .int (nI r0), .ref (ad 19 0), .ref (ad 20 0), .ref (ad 21 0), .ref (ad 22 0), .ref (ad 23 0), .ref (ad 24 0), .int (jB b0), .ref (ad 25 0)])  tyX4 tyX4_ok nmX4 hm.1 rfl in_X4_rowAt_X4 0 (by decide) (by decide +kernel) rfl rfl (tyX4_ok 0 (by decide)) (rfl) (rfl) (Nat.le_of_ble_eq_true rfl) dX4_rowAt_26 ?_
      refine s_M (M' := (sset M 12 0 (.inr (5, [.int 0, .int (nI t0), .ref (ad 13 0), .ref (ad 14 0), .ref (ad 15 0), .ref (ad 16 0), .ref (ad 17 0), .ref (ad 18 0), .int (nI r0), .ref (ad 19 0), .ref (ad 20 0), .ref (ad 21 0), .ref (ad 22 0), .ref (ad 23 0), .ref (ad 24 0), .int (jB b0), .ref (ad 25 0)])))) rfl ?_
      refine s_aload_n dX4_rowAt_29 rfl ?_
      refine s_get (kd := 12) (ix := 0) (ci := 5) (fs := [.int 0, .int (nI t0), .ref (ad 13 0), .ref (ad 14 0), .ref (ad 15 0), .ref (ad 16 0), .ref (ad 17 0), .ref (ad 18 0), .int (nI r0), .ref (ad 19 0), .ref (ad 20 0), .ref (ad 21 0), .ref (ad 22 0), .ref (ad 23 0), .ref (ad 24 0), .int (jB b0), .ref (ad 25 0)])  (sset_self _ _ _ _) rfl in_X4_rowAt_X4 0 (by decide) (by decide +kernel) rfl rfl dX4_rowAt_30 ?_
      refine s_if_le 38 dX4_rowAt_33 (by decide) (fun c33 => ?_) (fun c33 => absurd (by decide) c33)
      rcases (show x9 = 0 ∨ x9 = 1 ∨ x9 = 2 ∨ x9 = 3 ∨ x9 = 4 ∨ x9 = 5 ∨ x9 = 6 ∨ x9 = 7 by omega) with rfl | rfl | rfl | rfl | rfl | rfl | rfl | rfl
      · refine s_iload_n dX4_rowAt_38 rfl ?_
        refine s_if_ne 51 dX4_rowAt_39 (by decide) (fun c39 => absurd (rfl) c39) (fun c39 => ?_)
        refine s_aload_n dX4_rowAt_42 rfl ?_
        refine s_get (kd := 12) (ix := 0) (ci := 5) (fs := [.int 0, .int (nI t0), .ref (ad 13 0), .ref (ad 14 0), .ref (ad 15 0), .ref (ad 16 0), .ref (ad 17 0), .ref (ad 18 0), .int (nI r0), .ref (ad 19 0), .ref (ad 20 0), .ref (ad 21 0), .ref (ad 22 0), .ref (ad 23 0), .ref (ad 24 0), .int (jB b0), .ref (ad 25 0)])  (sset_self _ _ _ _) rfl in_X4_rowAt_X4 9 (by decide) (by decide +kernel) rfl rfl dX4_rowAt_43 ?_
        refine s_iload_n dX4_rowAt_46 rfl ?_
        refine s_iald (kd := 19) (ix := 0) (n := 60) (f := kd) (j := jr) ((sset_k _ _ (by decide)).trans (hm.2.2.2.2.2.2.2.1)) (rfl) (by omega) (by decide) dX4_rowAt_47 ?_
        refine s_eqi (y := aRw α jr 0) ((i4 jr hjr).1) ?_
        refine s_goto 97 dX4_rowAt_48 (by decide) ?_
        exact s_iret rfl (rfl) dX4_rowAt_97 (Nat.le_of_ble_eq_true rfl) (Nat.le_of_ble_eq_true rfl) (⟨rfl, (sSame.rfl |>.set (P := pMd) (by simp [pMd]) _), ⟨(0, t0, hd, on, tw, dp, cl, gr, r0, kd, fl, co, sm, wk, sp, b0, mu), ⟨(sset_self _ _ _ _), ((sset_k _ _ (by decide)).trans (hm.2.1)), ((sset_k _ _ (by decide)).trans (hm.2.2.1)), ((sset_k _ _ (by decide)).trans (hm.2.2.2.1)), ((sset_k _ _ (by decide)).trans (hm.2.2.2.2.1)), ((sset_k _ _ (by decide)).trans (hm.2.2.2.2.2.1)), ((sset_k _ _ (by decide)).trans (hm.2.2.2.2.2.2.1)), ((sset_k _ _ (by decide)).trans (hm.2.2.2.2.2.2.2.1)), ((sset_k _ _ (by decide)).trans (hm.2.2.2.2.2.2.2.2.1)), ((sset_k _ _ (by decide)).trans (hm.2.2.2.2.2.2.2.2.2.1)), ((sset_k _ _ (by decide)).trans (hm.2.2.2.2.2.2.2.2.2.2.1)), ((sset_k _ _ (by decide)).trans (hm.2.2.2.2.2.2.2.2.2.2.2.1)), ((sset_k _ _ (by decide)).trans (hm.2.2.2.2.2.2.2.2.2.2.2.2.1)), ((sset_k _ _ (by decide)).trans (hm.2.2.2.2.2.2.2.2.2.2.2.2.2))⟩, rfl, hI.any _ _ _ _ _⟩, _, rfl, fun _ => ev.symm⟩)
      · refine s_iload_n dX4_rowAt_38 rfl ?_
        refine s_if_ne 51 dX4_rowAt_39 (by decide) (fun c39 => ?_) (fun c39 => absurd c39 (by decide))
        refine s_iload_n dX4_rowAt_51 rfl ?_
        refine s_iconst (v := 4) dX4_rowAt_52 (by decide) ?_
        refine s_icmp_ge 71 dX4_rowAt_53 (by decide) (fun c53 => absurd c53 (by decide)) (fun c53 => ?_)
        refine s_aload_n dX4_rowAt_56 rfl ?_
        refine s_get (kd := 12) (ix := 0) (ci := 5) (fs := [.int 0, .int (nI t0), .ref (ad 13 0), .ref (ad 14 0), .ref (ad 15 0), .ref (ad 16 0), .ref (ad 17 0), .ref (ad 18 0), .int (nI r0), .ref (ad 19 0), .ref (ad 20 0), .ref (ad 21 0), .ref (ad 22 0), .ref (ad 23 0), .ref (ad 24 0), .int (jB b0), .ref (ad 25 0)])  (sset_self _ _ _ _) rfl in_X4_rowAt_X4 10 (by decide) (by decide +kernel) rfl rfl dX4_rowAt_57 ?_
        refine s_iconst (v := 3) dX4_rowAt_60 (by decide) ?_
        refine s_iload_n dX4_rowAt_61 rfl ?_
        refine s_imul dX4_rowAt_62 ?_
        refine s_eqi (y := nI (3 * jr)) (nI_mul 3 jr) ?_
        refine s_iload_n dX4_rowAt_63 rfl ?_
        refine s_iadd dX4_rowAt_64 ?_
        refine s_eqi (y := nI (3 * jr + 1)) (nI_add _ _) ?_
        refine s_iconst (v := 1) dX4_rowAt_65 (by decide) ?_
        refine s_isub dX4_rowAt_66 ?_
        refine s_eqi (y := nI (3 * jr + 0)) ((nI_sub (a := 3 * jr + 1) (b := 1) (by omega)).trans (by rw [show 3 * jr + 1 - 1 = 3 * jr + 0 by omega])) ?_
        refine s_iald (kd := 20) (ix := 0) (n := 180) (f := fl) (j := 3 * jr + 0) ((sset_k _ _ (by decide)).trans (hm.2.2.2.2.2.2.2.2.1)) (rfl) (by omega) (by decide) dX4_rowAt_67 ?_
        refine s_eqi (y := aRw α jr 1) ((i4 jr hjr).2.1 0 (by omega)) ?_
        refine s_goto 97 dX4_rowAt_68 (by decide) ?_
        exact s_iret rfl (rfl) dX4_rowAt_97 (Nat.le_of_ble_eq_true rfl) (Nat.le_of_ble_eq_true rfl) (⟨rfl, (sSame.rfl |>.set (P := pMd) (by simp [pMd]) _), ⟨(0, t0, hd, on, tw, dp, cl, gr, r0, kd, fl, co, sm, wk, sp, b0, mu), ⟨(sset_self _ _ _ _), ((sset_k _ _ (by decide)).trans (hm.2.1)), ((sset_k _ _ (by decide)).trans (hm.2.2.1)), ((sset_k _ _ (by decide)).trans (hm.2.2.2.1)), ((sset_k _ _ (by decide)).trans (hm.2.2.2.2.1)), ((sset_k _ _ (by decide)).trans (hm.2.2.2.2.2.1)), ((sset_k _ _ (by decide)).trans (hm.2.2.2.2.2.2.1)), ((sset_k _ _ (by decide)).trans (hm.2.2.2.2.2.2.2.1)), ((sset_k _ _ (by decide)).trans (hm.2.2.2.2.2.2.2.2.1)), ((sset_k _ _ (by decide)).trans (hm.2.2.2.2.2.2.2.2.2.1)), ((sset_k _ _ (by decide)).trans (hm.2.2.2.2.2.2.2.2.2.2.1)), ((sset_k _ _ (by decide)).trans (hm.2.2.2.2.2.2.2.2.2.2.2.1)), ((sset_k _ _ (by decide)).trans (hm.2.2.2.2.2.2.2.2.2.2.2.2.1)), ((sset_k _ _ (by decide)).trans (hm.2.2.2.2.2.2.2.2.2.2.2.2.2))⟩, rfl, hI.any _ _ _ _ _⟩, _, rfl, fun _ => ev.symm⟩)
      · refine s_iload_n dX4_rowAt_38 rfl ?_
        refine s_if_ne 51 dX4_rowAt_39 (by decide) (fun c39 => ?_) (fun c39 => absurd c39 (by decide))
        refine s_iload_n dX4_rowAt_51 rfl ?_
        refine s_iconst (v := 4) dX4_rowAt_52 (by decide) ?_
        refine s_icmp_ge 71 dX4_rowAt_53 (by decide) (fun c53 => absurd c53 (by decide)) (fun c53 => ?_)
        refine s_aload_n dX4_rowAt_56 rfl ?_
        refine s_get (kd := 12) (ix := 0) (ci := 5) (fs := [.int 0, .int (nI t0), .ref (ad 13 0), .ref (ad 14 0), .ref (ad 15 0), .ref (ad 16 0), .ref (ad 17 0), .ref (ad 18 0), .int (nI r0), .ref (ad 19 0), .ref (ad 20 0), .ref (ad 21 0), .ref (ad 22 0), .ref (ad 23 0), .ref (ad 24 0), .int (jB b0), .ref (ad 25 0)])  (sset_self _ _ _ _) rfl in_X4_rowAt_X4 10 (by decide) (by decide +kernel) rfl rfl dX4_rowAt_57 ?_
        refine s_iconst (v := 3) dX4_rowAt_60 (by decide) ?_
        refine s_iload_n dX4_rowAt_61 rfl ?_
        refine s_imul dX4_rowAt_62 ?_
        refine s_eqi (y := nI (3 * jr)) (nI_mul 3 jr) ?_
        refine s_iload_n dX4_rowAt_63 rfl ?_
        refine s_iadd dX4_rowAt_64 ?_
        refine s_eqi (y := nI (3 * jr + 2)) (nI_add _ _) ?_
        refine s_iconst (v := 1) dX4_rowAt_65 (by decide) ?_
        refine s_isub dX4_rowAt_66 ?_
        refine s_eqi (y := nI (3 * jr + 1)) ((nI_sub (a := 3 * jr + 2) (b := 1) (by omega)).trans (by rw [show 3 * jr + 2 - 1 = 3 * jr + 1 by omega])) ?_
        refine s_iald (kd := 20) (ix := 0) (n := 180) (f := fl) (j := 3 * jr + 1) ((sset_k _ _ (by decide)).trans (hm.2.2.2.2.2.2.2.2.1)) (rfl) (by omega) (by decide) dX4_rowAt_67 ?_
        refine s_eqi (y := aRw α jr 2) ((i4 jr hjr).2.1 1 (by omega)) ?_
        refine s_goto 97 dX4_rowAt_68 (by decide) ?_
        exact s_iret rfl (rfl) dX4_rowAt_97 (Nat.le_of_ble_eq_true rfl) (Nat.le_of_ble_eq_true rfl) (⟨rfl, (sSame.rfl |>.set (P := pMd) (by simp [pMd]) _), ⟨(0, t0, hd, on, tw, dp, cl, gr, r0, kd, fl, co, sm, wk, sp, b0, mu), ⟨(sset_self _ _ _ _), ((sset_k _ _ (by decide)).trans (hm.2.1)), ((sset_k _ _ (by decide)).trans (hm.2.2.1)), ((sset_k _ _ (by decide)).trans (hm.2.2.2.1)), ((sset_k _ _ (by decide)).trans (hm.2.2.2.2.1)), ((sset_k _ _ (by decide)).trans (hm.2.2.2.2.2.1)), ((sset_k _ _ (by decide)).trans (hm.2.2.2.2.2.2.1)), ((sset_k _ _ (by decide)).trans (hm.2.2.2.2.2.2.2.1)), ((sset_k _ _ (by decide)).trans (hm.2.2.2.2.2.2.2.2.1)), ((sset_k _ _ (by decide)).trans (hm.2.2.2.2.2.2.2.2.2.1)), ((sset_k _ _ (by decide)).trans (hm.2.2.2.2.2.2.2.2.2.2.1)), ((sset_k _ _ (by decide)).trans (hm.2.2.2.2.2.2.2.2.2.2.2.1)), ((sset_k _ _ (by decide)).trans (hm.2.2.2.2.2.2.2.2.2.2.2.2.1)), ((sset_k _ _ (by decide)).trans (hm.2.2.2.2.2.2.2.2.2.2.2.2.2))⟩, rfl, hI.any _ _ _ _ _⟩, _, rfl, fun _ => ev.symm⟩)
      · refine s_iload_n dX4_rowAt_38 rfl ?_
        refine s_if_ne 51 dX4_rowAt_39 (by decide) (fun c39 => ?_) (fun c39 => absurd c39 (by decide))
        refine s_iload_n dX4_rowAt_51 rfl ?_
        refine s_iconst (v := 4) dX4_rowAt_52 (by decide) ?_
        refine s_icmp_ge 71 dX4_rowAt_53 (by decide) (fun c53 => absurd c53 (by decide)) (fun c53 => ?_)
        refine s_aload_n dX4_rowAt_56 rfl ?_
        refine s_get (kd := 12) (ix := 0) (ci := 5) (fs := [.int 0, .int (nI t0), .ref (ad 13 0), .ref (ad 14 0), .ref (ad 15 0), .ref (ad 16 0), .ref (ad 17 0), .ref (ad 18 0), .int (nI r0), .ref (ad 19 0), .ref (ad 20 0), .ref (ad 21 0), .ref (ad 22 0), .ref (ad 23 0), .ref (ad 24 0), .int (jB b0), .ref (ad 25 0)])  (sset_self _ _ _ _) rfl in_X4_rowAt_X4 10 (by decide) (by decide +kernel) rfl rfl dX4_rowAt_57 ?_
        refine s_iconst (v := 3) dX4_rowAt_60 (by decide) ?_
        refine s_iload_n dX4_rowAt_61 rfl ?_
        refine s_imul dX4_rowAt_62 ?_
        refine s_eqi (y := nI (3 * jr)) (nI_mul 3 jr) ?_
        refine s_iload_n dX4_rowAt_63 rfl ?_
        refine s_iadd dX4_rowAt_64 ?_
        refine s_eqi (y := nI (3 * jr + 3)) (nI_add _ _) ?_
        refine s_iconst (v := 1) dX4_rowAt_65 (by decide) ?_
        refine s_isub dX4_rowAt_66 ?_
        refine s_eqi (y := nI (3 * jr + 2)) ((nI_sub (a := 3 * jr + 3) (b := 1) (by omega)).trans (by rw [show 3 * jr + 3 - 1 = 3 * jr + 2 by omega])) ?_
        refine s_iald (kd := 20) (ix := 0) (n := 180) (f := fl) (j := 3 * jr + 2) ((sset_k _ _ (by decide)).trans (hm.2.2.2.2.2.2.2.2.1)) (rfl) (by omega) (by decide) dX4_rowAt_67 ?_
        refine s_eqi (y := aRw α jr 3) ((i4 jr hjr).2.1 2 (by omega)) ?_
        refine s_goto 97 dX4_rowAt_68 (by decide) ?_
        exact s_iret rfl (rfl) dX4_rowAt_97 (Nat.le_of_ble_eq_true rfl) (Nat.le_of_ble_eq_true rfl) (⟨rfl, (sSame.rfl |>.set (P := pMd) (by simp [pMd]) _), ⟨(0, t0, hd, on, tw, dp, cl, gr, r0, kd, fl, co, sm, wk, sp, b0, mu), ⟨(sset_self _ _ _ _), ((sset_k _ _ (by decide)).trans (hm.2.1)), ((sset_k _ _ (by decide)).trans (hm.2.2.1)), ((sset_k _ _ (by decide)).trans (hm.2.2.2.1)), ((sset_k _ _ (by decide)).trans (hm.2.2.2.2.1)), ((sset_k _ _ (by decide)).trans (hm.2.2.2.2.2.1)), ((sset_k _ _ (by decide)).trans (hm.2.2.2.2.2.2.1)), ((sset_k _ _ (by decide)).trans (hm.2.2.2.2.2.2.2.1)), ((sset_k _ _ (by decide)).trans (hm.2.2.2.2.2.2.2.2.1)), ((sset_k _ _ (by decide)).trans (hm.2.2.2.2.2.2.2.2.2.1)), ((sset_k _ _ (by decide)).trans (hm.2.2.2.2.2.2.2.2.2.2.1)), ((sset_k _ _ (by decide)).trans (hm.2.2.2.2.2.2.2.2.2.2.2.1)), ((sset_k _ _ (by decide)).trans (hm.2.2.2.2.2.2.2.2.2.2.2.2.1)), ((sset_k _ _ (by decide)).trans (hm.2.2.2.2.2.2.2.2.2.2.2.2.2))⟩, rfl, hI.any _ _ _ _ _⟩, _, rfl, fun _ => ev.symm⟩)
      · refine s_iload_n dX4_rowAt_38 rfl ?_
        refine s_if_ne 51 dX4_rowAt_39 (by decide) (fun c39 => ?_) (fun c39 => absurd c39 (by decide))
        refine s_iload_n dX4_rowAt_51 rfl ?_
        refine s_iconst (v := 4) dX4_rowAt_52 (by decide) ?_
        refine s_icmp_ge 71 dX4_rowAt_53 (by decide) (fun c53 => ?_) (fun c53 => absurd (by decide) c53)
        refine s_iload_n dX4_rowAt_71 rfl ?_
        refine s_iconst (v := 4) dX4_rowAt_72 (by decide) ?_
        refine s_icmp_ne 85 dX4_rowAt_73 (by decide) (fun c73 => absurd (rfl) c73) (fun c73 => ?_)
        refine s_aload_n dX4_rowAt_76 rfl ?_
        refine s_get (kd := 12) (ix := 0) (ci := 5) (fs := [.int 0, .int (nI t0), .ref (ad 13 0), .ref (ad 14 0), .ref (ad 15 0), .ref (ad 16 0), .ref (ad 17 0), .ref (ad 18 0), .int (nI r0), .ref (ad 19 0), .ref (ad 20 0), .ref (ad 21 0), .ref (ad 22 0), .ref (ad 23 0), .ref (ad 24 0), .int (jB b0), .ref (ad 25 0)])  (sset_self _ _ _ _) rfl in_X4_rowAt_X4 11 (by decide) (by decide +kernel) rfl rfl dX4_rowAt_77 ?_
        refine s_iload_n dX4_rowAt_80 rfl ?_
        refine s_iald (kd := 21) (ix := 0) (n := 60) (f := co) (j := jr) ((sset_k _ _ (by decide)).trans (hm.2.2.2.2.2.2.2.2.2.1)) (rfl) (by omega) (by decide) dX4_rowAt_81 ?_
        refine s_eqi (y := aRw α jr 4) ((i4 jr hjr).2.2.1) ?_
        refine s_goto 97 dX4_rowAt_82 (by decide) ?_
        exact s_iret rfl (rfl) dX4_rowAt_97 (Nat.le_of_ble_eq_true rfl) (Nat.le_of_ble_eq_true rfl) (⟨rfl, (sSame.rfl |>.set (P := pMd) (by simp [pMd]) _), ⟨(0, t0, hd, on, tw, dp, cl, gr, r0, kd, fl, co, sm, wk, sp, b0, mu), ⟨(sset_self _ _ _ _), ((sset_k _ _ (by decide)).trans (hm.2.1)), ((sset_k _ _ (by decide)).trans (hm.2.2.1)), ((sset_k _ _ (by decide)).trans (hm.2.2.2.1)), ((sset_k _ _ (by decide)).trans (hm.2.2.2.2.1)), ((sset_k _ _ (by decide)).trans (hm.2.2.2.2.2.1)), ((sset_k _ _ (by decide)).trans (hm.2.2.2.2.2.2.1)), ((sset_k _ _ (by decide)).trans (hm.2.2.2.2.2.2.2.1)), ((sset_k _ _ (by decide)).trans (hm.2.2.2.2.2.2.2.2.1)), ((sset_k _ _ (by decide)).trans (hm.2.2.2.2.2.2.2.2.2.1)), ((sset_k _ _ (by decide)).trans (hm.2.2.2.2.2.2.2.2.2.2.1)), ((sset_k _ _ (by decide)).trans (hm.2.2.2.2.2.2.2.2.2.2.2.1)), ((sset_k _ _ (by decide)).trans (hm.2.2.2.2.2.2.2.2.2.2.2.2.1)), ((sset_k _ _ (by decide)).trans (hm.2.2.2.2.2.2.2.2.2.2.2.2.2))⟩, rfl, hI.any _ _ _ _ _⟩, _, rfl, fun _ => ev.symm⟩)
      · refine s_iload_n dX4_rowAt_38 rfl ?_
        refine s_if_ne 51 dX4_rowAt_39 (by decide) (fun c39 => ?_) (fun c39 => absurd c39 (by decide))
        refine s_iload_n dX4_rowAt_51 rfl ?_
        refine s_iconst (v := 4) dX4_rowAt_52 (by decide) ?_
        refine s_icmp_ge 71 dX4_rowAt_53 (by decide) (fun c53 => ?_) (fun c53 => absurd (by decide) c53)
        refine s_iload_n dX4_rowAt_71 rfl ?_
        refine s_iconst (v := 4) dX4_rowAt_72 (by decide) ?_
        refine s_icmp_ne 85 dX4_rowAt_73 (by decide) (fun c73 => ?_) (fun c73 => absurd c73 (by decide))
        refine s_aload_n dX4_rowAt_85 rfl ?_
        refine s_get (kd := 12) (ix := 0) (ci := 5) (fs := [.int 0, .int (nI t0), .ref (ad 13 0), .ref (ad 14 0), .ref (ad 15 0), .ref (ad 16 0), .ref (ad 17 0), .ref (ad 18 0), .int (nI r0), .ref (ad 19 0), .ref (ad 20 0), .ref (ad 21 0), .ref (ad 22 0), .ref (ad 23 0), .ref (ad 24 0), .int (jB b0), .ref (ad 25 0)])  (sset_self _ _ _ _) rfl in_X4_rowAt_X4 12 (by decide) (by decide +kernel) rfl rfl dX4_rowAt_86 ?_
        refine s_iconst (v := 3) dX4_rowAt_89 (by decide) ?_
        refine s_iload_n dX4_rowAt_90 rfl ?_
        refine s_imul dX4_rowAt_91 ?_
        refine s_eqi (y := nI (3 * jr)) (nI_mul 3 jr) ?_
        refine s_iload_n dX4_rowAt_92 rfl ?_
        refine s_iadd dX4_rowAt_93 ?_
        refine s_eqi (y := nI (3 * jr + 5)) (nI_add _ _) ?_
        refine s_iconst (v := 5) dX4_rowAt_94 (by decide) ?_
        refine s_isub dX4_rowAt_95 ?_
        refine s_eqi (y := nI (3 * jr + 0)) ((nI_sub (a := 3 * jr + 5) (b := 5) (by omega)).trans (by rw [show 3 * jr + 5 - 5 = 3 * jr + 0 by omega])) ?_
        refine s_iald (kd := 22) (ix := 0) (n := 180) (f := sm) (j := 3 * jr + 0) ((sset_k _ _ (by decide)).trans (hm.2.2.2.2.2.2.2.2.2.2.1)) (rfl) (by omega) (by decide) dX4_rowAt_96 ?_
        refine s_eqi (y := aRw α jr 5) ((i4 jr hjr).2.2.2 0 (by omega)) ?_
        exact s_iret rfl (rfl) dX4_rowAt_97 (Nat.le_of_ble_eq_true rfl) (Nat.le_of_ble_eq_true rfl) (⟨rfl, (sSame.rfl |>.set (P := pMd) (by simp [pMd]) _), ⟨(0, t0, hd, on, tw, dp, cl, gr, r0, kd, fl, co, sm, wk, sp, b0, mu), ⟨(sset_self _ _ _ _), ((sset_k _ _ (by decide)).trans (hm.2.1)), ((sset_k _ _ (by decide)).trans (hm.2.2.1)), ((sset_k _ _ (by decide)).trans (hm.2.2.2.1)), ((sset_k _ _ (by decide)).trans (hm.2.2.2.2.1)), ((sset_k _ _ (by decide)).trans (hm.2.2.2.2.2.1)), ((sset_k _ _ (by decide)).trans (hm.2.2.2.2.2.2.1)), ((sset_k _ _ (by decide)).trans (hm.2.2.2.2.2.2.2.1)), ((sset_k _ _ (by decide)).trans (hm.2.2.2.2.2.2.2.2.1)), ((sset_k _ _ (by decide)).trans (hm.2.2.2.2.2.2.2.2.2.1)), ((sset_k _ _ (by decide)).trans (hm.2.2.2.2.2.2.2.2.2.2.1)), ((sset_k _ _ (by decide)).trans (hm.2.2.2.2.2.2.2.2.2.2.2.1)), ((sset_k _ _ (by decide)).trans (hm.2.2.2.2.2.2.2.2.2.2.2.2.1)), ((sset_k _ _ (by decide)).trans (hm.2.2.2.2.2.2.2.2.2.2.2.2.2))⟩, rfl, hI.any _ _ _ _ _⟩, _, rfl, fun _ => ev.symm⟩)
      · refine s_iload_n dX4_rowAt_38 rfl ?_
        refine s_if_ne 51 dX4_rowAt_39 (by decide) (fun c39 => ?_) (fun c39 => absurd c39 (by decide))
        refine s_iload_n dX4_rowAt_51 rfl ?_
        refine s_iconst (v := 4) dX4_rowAt_52 (by decide) ?_
        refine s_icmp_ge 71 dX4_rowAt_53 (by decide) (fun c53 => ?_) (fun c53 => absurd (by decide) c53)
        refine s_iload_n dX4_rowAt_71 rfl ?_
        refine s_iconst (v := 4) dX4_rowAt_72 (by decide) ?_
        refine s_icmp_ne 85 dX4_rowAt_73 (by decide) (fun c73 => ?_) (fun c73 => absurd c73 (by decide))
        refine s_aload_n dX4_rowAt_85 rfl ?_
        refine s_get (kd := 12) (ix := 0) (ci := 5) (fs := [.int 0, .int (nI t0), .ref (ad 13 0), .ref (ad 14 0), .ref (ad 15 0), .ref (ad 16 0), .ref (ad 17 0), .ref (ad 18 0), .int (nI r0), .ref (ad 19 0), .ref (ad 20 0), .ref (ad 21 0), .ref (ad 22 0), .ref (ad 23 0), .ref (ad 24 0), .int (jB b0), .ref (ad 25 0)])  (sset_self _ _ _ _) rfl in_X4_rowAt_X4 12 (by decide) (by decide +kernel) rfl rfl dX4_rowAt_86 ?_
        refine s_iconst (v := 3) dX4_rowAt_89 (by decide) ?_
        refine s_iload_n dX4_rowAt_90 rfl ?_
        refine s_imul dX4_rowAt_91 ?_
        refine s_eqi (y := nI (3 * jr)) (nI_mul 3 jr) ?_
        refine s_iload_n dX4_rowAt_92 rfl ?_
        refine s_iadd dX4_rowAt_93 ?_
        refine s_eqi (y := nI (3 * jr + 6)) (nI_add _ _) ?_
        refine s_iconst (v := 5) dX4_rowAt_94 (by decide) ?_
        refine s_isub dX4_rowAt_95 ?_
        refine s_eqi (y := nI (3 * jr + 1)) ((nI_sub (a := 3 * jr + 6) (b := 5) (by omega)).trans (by rw [show 3 * jr + 6 - 5 = 3 * jr + 1 by omega])) ?_
        refine s_iald (kd := 22) (ix := 0) (n := 180) (f := sm) (j := 3 * jr + 1) ((sset_k _ _ (by decide)).trans (hm.2.2.2.2.2.2.2.2.2.2.1)) (rfl) (by omega) (by decide) dX4_rowAt_96 ?_
        refine s_eqi (y := aRw α jr 6) ((i4 jr hjr).2.2.2 1 (by omega)) ?_
        exact s_iret rfl (rfl) dX4_rowAt_97 (Nat.le_of_ble_eq_true rfl) (Nat.le_of_ble_eq_true rfl) (⟨rfl, (sSame.rfl |>.set (P := pMd) (by simp [pMd]) _), ⟨(0, t0, hd, on, tw, dp, cl, gr, r0, kd, fl, co, sm, wk, sp, b0, mu), ⟨(sset_self _ _ _ _), ((sset_k _ _ (by decide)).trans (hm.2.1)), ((sset_k _ _ (by decide)).trans (hm.2.2.1)), ((sset_k _ _ (by decide)).trans (hm.2.2.2.1)), ((sset_k _ _ (by decide)).trans (hm.2.2.2.2.1)), ((sset_k _ _ (by decide)).trans (hm.2.2.2.2.2.1)), ((sset_k _ _ (by decide)).trans (hm.2.2.2.2.2.2.1)), ((sset_k _ _ (by decide)).trans (hm.2.2.2.2.2.2.2.1)), ((sset_k _ _ (by decide)).trans (hm.2.2.2.2.2.2.2.2.1)), ((sset_k _ _ (by decide)).trans (hm.2.2.2.2.2.2.2.2.2.1)), ((sset_k _ _ (by decide)).trans (hm.2.2.2.2.2.2.2.2.2.2.1)), ((sset_k _ _ (by decide)).trans (hm.2.2.2.2.2.2.2.2.2.2.2.1)), ((sset_k _ _ (by decide)).trans (hm.2.2.2.2.2.2.2.2.2.2.2.2.1)), ((sset_k _ _ (by decide)).trans (hm.2.2.2.2.2.2.2.2.2.2.2.2.2))⟩, rfl, hI.any _ _ _ _ _⟩, _, rfl, fun _ => ev.symm⟩)
      · refine s_iload_n dX4_rowAt_38 rfl ?_
        refine s_if_ne 51 dX4_rowAt_39 (by decide) (fun c39 => ?_) (fun c39 => absurd c39 (by decide))
        refine s_iload_n dX4_rowAt_51 rfl ?_
        refine s_iconst (v := 4) dX4_rowAt_52 (by decide) ?_
        refine s_icmp_ge 71 dX4_rowAt_53 (by decide) (fun c53 => ?_) (fun c53 => absurd (by decide) c53)
        refine s_iload_n dX4_rowAt_71 rfl ?_
        refine s_iconst (v := 4) dX4_rowAt_72 (by decide) ?_
        refine s_icmp_ne 85 dX4_rowAt_73 (by decide) (fun c73 => ?_) (fun c73 => absurd c73 (by decide))
        refine s_aload_n dX4_rowAt_85 rfl ?_
        refine s_get (kd := 12) (ix := 0) (ci := 5) (fs := [.int 0, .int (nI t0), .ref (ad 13 0), .ref (ad 14 0), .ref (ad 15 0), .ref (ad 16 0), .ref (ad 17 0), .ref (ad 18 0), .int (nI r0), .ref (ad 19 0), .ref (ad 20 0), .ref (ad 21 0), .ref (ad 22 0), .ref (ad 23 0), .ref (ad 24 0), .int (jB b0), .ref (ad 25 0)])  (sset_self _ _ _ _) rfl in_X4_rowAt_X4 12 (by decide) (by decide +kernel) rfl rfl dX4_rowAt_86 ?_
        refine s_iconst (v := 3) dX4_rowAt_89 (by decide) ?_
        refine s_iload_n dX4_rowAt_90 rfl ?_
        refine s_imul dX4_rowAt_91 ?_
        refine s_eqi (y := nI (3 * jr)) (nI_mul 3 jr) ?_
        refine s_iload_n dX4_rowAt_92 rfl ?_
        refine s_iadd dX4_rowAt_93 ?_
        refine s_eqi (y := nI (3 * jr + 7)) (nI_add _ _) ?_
        refine s_iconst (v := 5) dX4_rowAt_94 (by decide) ?_
        refine s_isub dX4_rowAt_95 ?_
        refine s_eqi (y := nI (3 * jr + 2)) ((nI_sub (a := 3 * jr + 7) (b := 5) (by omega)).trans (by rw [show 3 * jr + 7 - 5 = 3 * jr + 2 by omega])) ?_
        refine s_iald (kd := 22) (ix := 0) (n := 180) (f := sm) (j := 3 * jr + 2) ((sset_k _ _ (by decide)).trans (hm.2.2.2.2.2.2.2.2.2.2.1)) (rfl) (by omega) (by decide) dX4_rowAt_96 ?_
        refine s_eqi (y := aRw α jr 7) ((i4 jr hjr).2.2.2 2 (by omega)) ?_
        exact s_iret rfl (rfl) dX4_rowAt_97 (Nat.le_of_ble_eq_true rfl) (Nat.le_of_ble_eq_true rfl) (⟨rfl, (sSame.rfl |>.set (P := pMd) (by simp [pMd]) _), ⟨(0, t0, hd, on, tw, dp, cl, gr, r0, kd, fl, co, sm, wk, sp, b0, mu), ⟨(sset_self _ _ _ _), ((sset_k _ _ (by decide)).trans (hm.2.1)), ((sset_k _ _ (by decide)).trans (hm.2.2.1)), ((sset_k _ _ (by decide)).trans (hm.2.2.2.1)), ((sset_k _ _ (by decide)).trans (hm.2.2.2.2.1)), ((sset_k _ _ (by decide)).trans (hm.2.2.2.2.2.1)), ((sset_k _ _ (by decide)).trans (hm.2.2.2.2.2.2.1)), ((sset_k _ _ (by decide)).trans (hm.2.2.2.2.2.2.2.1)), ((sset_k _ _ (by decide)).trans (hm.2.2.2.2.2.2.2.2.1)), ((sset_k _ _ (by decide)).trans (hm.2.2.2.2.2.2.2.2.2.1)), ((sset_k _ _ (by decide)).trans (hm.2.2.2.2.2.2.2.2.2.2.1)), ((sset_k _ _ (by decide)).trans (hm.2.2.2.2.2.2.2.2.2.2.2.1)), ((sset_k _ _ (by decide)).trans (hm.2.2.2.2.2.2.2.2.2.2.2.2.1)), ((sset_k _ _ (by decide)).trans (hm.2.2.2.2.2.2.2.2.2.2.2.2.2))⟩, rfl, hI.any _ _ _ _ _⟩, _, rfl, fun _ => ev.symm⟩)
abbrev mX4_terms : sMeth := (cX4_terms, 2, RX4, wsX4_terms, { frames := 2, cells := 0, slots := 0, locals := 46 }, (some .int), "terms", [])
theorem in_X4_terms_X4 : ∀ w ∈ wsX40, w ∈ wsX4_terms := by decide +kernel
set_option maxHeartbeats 4000000 in
set_option maxRecDepth 100000 in
theorem c_X4_terms (G : sG) (l : Launch) (hl : l.stackTraces = false) (ad : sAd) (M : sM) (c0 : Int32) (t0 : Nat) (hd : Nat → Int32) (on : Nat → Int32) (tw : Nat → Int32) (dp : Nat → Int32) (cl : Nat → Int32) (gr : Nat → Int32) (r0 : Nat) (kd : Nat → Int32) (fl : Nat → Int32) (co : Nat → Int32) (sm : Nat → Int32) (wk : Nat → Int64) (sp : Nat → Int64) (b0 : Bool) (mu : Nat → Int32) (hm : hMd G ad M (c0, t0, hd, on, tw, dp, cl, gr, r0, kd, fl, co, sm, wk, sp, b0, mu)) (α : sAl) (hA : AI α) (hI : RI α (c0, t0, hd, on, tw, dp, cl, gr, r0, kd, fl, co, sm, wk, sp, b0, mu)) (x v : Int32) (k : Nat) (hrel : teR α x k v) : sMet G l yX4_terms mX4_terms [.ref (ad 12 0), .int x] ad M (mPost G ad M k v α) (fun _ _ _ => False) := by
  obtain ⟨i1, i2, i3, i4⟩ := id hI
  have hT := hA.1
  have hR60 := hA.2.1
  refine sMet.of hl (by decide +kernel) rfl rfl rfl rfl (Nat.le_of_ble_eq_true rfl) (fun X => ?_)
  refine s_lv (lv' := [some (.ref (ad 12 0)), some (.int x)]) rfl ?_
  refine s_aload_n dX4_terms_0 rfl ?_
  refine s_aload_n dX4_terms_1 rfl ?_
  refine s_iload_n dX4_terms_2 rfl ?_
  refine s_callV (As := [.int x]) (rest := [.ref (ad 12 0)]) (n := 1) (kd := 12) (ix := 0) (fun l hl => c_X4_isTree G l hl ad M c0 t0 hd on tw dp cl gr r0 kd fl co sm wk sp b0 mu ⟨hm.1, hm.2.1, hm.2.2.1, hm.2.2.2.1, hm.2.2.2.2.1, hm.2.2.2.2.2.1, hm.2.2.2.2.2.2.1, hm.2.2.2.2.2.2.2.1, hm.2.2.2.2.2.2.2.2.1, hm.2.2.2.2.2.2.2.2.2.1, hm.2.2.2.2.2.2.2.2.2.2.1, hm.2.2.2.2.2.2.2.2.2.2.2.1, hm.2.2.2.2.2.2.2.2.2.2.2.2.1, hm.2.2.2.2.2.2.2.2.2.2.2.2.2⟩ (by omega) x) gX4_terms_X4_isTree rfl (by decide +kernel) hm.1 rfl rfl ⟨(Nat.le_of_ble_eq_true rfl), (Nat.le_of_ble_eq_true rfl)⟩ ⟨(Nat.le_of_ble_eq_true rfl), (Nat.le_of_ble_eq_true rfl)⟩ (Nat.le_of_ble_eq_true rfl) dX4_terms_3 rfl (fun r9 ad9 M9 h9 => ?_)
  obtain ⟨rfl, rfl, zt, rfl, hzt⟩ := h9
  rw [i1] at hzt
  refine s_if_eq 13 dX4_terms_6 (by decide) (fun c6 => ?_) (fun c6 => ?_)
  · obtain rfl := hrel.c1 (fun q => by have z9 := hzt.mpr q; rw [jB_0.mp c6] at z9; cases z9)
    refine s_iconst (v := 1) dX4_terms_13 (by decide) ?_
    refine s_put (kd := 12) (ix := 0) (ci := 5) (v := .int 1) (ty := tyX4 0) (fs := [.int c0, .int (nI t0), .ref (ad 13 0), .ref (ad 14 0), .ref (ad 15 0), .ref (ad 16 0), .ref (ad 17 0), .ref (ad 18 0), .int (nI r0), .ref (ad 19 0), .ref (ad 20 0), .ref (ad 21 0), .ref (ad 22 0), .ref (ad 23 0), .ref (ad 24 0), .int (jB b0), .ref (ad 25 0)])  tyX4 tyX4_ok nmX4 hm.1 rfl in_X4_terms_X4 0 (by decide) (by decide +kernel) rfl rfl (tyX4_ok 0 (by decide)) (rfl) (rfl) (Nat.le_of_ble_eq_true rfl) dX4_terms_14 ?_
    refine s_M (M' := (sset M 12 0 (.inr (5, [.int 1, .int (nI t0), .ref (ad 13 0), .ref (ad 14 0), .ref (ad 15 0), .ref (ad 16 0), .ref (ad 17 0), .ref (ad 18 0), .int (nI r0), .ref (ad 19 0), .ref (ad 20 0), .ref (ad 21 0), .ref (ad 22 0), .ref (ad 23 0), .ref (ad 24 0), .int (jB b0), .ref (ad 25 0)])))) rfl ?_
    refine s_aload_n dX4_terms_17 rfl ?_
    refine s_get (kd := 12) (ix := 0) (ci := 5) (fs := [.int 1, .int (nI t0), .ref (ad 13 0), .ref (ad 14 0), .ref (ad 15 0), .ref (ad 16 0), .ref (ad 17 0), .ref (ad 18 0), .int (nI r0), .ref (ad 19 0), .ref (ad 20 0), .ref (ad 21 0), .ref (ad 22 0), .ref (ad 23 0), .ref (ad 24 0), .int (jB b0), .ref (ad 25 0)])  (sset_self _ _ _ _) rfl in_X4_terms_X4 0 (by decide) (by decide +kernel) rfl rfl dX4_terms_18 ?_
    refine s_if_le 28 dX4_terms_21 (by decide) (fun c21 => absurd c21 (by decide)) (fun c21 => ?_)
    refine s_iconst (v := 0) dX4_terms_24 (by decide) ?_
    refine s_goto 46 dX4_terms_25 (by decide) ?_
    exact s_iret rfl (rfl) dX4_terms_46 (Nat.le_of_ble_eq_true rfl) (Nat.le_of_ble_eq_true rfl) (⟨rfl, (sSame.rfl |>.set (P := pMd) (by simp [pMd]) _), ⟨(1, t0, hd, on, tw, dp, cl, gr, r0, kd, fl, co, sm, wk, sp, b0, mu), ⟨(sset_self _ _ _ _), ((sset_k _ _ (by decide)).trans (hm.2.1)), ((sset_k _ _ (by decide)).trans (hm.2.2.1)), ((sset_k _ _ (by decide)).trans (hm.2.2.2.1)), ((sset_k _ _ (by decide)).trans (hm.2.2.2.2.1)), ((sset_k _ _ (by decide)).trans (hm.2.2.2.2.2.1)), ((sset_k _ _ (by decide)).trans (hm.2.2.2.2.2.2.1)), ((sset_k _ _ (by decide)).trans (hm.2.2.2.2.2.2.2.1)), ((sset_k _ _ (by decide)).trans (hm.2.2.2.2.2.2.2.2.1)), ((sset_k _ _ (by decide)).trans (hm.2.2.2.2.2.2.2.2.2.1)), ((sset_k _ _ (by decide)).trans (hm.2.2.2.2.2.2.2.2.2.2.1)), ((sset_k _ _ (by decide)).trans (hm.2.2.2.2.2.2.2.2.2.2.2.1)), ((sset_k _ _ (by decide)).trans (hm.2.2.2.2.2.2.2.2.2.2.2.2.1)), ((sset_k _ _ (by decide)).trans (hm.2.2.2.2.2.2.2.2.2.2.2.2.2))⟩, rfl, hI.any _ _ _ _ _⟩, _, rfl, fun q => absurd q (by decide)⟩)
  · obtain ⟨jt, hjt, rfl⟩ := (hzt.mp (Bool.of_not_eq_false (fun q => c6 (jB_0.mpr q))))
    obtain ⟨rfl, hts⟩ := teR.c0 hA hrel hjt
    refine s_iconst (v := 0) dX4_terms_9 (by decide) ?_
    refine s_goto 14 dX4_terms_10 (by decide) ?_
    refine s_put (kd := 12) (ix := 0) (ci := 5) (v := .int 0) (ty := tyX4 0) (fs := [.int c0, .int (nI t0), .ref (ad 13 0), .ref (ad 14 0), .ref (ad 15 0), .ref (ad 16 0), .ref (ad 17 0), .ref (ad 18 0), .int (nI r0), .ref (ad 19 0), .ref (ad 20 0), .ref (ad 21 0), .ref (ad 22 0), .ref (ad 23 0), .ref (ad 24 0), .int (jB b0), .ref (ad 25 0)])  tyX4 tyX4_ok nmX4 hm.1 rfl in_X4_terms_X4 0 (by decide) (by decide +kernel) rfl rfl (tyX4_ok 0 (by decide)) (rfl) (rfl) (Nat.le_of_ble_eq_true rfl) dX4_terms_14 ?_
    refine s_M (M' := (sset M 12 0 (.inr (5, [.int 0, .int (nI t0), .ref (ad 13 0), .ref (ad 14 0), .ref (ad 15 0), .ref (ad 16 0), .ref (ad 17 0), .ref (ad 18 0), .int (nI r0), .ref (ad 19 0), .ref (ad 20 0), .ref (ad 21 0), .ref (ad 22 0), .ref (ad 23 0), .ref (ad 24 0), .int (jB b0), .ref (ad 25 0)])))) rfl ?_
    refine s_aload_n dX4_terms_17 rfl ?_
    refine s_get (kd := 12) (ix := 0) (ci := 5) (fs := [.int 0, .int (nI t0), .ref (ad 13 0), .ref (ad 14 0), .ref (ad 15 0), .ref (ad 16 0), .ref (ad 17 0), .ref (ad 18 0), .int (nI r0), .ref (ad 19 0), .ref (ad 20 0), .ref (ad 21 0), .ref (ad 22 0), .ref (ad 23 0), .ref (ad 24 0), .int (jB b0), .ref (ad 25 0)])  (sset_self _ _ _ _) rfl in_X4_terms_X4 0 (by decide) (by decide +kernel) rfl rfl dX4_terms_18 ?_
    refine s_if_le 28 dX4_terms_21 (by decide) (fun c21 => ?_) (fun c21 => absurd (by decide) c21)
    refine s_aload_n dX4_terms_28 rfl ?_
    refine s_get (kd := 12) (ix := 0) (ci := 5) (fs := [.int 0, .int (nI t0), .ref (ad 13 0), .ref (ad 14 0), .ref (ad 15 0), .ref (ad 16 0), .ref (ad 17 0), .ref (ad 18 0), .int (nI r0), .ref (ad 19 0), .ref (ad 20 0), .ref (ad 21 0), .ref (ad 22 0), .ref (ad 23 0), .ref (ad 24 0), .int (jB b0), .ref (ad 25 0)])  (sset_self _ _ _ _) rfl in_X4_terms_X4 7 (by decide) (by decide +kernel) rfl rfl dX4_terms_29 ?_
    refine s_iload_n dX4_terms_32 rfl ?_
    refine s_zald (kd := 18) (ix := 0) (n := 120) (f := gr) (j := jt) ((sset_k _ _ (by decide)).trans (hm.2.2.2.2.2.2.1)) (rfl) (by omega) (by decide) dX4_terms_33 ?_
    refine s_if_eq 41 dX4_terms_34 (by decide) (fun c34 => ?_) (fun c34 => ?_)
    · refine s_aload_n dX4_terms_41 rfl ?_
      refine s_iload_n dX4_terms_42 rfl ?_
      refine s_callV (As := [.int (nI jt)]) (rest := []) (n := 1) (kd := 12) (ix := 0) (fun l hl => c_X4_many G l hl ad (sset M 12 0 (.inr (5, [.int 0, .int (nI t0), .ref (ad 13 0), .ref (ad 14 0), .ref (ad 15 0), .ref (ad 16 0), .ref (ad 17 0), .ref (ad 18 0), .int (nI r0), .ref (ad 19 0), .ref (ad 20 0), .ref (ad 21 0), .ref (ad 22 0), .ref (ad 23 0), .ref (ad 24 0), .int (jB b0), .ref (ad 25 0)]))) 0 t0 hd on tw dp cl gr r0 kd fl co sm wk sp b0 mu ⟨(sset_self _ _ _ _), ((sset_k _ _ (by decide)).trans (hm.2.1)), ((sset_k _ _ (by decide)).trans (hm.2.2.1)), ((sset_k _ _ (by decide)).trans (hm.2.2.2.1)), ((sset_k _ _ (by decide)).trans (hm.2.2.2.2.1)), ((sset_k _ _ (by decide)).trans (hm.2.2.2.2.2.1)), ((sset_k _ _ (by decide)).trans (hm.2.2.2.2.2.2.1)), ((sset_k _ _ (by decide)).trans (hm.2.2.2.2.2.2.2.1)), ((sset_k _ _ (by decide)).trans (hm.2.2.2.2.2.2.2.2.1)), ((sset_k _ _ (by decide)).trans (hm.2.2.2.2.2.2.2.2.2.1)), ((sset_k _ _ (by decide)).trans (hm.2.2.2.2.2.2.2.2.2.2.1)), ((sset_k _ _ (by decide)).trans (hm.2.2.2.2.2.2.2.2.2.2.2.1)), ((sset_k _ _ (by decide)).trans (hm.2.2.2.2.2.2.2.2.2.2.2.2.1)), ((sset_k _ _ (by decide)).trans (hm.2.2.2.2.2.2.2.2.2.2.2.2.2))⟩ jt (by omega) (aPf α jt) (hA.gz hjt) (i3 jt hjt).2.2.2.2.2) gX4_terms_X4_many rfl (by decide +kernel) (sset_self _ _ _ _) rfl rfl ⟨(Nat.le_of_ble_eq_true rfl), (Nat.le_of_ble_eq_true rfl)⟩ ⟨(Nat.le_of_ble_eq_true rfl), (Nat.le_of_ble_eq_true rfl)⟩ (Nat.le_of_ble_eq_true rfl) dX4_terms_43 rfl (fun r47 ad47 M47 h47 => ?_)
      obtain ⟨rfl, hm47, hs47, N47, rfl, hN47⟩ := h47
      exact s_iret rfl (rfl) dX4_terms_46 (Nat.le_of_ble_eq_true rfl) (Nat.le_of_ble_eq_true rfl) (⟨rfl, ((sSame.rfl |>.set (P := pMd) (by simp [pMd]) _).trans hs47), ⟨(0, t0, hd, on, tw, dp, cl, gr, r0, kd, fl, co, sm, wk, sp, b0, mu), hm47, rfl, hI.any _ _ _ _ _⟩, _, rfl, fun _ => hts.elim (fun q => absurd c34 ((i3 jt hjt).2.2.2.2.1.mpr q.1)) (fun ⟨_, n9, q, z⟩ => by rw [q, show N47 = n9 by omega])⟩)
    · refine s_iconst (v := -1) dX4_terms_37 (by decide) ?_
      refine s_goto 46 dX4_terms_38 (by decide) ?_
      exact s_iret rfl (rfl) dX4_terms_46 (Nat.le_of_ble_eq_true rfl) (Nat.le_of_ble_eq_true rfl) (⟨rfl, (sSame.rfl |>.set (P := pMd) (by simp [pMd]) _), ⟨(0, t0, hd, on, tw, dp, cl, gr, r0, kd, fl, co, sm, wk, sp, b0, mu), ⟨(sset_self _ _ _ _), ((sset_k _ _ (by decide)).trans (hm.2.1)), ((sset_k _ _ (by decide)).trans (hm.2.2.1)), ((sset_k _ _ (by decide)).trans (hm.2.2.2.1)), ((sset_k _ _ (by decide)).trans (hm.2.2.2.2.1)), ((sset_k _ _ (by decide)).trans (hm.2.2.2.2.2.1)), ((sset_k _ _ (by decide)).trans (hm.2.2.2.2.2.2.1)), ((sset_k _ _ (by decide)).trans (hm.2.2.2.2.2.2.2.1)), ((sset_k _ _ (by decide)).trans (hm.2.2.2.2.2.2.2.2.1)), ((sset_k _ _ (by decide)).trans (hm.2.2.2.2.2.2.2.2.2.1)), ((sset_k _ _ (by decide)).trans (hm.2.2.2.2.2.2.2.2.2.2.1)), ((sset_k _ _ (by decide)).trans (hm.2.2.2.2.2.2.2.2.2.2.2.1)), ((sset_k _ _ (by decide)).trans (hm.2.2.2.2.2.2.2.2.2.2.2.2.1)), ((sset_k _ _ (by decide)).trans (hm.2.2.2.2.2.2.2.2.2.2.2.2.2))⟩, rfl, hI.any _ _ _ _ _⟩, _, rfl, fun _ => hts.elim (fun q => q.2.symm) (fun q => absurd ((i3 jt hjt).2.2.2.2.1.mp c34) q.1)⟩)
abbrev mX4_deep : sMeth := (cX4_deep, 2, RX4, wsX4_deep, { frames := 2, cells := 0, slots := 0, locals := 46 }, (some .int), "deep", [])
theorem in_X4_deep_X4 : ∀ w ∈ wsX40, w ∈ wsX4_deep := by decide +kernel
set_option maxHeartbeats 4000000 in
set_option maxRecDepth 100000 in
theorem c_X4_deep (G : sG) (l : Launch) (hl : l.stackTraces = false) (ad : sAd) (M : sM) (c0 : Int32) (t0 : Nat) (hd : Nat → Int32) (on : Nat → Int32) (tw : Nat → Int32) (dp : Nat → Int32) (cl : Nat → Int32) (gr : Nat → Int32) (r0 : Nat) (kd : Nat → Int32) (fl : Nat → Int32) (co : Nat → Int32) (sm : Nat → Int32) (wk : Nat → Int64) (sp : Nat → Int64) (b0 : Bool) (mu : Nat → Int32) (hm : hMd G ad M (c0, t0, hd, on, tw, dp, cl, gr, r0, kd, fl, co, sm, wk, sp, b0, mu)) (α : sAl) (hA : AI α) (hI : RI α (c0, t0, hd, on, tw, dp, cl, gr, r0, kd, fl, co, sm, wk, sp, b0, mu)) (x v : Int32) (k : Nat) (hrel : dpR α x k v) : sMet G l yX4_deep mX4_deep [.ref (ad 12 0), .int x] ad M (mPost G ad M k v α) (fun _ _ _ => False) := by
  obtain ⟨i1, i2, i3, i4⟩ := id hI
  have hT := hA.1
  have hR60 := hA.2.1
  refine sMet.of hl (by decide +kernel) rfl rfl rfl rfl (Nat.le_of_ble_eq_true rfl) (fun X => ?_)
  refine s_lv (lv' := [some (.ref (ad 12 0)), some (.int x)]) rfl ?_
  refine s_aload_n dX4_deep_0 rfl ?_
  refine s_aload_n dX4_deep_1 rfl ?_
  refine s_iload_n dX4_deep_2 rfl ?_
  refine s_callV (As := [.int x]) (rest := [.ref (ad 12 0)]) (n := 1) (kd := 12) (ix := 0) (fun l hl => c_X4_isTree G l hl ad M c0 t0 hd on tw dp cl gr r0 kd fl co sm wk sp b0 mu ⟨hm.1, hm.2.1, hm.2.2.1, hm.2.2.2.1, hm.2.2.2.2.1, hm.2.2.2.2.2.1, hm.2.2.2.2.2.2.1, hm.2.2.2.2.2.2.2.1, hm.2.2.2.2.2.2.2.2.1, hm.2.2.2.2.2.2.2.2.2.1, hm.2.2.2.2.2.2.2.2.2.2.1, hm.2.2.2.2.2.2.2.2.2.2.2.1, hm.2.2.2.2.2.2.2.2.2.2.2.2.1, hm.2.2.2.2.2.2.2.2.2.2.2.2.2⟩ (by omega) x) gX4_deep_X4_isTree rfl (by decide +kernel) hm.1 rfl rfl ⟨(Nat.le_of_ble_eq_true rfl), (Nat.le_of_ble_eq_true rfl)⟩ ⟨(Nat.le_of_ble_eq_true rfl), (Nat.le_of_ble_eq_true rfl)⟩ (Nat.le_of_ble_eq_true rfl) dX4_deep_3 rfl (fun r9 ad9 M9 h9 => ?_)
  obtain ⟨rfl, rfl, zt, rfl, hzt⟩ := h9
  rw [i1] at hzt
  refine s_if_eq 13 dX4_deep_6 (by decide) (fun c6 => ?_) (fun c6 => ?_)
  · obtain rfl := hrel.c1 (fun q => by have z9 := hzt.mpr q; rw [jB_0.mp c6] at z9; cases z9)
    refine s_iconst (v := 1) dX4_deep_13 (by decide) ?_
    refine s_put (kd := 12) (ix := 0) (ci := 5) (v := .int 1) (ty := tyX4 0) (fs := [.int c0, .int (nI t0), .ref (ad 13 0), .ref (ad 14 0), .ref (ad 15 0), .ref (ad 16 0), .ref (ad 17 0), .ref (ad 18 0), .int (nI r0), .ref (ad 19 0), .ref (ad 20 0), .ref (ad 21 0), .ref (ad 22 0), .ref (ad 23 0), .ref (ad 24 0), .int (jB b0), .ref (ad 25 0)])  tyX4 tyX4_ok nmX4 hm.1 rfl in_X4_deep_X4 0 (by decide) (by decide +kernel) rfl rfl (tyX4_ok 0 (by decide)) (rfl) (rfl) (Nat.le_of_ble_eq_true rfl) dX4_deep_14 ?_
    refine s_M (M' := (sset M 12 0 (.inr (5, [.int 1, .int (nI t0), .ref (ad 13 0), .ref (ad 14 0), .ref (ad 15 0), .ref (ad 16 0), .ref (ad 17 0), .ref (ad 18 0), .int (nI r0), .ref (ad 19 0), .ref (ad 20 0), .ref (ad 21 0), .ref (ad 22 0), .ref (ad 23 0), .ref (ad 24 0), .int (jB b0), .ref (ad 25 0)])))) rfl ?_
    refine s_aload_n dX4_deep_17 rfl ?_
    refine s_get (kd := 12) (ix := 0) (ci := 5) (fs := [.int 1, .int (nI t0), .ref (ad 13 0), .ref (ad 14 0), .ref (ad 15 0), .ref (ad 16 0), .ref (ad 17 0), .ref (ad 18 0), .int (nI r0), .ref (ad 19 0), .ref (ad 20 0), .ref (ad 21 0), .ref (ad 22 0), .ref (ad 23 0), .ref (ad 24 0), .int (jB b0), .ref (ad 25 0)])  (sset_self _ _ _ _) rfl in_X4_deep_X4 0 (by decide) (by decide +kernel) rfl rfl dX4_deep_18 ?_
    refine s_if_le 28 dX4_deep_21 (by decide) (fun c21 => absurd c21 (by decide)) (fun c21 => ?_)
    refine s_iconst (v := 0) dX4_deep_24 (by decide) ?_
    refine s_goto 34 dX4_deep_25 (by decide) ?_
    exact s_iret rfl (rfl) dX4_deep_34 (Nat.le_of_ble_eq_true rfl) (Nat.le_of_ble_eq_true rfl) (⟨rfl, (sSame.rfl |>.set (P := pMd) (by simp [pMd]) _), ⟨(1, t0, hd, on, tw, dp, cl, gr, r0, kd, fl, co, sm, wk, sp, b0, mu), ⟨(sset_self _ _ _ _), ((sset_k _ _ (by decide)).trans (hm.2.1)), ((sset_k _ _ (by decide)).trans (hm.2.2.1)), ((sset_k _ _ (by decide)).trans (hm.2.2.2.1)), ((sset_k _ _ (by decide)).trans (hm.2.2.2.2.1)), ((sset_k _ _ (by decide)).trans (hm.2.2.2.2.2.1)), ((sset_k _ _ (by decide)).trans (hm.2.2.2.2.2.2.1)), ((sset_k _ _ (by decide)).trans (hm.2.2.2.2.2.2.2.1)), ((sset_k _ _ (by decide)).trans (hm.2.2.2.2.2.2.2.2.1)), ((sset_k _ _ (by decide)).trans (hm.2.2.2.2.2.2.2.2.2.1)), ((sset_k _ _ (by decide)).trans (hm.2.2.2.2.2.2.2.2.2.2.1)), ((sset_k _ _ (by decide)).trans (hm.2.2.2.2.2.2.2.2.2.2.2.1)), ((sset_k _ _ (by decide)).trans (hm.2.2.2.2.2.2.2.2.2.2.2.2.1)), ((sset_k _ _ (by decide)).trans (hm.2.2.2.2.2.2.2.2.2.2.2.2.2))⟩, rfl, hI.any _ _ _ _ _⟩, _, rfl, fun q => absurd q (by decide)⟩)
  · obtain ⟨jt, hjt, rfl⟩ := (hzt.mp (Bool.of_not_eq_false (fun q => c6 (jB_0.mpr q))))
    obtain ⟨rfl, ev⟩ := dpR.c0 hA hrel hjt
    refine s_iconst (v := 0) dX4_deep_9 (by decide) ?_
    refine s_goto 14 dX4_deep_10 (by decide) ?_
    refine s_put (kd := 12) (ix := 0) (ci := 5) (v := .int 0) (ty := tyX4 0) (fs := [.int c0, .int (nI t0), .ref (ad 13 0), .ref (ad 14 0), .ref (ad 15 0), .ref (ad 16 0), .ref (ad 17 0), .ref (ad 18 0), .int (nI r0), .ref (ad 19 0), .ref (ad 20 0), .ref (ad 21 0), .ref (ad 22 0), .ref (ad 23 0), .ref (ad 24 0), .int (jB b0), .ref (ad 25 0)])  tyX4 tyX4_ok nmX4 hm.1 rfl in_X4_deep_X4 0 (by decide) (by decide +kernel) rfl rfl (tyX4_ok 0 (by decide)) (rfl) (rfl) (Nat.le_of_ble_eq_true rfl) dX4_deep_14 ?_
    refine s_M (M' := (sset M 12 0 (.inr (5, [.int 0, .int (nI t0), .ref (ad 13 0), .ref (ad 14 0), .ref (ad 15 0), .ref (ad 16 0), .ref (ad 17 0), .ref (ad 18 0), .int (nI r0), .ref (ad 19 0), .ref (ad 20 0), .ref (ad 21 0), .ref (ad 22 0), .ref (ad 23 0), .ref (ad 24 0), .int (jB b0), .ref (ad 25 0)])))) rfl ?_
    refine s_aload_n dX4_deep_17 rfl ?_
    refine s_get (kd := 12) (ix := 0) (ci := 5) (fs := [.int 0, .int (nI t0), .ref (ad 13 0), .ref (ad 14 0), .ref (ad 15 0), .ref (ad 16 0), .ref (ad 17 0), .ref (ad 18 0), .int (nI r0), .ref (ad 19 0), .ref (ad 20 0), .ref (ad 21 0), .ref (ad 22 0), .ref (ad 23 0), .ref (ad 24 0), .int (jB b0), .ref (ad 25 0)])  (sset_self _ _ _ _) rfl in_X4_deep_X4 0 (by decide) (by decide +kernel) rfl rfl dX4_deep_18 ?_
    refine s_if_le 28 dX4_deep_21 (by decide) (fun c21 => ?_) (fun c21 => absurd (by decide) c21)
    refine s_aload_n dX4_deep_28 rfl ?_
    refine s_get (kd := 12) (ix := 0) (ci := 5) (fs := [.int 0, .int (nI t0), .ref (ad 13 0), .ref (ad 14 0), .ref (ad 15 0), .ref (ad 16 0), .ref (ad 17 0), .ref (ad 18 0), .int (nI r0), .ref (ad 19 0), .ref (ad 20 0), .ref (ad 21 0), .ref (ad 22 0), .ref (ad 23 0), .ref (ad 24 0), .int (jB b0), .ref (ad 25 0)])  (sset_self _ _ _ _) rfl in_X4_deep_X4 5 (by decide) (by decide +kernel) rfl rfl dX4_deep_29 ?_
    refine s_iload_n dX4_deep_32 rfl ?_
    refine s_iald (kd := 16) (ix := 0) (n := 120) (f := dp) (j := jt) ((sset_k _ _ (by decide)).trans (hm.2.2.2.2.1)) (rfl) (by omega) (by decide) dX4_deep_33 ?_
    refine s_eqi (y := nI (aD α jt)) ((i3 jt hjt).2.2.2.1) ?_
    exact s_iret rfl (rfl) dX4_deep_34 (Nat.le_of_ble_eq_true rfl) (Nat.le_of_ble_eq_true rfl) (⟨rfl, (sSame.rfl |>.set (P := pMd) (by simp [pMd]) _), ⟨(0, t0, hd, on, tw, dp, cl, gr, r0, kd, fl, co, sm, wk, sp, b0, mu), ⟨(sset_self _ _ _ _), ((sset_k _ _ (by decide)).trans (hm.2.1)), ((sset_k _ _ (by decide)).trans (hm.2.2.1)), ((sset_k _ _ (by decide)).trans (hm.2.2.2.1)), ((sset_k _ _ (by decide)).trans (hm.2.2.2.2.1)), ((sset_k _ _ (by decide)).trans (hm.2.2.2.2.2.1)), ((sset_k _ _ (by decide)).trans (hm.2.2.2.2.2.2.1)), ((sset_k _ _ (by decide)).trans (hm.2.2.2.2.2.2.2.1)), ((sset_k _ _ (by decide)).trans (hm.2.2.2.2.2.2.2.2.1)), ((sset_k _ _ (by decide)).trans (hm.2.2.2.2.2.2.2.2.2.1)), ((sset_k _ _ (by decide)).trans (hm.2.2.2.2.2.2.2.2.2.2.1)), ((sset_k _ _ (by decide)).trans (hm.2.2.2.2.2.2.2.2.2.2.2.1)), ((sset_k _ _ (by decide)).trans (hm.2.2.2.2.2.2.2.2.2.2.2.2.1)), ((sset_k _ _ (by decide)).trans (hm.2.2.2.2.2.2.2.2.2.2.2.2.2))⟩, rfl, hI.any _ _ _ _ _⟩, _, rfl, fun _ => ev.symm⟩)
abbrev mX4_term : sMeth := (cX4_term, 5, RX4, wsX4_term, { frames := 2, cells := 0, slots := 0, locals := 46 }, (some .int), "term", [])
theorem in_X4_term_X4 : ∀ w ∈ wsX40, w ∈ wsX4_term := by decide +kernel
set_option maxHeartbeats 4000000 in
set_option maxRecDepth 100000 in
theorem c_X4_term (G : sG) (l : Launch) (hl : l.stackTraces = false) (ad : sAd) (M : sM) (c0 : Int32) (t0 : Nat) (hd : Nat → Int32) (on : Nat → Int32) (tw : Nat → Int32) (dp : Nat → Int32) (cl : Nat → Int32) (gr : Nat → Int32) (r0 : Nat) (kd : Nat → Int32) (fl : Nat → Int32) (co : Nat → Int32) (sm : Nat → Int32) (wk : Nat → Int64) (sp : Nat → Int64) (b0 : Bool) (mu : Nat → Int32) (hm : hMd G ad M (c0, t0, hd, on, tw, dp, cl, gr, r0, kd, fl, co, sm, wk, sp, b0, mu)) (α : sAl) (hA : AI α) (hI : RI α (c0, t0, hd, on, tw, dp, cl, gr, r0, kd, fl, co, sm, wk, sp, b0, mu)) (x p q r v : Int32) (k : Nat) (hrel : tmR α x p q r k v) : sMet G l yX4_term mX4_term [.ref (ad 12 0), .int x, .int p, .int q, .int r] ad M (mPost G ad M k v α) (fun _ _ _ => False) := by
  obtain ⟨i1, i2, i3, i4⟩ := id hI
  have hT := hA.1
  have hR60 := hA.2.1
  refine sMet.of hl (by decide +kernel) rfl rfl rfl rfl (Nat.le_of_ble_eq_true rfl) (fun X => ?_)
  refine s_lv (lv' := [some (.ref (ad 12 0)), some (.int x), some (.int p), some (.int q), some (.int r)]) rfl ?_
  refine s_aload_n dX4_term_0 rfl ?_
  refine s_aload_n dX4_term_1 rfl ?_
  refine s_iload_n dX4_term_2 rfl ?_
  refine s_callV (As := [.int x]) (rest := [.ref (ad 12 0)]) (n := 1) (kd := 12) (ix := 0) (fun l hl => c_X4_isTree G l hl ad M c0 t0 hd on tw dp cl gr r0 kd fl co sm wk sp b0 mu ⟨hm.1, hm.2.1, hm.2.2.1, hm.2.2.2.1, hm.2.2.2.2.1, hm.2.2.2.2.2.1, hm.2.2.2.2.2.2.1, hm.2.2.2.2.2.2.2.1, hm.2.2.2.2.2.2.2.2.1, hm.2.2.2.2.2.2.2.2.2.1, hm.2.2.2.2.2.2.2.2.2.2.1, hm.2.2.2.2.2.2.2.2.2.2.2.1, hm.2.2.2.2.2.2.2.2.2.2.2.2.1, hm.2.2.2.2.2.2.2.2.2.2.2.2.2⟩ (by omega) x) gX4_term_X4_isTree rfl (by decide +kernel) hm.1 rfl rfl ⟨(Nat.le_of_ble_eq_true rfl), (Nat.le_of_ble_eq_true rfl)⟩ ⟨(Nat.le_of_ble_eq_true rfl), (Nat.le_of_ble_eq_true rfl)⟩ (Nat.le_of_ble_eq_true rfl) dX4_term_3 rfl (fun r9 ad9 M9 h9 => ?_)
  obtain ⟨rfl, rfl, zt, rfl, hzt⟩ := h9
  rw [i1] at hzt
  refine s_if_ne 13 dX4_term_6 (by decide) (fun c6 => ?_) (fun c6 => ?_)
  · obtain ⟨jt, hjt, rfl⟩ := (hzt.mp (Bool.of_not_eq_false (fun q => c6 (jB_0.mpr q))))
    refine s_aload_n dX4_term_13 rfl ?_
    refine s_get (kd := 12) (ix := 0) (ci := 5) (fs := [.int c0, .int (nI t0), .ref (ad 13 0), .ref (ad 14 0), .ref (ad 15 0), .ref (ad 16 0), .ref (ad 17 0), .ref (ad 18 0), .int (nI r0), .ref (ad 19 0), .ref (ad 20 0), .ref (ad 21 0), .ref (ad 22 0), .ref (ad 23 0), .ref (ad 24 0), .int (jB b0), .ref (ad 25 0)])  hm.1 rfl in_X4_term_X4 7 (by decide) (by decide +kernel) rfl rfl dX4_term_14 ?_
    refine s_iload_n dX4_term_17 rfl ?_
    refine s_zald (kd := 18) (ix := 0) (n := 120) (f := gr) (j := jt) hm.2.2.2.2.2.2.1 (rfl) (by omega) (by decide) dX4_term_18 ?_
    refine s_if_eq 26 dX4_term_19 (by decide) (fun c19 => ?_) (fun c19 => ?_)
    · obtain ⟨rfl, htm⟩ := tmR.c0 hA hrel hjt (fun q => (i3 jt hjt).2.2.2.2.1.mpr q c19)
      refine s_iconst (v := 0) dX4_term_26 (by decide) ?_
      refine s_put (kd := 12) (ix := 0) (ci := 5) (v := .int 0) (ty := tyX4 0) (fs := [.int c0, .int (nI t0), .ref (ad 13 0), .ref (ad 14 0), .ref (ad 15 0), .ref (ad 16 0), .ref (ad 17 0), .ref (ad 18 0), .int (nI r0), .ref (ad 19 0), .ref (ad 20 0), .ref (ad 21 0), .ref (ad 22 0), .ref (ad 23 0), .ref (ad 24 0), .int (jB b0), .ref (ad 25 0)])  tyX4 tyX4_ok nmX4 hm.1 rfl in_X4_term_X4 0 (by decide) (by decide +kernel) rfl rfl (tyX4_ok 0 (by decide)) (rfl) (rfl) (Nat.le_of_ble_eq_true rfl) dX4_term_27 ?_
      refine s_M (M' := (sset M 12 0 (.inr (5, [.int 0, .int (nI t0), .ref (ad 13 0), .ref (ad 14 0), .ref (ad 15 0), .ref (ad 16 0), .ref (ad 17 0), .ref (ad 18 0), .int (nI r0), .ref (ad 19 0), .ref (ad 20 0), .ref (ad 21 0), .ref (ad 22 0), .ref (ad 23 0), .ref (ad 24 0), .int (jB b0), .ref (ad 25 0)])))) rfl ?_
      refine s_aload_n dX4_term_30 rfl ?_
      refine s_get (kd := 12) (ix := 0) (ci := 5) (fs := [.int 0, .int (nI t0), .ref (ad 13 0), .ref (ad 14 0), .ref (ad 15 0), .ref (ad 16 0), .ref (ad 17 0), .ref (ad 18 0), .int (nI r0), .ref (ad 19 0), .ref (ad 20 0), .ref (ad 21 0), .ref (ad 22 0), .ref (ad 23 0), .ref (ad 24 0), .int (jB b0), .ref (ad 25 0)])  (sset_self _ _ _ _) rfl in_X4_term_X4 0 (by decide) (by decide +kernel) rfl rfl dX4_term_31 ?_
      refine s_if_gt 85 dX4_term_34 (by decide) (fun c34 => absurd c34 (by decide)) (fun c34 => ?_)
      refine s_iload_n dX4_term_37 rfl ?_
      refine s_i2l dX4_term_38 ?_
      refine s_lconst (v := 0) dX4_term_39 (by decide) ?_
      refine s_ldc2 (v := 9) dX4_term_40 (by decide +kernel) ?_
      refine s_callS (As := [.long p.toInt64, .long 0, .long 9]) (rest := []) (n := 3) (fun l hl => c_X4_in G l hl ad (sset M 12 0 (.inr (5, [.int 0, .int (nI t0), .ref (ad 13 0), .ref (ad 14 0), .ref (ad 15 0), .ref (ad 16 0), .ref (ad 17 0), .ref (ad 18 0), .int (nI r0), .ref (ad 19 0), .ref (ad 20 0), .ref (ad 21 0), .ref (ad 22 0), .ref (ad 23 0), .ref (ad 24 0), .int (jB b0), .ref (ad 25 0)]))) p.toInt64 0 9) gX4_term_X4_in rfl (by decide +kernel) rfl ⟨(Nat.le_of_ble_eq_true rfl), (Nat.le_of_ble_eq_true rfl)⟩ ⟨(Nat.le_of_ble_eq_true rfl), (Nat.le_of_ble_eq_true rfl)⟩ (Nat.le_of_ble_eq_true rfl) dX4_term_43 rfl (fun r9 ad9 M9 h9 => ?_)
      obtain ⟨rfl, rfl, e9⟩ := h9
      obtain ⟨zi, e8, hzi⟩ := in_z (x := p) (a := 0) (b := 9) (A := 0) (B := 9) (by decide) (by decide)
      rw [e8] at e9
      subst e9
      refine s_if_eq 85 dX4_term_46 (by decide) (fun c46 => ?_) (fun c46 => ?_)
      · refine s_iconst (v := 0) dX4_term_85 (by decide) ?_
        exact s_iret rfl (rfl) dX4_term_86 (Nat.le_of_ble_eq_true rfl) (Nat.le_of_ble_eq_true rfl) (⟨rfl, (sSame.rfl |>.set (P := pMd) (by simp [pMd]) _), ⟨(0, t0, hd, on, tw, dp, cl, gr, r0, kd, fl, co, sm, wk, sp, b0, mu), ⟨(sset_self _ _ _ _), ((sset_k _ _ (by decide)).trans (hm.2.1)), ((sset_k _ _ (by decide)).trans (hm.2.2.1)), ((sset_k _ _ (by decide)).trans (hm.2.2.2.1)), ((sset_k _ _ (by decide)).trans (hm.2.2.2.2.1)), ((sset_k _ _ (by decide)).trans (hm.2.2.2.2.2.1)), ((sset_k _ _ (by decide)).trans (hm.2.2.2.2.2.2.1)), ((sset_k _ _ (by decide)).trans (hm.2.2.2.2.2.2.2.1)), ((sset_k _ _ (by decide)).trans (hm.2.2.2.2.2.2.2.2.1)), ((sset_k _ _ (by decide)).trans (hm.2.2.2.2.2.2.2.2.2.1)), ((sset_k _ _ (by decide)).trans (hm.2.2.2.2.2.2.2.2.2.2.1)), ((sset_k _ _ (by decide)).trans (hm.2.2.2.2.2.2.2.2.2.2.2.1)), ((sset_k _ _ (by decide)).trans (hm.2.2.2.2.2.2.2.2.2.2.2.2.1)), ((sset_k _ _ (by decide)).trans (hm.2.2.2.2.2.2.2.2.2.2.2.2.2))⟩, rfl, hI.any _ _ _ _ _⟩, _, rfl, fun _ => (htm.out (Or.inl (fun q => by have z9 := hzi.mpr q; rw [jB_0.mp c46] at z9; cases z9))).symm⟩)
      · refine s_iload_n dX4_term_49 rfl ?_
        refine s_i2l dX4_term_50 ?_
        refine s_lconst (v := 0) dX4_term_51 (by decide) ?_
        refine s_ldc2 (v := 9) dX4_term_52 (by decide +kernel) ?_
        refine s_callS (As := [.long q.toInt64, .long 0, .long 9]) (rest := []) (n := 3) (fun l hl => c_X4_in G l hl ad (sset M 12 0 (.inr (5, [.int 0, .int (nI t0), .ref (ad 13 0), .ref (ad 14 0), .ref (ad 15 0), .ref (ad 16 0), .ref (ad 17 0), .ref (ad 18 0), .int (nI r0), .ref (ad 19 0), .ref (ad 20 0), .ref (ad 21 0), .ref (ad 22 0), .ref (ad 23 0), .ref (ad 24 0), .int (jB b0), .ref (ad 25 0)]))) q.toInt64 0 9) gX4_term_X4_in rfl (by decide +kernel) rfl ⟨(Nat.le_of_ble_eq_true rfl), (Nat.le_of_ble_eq_true rfl)⟩ ⟨(Nat.le_of_ble_eq_true rfl), (Nat.le_of_ble_eq_true rfl)⟩ (Nat.le_of_ble_eq_true rfl) dX4_term_55 rfl (fun r9 ad9 M9 h9 => ?_)
        obtain ⟨rfl, rfl, e9⟩ := h9
        obtain ⟨zj, e8, hzj⟩ := in_z (x := q) (a := 0) (b := 9) (A := 0) (B := 9) (by decide) (by decide)
        rw [e8] at e9
        subst e9
        refine s_if_eq 85 dX4_term_58 (by decide) (fun c58 => ?_) (fun c58 => ?_)
        · refine s_iconst (v := 0) dX4_term_85 (by decide) ?_
          exact s_iret rfl (rfl) dX4_term_86 (Nat.le_of_ble_eq_true rfl) (Nat.le_of_ble_eq_true rfl) (⟨rfl, (sSame.rfl |>.set (P := pMd) (by simp [pMd]) _), ⟨(0, t0, hd, on, tw, dp, cl, gr, r0, kd, fl, co, sm, wk, sp, b0, mu), ⟨(sset_self _ _ _ _), ((sset_k _ _ (by decide)).trans (hm.2.1)), ((sset_k _ _ (by decide)).trans (hm.2.2.1)), ((sset_k _ _ (by decide)).trans (hm.2.2.2.1)), ((sset_k _ _ (by decide)).trans (hm.2.2.2.2.1)), ((sset_k _ _ (by decide)).trans (hm.2.2.2.2.2.1)), ((sset_k _ _ (by decide)).trans (hm.2.2.2.2.2.2.1)), ((sset_k _ _ (by decide)).trans (hm.2.2.2.2.2.2.2.1)), ((sset_k _ _ (by decide)).trans (hm.2.2.2.2.2.2.2.2.1)), ((sset_k _ _ (by decide)).trans (hm.2.2.2.2.2.2.2.2.2.1)), ((sset_k _ _ (by decide)).trans (hm.2.2.2.2.2.2.2.2.2.2.1)), ((sset_k _ _ (by decide)).trans (hm.2.2.2.2.2.2.2.2.2.2.2.1)), ((sset_k _ _ (by decide)).trans (hm.2.2.2.2.2.2.2.2.2.2.2.2.1)), ((sset_k _ _ (by decide)).trans (hm.2.2.2.2.2.2.2.2.2.2.2.2.2))⟩, rfl, hI.any _ _ _ _ _⟩, _, rfl, fun _ => (htm.out (Or.inr (Or.inl (fun q => by have z9 := hzj.mpr q; rw [jB_0.mp c58] at z9; cases z9)))).symm⟩)
        · refine s_iload dX4_term_61 rfl ?_
          refine s_i2l dX4_term_63 ?_
          refine s_lconst (v := 0) dX4_term_64 (by decide) ?_
          refine s_ldc2 (v := 9) dX4_term_65 (by decide +kernel) ?_
          refine s_callS (As := [.long r.toInt64, .long 0, .long 9]) (rest := []) (n := 3) (fun l hl => c_X4_in G l hl ad (sset M 12 0 (.inr (5, [.int 0, .int (nI t0), .ref (ad 13 0), .ref (ad 14 0), .ref (ad 15 0), .ref (ad 16 0), .ref (ad 17 0), .ref (ad 18 0), .int (nI r0), .ref (ad 19 0), .ref (ad 20 0), .ref (ad 21 0), .ref (ad 22 0), .ref (ad 23 0), .ref (ad 24 0), .int (jB b0), .ref (ad 25 0)]))) r.toInt64 0 9) gX4_term_X4_in rfl (by decide +kernel) rfl ⟨(Nat.le_of_ble_eq_true rfl), (Nat.le_of_ble_eq_true rfl)⟩ ⟨(Nat.le_of_ble_eq_true rfl), (Nat.le_of_ble_eq_true rfl)⟩ (Nat.le_of_ble_eq_true rfl) dX4_term_68 rfl (fun r9 ad9 M9 h9 => ?_)
          obtain ⟨rfl, rfl, e9⟩ := h9
          obtain ⟨zk, e8, hzk⟩ := in_z (x := r) (a := 0) (b := 9) (A := 0) (B := 9) (by decide) (by decide)
          rw [e8] at e9
          subst e9
          refine s_if_eq 85 dX4_term_71 (by decide) (fun c71 => ?_) (fun c71 => ?_)
          · refine s_iconst (v := 0) dX4_term_85 (by decide) ?_
            exact s_iret rfl (rfl) dX4_term_86 (Nat.le_of_ble_eq_true rfl) (Nat.le_of_ble_eq_true rfl) (⟨rfl, (sSame.rfl |>.set (P := pMd) (by simp [pMd]) _), ⟨(0, t0, hd, on, tw, dp, cl, gr, r0, kd, fl, co, sm, wk, sp, b0, mu), ⟨(sset_self _ _ _ _), ((sset_k _ _ (by decide)).trans (hm.2.1)), ((sset_k _ _ (by decide)).trans (hm.2.2.1)), ((sset_k _ _ (by decide)).trans (hm.2.2.2.1)), ((sset_k _ _ (by decide)).trans (hm.2.2.2.2.1)), ((sset_k _ _ (by decide)).trans (hm.2.2.2.2.2.1)), ((sset_k _ _ (by decide)).trans (hm.2.2.2.2.2.2.1)), ((sset_k _ _ (by decide)).trans (hm.2.2.2.2.2.2.2.1)), ((sset_k _ _ (by decide)).trans (hm.2.2.2.2.2.2.2.2.1)), ((sset_k _ _ (by decide)).trans (hm.2.2.2.2.2.2.2.2.2.1)), ((sset_k _ _ (by decide)).trans (hm.2.2.2.2.2.2.2.2.2.2.1)), ((sset_k _ _ (by decide)).trans (hm.2.2.2.2.2.2.2.2.2.2.2.1)), ((sset_k _ _ (by decide)).trans (hm.2.2.2.2.2.2.2.2.2.2.2.2.1)), ((sset_k _ _ (by decide)).trans (hm.2.2.2.2.2.2.2.2.2.2.2.2.2))⟩, rfl, hI.any _ _ _ _ _⟩, _, rfl, fun _ => (htm.out (Or.inr (Or.inr (fun q => by have z9 := hzk.mpr q; rw [jB_0.mp c71] at z9; cases z9)))).symm⟩)
          · obtain ⟨a, ha, rfl⟩ := i32_10.mp (hzi.mp (Bool.of_not_eq_false (fun q => c46 (jB_0.mpr q))))
            obtain ⟨b, hb, rfl⟩ := i32_10.mp (hzj.mp (Bool.of_not_eq_false (fun q => c58 (jB_0.mpr q))))
            obtain ⟨c, hc, rfl⟩ := i32_10.mp (hzk.mp (Bool.of_not_eq_false (fun q => c71 (jB_0.mpr q))))
            have hta := htm.at ha hb hc
            refine s_iload_n dX4_term_74 rfl ?_
            refine s_iload_n dX4_term_75 rfl ?_
            refine s_iadd dX4_term_76 ?_
            refine s_eqi (y := nI (a + b)) (nI_add _ _) ?_
            refine s_iload dX4_term_77 rfl ?_
            refine s_iadd dX4_term_79 ?_
            refine s_eqi (y := nI (a + b + c)) (nI_add _ _) ?_
            refine s_bipush (v := 9) dX4_term_80 (by decide) ?_
            refine s_icmp_le 87 dX4_term_82 (by decide) (fun c82 => ?_) (fun c82 => ?_)
            · have hs9 := (nI_le_iff (a := a + b + c) (b := 9) (by omega) (by omega)).mp c82
              have hgd : good (100 * a + 10 * b + c) := good_dig hs9
              have hpd := pl_dig (i := a) (j := b) (k := c) hb hc
              have hpl := (pl_facts hgd).1
              rw [hpd] at hpl
              have hcv := ((i3 jt hjt).2.2.2.2.2).at hgd
              rw [hpd] at hcv
              refine s_aload_n dX4_term_87 rfl ?_
              refine s_get (kd := 12) (ix := 0) (ci := 5) (fs := [.int 0, .int (nI t0), .ref (ad 13 0), .ref (ad 14 0), .ref (ad 15 0), .ref (ad 16 0), .ref (ad 17 0), .ref (ad 18 0), .int (nI r0), .ref (ad 19 0), .ref (ad 20 0), .ref (ad 21 0), .ref (ad 22 0), .ref (ad 23 0), .ref (ad 24 0), .int (jB b0), .ref (ad 25 0)])  (sset_self _ _ _ _) rfl in_X4_term_X4 6 (by decide) (by decide +kernel) rfl rfl dX4_term_88 ?_
              refine s_sipush (v := 220) dX4_term_91 (by decide) ?_
              refine s_iload_n dX4_term_94 rfl ?_
              refine s_imul dX4_term_95 ?_
              refine s_eqi (y := nI (220 * jt)) (nI_mul 220 jt) ?_
              refine s_iload_n dX4_term_96 rfl ?_
              refine s_iload_n dX4_term_97 rfl ?_
              refine s_iload dX4_term_98 rfl ?_
              refine s_callS (As := [.int (nI a), .int (nI b), .int (nI c)]) (rest := [.int (nI (220 * jt)), .ref (ad 17 0)]) (n := 3) (fun l hl => c_X4_place G l hl ad (sset M 12 0 (.inr (5, [.int 0, .int (nI t0), .ref (ad 13 0), .ref (ad 14 0), .ref (ad 15 0), .ref (ad 16 0), .ref (ad 17 0), .ref (ad 18 0), .int (nI r0), .ref (ad 19 0), .ref (ad 20 0), .ref (ad 21 0), .ref (ad 22 0), .ref (ad 23 0), .ref (ad 24 0), .int (jB b0), .ref (ad 25 0)]))) a b c (by omega)) gX4_term_X4_place rfl (by decide +kernel) rfl ⟨(Nat.le_of_ble_eq_true rfl), (Nat.le_of_ble_eq_true rfl)⟩ ⟨(Nat.le_of_ble_eq_true rfl), (Nat.le_of_ble_eq_true rfl)⟩ (Nat.le_of_ble_eq_true rfl) dX4_term_100 rfl (fun r9 ad9 M9 h9 => ?_)
              obtain ⟨rfl, rfl, rfl⟩ := h9
              refine s_iadd dX4_term_103 ?_
              refine s_eqi (y := nI (220 * jt + pl3 a b c)) (nI_add _ _) ?_
              refine s_iald (kd := 17) (ix := 0) (n := 26400) (f := cl) (j := 220 * jt + pl3 a b c) ((sset_k _ _ (by decide)).trans (hm.2.2.2.2.2.1)) (rfl) (by omega) (by decide) dX4_term_104 ?_
              exact s_iret rfl (rfl) dX4_term_105 (Nat.le_of_ble_eq_true rfl) (Nat.le_of_ble_eq_true rfl) (⟨rfl, (sSame.rfl |>.set (P := pMd) (by simp [pMd]) _), ⟨(0, t0, hd, on, tw, dp, cl, gr, r0, kd, fl, co, sm, wk, sp, b0, mu), ⟨(sset_self _ _ _ _), ((sset_k _ _ (by decide)).trans (hm.2.1)), ((sset_k _ _ (by decide)).trans (hm.2.2.1)), ((sset_k _ _ (by decide)).trans (hm.2.2.2.1)), ((sset_k _ _ (by decide)).trans (hm.2.2.2.2.1)), ((sset_k _ _ (by decide)).trans (hm.2.2.2.2.2.1)), ((sset_k _ _ (by decide)).trans (hm.2.2.2.2.2.2.1)), ((sset_k _ _ (by decide)).trans (hm.2.2.2.2.2.2.2.1)), ((sset_k _ _ (by decide)).trans (hm.2.2.2.2.2.2.2.2.1)), ((sset_k _ _ (by decide)).trans (hm.2.2.2.2.2.2.2.2.2.1)), ((sset_k _ _ (by decide)).trans (hm.2.2.2.2.2.2.2.2.2.2.1)), ((sset_k _ _ (by decide)).trans (hm.2.2.2.2.2.2.2.2.2.2.2.1)), ((sset_k _ _ (by decide)).trans (hm.2.2.2.2.2.2.2.2.2.2.2.2.1)), ((sset_k _ _ (by decide)).trans (hm.2.2.2.2.2.2.2.2.2.2.2.2.2))⟩, rfl, hI.any _ _ _ _ _⟩, _, rfl, fun _ => Int32.toInt_inj.mp (by rw [hcv, hta])⟩)
            · refine s_iconst (v := 0) dX4_term_85 (by decide) ?_
              exact s_iret rfl (rfl) dX4_term_86 (Nat.le_of_ble_eq_true rfl) (Nat.le_of_ble_eq_true rfl) (⟨rfl, (sSame.rfl |>.set (P := pMd) (by simp [pMd]) _), ⟨(0, t0, hd, on, tw, dp, cl, gr, r0, kd, fl, co, sm, wk, sp, b0, mu), ⟨(sset_self _ _ _ _), ((sset_k _ _ (by decide)).trans (hm.2.1)), ((sset_k _ _ (by decide)).trans (hm.2.2.1)), ((sset_k _ _ (by decide)).trans (hm.2.2.2.1)), ((sset_k _ _ (by decide)).trans (hm.2.2.2.2.1)), ((sset_k _ _ (by decide)).trans (hm.2.2.2.2.2.1)), ((sset_k _ _ (by decide)).trans (hm.2.2.2.2.2.2.1)), ((sset_k _ _ (by decide)).trans (hm.2.2.2.2.2.2.2.1)), ((sset_k _ _ (by decide)).trans (hm.2.2.2.2.2.2.2.2.1)), ((sset_k _ _ (by decide)).trans (hm.2.2.2.2.2.2.2.2.2.1)), ((sset_k _ _ (by decide)).trans (hm.2.2.2.2.2.2.2.2.2.2.1)), ((sset_k _ _ (by decide)).trans (hm.2.2.2.2.2.2.2.2.2.2.2.1)), ((sset_k _ _ (by decide)).trans (hm.2.2.2.2.2.2.2.2.2.2.2.2.1)), ((sset_k _ _ (by decide)).trans (hm.2.2.2.2.2.2.2.2.2.2.2.2.2))⟩, rfl, hI.any _ _ _ _ _⟩, _, rfl, fun _ => Int32.toInt_inj.mp (by rw [hta]; exact (Classical.byContradiction fun z => c82 ((nI_le_iff (a := a + b + c) (b := 9) (by omega) (by omega)).mpr (by have z2 := (hA.gz hjt _ (fun y => z y.symm)).2; rw [gdeg_dig hb hc] at z2; exact z2))))⟩)
    · obtain rfl := tmR.c2 hA hrel hjt ((i3 jt hjt).2.2.2.2.1.mp c19)
      refine s_iconst (v := 2) dX4_term_22 (by decide) ?_
      refine s_goto 27 dX4_term_23 (by decide) ?_
      refine s_put (kd := 12) (ix := 0) (ci := 5) (v := .int 2) (ty := tyX4 0) (fs := [.int c0, .int (nI t0), .ref (ad 13 0), .ref (ad 14 0), .ref (ad 15 0), .ref (ad 16 0), .ref (ad 17 0), .ref (ad 18 0), .int (nI r0), .ref (ad 19 0), .ref (ad 20 0), .ref (ad 21 0), .ref (ad 22 0), .ref (ad 23 0), .ref (ad 24 0), .int (jB b0), .ref (ad 25 0)])  tyX4 tyX4_ok nmX4 hm.1 rfl in_X4_term_X4 0 (by decide) (by decide +kernel) rfl rfl (tyX4_ok 0 (by decide)) (rfl) (rfl) (Nat.le_of_ble_eq_true rfl) dX4_term_27 ?_
      refine s_M (M' := (sset M 12 0 (.inr (5, [.int 2, .int (nI t0), .ref (ad 13 0), .ref (ad 14 0), .ref (ad 15 0), .ref (ad 16 0), .ref (ad 17 0), .ref (ad 18 0), .int (nI r0), .ref (ad 19 0), .ref (ad 20 0), .ref (ad 21 0), .ref (ad 22 0), .ref (ad 23 0), .ref (ad 24 0), .int (jB b0), .ref (ad 25 0)])))) rfl ?_
      refine s_aload_n dX4_term_30 rfl ?_
      refine s_get (kd := 12) (ix := 0) (ci := 5) (fs := [.int 2, .int (nI t0), .ref (ad 13 0), .ref (ad 14 0), .ref (ad 15 0), .ref (ad 16 0), .ref (ad 17 0), .ref (ad 18 0), .int (nI r0), .ref (ad 19 0), .ref (ad 20 0), .ref (ad 21 0), .ref (ad 22 0), .ref (ad 23 0), .ref (ad 24 0), .int (jB b0), .ref (ad 25 0)])  (sset_self _ _ _ _) rfl in_X4_term_X4 0 (by decide) (by decide +kernel) rfl rfl dX4_term_31 ?_
      refine s_if_gt 85 dX4_term_34 (by decide) (fun c34 => ?_) (fun c34 => absurd (by decide) c34)
      refine s_iconst (v := 0) dX4_term_85 (by decide) ?_
      exact s_iret rfl (rfl) dX4_term_86 (Nat.le_of_ble_eq_true rfl) (Nat.le_of_ble_eq_true rfl) (⟨rfl, (sSame.rfl |>.set (P := pMd) (by simp [pMd]) _), ⟨(2, t0, hd, on, tw, dp, cl, gr, r0, kd, fl, co, sm, wk, sp, b0, mu), ⟨(sset_self _ _ _ _), ((sset_k _ _ (by decide)).trans (hm.2.1)), ((sset_k _ _ (by decide)).trans (hm.2.2.1)), ((sset_k _ _ (by decide)).trans (hm.2.2.2.1)), ((sset_k _ _ (by decide)).trans (hm.2.2.2.2.1)), ((sset_k _ _ (by decide)).trans (hm.2.2.2.2.2.1)), ((sset_k _ _ (by decide)).trans (hm.2.2.2.2.2.2.1)), ((sset_k _ _ (by decide)).trans (hm.2.2.2.2.2.2.2.1)), ((sset_k _ _ (by decide)).trans (hm.2.2.2.2.2.2.2.2.1)), ((sset_k _ _ (by decide)).trans (hm.2.2.2.2.2.2.2.2.2.1)), ((sset_k _ _ (by decide)).trans (hm.2.2.2.2.2.2.2.2.2.2.1)), ((sset_k _ _ (by decide)).trans (hm.2.2.2.2.2.2.2.2.2.2.2.1)), ((sset_k _ _ (by decide)).trans (hm.2.2.2.2.2.2.2.2.2.2.2.2.1)), ((sset_k _ _ (by decide)).trans (hm.2.2.2.2.2.2.2.2.2.2.2.2.2))⟩, rfl, hI.any _ _ _ _ _⟩, _, rfl, fun q => absurd q (by decide)⟩)
  · obtain rfl := hrel.c1 (fun q => by have z9 := hzt.mpr q; rw [jB_0.mp c6] at z9; cases z9)
    refine s_iconst (v := 1) dX4_term_9 (by decide) ?_
    refine s_goto 27 dX4_term_10 (by decide) ?_
    refine s_put (kd := 12) (ix := 0) (ci := 5) (v := .int 1) (ty := tyX4 0) (fs := [.int c0, .int (nI t0), .ref (ad 13 0), .ref (ad 14 0), .ref (ad 15 0), .ref (ad 16 0), .ref (ad 17 0), .ref (ad 18 0), .int (nI r0), .ref (ad 19 0), .ref (ad 20 0), .ref (ad 21 0), .ref (ad 22 0), .ref (ad 23 0), .ref (ad 24 0), .int (jB b0), .ref (ad 25 0)])  tyX4 tyX4_ok nmX4 hm.1 rfl in_X4_term_X4 0 (by decide) (by decide +kernel) rfl rfl (tyX4_ok 0 (by decide)) (rfl) (rfl) (Nat.le_of_ble_eq_true rfl) dX4_term_27 ?_
    refine s_M (M' := (sset M 12 0 (.inr (5, [.int 1, .int (nI t0), .ref (ad 13 0), .ref (ad 14 0), .ref (ad 15 0), .ref (ad 16 0), .ref (ad 17 0), .ref (ad 18 0), .int (nI r0), .ref (ad 19 0), .ref (ad 20 0), .ref (ad 21 0), .ref (ad 22 0), .ref (ad 23 0), .ref (ad 24 0), .int (jB b0), .ref (ad 25 0)])))) rfl ?_
    refine s_aload_n dX4_term_30 rfl ?_
    refine s_get (kd := 12) (ix := 0) (ci := 5) (fs := [.int 1, .int (nI t0), .ref (ad 13 0), .ref (ad 14 0), .ref (ad 15 0), .ref (ad 16 0), .ref (ad 17 0), .ref (ad 18 0), .int (nI r0), .ref (ad 19 0), .ref (ad 20 0), .ref (ad 21 0), .ref (ad 22 0), .ref (ad 23 0), .ref (ad 24 0), .int (jB b0), .ref (ad 25 0)])  (sset_self _ _ _ _) rfl in_X4_term_X4 0 (by decide) (by decide +kernel) rfl rfl dX4_term_31 ?_
    refine s_if_gt 85 dX4_term_34 (by decide) (fun c34 => ?_) (fun c34 => absurd (by decide) c34)
    refine s_iconst (v := 0) dX4_term_85 (by decide) ?_
    exact s_iret rfl (rfl) dX4_term_86 (Nat.le_of_ble_eq_true rfl) (Nat.le_of_ble_eq_true rfl) (⟨rfl, (sSame.rfl |>.set (P := pMd) (by simp [pMd]) _), ⟨(1, t0, hd, on, tw, dp, cl, gr, r0, kd, fl, co, sm, wk, sp, b0, mu), ⟨(sset_self _ _ _ _), ((sset_k _ _ (by decide)).trans (hm.2.1)), ((sset_k _ _ (by decide)).trans (hm.2.2.1)), ((sset_k _ _ (by decide)).trans (hm.2.2.2.1)), ((sset_k _ _ (by decide)).trans (hm.2.2.2.2.1)), ((sset_k _ _ (by decide)).trans (hm.2.2.2.2.2.1)), ((sset_k _ _ (by decide)).trans (hm.2.2.2.2.2.2.1)), ((sset_k _ _ (by decide)).trans (hm.2.2.2.2.2.2.2.1)), ((sset_k _ _ (by decide)).trans (hm.2.2.2.2.2.2.2.2.1)), ((sset_k _ _ (by decide)).trans (hm.2.2.2.2.2.2.2.2.2.1)), ((sset_k _ _ (by decide)).trans (hm.2.2.2.2.2.2.2.2.2.2.1)), ((sset_k _ _ (by decide)).trans (hm.2.2.2.2.2.2.2.2.2.2.2.1)), ((sset_k _ _ (by decide)).trans (hm.2.2.2.2.2.2.2.2.2.2.2.2.1)), ((sset_k _ _ (by decide)).trans (hm.2.2.2.2.2.2.2.2.2.2.2.2.2))⟩, rfl, hI.any _ _ _ _ _⟩, _, rfl, fun q => absurd q (by decide)⟩)
abbrev mX4_count : sMeth := (cX4_count, 2, RX4, wsX4_count, { frames := 0, cells := 0, slots := 0, locals := 0 }, (some .int), "count", [])
theorem in_X4_count_X4 : ∀ w ∈ wsX40, w ∈ wsX4_count := by decide +kernel
set_option maxHeartbeats 4000000 in
set_option maxRecDepth 100000 in
theorem c_X4_count (G : sG) (l : Launch) (hl : l.stackTraces = false) (ad : sAd) (M : sM) (c0 : Int32) (t0 : Nat) (hd : Nat → Int32) (on : Nat → Int32) (tw : Nat → Int32) (dp : Nat → Int32) (cl : Nat → Int32) (gr : Nat → Int32) (r0 : Nat) (kd : Nat → Int32) (fl : Nat → Int32) (co : Nat → Int32) (sm : Nat → Int32) (wk : Nat → Int64) (sp : Nat → Int64) (b0 : Bool) (mu : Nat → Int32) (hm : hMd G ad M (c0, t0, hd, on, tw, dp, cl, gr, r0, kd, fl, co, sm, wk, sp, b0, mu)) (α : sAl) (hA : AI α) (hI : RI α (c0, t0, hd, on, tw, dp, cl, gr, r0, kd, fl, co, sm, wk, sp, b0, mu)) (x : Int32) : sMet G l yX4_count mX4_count [.ref (ad 12 0), .int x] ad M (mPost G ad M 0 (cnV α x) α) (fun _ _ _ => False) := by
  obtain ⟨i1, i2, i3, i4⟩ := id hI
  have hT := hA.1
  have hR60 := hA.2.1
  refine sMet.of hl (by decide +kernel) rfl rfl rfl rfl (Nat.le_of_ble_eq_true rfl) (fun X => ?_)
  refine s_lv (lv' := [some (.ref (ad 12 0)), some (.int x)]) rfl ?_
  refine s_aload_n dX4_count_0 rfl ?_
  refine s_iconst (v := 0) dX4_count_1 (by decide) ?_
  refine s_put (kd := 12) (ix := 0) (ci := 5) (v := .int 0) (ty := tyX4 0) (fs := [.int c0, .int (nI t0), .ref (ad 13 0), .ref (ad 14 0), .ref (ad 15 0), .ref (ad 16 0), .ref (ad 17 0), .ref (ad 18 0), .int (nI r0), .ref (ad 19 0), .ref (ad 20 0), .ref (ad 21 0), .ref (ad 22 0), .ref (ad 23 0), .ref (ad 24 0), .int (jB b0), .ref (ad 25 0)])  tyX4 tyX4_ok nmX4 hm.1 rfl in_X4_count_X4 0 (by decide) (by decide +kernel) rfl rfl (tyX4_ok 0 (by decide)) (rfl) (rfl) (Nat.le_of_ble_eq_true rfl) dX4_count_2 ?_
  refine s_M (M' := (sset M 12 0 (.inr (5, [.int 0, .int (nI t0), .ref (ad 13 0), .ref (ad 14 0), .ref (ad 15 0), .ref (ad 16 0), .ref (ad 17 0), .ref (ad 18 0), .int (nI r0), .ref (ad 19 0), .ref (ad 20 0), .ref (ad 21 0), .ref (ad 22 0), .ref (ad 23 0), .ref (ad 24 0), .int (jB b0), .ref (ad 25 0)])))) rfl ?_
  refine s_iload_n dX4_count_5 rfl ?_
  refine s_if_ne 16 dX4_count_6 (by decide) (fun c6 => ?_) (fun c6 => ?_)
  · refine s_iload_n dX4_count_16 rfl ?_
    refine s_iconst (v := 1) dX4_count_17 (by decide) ?_
    refine s_icmp_ne 28 dX4_count_18 (by decide) (fun c18 => ?_) (fun c18 => ?_)
    · refine s_iload_n dX4_count_28 rfl ?_
      refine s_iconst (v := 2) dX4_count_29 (by decide) ?_
      refine s_icmp_ne 38 dX4_count_30 (by decide) (fun c30 => ?_) (fun c30 => ?_)
      · refine s_iconst (v := -1) dX4_count_38 (by decide) ?_
        exact s_iret rfl (rfl) dX4_count_39 (Nat.le_of_ble_eq_true rfl) (Nat.le_of_ble_eq_true rfl) (⟨rfl, (sSame.rfl |>.set (P := pMd) (by simp [pMd]) _), ⟨(0, t0, hd, on, tw, dp, cl, gr, r0, kd, fl, co, sm, wk, sp, b0, mu), ⟨(sset_self _ _ _ _), ((sset_k _ _ (by decide)).trans (hm.2.1)), ((sset_k _ _ (by decide)).trans (hm.2.2.1)), ((sset_k _ _ (by decide)).trans (hm.2.2.2.1)), ((sset_k _ _ (by decide)).trans (hm.2.2.2.2.1)), ((sset_k _ _ (by decide)).trans (hm.2.2.2.2.2.1)), ((sset_k _ _ (by decide)).trans (hm.2.2.2.2.2.2.1)), ((sset_k _ _ (by decide)).trans (hm.2.2.2.2.2.2.2.1)), ((sset_k _ _ (by decide)).trans (hm.2.2.2.2.2.2.2.2.1)), ((sset_k _ _ (by decide)).trans (hm.2.2.2.2.2.2.2.2.2.1)), ((sset_k _ _ (by decide)).trans (hm.2.2.2.2.2.2.2.2.2.2.1)), ((sset_k _ _ (by decide)).trans (hm.2.2.2.2.2.2.2.2.2.2.2.1)), ((sset_k _ _ (by decide)).trans (hm.2.2.2.2.2.2.2.2.2.2.2.2.1)), ((sset_k _ _ (by decide)).trans (hm.2.2.2.2.2.2.2.2.2.2.2.2.2))⟩, rfl, hI.any _ _ _ _ _⟩, _, rfl, fun _ => (by unfold cnV; rw [if_neg c6, if_neg c18, if_neg c30])⟩)
      · refine s_bipush (v := 7) dX4_count_33 (by decide) ?_
        refine s_goto 39 dX4_count_35 (by decide) ?_
        exact s_iret rfl (rfl) dX4_count_39 (Nat.le_of_ble_eq_true rfl) (Nat.le_of_ble_eq_true rfl) (⟨rfl, (sSame.rfl |>.set (P := pMd) (by simp [pMd]) _), ⟨(0, t0, hd, on, tw, dp, cl, gr, r0, kd, fl, co, sm, wk, sp, b0, mu), ⟨(sset_self _ _ _ _), ((sset_k _ _ (by decide)).trans (hm.2.1)), ((sset_k _ _ (by decide)).trans (hm.2.2.1)), ((sset_k _ _ (by decide)).trans (hm.2.2.2.1)), ((sset_k _ _ (by decide)).trans (hm.2.2.2.2.1)), ((sset_k _ _ (by decide)).trans (hm.2.2.2.2.2.1)), ((sset_k _ _ (by decide)).trans (hm.2.2.2.2.2.2.1)), ((sset_k _ _ (by decide)).trans (hm.2.2.2.2.2.2.2.1)), ((sset_k _ _ (by decide)).trans (hm.2.2.2.2.2.2.2.2.1)), ((sset_k _ _ (by decide)).trans (hm.2.2.2.2.2.2.2.2.2.1)), ((sset_k _ _ (by decide)).trans (hm.2.2.2.2.2.2.2.2.2.2.1)), ((sset_k _ _ (by decide)).trans (hm.2.2.2.2.2.2.2.2.2.2.2.1)), ((sset_k _ _ (by decide)).trans (hm.2.2.2.2.2.2.2.2.2.2.2.2.1)), ((sset_k _ _ (by decide)).trans (hm.2.2.2.2.2.2.2.2.2.2.2.2.2))⟩, rfl, hI.any _ _ _ _ _⟩, _, rfl, fun _ => (by unfold cnV; rw [if_neg c6, if_neg c18, if_pos c30])⟩)
    · refine s_aload_n dX4_count_21 rfl ?_
      refine s_get (kd := 12) (ix := 0) (ci := 5) (fs := [.int 0, .int (nI t0), .ref (ad 13 0), .ref (ad 14 0), .ref (ad 15 0), .ref (ad 16 0), .ref (ad 17 0), .ref (ad 18 0), .int (nI r0), .ref (ad 19 0), .ref (ad 20 0), .ref (ad 21 0), .ref (ad 22 0), .ref (ad 23 0), .ref (ad 24 0), .int (jB b0), .ref (ad 25 0)])  (sset_self _ _ _ _) rfl in_X4_count_X4 8 (by decide) (by decide +kernel) rfl rfl dX4_count_22 ?_
      refine s_goto 39 dX4_count_25 (by decide) ?_
      exact s_iret rfl (rfl) dX4_count_39 (Nat.le_of_ble_eq_true rfl) (Nat.le_of_ble_eq_true rfl) (⟨rfl, (sSame.rfl |>.set (P := pMd) (by simp [pMd]) _), ⟨(0, t0, hd, on, tw, dp, cl, gr, r0, kd, fl, co, sm, wk, sp, b0, mu), ⟨(sset_self _ _ _ _), ((sset_k _ _ (by decide)).trans (hm.2.1)), ((sset_k _ _ (by decide)).trans (hm.2.2.1)), ((sset_k _ _ (by decide)).trans (hm.2.2.2.1)), ((sset_k _ _ (by decide)).trans (hm.2.2.2.2.1)), ((sset_k _ _ (by decide)).trans (hm.2.2.2.2.2.1)), ((sset_k _ _ (by decide)).trans (hm.2.2.2.2.2.2.1)), ((sset_k _ _ (by decide)).trans (hm.2.2.2.2.2.2.2.1)), ((sset_k _ _ (by decide)).trans (hm.2.2.2.2.2.2.2.2.1)), ((sset_k _ _ (by decide)).trans (hm.2.2.2.2.2.2.2.2.2.1)), ((sset_k _ _ (by decide)).trans (hm.2.2.2.2.2.2.2.2.2.2.1)), ((sset_k _ _ (by decide)).trans (hm.2.2.2.2.2.2.2.2.2.2.2.1)), ((sset_k _ _ (by decide)).trans (hm.2.2.2.2.2.2.2.2.2.2.2.2.1)), ((sset_k _ _ (by decide)).trans (hm.2.2.2.2.2.2.2.2.2.2.2.2.2))⟩, rfl, hI.any _ _ _ _ _⟩, _, rfl, fun _ => (by unfold cnV; rw [if_neg c6, if_pos c18, i2])⟩)
  · refine s_aload_n dX4_count_9 rfl ?_
    refine s_get (kd := 12) (ix := 0) (ci := 5) (fs := [.int 0, .int (nI t0), .ref (ad 13 0), .ref (ad 14 0), .ref (ad 15 0), .ref (ad 16 0), .ref (ad 17 0), .ref (ad 18 0), .int (nI r0), .ref (ad 19 0), .ref (ad 20 0), .ref (ad 21 0), .ref (ad 22 0), .ref (ad 23 0), .ref (ad 24 0), .int (jB b0), .ref (ad 25 0)])  (sset_self _ _ _ _) rfl in_X4_count_X4 1 (by decide) (by decide +kernel) rfl rfl dX4_count_10 ?_
    refine s_goto 39 dX4_count_13 (by decide) ?_
    exact s_iret rfl (rfl) dX4_count_39 (Nat.le_of_ble_eq_true rfl) (Nat.le_of_ble_eq_true rfl) (⟨rfl, (sSame.rfl |>.set (P := pMd) (by simp [pMd]) _), ⟨(0, t0, hd, on, tw, dp, cl, gr, r0, kd, fl, co, sm, wk, sp, b0, mu), ⟨(sset_self _ _ _ _), ((sset_k _ _ (by decide)).trans (hm.2.1)), ((sset_k _ _ (by decide)).trans (hm.2.2.1)), ((sset_k _ _ (by decide)).trans (hm.2.2.2.1)), ((sset_k _ _ (by decide)).trans (hm.2.2.2.2.1)), ((sset_k _ _ (by decide)).trans (hm.2.2.2.2.2.1)), ((sset_k _ _ (by decide)).trans (hm.2.2.2.2.2.2.1)), ((sset_k _ _ (by decide)).trans (hm.2.2.2.2.2.2.2.1)), ((sset_k _ _ (by decide)).trans (hm.2.2.2.2.2.2.2.2.1)), ((sset_k _ _ (by decide)).trans (hm.2.2.2.2.2.2.2.2.2.1)), ((sset_k _ _ (by decide)).trans (hm.2.2.2.2.2.2.2.2.2.2.1)), ((sset_k _ _ (by decide)).trans (hm.2.2.2.2.2.2.2.2.2.2.2.1)), ((sset_k _ _ (by decide)).trans (hm.2.2.2.2.2.2.2.2.2.2.2.2.1)), ((sset_k _ _ (by decide)).trans (hm.2.2.2.2.2.2.2.2.2.2.2.2.2))⟩, rfl, hI.any _ _ _ _ _⟩, _, rfl, fun _ => (by unfold cnV; rw [if_pos c6, i1])⟩)
abbrev mX4_clear : sMeth := (cX4_clear, 1, RX4, wsX4_clear, { frames := 0, cells := 0, slots := 0, locals := 0 }, none, "clear", [])
theorem in_X4_clear_X4 : ∀ w ∈ wsX40, w ∈ wsX4_clear := by decide +kernel
set_option maxHeartbeats 4000000 in
set_option maxRecDepth 100000 in
theorem c_X4_clear (G : sG) (l : Launch) (hl : l.stackTraces = false) (ad : sAd) (M : sM) (c0 : Int32) (t0 : Nat) (hd : Nat → Int32) (on : Nat → Int32) (tw : Nat → Int32) (dp : Nat → Int32) (cl : Nat → Int32) (gr : Nat → Int32) (r0 : Nat) (kd : Nat → Int32) (fl : Nat → Int32) (co : Nat → Int32) (sm : Nat → Int32) (wk : Nat → Int64) (sp : Nat → Int64) (b0 : Bool) (mu : Nat → Int32) (hm : hMd G ad M (c0, t0, hd, on, tw, dp, cl, gr, r0, kd, fl, co, sm, wk, sp, b0, mu)) (α : sAl) (hA : AI α) (hI : RI α (c0, t0, hd, on, tw, dp, cl, gr, r0, kd, fl, co, sm, wk, sp, b0, mu))  : sMet G l yX4_clear mX4_clear [.ref (ad 12 0)] ad M (mPostV G ad M 0 (clrA α)) (fun _ _ _ => False) := by
  obtain ⟨i1, i2, i3, i4⟩ := id hI
  have hT := hA.1
  have hR60 := hA.2.1
  refine sMet.of hl (by decide +kernel) rfl rfl rfl rfl (Nat.le_of_ble_eq_true rfl) (fun X => ?_)
  refine s_lv (lv' := [some (.ref (ad 12 0))]) rfl ?_
  refine s_aload_n dX4_clear_0 rfl ?_
  refine s_iconst (v := 0) dX4_clear_1 (by decide) ?_
  refine s_put (kd := 12) (ix := 0) (ci := 5) (v := .int 0) (ty := tyX4 0) (fs := [.int c0, .int (nI t0), .ref (ad 13 0), .ref (ad 14 0), .ref (ad 15 0), .ref (ad 16 0), .ref (ad 17 0), .ref (ad 18 0), .int (nI r0), .ref (ad 19 0), .ref (ad 20 0), .ref (ad 21 0), .ref (ad 22 0), .ref (ad 23 0), .ref (ad 24 0), .int (jB b0), .ref (ad 25 0)])  tyX4 tyX4_ok nmX4 hm.1 rfl in_X4_clear_X4 0 (by decide) (by decide +kernel) rfl rfl (tyX4_ok 0 (by decide)) (rfl) (rfl) (Nat.le_of_ble_eq_true rfl) dX4_clear_2 ?_
  refine s_M (M' := (sset M 12 0 (.inr (5, [.int 0, .int (nI t0), .ref (ad 13 0), .ref (ad 14 0), .ref (ad 15 0), .ref (ad 16 0), .ref (ad 17 0), .ref (ad 18 0), .int (nI r0), .ref (ad 19 0), .ref (ad 20 0), .ref (ad 21 0), .ref (ad 22 0), .ref (ad 23 0), .ref (ad 24 0), .int (jB b0), .ref (ad 25 0)])))) rfl ?_
  refine s_aload_n dX4_clear_5 rfl ?_
  refine s_iconst (v := 0) dX4_clear_6 (by decide) ?_
  refine s_eqi (y := nI 0) rfl ?_
  refine s_put (kd := 12) (ix := 0) (ci := 5) (v := .int (nI 0)) (ty := tyX4 1) (fs := [.int 0, .int (nI t0), .ref (ad 13 0), .ref (ad 14 0), .ref (ad 15 0), .ref (ad 16 0), .ref (ad 17 0), .ref (ad 18 0), .int (nI r0), .ref (ad 19 0), .ref (ad 20 0), .ref (ad 21 0), .ref (ad 22 0), .ref (ad 23 0), .ref (ad 24 0), .int (jB b0), .ref (ad 25 0)])  tyX4 tyX4_ok nmX4 (sset_self _ _ _ _) rfl in_X4_clear_X4 1 (by decide) (by decide +kernel) rfl rfl (tyX4_ok 1 (by decide)) (rfl) (rfl) (Nat.le_of_ble_eq_true rfl) dX4_clear_7 ?_
  refine s_M (M' := (sset (sset M 12 0 (.inr (5, [.int 0, .int (nI t0), .ref (ad 13 0), .ref (ad 14 0), .ref (ad 15 0), .ref (ad 16 0), .ref (ad 17 0), .ref (ad 18 0), .int (nI r0), .ref (ad 19 0), .ref (ad 20 0), .ref (ad 21 0), .ref (ad 22 0), .ref (ad 23 0), .ref (ad 24 0), .int (jB b0), .ref (ad 25 0)]))) 12 0 (.inr (5, [.int 0, .int (nI 0), .ref (ad 13 0), .ref (ad 14 0), .ref (ad 15 0), .ref (ad 16 0), .ref (ad 17 0), .ref (ad 18 0), .int (nI r0), .ref (ad 19 0), .ref (ad 20 0), .ref (ad 21 0), .ref (ad 22 0), .ref (ad 23 0), .ref (ad 24 0), .int (jB b0), .ref (ad 25 0)])))) rfl ?_
  refine s_aload_n dX4_clear_10 rfl ?_
  refine s_iconst (v := 0) dX4_clear_11 (by decide) ?_
  refine s_eqi (y := nI 0) rfl ?_
  refine s_put (kd := 12) (ix := 0) (ci := 5) (v := .int (nI 0)) (ty := tyX4 8) (fs := [.int 0, .int (nI 0), .ref (ad 13 0), .ref (ad 14 0), .ref (ad 15 0), .ref (ad 16 0), .ref (ad 17 0), .ref (ad 18 0), .int (nI r0), .ref (ad 19 0), .ref (ad 20 0), .ref (ad 21 0), .ref (ad 22 0), .ref (ad 23 0), .ref (ad 24 0), .int (jB b0), .ref (ad 25 0)])  tyX4 tyX4_ok nmX4 (sset_self _ _ _ _) rfl in_X4_clear_X4 8 (by decide) (by decide +kernel) rfl rfl (tyX4_ok 8 (by decide)) (rfl) (rfl) (Nat.le_of_ble_eq_true rfl) dX4_clear_12 ?_
  refine s_M (M' := (sset (sset (sset M 12 0 (.inr (5, [.int 0, .int (nI t0), .ref (ad 13 0), .ref (ad 14 0), .ref (ad 15 0), .ref (ad 16 0), .ref (ad 17 0), .ref (ad 18 0), .int (nI r0), .ref (ad 19 0), .ref (ad 20 0), .ref (ad 21 0), .ref (ad 22 0), .ref (ad 23 0), .ref (ad 24 0), .int (jB b0), .ref (ad 25 0)]))) 12 0 (.inr (5, [.int 0, .int (nI 0), .ref (ad 13 0), .ref (ad 14 0), .ref (ad 15 0), .ref (ad 16 0), .ref (ad 17 0), .ref (ad 18 0), .int (nI r0), .ref (ad 19 0), .ref (ad 20 0), .ref (ad 21 0), .ref (ad 22 0), .ref (ad 23 0), .ref (ad 24 0), .int (jB b0), .ref (ad 25 0)]))) 12 0 (.inr (5, [.int 0, .int (nI 0), .ref (ad 13 0), .ref (ad 14 0), .ref (ad 15 0), .ref (ad 16 0), .ref (ad 17 0), .ref (ad 18 0), .int (nI 0), .ref (ad 19 0), .ref (ad 20 0), .ref (ad 21 0), .ref (ad 22 0), .ref (ad 23 0), .ref (ad 24 0), .int (jB b0), .ref (ad 25 0)])))) rfl ?_
  exact s_vret rfl dX4_clear_15 (Nat.le_of_ble_eq_true rfl) (Nat.le_of_ble_eq_true rfl) (⟨rfl, (sSame.rfl |>.set (P := pMd) (by simp [pMd]) _ |>.set (P := pMd) (by simp [pMd]) _ |>.set (P := pMd) (by simp [pMd]) _), ⟨(0, 0, hd, on, tw, dp, cl, gr, 0, kd, fl, co, sm, wk, sp, b0, mu), ⟨(sset_self _ _ _ _), ((sset_k _ _ (by decide)).trans ((sset_k _ _ (by decide)).trans ((sset_k _ _ (by decide)).trans (hm.2.1)))), ((sset_k _ _ (by decide)).trans ((sset_k _ _ (by decide)).trans ((sset_k _ _ (by decide)).trans (hm.2.2.1)))), ((sset_k _ _ (by decide)).trans ((sset_k _ _ (by decide)).trans ((sset_k _ _ (by decide)).trans (hm.2.2.2.1)))), ((sset_k _ _ (by decide)).trans ((sset_k _ _ (by decide)).trans ((sset_k _ _ (by decide)).trans (hm.2.2.2.2.1)))), ((sset_k _ _ (by decide)).trans ((sset_k _ _ (by decide)).trans ((sset_k _ _ (by decide)).trans (hm.2.2.2.2.2.1)))), ((sset_k _ _ (by decide)).trans ((sset_k _ _ (by decide)).trans ((sset_k _ _ (by decide)).trans (hm.2.2.2.2.2.2.1)))), ((sset_k _ _ (by decide)).trans ((sset_k _ _ (by decide)).trans ((sset_k _ _ (by decide)).trans (hm.2.2.2.2.2.2.2.1)))), ((sset_k _ _ (by decide)).trans ((sset_k _ _ (by decide)).trans ((sset_k _ _ (by decide)).trans (hm.2.2.2.2.2.2.2.2.1)))), ((sset_k _ _ (by decide)).trans ((sset_k _ _ (by decide)).trans ((sset_k _ _ (by decide)).trans (hm.2.2.2.2.2.2.2.2.2.1)))), ((sset_k _ _ (by decide)).trans ((sset_k _ _ (by decide)).trans ((sset_k _ _ (by decide)).trans (hm.2.2.2.2.2.2.2.2.2.2.1)))), ((sset_k _ _ (by decide)).trans ((sset_k _ _ (by decide)).trans ((sset_k _ _ (by decide)).trans (hm.2.2.2.2.2.2.2.2.2.2.2.1)))), ((sset_k _ _ (by decide)).trans ((sset_k _ _ (by decide)).trans ((sset_k _ _ (by decide)).trans (hm.2.2.2.2.2.2.2.2.2.2.2.2.1)))), ((sset_k _ _ (by decide)).trans ((sset_k _ _ (by decide)).trans ((sset_k _ _ (by decide)).trans (hm.2.2.2.2.2.2.2.2.2.2.2.2.2))))⟩, rfl, hI.clr⟩, rfl⟩)
