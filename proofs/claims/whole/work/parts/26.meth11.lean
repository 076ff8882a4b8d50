/-! fits, fillRow, hasTooGreat -/
theorem sw_out {x : Int32} (n : Nat) (hn : n < 2 ^ 31) (h : ∀ j, j < n → x ≠ nI j) : x.toInt < 0 ∨ (n : Int) - 1 < x.toInt := by
  rcases pk_ix x hn with q | q | ⟨j, hj, e⟩
  · left
    have := Int32.lt_iff_toInt_lt.mp q
    exact this
  · right
    have := Int32.le_iff_toInt_le.mp q
    rw [nI_toInt hn] at this
    omega
  · exact absurd e (h j hj)
def fitsK (k b c : Int32) : Prop := if k = 0 ∨ k = 4 ∨ k = 6 then c = -1 else if k = 1 then 0 ≤ c ∧ c < 3 else if k = 2 then True else if k = 3 then (-10 ≤ b ∧ b ≤ 10) ∧ 0 ≤ c ∧ c < 3 else if k = 5 then b = -1 ∧ c = -1 else False
theorem fitsK_0 (b c : Int32) : fitsK 0 b c = (c = -1) := if_pos (by decide)
theorem fitsK_4 (b c : Int32) : fitsK 4 b c = (c = -1) := if_pos (by decide)
theorem fitsK_6 (b c : Int32) : fitsK 6 b c = (c = -1) := if_pos (by decide)
theorem fitsK_1 (b c : Int32) : fitsK 1 b c = (0 ≤ c ∧ c < 3) := (if_neg (by decide)).trans (if_pos (by decide))
theorem fitsK_2 (b c : Int32) : fitsK 2 b c = True := (if_neg (by decide)).trans ((if_neg (by decide)).trans (if_pos (by decide)))
theorem fitsK_3 (b c : Int32) : fitsK 3 b c = ((-10 ≤ b ∧ b ≤ 10) ∧ 0 ≤ c ∧ c < 3) := (if_neg (by decide)).trans ((if_neg (by decide)).trans ((if_neg (by decide)).trans (if_pos (by decide))))
theorem fitsK_5 (b c : Int32) : fitsK 5 b c = (b = -1 ∧ c = -1) := (if_neg (by decide)).trans ((if_neg (by decide)).trans ((if_neg (by decide)).trans ((if_neg (by decide)).trans (if_pos (by decide)))))
theorem fitsK_no {k b c : Int32} (h : ∀ j, j < 7 → k ≠ nI j) : fitsK k b c = False := by
  have q : ∀ j, j < 7 → ¬ k = nI j := h
  exact (if_neg (fun z => z.elim (q 0 (by omega)) (fun z => z.elim (q 4 (by omega)) (q 6 (by omega))))).trans ((if_neg (q 1 (by omega))).trans ((if_neg (q 2 (by omega))).trans ((if_neg (q 3 (by omega))).trans (if_neg (q 5 (by omega))))))
abbrev mX3_fits : sMeth := (cX3_fits, 3, RX3, wsX3_fits, { frames := 1, cells := 0, slots := 0, locals := 20 }, (some .boolean), "fits", [])
set_option maxHeartbeats 4000000 in
set_option maxRecDepth 100000 in
theorem c_X3_fits (G : sG) (l : Launch) (hl : l.stackTraces = false) (ad : sAd) (M : sM) (kind b c : Int32) : sMet G l yX3_fits mX3_fits [.int kind, .int b, .int c] ad M (fun r ad' M' => ad = ad' ∧ M = M' ∧ ∃ z : Bool, r = some (.int (jB z)) ∧ (z = true ↔ fitsK kind b c)) (fun _ _ _ => False) := by
  refine sMet.of hl (by decide +kernel) rfl rfl rfl rfl (Nat.le_of_ble_eq_true rfl) (fun X => ?_)
  refine s_lv (lv' := [some (.int kind), some (.int b), some (.int c)]) rfl ?_
  refine s_iload_n dX3_fits_0 rfl ?_
  by_cases q0 : kind = 0
  · refine s_tableIn 44 dX3_fits_1 (by rw [q0]; decide) (by rw [q0]; decide) (by rw [q0]; rfl) (by decide) ?_
    refine s_iload_n dX3_fits_44 rfl ?_
    refine s_iconst (v := -1) dX3_fits_45 (by decide) ?_
    refine s_icmp_ne 53 dX3_fits_46 (by decide) (fun c46 => ?_) (fun c46 => ?_)
    · refine s_iconst (v := 0) dX3_fits_53 (by decide) ?_
      exact s_iret rfl (rfl) dX3_fits_54 (Nat.le_of_ble_eq_true rfl) (Nat.le_of_ble_eq_true rfl) (⟨rfl, rfl, false, rfl, by rw [q0, fitsK_0]; exact ⟨(fun q => nomatch q), fun q => absurd q c46⟩⟩)
    · refine s_iconst (v := 1) dX3_fits_49 (by decide) ?_
      refine s_goto 54 dX3_fits_50 (by decide) ?_
      exact s_iret rfl (rfl) dX3_fits_54 (Nat.le_of_ble_eq_true rfl) (Nat.le_of_ble_eq_true rfl) (⟨rfl, rfl, true, rfl, by rw [q0, fitsK_0]; exact ⟨fun _ => c46, fun _ => rfl⟩⟩)
  by_cases q1 : kind = 1
  · refine s_tableIn 55 dX3_fits_1 (by rw [q1]; decide) (by rw [q1]; decide) (by rw [q1]; rfl) (by decide) ?_
    refine s_iload_n dX3_fits_55 rfl ?_
    refine s_callS (As := [.int c]) (rest := []) (n := 1) (fun l hl => c_X3_isLetter G l hl ad M c) gX3_fits_X3_isLetter rfl (by decide +kernel) rfl ⟨(Nat.le_of_ble_eq_true rfl), (Nat.le_of_ble_eq_true rfl)⟩ ⟨(Nat.le_of_ble_eq_true rfl), (Nat.le_of_ble_eq_true rfl)⟩ (Nat.le_of_ble_eq_true rfl) dX3_fits_56 rfl (fun r9 ad9 M9 h9 => ?_)
    obtain ⟨rfl, rfl, rfl⟩ := h9
    exact s_iret rfl (jB_nar _) dX3_fits_59 (Nat.le_of_ble_eq_true rfl) (Nat.le_of_ble_eq_true rfl) (⟨rfl, rfl, decide (0 ≤ c ∧ c < 3), rfl, by rw [q1, fitsK_1]; exact decide_eq_true_iff⟩)
  by_cases q2 : kind = 2
  · refine s_tableIn 60 dX3_fits_1 (by rw [q2]; decide) (by rw [q2]; decide) (by rw [q2]; rfl) (by decide) ?_
    refine s_iconst (v := 1) dX3_fits_60 (by decide) ?_
    exact s_iret rfl (rfl) dX3_fits_61 (Nat.le_of_ble_eq_true rfl) (Nat.le_of_ble_eq_true rfl) (⟨rfl, rfl, true, rfl, by rw [q2, fitsK_2]; exact ⟨fun _ => trivial, fun _ => rfl⟩⟩)
  by_cases q3 : kind = 3
  · refine s_tableIn 62 dX3_fits_1 (by rw [q3]; decide) (by rw [q3]; decide) (by rw [q3]; rfl) (by decide) ?_
    refine s_iload_n dX3_fits_62 rfl ?_
    refine s_callS (As := [.int b]) (rest := []) (n := 1) (fun l hl => c_X3_isSampleNumber G l hl ad M b) gX3_fits_X3_isSampleNumber rfl (by decide +kernel) rfl ⟨(Nat.le_of_ble_eq_true rfl), (Nat.le_of_ble_eq_true rfl)⟩ ⟨(Nat.le_of_ble_eq_true rfl), (Nat.le_of_ble_eq_true rfl)⟩ (Nat.le_of_ble_eq_true rfl) dX3_fits_63 rfl (fun r9 ad9 M9 h9 => ?_)
    obtain ⟨rfl, rfl, rfl⟩ := h9
    refine s_if_eq 80 dX3_fits_66 (by decide) (fun c66 => ?_) (fun c66 => ?_)
    · refine s_iconst (v := 0) dX3_fits_80 (by decide) ?_
      exact s_iret rfl (rfl) dX3_fits_81 (Nat.le_of_ble_eq_true rfl) (Nat.le_of_ble_eq_true rfl) (⟨rfl, rfl, false, rfl, by rw [q3, fitsK_3]; exact ⟨(fun q => nomatch q), fun q => absurd (decide_eq_true q.1) (by rw [jB_0.mp c66]; decide)⟩⟩)
    · refine s_iload_n dX3_fits_69 rfl ?_
      refine s_callS (As := [.int c]) (rest := []) (n := 1) (fun l hl => c_X3_isLetter G l hl ad M c) gX3_fits_X3_isLetter rfl (by decide +kernel) rfl ⟨(Nat.le_of_ble_eq_true rfl), (Nat.le_of_ble_eq_true rfl)⟩ ⟨(Nat.le_of_ble_eq_true rfl), (Nat.le_of_ble_eq_true rfl)⟩ (Nat.le_of_ble_eq_true rfl) dX3_fits_70 rfl (fun r9 ad9 M9 h9 => ?_)
      obtain ⟨rfl, rfl, rfl⟩ := h9
      refine s_if_eq 80 dX3_fits_73 (by decide) (fun c73 => ?_) (fun c73 => ?_)
      · refine s_iconst (v := 0) dX3_fits_80 (by decide) ?_
        exact s_iret rfl (rfl) dX3_fits_81 (Nat.le_of_ble_eq_true rfl) (Nat.le_of_ble_eq_true rfl) (⟨rfl, rfl, false, rfl, by rw [q3, fitsK_3]; exact ⟨(fun q => nomatch q), fun q => absurd (decide_eq_true q.2) (by rw [jB_0.mp c73]; decide)⟩⟩)
      · refine s_iconst (v := 1) dX3_fits_76 (by decide) ?_
        refine s_goto 81 dX3_fits_77 (by decide) ?_
        exact s_iret rfl (rfl) dX3_fits_81 (Nat.le_of_ble_eq_true rfl) (Nat.le_of_ble_eq_true rfl) (⟨rfl, rfl, true, rfl, by rw [q3, fitsK_3]; exact ⟨fun _ => ⟨of_decide_eq_true (Bool.of_not_eq_false (fun z => c66 (jB_0.mpr z))), of_decide_eq_true (Bool.of_not_eq_false (fun z => c73 (jB_0.mpr z)))⟩, fun _ => rfl⟩⟩)
  by_cases q4 : kind = 4
  · refine s_tableIn 44 dX3_fits_1 (by rw [q4]; decide) (by rw [q4]; decide) (by rw [q4]; rfl) (by decide) ?_
    refine s_iload_n dX3_fits_44 rfl ?_
    refine s_iconst (v := -1) dX3_fits_45 (by decide) ?_
    refine s_icmp_ne 53 dX3_fits_46 (by decide) (fun c46 => ?_) (fun c46 => ?_)
    · refine s_iconst (v := 0) dX3_fits_53 (by decide) ?_
      exact s_iret rfl (rfl) dX3_fits_54 (Nat.le_of_ble_eq_true rfl) (Nat.le_of_ble_eq_true rfl) (⟨rfl, rfl, false, rfl, by rw [q4, fitsK_4]; exact ⟨(fun q => nomatch q), fun q => absurd q c46⟩⟩)
    · refine s_iconst (v := 1) dX3_fits_49 (by decide) ?_
      refine s_goto 54 dX3_fits_50 (by decide) ?_
      exact s_iret rfl (rfl) dX3_fits_54 (Nat.le_of_ble_eq_true rfl) (Nat.le_of_ble_eq_true rfl) (⟨rfl, rfl, true, rfl, by rw [q4, fitsK_4]; exact ⟨fun _ => c46, fun _ => rfl⟩⟩)
  by_cases q5 : kind = 5
  · refine s_tableIn 82 dX3_fits_1 (by rw [q5]; decide) (by rw [q5]; decide) (by rw [q5]; rfl) (by decide) ?_
    refine s_iload_n dX3_fits_82 rfl ?_
    refine s_iconst (v := -1) dX3_fits_83 (by decide) ?_
    refine s_icmp_ne 96 dX3_fits_84 (by decide) (fun c84 => ?_) (fun c84 => ?_)
    · refine s_iconst (v := 0) dX3_fits_96 (by decide) ?_
      exact s_iret rfl (rfl) dX3_fits_97 (Nat.le_of_ble_eq_true rfl) (Nat.le_of_ble_eq_true rfl) (⟨rfl, rfl, false, rfl, by rw [q5, fitsK_5]; exact ⟨(fun q => nomatch q), fun q => absurd q.1 c84⟩⟩)
    · refine s_iload_n dX3_fits_87 rfl ?_
      refine s_iconst (v := -1) dX3_fits_88 (by decide) ?_
      refine s_icmp_ne 96 dX3_fits_89 (by decide) (fun c89 => ?_) (fun c89 => ?_)
      · refine s_iconst (v := 0) dX3_fits_96 (by decide) ?_
        exact s_iret rfl (rfl) dX3_fits_97 (Nat.le_of_ble_eq_true rfl) (Nat.le_of_ble_eq_true rfl) (⟨rfl, rfl, false, rfl, by rw [q5, fitsK_5]; exact ⟨(fun q => nomatch q), fun q => absurd q.2 c89⟩⟩)
      · refine s_iconst (v := 1) dX3_fits_92 (by decide) ?_
        refine s_goto 97 dX3_fits_93 (by decide) ?_
        exact s_iret rfl (rfl) dX3_fits_97 (Nat.le_of_ble_eq_true rfl) (Nat.le_of_ble_eq_true rfl) (⟨rfl, rfl, true, rfl, by rw [q5, fitsK_5]; exact ⟨fun _ => ⟨c84, c89⟩, fun _ => rfl⟩⟩)
  by_cases q6 : kind = 6
  · refine s_tableIn 44 dX3_fits_1 (by rw [q6]; decide) (by rw [q6]; decide) (by rw [q6]; rfl) (by decide) ?_
    refine s_iload_n dX3_fits_44 rfl ?_
    refine s_iconst (v := -1) dX3_fits_45 (by decide) ?_
    refine s_icmp_ne 53 dX3_fits_46 (by decide) (fun c46 => ?_) (fun c46 => ?_)
    · refine s_iconst (v := 0) dX3_fits_53 (by decide) ?_
      exact s_iret rfl (rfl) dX3_fits_54 (Nat.le_of_ble_eq_true rfl) (Nat.le_of_ble_eq_true rfl) (⟨rfl, rfl, false, rfl, by rw [q6, fitsK_6]; exact ⟨(fun q => nomatch q), fun q => absurd q c46⟩⟩)
    · refine s_iconst (v := 1) dX3_fits_49 (by decide) ?_
      refine s_goto 54 dX3_fits_50 (by decide) ?_
      exact s_iret rfl (rfl) dX3_fits_54 (Nat.le_of_ble_eq_true rfl) (Nat.le_of_ble_eq_true rfl) (⟨rfl, rfl, true, rfl, by rw [q6, fitsK_6]; exact ⟨fun _ => c46, fun _ => rfl⟩⟩)
  have q9 : ∀ j, j < 7 → kind ≠ nI j := fun j hj e => by
    rcases (show j = 0 ∨ j = 1 ∨ j = 2 ∨ j = 3 ∨ j = 4 ∨ j = 5 ∨ j = 6 by omega) with rfl | rfl | rfl | rfl | rfl | rfl | rfl <;> first | exact q0 e | exact q1 e | exact q2 e | exact q3 e | exact q4 e | exact q5 e | exact q6 e
  refine s_tableOut 98 dX3_fits_1 (sw_out 7 (by decide) q9) (by decide) ?_
  refine s_iconst (v := 0) dX3_fits_98 (by decide) ?_
  exact s_iret rfl (rfl) dX3_fits_99 (Nat.le_of_ble_eq_true rfl) (Nat.le_of_ble_eq_true rfl) (⟨rfl, rfl, false, rfl, by rw [fitsK_no q9]; exact ⟨(fun q => nomatch q), False.elim⟩⟩)
abbrev mX3_fillRow : sMeth := (cX3_fillRow, 6, RX3, wsX3_fillRow, { frames := 0, cells := 0, slots := 0, locals := 0 }, none, "fillRow", [])
set_option maxHeartbeats 4000000 in
set_option maxRecDepth 100000 in
theorem c_X3_fillRow (G : sG) (l : Launch) (hl : l.stackTraces = false) (ad : sAd) (M : sM) (ri : Nat) (rr : Nat → Int32) (hw : M 6 ri = some (.inl (gI G, 8, .inl rr))) (k a b c : Int32) : sMet G l yX3_fillRow mX3_fillRow [.ref (ad 6 ri), .int k, .int a, .int b, .int c] ad M (fun r ad' M' => ad = ad' ∧ r = none ∧ ∃ f', M' = sset M 6 ri (.inl (gI G, 8, .inl f')) ∧ f' 0 = k ∧ f' 1 = a ∧ f' 2 = b ∧ f' 3 = c ∧ f' 4 = -1 ∧ f' 5 = 0 ∧ f' 6 = 0 ∧ f' 7 = 0) (fun _ _ _ => False) := by
  refine sMet.of hl (by decide +kernel) rfl rfl rfl rfl (Nat.le_of_ble_eq_true rfl) (fun X => ?_)
  refine s_lv (lv' := [some (.ref (ad 6 ri)), some (.int k), some (.int a), some (.int b), some (.int c), none]) rfl ?_
  refine s_aload_n dX3_fillRow_0 rfl ?_
  refine s_iconst (v := 0) dX3_fillRow_1 (by decide) ?_
  refine s_iload_n dX3_fillRow_2 rfl ?_
  refine s_iast (kd := 6) (ix := ri) (n := 8) (f := rr) (j := 0) (x := k) hw  (by decide) (by decide) (by decide) dX3_fillRow_3 ?_
  refine s_aload_n dX3_fillRow_4 rfl ?_
  refine s_iconst (v := 1) dX3_fillRow_5 (by decide) ?_
  refine s_iload_n dX3_fillRow_6 rfl ?_
  refine s_iast (kd := 6) (ix := ri) (n := 8) (f := upd rr 0 k) (j := 1) (x := a) (sset_self _ _ _ _)  (by decide) (by decide) (by decide) dX3_fillRow_7 ?_
  refine s_aload_n dX3_fillRow_8 rfl ?_
  refine s_iconst (v := 2) dX3_fillRow_9 (by decide) ?_
  refine s_iload_n dX3_fillRow_10 rfl ?_
  refine s_iast (kd := 6) (ix := ri) (n := 8) (f := upd (upd rr 0 k) 1 a) (j := 2) (x := b) (sset_self _ _ _ _)  (by decide) (by decide) (by decide) dX3_fillRow_11 ?_
  refine s_aload_n dX3_fillRow_12 rfl ?_
  refine s_iconst (v := 3) dX3_fillRow_13 (by decide) ?_
  refine s_iload dX3_fillRow_14 rfl ?_
  refine s_iast (kd := 6) (ix := ri) (n := 8) (f := upd (upd (upd rr 0 k) 1 a) 2 b) (j := 3) (x := c) (sset_self _ _ _ _)  (by decide) (by decide) (by decide) dX3_fillRow_16 ?_
  refine s_aload_n dX3_fillRow_17 rfl ?_
  refine s_iconst (v := 4) dX3_fillRow_18 (by decide) ?_
  refine s_iconst (v := -1) dX3_fillRow_19 (by decide) ?_
  refine s_iast (kd := 6) (ix := ri) (n := 8) (f := upd (upd (upd (upd rr 0 k) 1 a) 2 b) 3 c) (j := 4) (x := (-1)) (sset_self _ _ _ _)  (by decide) (by decide) (by decide) dX3_fillRow_20 ?_
  refine s_iconst (v := 0) dX3_fillRow_21 (by decide) ?_
  refine s_istore dX3_fillRow_22 rfl rfl ?_
  refine s_lv (lv' := [some (.ref (ad 6 ri)), some (.int k), some (.int a), some (.int b), some (.int c), some (.int 0)]) rfl ?_
  refine s_iload dX3_fillRow_24 rfl ?_
  refine s_iconst (v := 3) dX3_fillRow_26 (by decide) ?_
  refine s_icmp_ge 43 dX3_fillRow_27 (by decide) (fun c27 => absurd c27 (by decide)) (fun c27 => ?_)
  refine s_aload_n dX3_fillRow_30 rfl ?_
  refine s_iconst (v := 5) dX3_fillRow_31 (by decide) ?_
  refine s_iload dX3_fillRow_32 rfl ?_
  refine s_iadd dX3_fillRow_34 ?_
  refine s_iconst (v := 0) dX3_fillRow_35 (by decide) ?_
  refine s_iast (kd := 6) (ix := ri) (n := 8) (f := upd (upd (upd (upd (upd rr 0 k) 1 a) 2 b) 3 c) 4 (-1)) (j := 5) (x := 0) (sset_self _ _ _ _)  (by decide) (by decide) (by decide) dX3_fillRow_36 ?_
  refine s_iinc (v := 1) dX3_fillRow_37 rfl (by decide) rfl ?_
  refine s_lv (lv' := [some (.ref (ad 6 ri)), some (.int k), some (.int a), some (.int b), some (.int c), some (.int 1)]) rfl ?_
  refine s_goto 24 dX3_fillRow_40 (by decide) ?_
  refine s_iload dX3_fillRow_24 rfl ?_
  refine s_iconst (v := 3) dX3_fillRow_26 (by decide) ?_
  refine s_icmp_ge 43 dX3_fillRow_27 (by decide) (fun c27 => absurd c27 (by decide)) (fun c27 => ?_)
  refine s_aload_n dX3_fillRow_30 rfl ?_
  refine s_iconst (v := 5) dX3_fillRow_31 (by decide) ?_
  refine s_iload dX3_fillRow_32 rfl ?_
  refine s_iadd dX3_fillRow_34 ?_
  refine s_iconst (v := 0) dX3_fillRow_35 (by decide) ?_
  refine s_iast (kd := 6) (ix := ri) (n := 8) (f := upd (upd (upd (upd (upd (upd rr 0 k) 1 a) 2 b) 3 c) 4 (-1)) 5 0) (j := 6) (x := 0) (sset_self _ _ _ _)  (by decide) (by decide) (by decide) dX3_fillRow_36 ?_
  refine s_iinc (v := 2) dX3_fillRow_37 rfl (by decide) rfl ?_
  refine s_lv (lv' := [some (.ref (ad 6 ri)), some (.int k), some (.int a), some (.int b), some (.int c), some (.int 2)]) rfl ?_
  refine s_goto 24 dX3_fillRow_40 (by decide) ?_
  refine s_iload dX3_fillRow_24 rfl ?_
  refine s_iconst (v := 3) dX3_fillRow_26 (by decide) ?_
  refine s_icmp_ge 43 dX3_fillRow_27 (by decide) (fun c27 => absurd c27 (by decide)) (fun c27 => ?_)
  refine s_aload_n dX3_fillRow_30 rfl ?_
  refine s_iconst (v := 5) dX3_fillRow_31 (by decide) ?_
  refine s_iload dX3_fillRow_32 rfl ?_
  refine s_iadd dX3_fillRow_34 ?_
  refine s_iconst (v := 0) dX3_fillRow_35 (by decide) ?_
  refine s_iast (kd := 6) (ix := ri) (n := 8) (f := upd (upd (upd (upd (upd (upd (upd rr 0 k) 1 a) 2 b) 3 c) 4 (-1)) 5 0) 6 0) (j := 7) (x := 0) (sset_self _ _ _ _)  (by decide) (by decide) (by decide) dX3_fillRow_36 ?_
  refine s_iinc (v := 3) dX3_fillRow_37 rfl (by decide) rfl ?_
  refine s_lv (lv' := [some (.ref (ad 6 ri)), some (.int k), some (.int a), some (.int b), some (.int c), some (.int 3)]) rfl ?_
  refine s_goto 24 dX3_fillRow_40 (by decide) ?_
  refine s_iload dX3_fillRow_24 rfl ?_
  refine s_iconst (v := 3) dX3_fillRow_26 (by decide) ?_
  refine s_icmp_ge 43 dX3_fillRow_27 (by decide) (fun c27 => ?_) (fun c27 => absurd (by decide) c27)
  exact s_vret rfl dX3_fillRow_43 (Nat.le_of_ble_eq_true rfl) (Nat.le_of_ble_eq_true rfl) (⟨rfl, rfl, upd (upd (upd (upd (upd (upd (upd (upd rr 0 k) 1 a) 2 b) 3 c) 4 (-1)) 5 0) 6 0) 7 0, by simp only [sset_sset], rfl, rfl, rfl, rfl, rfl, rfl, rfl, rfl⟩)
def grF (κ : sCk) (x : Int32) : Prop := ∃ j, j < kTc κ ∧ x = nI j ∧ (kPo κ j).2.2.1 = true
theorem grF_j {κ : sCk} {x : Int32} {j : Nat} (hj : j < kTc κ) (hx : x = nI j) (hb : kTc κ < 2 ^ 31) : grF κ x ↔ (kPo κ j).2.2.1 = true := by
  constructor
  · rintro ⟨i, hi, e, h⟩
    have := (nI_eq (a := i) (b := j) (by omega) (by omega)).mp (e.symm.trans hx)
    rw [← this]; exact h
  · exact fun h => ⟨j, hj, hx, h⟩
theorem grF_no {κ : sCk} {x : Int32} (h : ∀ j, j < kTc κ → x ≠ nI j) : ¬ grF κ x := fun ⟨j, hj, e, _⟩ => h j hj e
theorem tfN_le (j : Nat) : tfN j ≤ 3 := by
  unfold tfN
  split <;> omega
abbrev mX3_hasTooGreat : sMeth := (cX3_hasTooGreat, 4, RX3, wsX3_hasTooGreat, { frames := 2, cells := 0, slots := 0, locals := 43 }, (some .boolean), "hasTooGreat", [])
set_option maxHeartbeats 4000000 in
set_option maxRecDepth 100000 in
theorem l_X3_hasTooGreat (X : sMach) (G : sG) (ad : sAd) (M : sM) (κ : sCk) (h : hCk G ad M κ) (ht : kTc κ ≤ kMd κ) (hm : kMd κ ≤ 120) (hr : kRc κ ≤ 60) (ri : Nat) (hri : ri < 60) (kd : Nat) (hkd : kd < 7) (hk : kRw κ ri 0 = nI kd) (hz : (kZ κ).2.2.1 = false) : ∀ (k i : Nat), i + k = tfN kd → (∀ a, a < i → ¬ grF κ (kRw κ ri (1 + a))) → sW X G mX3_hasTooGreat (sQ X G mX3_hasTooGreat (fun r ad' M' => ad = ad' ∧ M = M' ∧ ∃ z : Bool, r = some (.int (jB z)) ∧ (z = true ↔ (∃ a, a < tfN kd ∧ grF κ (kRw κ ri (1 + a))) ∨ grF κ (kRw κ ri 4))) (fun _ _ _ => False)) ad M 0 0 [some (.ref (ad 0 0)), some (.ref (ad 6 ri)), some (.int (nI (tfN kd))), some (.int (nI i))] 9 [] := by
  intro k
  induction k with
  | zero =>
    intro i hi hv
    have h3 := tfN_le kd
    refine s_iload_n dX3_hasTooGreat_9 rfl ?_
    refine s_iload_n dX3_hasTooGreat_10 rfl ?_
    refine s_icmp_ge 37 dX3_hasTooGreat_11 (by decide) (fun c11 => ?_) (fun c11 => absurd (nI_le (by omega) (by omega)) c11)
    refine s_aload_n dX3_hasTooGreat_37 rfl ?_
    refine s_aload_n dX3_hasTooGreat_38 rfl ?_
    refine s_iconst (v := 4) dX3_hasTooGreat_39 (by decide) ?_
    refine s_iald (kd := 6) (ix := ri) (n := 8) (f := kRw κ ri) (j := 4) ((h.2.2.2.1 ri hri)) (by decide) (by decide) (by decide) dX3_hasTooGreat_40 ?_
    refine s_callV (As := [.int ((kRw κ ri) 4)]) (rest := []) (n := 1) (kd := 0) (ix := 0) (fun l hl => c_X3_polynomialOf G l hl ad M κ h ht hm hr ((kRw κ ri) 4)) gX3_hasTooGreat_X3_polynomialOf rfl (by decide +kernel) h.1 rfl rfl ⟨(Nat.le_of_ble_eq_true rfl), (Nat.le_of_ble_eq_true rfl)⟩ ⟨(Nat.le_of_ble_eq_true rfl), (Nat.le_of_ble_eq_true rfl)⟩ (Nat.le_of_ble_eq_true rfl) dX3_hasTooGreat_41 rfl (fun r8 ad8 M8 h8 => ?_)
    obtain ⟨rfl, rfl, h8⟩ := h8
    rcases h8 with ⟨j8, hj8, hij8, rfl⟩ | ⟨hn8, rfl⟩
    · refine s_callVN (As := []) (rest := []) (n := 0) (kd := 3) (ix := j8) (fun l hl => c_X0_isTooGreat G l hl ad M j8 (kPo κ j8).1 (kPo κ j8).2.1 (kPo κ j8).2.2.1 (kPo κ j8).2.2.2.1 (kPo κ j8).2.2.2.2 (h.2.2.2.2.2.1 j8 (by omega))) gX3_hasTooGreat_X0_isTooGreat_n151 rfl (host := "SmallChecker") (by decide +kernel) (by decide +kernel) (by decide +kernel) (by decide +kernel) (by decide +kernel) ((h.2.2.2.2.2.1 j8 (by omega)).1) rfl rfl ⟨(Nat.le_of_ble_eq_true rfl), (Nat.le_of_ble_eq_true rfl)⟩ ⟨(Nat.le_of_ble_eq_true rfl), (Nat.le_of_ble_eq_true rfl)⟩ (Nat.le_of_ble_eq_true rfl) dX3_hasTooGreat_44 rfl (fun r9 ad9 M9 h9 => ?_)
      obtain ⟨rfl, rfl, rfl⟩ := h9
      exact s_iret rfl (jB_nar _) dX3_hasTooGreat_47 (Nat.le_of_ble_eq_true rfl) (Nat.le_of_ble_eq_true rfl) (⟨rfl, rfl, (kPo κ j8).2.2.1, rfl, fun q => Or.inr ((grF_j hj8 hij8 (by omega)).mpr q), fun q => q.elim (fun ⟨a, ha, hg⟩ => absurd hg (hv a (by omega))) (fun q => (grF_j hj8 hij8 (by omega)).mp q)⟩)
    · refine s_callVN (As := []) (rest := []) (n := 0) (kd := 3) (ix := 120) (fun l hl => c_X0_isTooGreat G l hl ad M 120 (kZ κ).1 (kZ κ).2.1 (kZ κ).2.2.1 (kZ κ).2.2.2.1 (kZ κ).2.2.2.2 h.2.2.2.2.2.2.1) gX3_hasTooGreat_X0_isTooGreat_n151 rfl (host := "SmallChecker") (by decide +kernel) (by decide +kernel) (by decide +kernel) (by decide +kernel) (by decide +kernel) (h.2.2.2.2.2.2.1).1 rfl rfl ⟨(Nat.le_of_ble_eq_true rfl), (Nat.le_of_ble_eq_true rfl)⟩ ⟨(Nat.le_of_ble_eq_true rfl), (Nat.le_of_ble_eq_true rfl)⟩ (Nat.le_of_ble_eq_true rfl) dX3_hasTooGreat_44 rfl (fun r9 ad9 M9 h9 => ?_)
      obtain ⟨rfl, rfl, rfl⟩ := h9
      exact s_iret rfl (jB_nar _) dX3_hasTooGreat_47 (Nat.le_of_ble_eq_true rfl) (Nat.le_of_ble_eq_true rfl) (⟨rfl, rfl, (kZ κ).2.2.1, rfl, by rw [hz]; exact ⟨(fun q => nomatch q), fun q => q.elim (fun ⟨a, ha, hg⟩ => absurd hg (hv a (by omega))) (fun q => (grF_no hn8 q).elim)⟩⟩)
  | succ k ih =>
    intro i hi hv
    have h3 := tfN_le kd
    refine s_iload_n dX3_hasTooGreat_9 rfl ?_
    refine s_iload_n dX3_hasTooGreat_10 rfl ?_
    refine s_icmp_ge 37 dX3_hasTooGreat_11 (by decide) (fun c11 => absurd c11 (nI_ge (by omega) (by omega))) (fun c11 => ?_)
    refine s_aload_n dX3_hasTooGreat_14 rfl ?_
    refine s_aload_n dX3_hasTooGreat_15 rfl ?_
    refine s_iconst (v := 1) dX3_hasTooGreat_16 (by decide) ?_
    refine s_iload_n dX3_hasTooGreat_17 rfl ?_
    refine s_iadd dX3_hasTooGreat_18 ?_
    refine s_eqi (y := nI (1 + i)) (nI_add 1 i) ?_
    refine s_iald (kd := 6) (ix := ri) (n := 8) (f := kRw κ ri) (j := 1 + i) ((h.2.2.2.1 ri hri)) (rfl) (by omega) (by decide) dX3_hasTooGreat_19 ?_
    refine s_callV (As := [.int ((kRw κ ri) (1 + i))]) (rest := []) (n := 1) (kd := 0) (ix := 0) (fun l hl => c_X3_polynomialOf G l hl ad M κ h ht hm hr ((kRw κ ri) (1 + i))) gX3_hasTooGreat_X3_polynomialOf rfl (by decide +kernel) h.1 rfl rfl ⟨(Nat.le_of_ble_eq_true rfl), (Nat.le_of_ble_eq_true rfl)⟩ ⟨(Nat.le_of_ble_eq_true rfl), (Nat.le_of_ble_eq_true rfl)⟩ (Nat.le_of_ble_eq_true rfl) dX3_hasTooGreat_20 rfl (fun r8 ad8 M8 h8 => ?_)
    obtain ⟨rfl, rfl, h8⟩ := h8
    rcases h8 with ⟨j8, hj8, hij8, rfl⟩ | ⟨hn8, rfl⟩
    · refine s_callVN (As := []) (rest := []) (n := 0) (kd := 3) (ix := j8) (fun l hl => c_X0_isTooGreat G l hl ad M j8 (kPo κ j8).1 (kPo κ j8).2.1 (kPo κ j8).2.2.1 (kPo κ j8).2.2.2.1 (kPo κ j8).2.2.2.2 (h.2.2.2.2.2.1 j8 (by omega))) gX3_hasTooGreat_X0_isTooGreat_n151 rfl (host := "SmallChecker") (by decide +kernel) (by decide +kernel) (by decide +kernel) (by decide +kernel) (by decide +kernel) ((h.2.2.2.2.2.1 j8 (by omega)).1) rfl rfl ⟨(Nat.le_of_ble_eq_true rfl), (Nat.le_of_ble_eq_true rfl)⟩ ⟨(Nat.le_of_ble_eq_true rfl), (Nat.le_of_ble_eq_true rfl)⟩ (Nat.le_of_ble_eq_true rfl) dX3_hasTooGreat_23 rfl (fun r9 ad9 M9 h9 => ?_)
      obtain ⟨rfl, rfl, rfl⟩ := h9
      refine s_if_eq 31 dX3_hasTooGreat_26 (by decide) (fun c26 => ?_) (fun c26 => ?_)
      · refine s_iinc (v := nI (i + 1)) dX3_hasTooGreat_31 rfl (nI_1 i) rfl ?_
        refine s_lv (lv' := [some (.ref (ad 0 0)), some (.ref (ad 6 ri)), some (.int (nI (tfN kd))), some (.int (nI (i + 1)))]) rfl ?_
        refine s_goto 9 dX3_hasTooGreat_34 (by decide) ?_
        exact ih (i + 1) (by omega) (fun a ha => by
          by_cases q : a = i
          · rw [q]; exact (fun q => by have := (grF_j hj8 hij8 (by omega)).mp q; rw [jB_0.mp c26] at this; cases this)
          · exact hv a (by omega))
      · refine s_iconst (v := 1) dX3_hasTooGreat_29 (by decide) ?_
        exact s_iret rfl (rfl) dX3_hasTooGreat_30 (Nat.le_of_ble_eq_true rfl) (Nat.le_of_ble_eq_true rfl) (⟨rfl, rfl, true, rfl, fun _ => Or.inl ⟨i, by omega, (grF_j hj8 hij8 (by omega)).mpr (Bool.of_not_eq_false (fun q => c26 (jB_0.mpr q)))⟩, fun _ => rfl⟩)
    · refine s_callVN (As := []) (rest := []) (n := 0) (kd := 3) (ix := 120) (fun l hl => c_X0_isTooGreat G l hl ad M 120 (kZ κ).1 (kZ κ).2.1 (kZ κ).2.2.1 (kZ κ).2.2.2.1 (kZ κ).2.2.2.2 h.2.2.2.2.2.2.1) gX3_hasTooGreat_X0_isTooGreat_n151 rfl (host := "SmallChecker") (by decide +kernel) (by decide +kernel) (by decide +kernel) (by decide +kernel) (by decide +kernel) (h.2.2.2.2.2.2.1).1 rfl rfl ⟨(Nat.le_of_ble_eq_true rfl), (Nat.le_of_ble_eq_true rfl)⟩ ⟨(Nat.le_of_ble_eq_true rfl), (Nat.le_of_ble_eq_true rfl)⟩ (Nat.le_of_ble_eq_true rfl) dX3_hasTooGreat_23 rfl (fun r9 ad9 M9 h9 => ?_)
      obtain ⟨rfl, rfl, rfl⟩ := h9
      refine s_if_eq 31 dX3_hasTooGreat_26 (by decide) (fun c26 => ?_) (fun c26 => ?_)
      · refine s_iinc (v := nI (i + 1)) dX3_hasTooGreat_31 rfl (nI_1 i) rfl ?_
        refine s_lv (lv' := [some (.ref (ad 0 0)), some (.ref (ad 6 ri)), some (.int (nI (tfN kd))), some (.int (nI (i + 1)))]) rfl ?_
        refine s_goto 9 dX3_hasTooGreat_34 (by decide) ?_
        exact ih (i + 1) (by omega) (fun a ha => by
          by_cases q : a = i
          · rw [q]; exact (grF_no hn8)
          · exact hv a (by omega))
      · refine s_iconst (v := 1) dX3_hasTooGreat_29 (by decide) ?_
        exact s_iret rfl (rfl) dX3_hasTooGreat_30 (Nat.le_of_ble_eq_true rfl) (Nat.le_of_ble_eq_true rfl) ((absurd (jB_0.mpr hz) c26))
set_option maxHeartbeats 4000000 in
set_option maxRecDepth 100000 in
theorem c_X3_hasTooGreat (G : sG) (l : Launch) (hl : l.stackTraces = false) (ad : sAd) (M : sM) (κ : sCk) (h : hCk G ad M κ) (ht : kTc κ ≤ kMd κ) (hm : kMd κ ≤ 120) (hr : kRc κ ≤ 60) (ri : Nat) (hri : ri < 60) (kd : Nat) (hkd : kd < 7) (hk : kRw κ ri 0 = nI kd) (hz : (kZ κ).2.2.1 = false) : sMet G l yX3_hasTooGreat mX3_hasTooGreat [.ref (ad 0 0), .ref (ad 6 ri)] ad M (fun r ad' M' => ad = ad' ∧ M = M' ∧ ∃ z : Bool, r = some (.int (jB z)) ∧ (z = true ↔ (∃ a, a < tfN kd ∧ grF κ (kRw κ ri (1 + a))) ∨ grF κ (kRw κ ri 4))) (fun _ _ _ => False) := by
  refine sMet.of hl (by decide +kernel) rfl rfl rfl rfl (Nat.le_of_ble_eq_true rfl) (fun X => ?_)
  refine s_lv (lv' := [some (.ref (ad 0 0)), some (.ref (ad 6 ri)), none, none]) rfl ?_
  refine s_aload_n dX3_hasTooGreat_0 rfl ?_
  refine s_iconst (v := 0) dX3_hasTooGreat_1 (by decide) ?_
  refine s_iald (kd := 6) (ix := ri) (n := 8) (f := kRw κ ri) (j := 0) ((h.2.2.2.1 ri hri)) (by decide) (by decide) (by decide) dX3_hasTooGreat_2 ?_
  refine s_eqi (y := nI kd) (hk) ?_
  refine s_callS (As := [.int (nI kd)]) (rest := []) (n := 1) (fun l hl => c_X3_treeFieldsOf G l hl ad M (nI kd)) gX3_hasTooGreat_X3_treeFieldsOf rfl (by decide +kernel) rfl ⟨(Nat.le_of_ble_eq_true rfl), (Nat.le_of_ble_eq_true rfl)⟩ ⟨(Nat.le_of_ble_eq_true rfl), (Nat.le_of_ble_eq_true rfl)⟩ (Nat.le_of_ble_eq_true rfl) dX3_hasTooGreat_3 rfl (fun r9 ad9 M9 h9 => ?_)
  obtain ⟨rfl, rfl, h9⟩ := h9
  obtain rfl : r9 = some (.int (nI (tfN kd))) := by
    rcases h9 with ⟨j, hj, hij, e⟩ | ⟨hn, e⟩
    · rw [e, (nI_eq (a := kd) (b := j) (by omega) (by omega)).mp hij]
    · exact absurd rfl (hn kd hkd)
  refine s_istore_n dX3_hasTooGreat_6 rfl rfl ?_
  refine s_lv (lv' := [some (.ref (ad 0 0)), some (.ref (ad 6 ri)), some (.int (nI (tfN kd))), none]) rfl ?_
  refine s_iconst (v := 0) dX3_hasTooGreat_7 (by decide) ?_
  refine s_istore_n dX3_hasTooGreat_8 rfl rfl ?_
  refine s_lv (lv' := [some (.ref (ad 0 0)), some (.ref (ad 6 ri)), some (.int (nI (tfN kd))), some (.int 0)]) rfl ?_
  exact l_X3_hasTooGreat X G ad M κ h ht hm hr ri hri kd hkd hk hz (tfN kd) 0 (by omega) (fun a ha => by omega)
