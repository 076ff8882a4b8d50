abbrev mX0_isTooGreat : sMeth := (cX0_isTooGreat, 1, RX0, wsX0_isTooGreat, { frames := 0, cells := 0, slots := 0, locals := 0 }, (some .boolean), "isTooGreat", [])
theorem in_X0_isTooGreat_X0 : ∀ w ∈ wsX00, w ∈ wsX0_isTooGreat := by decide +kernel
set_option maxHeartbeats 4000000 in
set_option maxRecDepth 100000 in
theorem c_X0_isTooGreat (G : sG) (l : Launch) (hl : l.stackTraces = false) (ad : sAd) (M : sM) (p n : Nat) (dg : Int32) (g : Bool) (ks ns : Nat → Int32) (h : hPo G ad M p (n, dg, g, ks, ns)) : sMet G l yX0_isTooGreat mX0_isTooGreat [.ref (ad 3 p)] ad M (fun r ad' M' => ad = ad' ∧ M = M' ∧ r = some (.int (jB g))) (fun _ _ _ => False) := by
  refine sMet.of hl (by decide +kernel) rfl rfl rfl rfl (Nat.le_of_ble_eq_true rfl) (fun X => ?_)
  refine s_lv (lv' := [some (.ref (ad 3 p))]) rfl ?_
  refine s_aload_n dX0_isTooGreat_0 rfl ?_
  refine s_get (kd := 3) (ix := p) (ci := 1) (fs := [.ref (ad 4 p), .ref (ad 5 p), .int (nI n), .int dg, .int (jB g)])  h.1 rfl in_X0_isTooGreat_X0 4 (by decide) (by decide +kernel) rfl rfl dX0_isTooGreat_1 ?_
  exact s_iret rfl (jB_nar g) dX0_isTooGreat_4 (Nat.le_of_ble_eq_true rfl) (Nat.le_of_ble_eq_true rfl) (⟨rfl, rfl, rfl⟩)
abbrev mX0_becomeZero : sMeth := (cX0_becomeZero, 1, RX0, wsX0_becomeZero, { frames := 0, cells := 0, slots := 0, locals := 0 }, none, "becomeZero", [])
theorem in_X0_becomeZero_X0 : ∀ w ∈ wsX00, w ∈ wsX0_becomeZero := by decide +kernel
set_option maxHeartbeats 4000000 in
set_option maxRecDepth 100000 in
theorem c_X0_becomeZero (G : sG) (l : Launch) (hl : l.stackTraces = false) (ad : sAd) (M : sM) (p n : Nat) (dg : Int32) (g : Bool) (ks ns : Nat → Int32) (h : hPo G ad M p (n, dg, g, ks, ns)) : sMet G l yX0_becomeZero mX0_becomeZero [.ref (ad 3 p)] ad M (fun r ad' M' => ad = ad' ∧ r = none ∧ hPo G ad M' p (jZero (n, dg, g, ks, ns)) ∧ sSame (pPo p) M M') (fun _ _ _ => False) := by
  refine sMet.of hl (by decide +kernel) rfl rfl rfl rfl (Nat.le_of_ble_eq_true rfl) (fun X => ?_)
  refine s_lv (lv' := [some (.ref (ad 3 p))]) rfl ?_
  refine s_aload_n dX0_becomeZero_0 rfl ?_
  refine s_iconst (v := 0) dX0_becomeZero_1 (by decide) ?_
  refine s_put (kd := 3) (ix := p) (ci := 1) (v := .int 0) (ty := tyX0 2) (fs := [.ref (ad 4 p), .ref (ad 5 p), .int (nI n), .int dg, .int (jB g)])  tyX0 tyX0_ok nmX0 h.1 rfl in_X0_becomeZero_X0 2 (by decide) (by decide +kernel) rfl rfl (tyX0_ok 2 (by decide)) (rfl) (rfl) (Nat.le_of_ble_eq_true rfl) dX0_becomeZero_2 ?_
  refine s_M (M' := (sset M 3 p (.inr (1, [.ref (ad 4 p), .ref (ad 5 p), .int 0, .int dg, .int (jB g)])))) rfl ?_
  refine s_aload_n dX0_becomeZero_5 rfl ?_
  refine s_iconst (v := 0) dX0_becomeZero_6 (by decide) ?_
  refine s_put (kd := 3) (ix := p) (ci := 1) (v := .int 0) (ty := tyX0 3) (fs := [.ref (ad 4 p), .ref (ad 5 p), .int 0, .int dg, .int (jB g)])  tyX0 tyX0_ok nmX0 (sset_self _ _ _ _) rfl in_X0_becomeZero_X0 3 (by decide) (by decide +kernel) rfl rfl (tyX0_ok 3 (by decide)) (rfl) (rfl) (Nat.le_of_ble_eq_true rfl) dX0_becomeZero_7 ?_
  refine s_M (M' := (sset (sset M 3 p (.inr (1, [.ref (ad 4 p), .ref (ad 5 p), .int 0, .int dg, .int (jB g)]))) 3 p (.inr (1, [.ref (ad 4 p), .ref (ad 5 p), .int 0, .int 0, .int (jB g)])))) rfl ?_
  refine s_aload_n dX0_becomeZero_10 rfl ?_
  refine s_iconst (v := 0) dX0_becomeZero_11 (by decide) ?_
  refine s_put (kd := 3) (ix := p) (ci := 1) (v := .int 0) (ty := tyX0 4) (fs := [.ref (ad 4 p), .ref (ad 5 p), .int 0, .int 0, .int (jB g)])  tyX0 tyX0_ok nmX0 (sset_self _ _ _ _) rfl in_X0_becomeZero_X0 4 (by decide) (by decide +kernel) rfl rfl (tyX0_ok 4 (by decide)) (rfl) (rfl) (Nat.le_of_ble_eq_true rfl) dX0_becomeZero_12 ?_
  refine s_M (M' := (sset (sset (sset M 3 p (.inr (1, [.ref (ad 4 p), .ref (ad 5 p), .int 0, .int dg, .int (jB g)]))) 3 p (.inr (1, [.ref (ad 4 p), .ref (ad 5 p), .int 0, .int 0, .int (jB g)]))) 3 p (.inr (1, [.ref (ad 4 p), .ref (ad 5 p), .int 0, .int 0, .int 0])))) rfl ?_
  exact s_vret rfl dX0_becomeZero_15 (Nat.le_of_ble_eq_true rfl) (Nat.le_of_ble_eq_true rfl) (⟨rfl, rfl, ⟨(sset_self _ _ _ _), ((sset_k _ _ (by decide)).trans ((sset_k _ _ (by decide)).trans ((sset_k _ _ (by decide)).trans (h.2.1)))), ((sset_k _ _ (by decide)).trans ((sset_k _ _ (by decide)).trans ((sset_k _ _ (by decide)).trans (h.2.2))))⟩, (((sSame.rfl).set (by simp [pPo]) _).set (by simp [pPo]) _).set (by simp [pPo]) _⟩)
abbrev mX0_becomeTooGreat : sMeth := (cX0_becomeTooGreat, 1, RX0, wsX0_becomeTooGreat, { frames := 0, cells := 0, slots := 0, locals := 0 }, none, "becomeTooGreat", [])
theorem in_X0_becomeTooGreat_X0 : ∀ w ∈ wsX00, w ∈ wsX0_becomeTooGreat := by decide +kernel
set_option maxHeartbeats 4000000 in
set_option maxRecDepth 100000 in
theorem c_X0_becomeTooGreat (G : sG) (l : Launch) (hl : l.stackTraces = false) (ad : sAd) (M : sM) (p n : Nat) (dg : Int32) (g : Bool) (ks ns : Nat → Int32) (h : hPo G ad M p (n, dg, g, ks, ns)) : sMet G l yX0_becomeTooGreat mX0_becomeTooGreat [.ref (ad 3 p)] ad M (fun r ad' M' => ad = ad' ∧ r = none ∧ hPo G ad M' p (jGreat (n, dg, g, ks, ns)) ∧ sSame (pPo p) M M') (fun _ _ _ => False) := by
  refine sMet.of hl (by decide +kernel) rfl rfl rfl rfl (Nat.le_of_ble_eq_true rfl) (fun X => ?_)
  refine s_lv (lv' := [some (.ref (ad 3 p))]) rfl ?_
  refine s_aload_n dX0_becomeTooGreat_0 rfl ?_
  refine s_iconst (v := 0) dX0_becomeTooGreat_1 (by decide) ?_
  refine s_put (kd := 3) (ix := p) (ci := 1) (v := .int 0) (ty := tyX0 2) (fs := [.ref (ad 4 p), .ref (ad 5 p), .int (nI n), .int dg, .int (jB g)])  tyX0 tyX0_ok nmX0 h.1 rfl in_X0_becomeTooGreat_X0 2 (by decide) (by decide +kernel) rfl rfl (tyX0_ok 2 (by decide)) (rfl) (rfl) (Nat.le_of_ble_eq_true rfl) dX0_becomeTooGreat_2 ?_
  refine s_M (M' := (sset M 3 p (.inr (1, [.ref (ad 4 p), .ref (ad 5 p), .int 0, .int dg, .int (jB g)])))) rfl ?_
  refine s_aload_n dX0_becomeTooGreat_5 rfl ?_
  refine s_iconst (v := 0) dX0_becomeTooGreat_6 (by decide) ?_
  refine s_put (kd := 3) (ix := p) (ci := 1) (v := .int 0) (ty := tyX0 3) (fs := [.ref (ad 4 p), .ref (ad 5 p), .int 0, .int dg, .int (jB g)])  tyX0 tyX0_ok nmX0 (sset_self _ _ _ _) rfl in_X0_becomeTooGreat_X0 3 (by decide) (by decide +kernel) rfl rfl (tyX0_ok 3 (by decide)) (rfl) (rfl) (Nat.le_of_ble_eq_true rfl) dX0_becomeTooGreat_7 ?_
  refine s_M (M' := (sset (sset M 3 p (.inr (1, [.ref (ad 4 p), .ref (ad 5 p), .int 0, .int dg, .int (jB g)]))) 3 p (.inr (1, [.ref (ad 4 p), .ref (ad 5 p), .int 0, .int 0, .int (jB g)])))) rfl ?_
  refine s_aload_n dX0_becomeTooGreat_10 rfl ?_
  refine s_iconst (v := 1) dX0_becomeTooGreat_11 (by decide) ?_
  refine s_put (kd := 3) (ix := p) (ci := 1) (v := .int 1) (ty := tyX0 4) (fs := [.ref (ad 4 p), .ref (ad 5 p), .int 0, .int 0, .int (jB g)])  tyX0 tyX0_ok nmX0 (sset_self _ _ _ _) rfl in_X0_becomeTooGreat_X0 4 (by decide) (by decide +kernel) rfl rfl (tyX0_ok 4 (by decide)) (rfl) (rfl) (Nat.le_of_ble_eq_true rfl) dX0_becomeTooGreat_12 ?_
  refine s_M (M' := (sset (sset (sset M 3 p (.inr (1, [.ref (ad 4 p), .ref (ad 5 p), .int 0, .int dg, .int (jB g)]))) 3 p (.inr (1, [.ref (ad 4 p), .ref (ad 5 p), .int 0, .int 0, .int (jB g)]))) 3 p (.inr (1, [.ref (ad 4 p), .ref (ad 5 p), .int 0, .int 0, .int 1])))) rfl ?_
  exact s_vret rfl dX0_becomeTooGreat_15 (Nat.le_of_ble_eq_true rfl) (Nat.le_of_ble_eq_true rfl) (⟨rfl, rfl, ⟨(sset_self _ _ _ _), ((sset_k _ _ (by decide)).trans ((sset_k _ _ (by decide)).trans ((sset_k _ _ (by decide)).trans (h.2.1)))), ((sset_k _ _ (by decide)).trans ((sset_k _ _ (by decide)).trans ((sset_k _ _ (by decide)).trans (h.2.2))))⟩, (((sSame.rfl).set (by simp [pPo]) _).set (by simp [pPo]) _).set (by simp [pPo]) _⟩)
def jAppend (π : sPol) (key : Int32) (v : Int64) : sPol := if π.2.2.1 = true ∨ v = 0 then π else if 40 ≤ π.1 ∨ v < -1000000 ∨ 1000000 < v then jGreat π else (π.1 + 1, (if π.2.1 < jDegree key then jDegree key else π.2.1), false, upd π.2.2.2.1 π.1 key, upd π.2.2.2.2 π.1 v.toInt32)
abbrev mX0_append : sMeth := (cX0_append, 4, RX0, wsX0_append, { frames := 2, cells := 0, slots := 0, locals := 41 }, none, "append", [])
theorem in_X0_append_X0 : ∀ w ∈ wsX00, w ∈ wsX0_append := by decide +kernel
set_option maxHeartbeats 4000000 in
set_option maxRecDepth 100000 in
theorem c_X0_append (G : sG) (l : Launch) (hl : l.stackTraces = false) (ad : sAd) (M : sM) (p n : Nat) (dg : Int32) (g : Bool) (ks ns : Nat → Int32) (h : hPo G ad M p (n, dg, g, ks, ns)) (hn : n ≤ 40) (key : Int32) (v : Int64) : sMet G l yX0_append mX0_append [.ref (ad 3 p), .int key, .long v] ad M (fun r ad' M' => ad = ad' ∧ r = none ∧ hPo G ad M' p (jAppend (n, dg, g, ks, ns) key v) ∧ sSame (pPo p) M M') (fun _ _ _ => False) := by
  refine sMet.of hl (by decide +kernel) rfl rfl rfl rfl (Nat.le_of_ble_eq_true rfl) (fun X => ?_)
  refine s_lv (lv' := [some (.ref (ad 3 p)), some (.int key), some (.long v), none]) rfl ?_
  refine s_aload_n dX0_append_0 rfl ?_
  refine s_get (kd := 3) (ix := p) (ci := 1) (fs := [.ref (ad 4 p), .ref (ad 5 p), .int (nI n), .int dg, .int (jB g)])  h.1 rfl in_X0_append_X0 4 (by decide) (by decide +kernel) rfl rfl dX0_append_1 ?_
  refine s_if_ne 13 dX0_append_4 (by decide) (fun c4 => ?_) (fun c4 => ?_)
  · exact s_vret rfl dX0_append_13 (Nat.le_of_ble_eq_true rfl) (Nat.le_of_ble_eq_true rfl) (⟨rfl, rfl, by rw [show jAppend (n, dg, g, ks, ns) key v = (n, dg, g, ks, ns) from if_pos (Or.inl (by cases g; exact absurd rfl c4; rfl))]; exact h, sSame.rfl⟩)
  · refine s_lload_n dX0_append_7 rfl ?_
    refine s_lconst (v := 0) dX0_append_8 (by decide) ?_
    refine s_lcmp dX0_append_9 ?_
    refine s_if_ne 14 dX0_append_10 (by decide) (fun c10 => ?_) (fun c10 => ?_)
    · refine s_aload_n dX0_append_14 rfl ?_
      refine s_get (kd := 3) (ix := p) (ci := 1) (fs := [.ref (ad 4 p), .ref (ad 5 p), .int (nI n), .int dg, .int (jB g)])  h.1 rfl in_X0_append_X0 2 (by decide) (by decide +kernel) rfl rfl dX0_append_15 ?_
      refine s_bipush (v := 40) dX0_append_18 (by decide) ?_
      refine s_icmp_ge 39 dX0_append_20 (by decide) (fun c20 => ?_) (fun c20 => ?_)
      · refine s_aload_n dX0_append_39 rfl ?_
        refine s_callV (As := []) (rest := []) (n := 0) (kd := 3) (ix := p) (fun l hl => c_X0_becomeTooGreat G l hl ad M p n dg g ks ns h) gX0_append_X0_becomeTooGreat rfl (by decide +kernel) h.1 rfl rfl ⟨(Nat.le_of_ble_eq_true rfl), (Nat.le_of_ble_eq_true rfl)⟩ ⟨(Nat.le_of_ble_eq_true rfl), (Nat.le_of_ble_eq_true rfl)⟩ (Nat.le_of_ble_eq_true rfl) dX0_append_40 rfl (fun r9 ad9 M9 h9 => ?_)
        obtain ⟨rfl, rfl, h9⟩ := h9
        exact s_vret rfl dX0_append_43 (Nat.le_of_ble_eq_true rfl) (Nat.le_of_ble_eq_true rfl) (by rw [show jAppend (n, dg, g, ks, ns) key v = jGreat (n, dg, g, ks, ns) from (if_neg (fun q => q.elim (fun z => by rw [jB_0.mp c4] at z; cases z) (fun z => c10 ((lg_cmp_eq v 0).mpr z)))).trans (if_pos (Or.inl ((nI_leI (a := 40) (by decide) (by omega)).mp c20)))]; exact ⟨rfl, rfl, h9⟩)
      · refine s_lload_n dX0_append_23 rfl ?_
        refine s_ldc2 (v := -1000000) dX0_append_24 (by decide +kernel) ?_
        refine s_lcmp dX0_append_27 ?_
        refine s_if_lt 39 dX0_append_28 (by decide) (fun c28 => ?_) (fun c28 => ?_)
        · refine s_aload_n dX0_append_39 rfl ?_
          refine s_callV (As := []) (rest := []) (n := 0) (kd := 3) (ix := p) (fun l hl => c_X0_becomeTooGreat G l hl ad M p n dg g ks ns h) gX0_append_X0_becomeTooGreat rfl (by decide +kernel) h.1 rfl rfl ⟨(Nat.le_of_ble_eq_true rfl), (Nat.le_of_ble_eq_true rfl)⟩ ⟨(Nat.le_of_ble_eq_true rfl), (Nat.le_of_ble_eq_true rfl)⟩ (Nat.le_of_ble_eq_true rfl) dX0_append_40 rfl (fun r9 ad9 M9 h9 => ?_)
          obtain ⟨rfl, rfl, h9⟩ := h9
          exact s_vret rfl dX0_append_43 (Nat.le_of_ble_eq_true rfl) (Nat.le_of_ble_eq_true rfl) (by rw [show jAppend (n, dg, g, ks, ns) key v = jGreat (n, dg, g, ks, ns) from (if_neg (fun q => q.elim (fun z => by rw [jB_0.mp c4] at z; cases z) (fun z => c10 ((lg_cmp_eq v 0).mpr z)))).trans (if_pos (Or.inr (Or.inl ((lg_cmp_lt v (-1000000)).mp c28))))]; exact ⟨rfl, rfl, h9⟩)
        · refine s_lload_n dX0_append_31 rfl ?_
          refine s_ldc2 (v := 1000000) dX0_append_32 (by decide +kernel) ?_
          refine s_lcmp dX0_append_35 ?_
          refine s_if_le 44 dX0_append_36 (by decide) (fun c36 => ?_) (fun c36 => ?_)
          · refine s_aload_n dX0_append_44 rfl ?_
            refine s_get (kd := 3) (ix := p) (ci := 1) (fs := [.ref (ad 4 p), .ref (ad 5 p), .int (nI n), .int dg, .int (jB g)])  h.1 rfl in_X0_append_X0 0 (by decide) (by decide +kernel) rfl rfl dX0_append_45 ?_
            refine s_aload_n dX0_append_48 rfl ?_
            refine s_get (kd := 3) (ix := p) (ci := 1) (fs := [.ref (ad 4 p), .ref (ad 5 p), .int (nI n), .int dg, .int (jB g)])  h.1 rfl in_X0_append_X0 2 (by decide) (by decide +kernel) rfl rfl dX0_append_49 ?_
            refine s_iload_n dX0_append_52 rfl ?_
            refine s_iast (kd := 4) (ix := p) (n := 40) (f := ks) (j := n) (x := key) h.2.1  (rfl) (by have := mt (nI_leI (a := 40) (b := n) (by decide) (by omega)).mpr c20; omega) (by decide) dX0_append_53 ?_
            refine s_aload_n dX0_append_54 rfl ?_
            refine s_get (kd := 3) (ix := p) (ci := 1) (fs := [.ref (ad 4 p), .ref (ad 5 p), .int (nI n), .int dg, .int (jB g)])  ((sset_k _ _ (by decide)).trans (h.1)) rfl in_X0_append_X0 1 (by decide) (by decide +kernel) rfl rfl dX0_append_55 ?_
            refine s_aload_n dX0_append_58 rfl ?_
            refine s_get (kd := 3) (ix := p) (ci := 1) (fs := [.ref (ad 4 p), .ref (ad 5 p), .int (nI n), .int dg, .int (jB g)])  ((sset_k _ _ (by decide)).trans (h.1)) rfl in_X0_append_X0 2 (by decide) (by decide +kernel) rfl rfl dX0_append_59 ?_
            refine s_lload_n dX0_append_62 rfl ?_
            refine s_l2i dX0_append_63 ?_
            refine s_iast (kd := 5) (ix := p) (n := 40) (f := ns) (j := n) (x := v.toInt32) ((sset_k _ _ (by decide)).trans (h.2.2))  (rfl) (by have := mt (nI_leI (a := 40) (b := n) (by decide) (by omega)).mpr c20; omega) (by decide) dX0_append_64 ?_
            refine s_aload_n dX0_append_65 rfl ?_
            refine s_dup dX0_append_66 rfl ?_
            refine s_get (kd := 3) (ix := p) (ci := 1) (fs := [.ref (ad 4 p), .ref (ad 5 p), .int (nI n), .int dg, .int (jB g)])  ((sset_k _ _ (by decide)).trans ((sset_k _ _ (by decide)).trans (h.1))) rfl in_X0_append_X0 2 (by decide) (by decide +kernel) rfl rfl dX0_append_67 ?_
            refine s_iconst (v := 1) dX0_append_70 (by decide) ?_
            refine s_iadd dX0_append_71 ?_
            refine s_eqi (y := nI (n + 1)) (nI_1 n) ?_
            refine s_put (kd := 3) (ix := p) (ci := 1) (v := .int (nI (n + 1))) (ty := tyX0 2) (fs := [.ref (ad 4 p), .ref (ad 5 p), .int (nI n), .int dg, .int (jB g)])  tyX0 tyX0_ok nmX0 ((sset_k _ _ (by decide)).trans ((sset_k _ _ (by decide)).trans (h.1))) rfl in_X0_append_X0 2 (by decide) (by decide +kernel) rfl rfl (tyX0_ok 2 (by decide)) (rfl) (rfl) (Nat.le_of_ble_eq_true rfl) dX0_append_72 ?_
            refine s_M (M' := (sset (sset (sset M 4 p (.inl (gI G, 40, .inl (upd ks n key)))) 5 p (.inl (gI G, 40, .inl (upd ns n v.toInt32)))) 3 p (.inr (1, [.ref (ad 4 p), .ref (ad 5 p), .int (nI (n + 1)), .int dg, .int (jB g)])))) rfl ?_
            refine s_aload_n dX0_append_75 rfl ?_
            refine s_aload_n dX0_append_76 rfl ?_
            refine s_get (kd := 3) (ix := p) (ci := 1) (fs := [.ref (ad 4 p), .ref (ad 5 p), .int (nI (n + 1)), .int dg, .int (jB g)])  (sset_self _ _ _ _) rfl in_X0_append_X0 3 (by decide) (by decide +kernel) rfl rfl dX0_append_77 ?_
            refine s_iload_n dX0_append_80 rfl ?_
            refine s_callSN (As := [.int key]) (rest := [.int dg, .ref (ad 3 p)]) (n := 1) (fun l hl => c_X3_degreeOf G l hl ad (sset (sset (sset M 4 p (.inl (gI G, 40, .inl (upd ks n key)))) 5 p (.inl (gI G, 40, .inl (upd ns n v.toInt32)))) 3 p (.inr (1, [.ref (ad 4 p), .ref (ad 5 p), .int (nI (n + 1)), .int dg, .int (jB g)]))) key) gX0_append_X3_degreeOf_n36 rfl (host := "SmallChecker") (by decide +kernel) (by decide +kernel) (by decide +kernel) (by decide +kernel) rfl ⟨(Nat.le_of_ble_eq_true rfl), (Nat.le_of_ble_eq_true rfl)⟩ ⟨(Nat.le_of_ble_eq_true rfl), (Nat.le_of_ble_eq_true rfl)⟩ (Nat.le_of_ble_eq_true rfl) dX0_append_81 rfl (fun r9 ad9 M9 h9 => ?_)
            obtain ⟨rfl, rfl, rfl⟩ := h9
            refine s_mmax (by decide +kernel) (by decide +kernel) (by decide +kernel) (by decide +kernel) (Nat.le_of_ble_eq_true rfl) (Nat.le_of_ble_eq_true rfl) (Nat.le_of_ble_eq_true rfl) (Nat.le_of_ble_eq_true rfl) dX0_append_84 ?_
            refine s_put (kd := 3) (ix := p) (ci := 1) (v := .int (if dg < jDegree key then jDegree key else dg)) (ty := tyX0 3) (fs := [.ref (ad 4 p), .ref (ad 5 p), .int (nI (n + 1)), .int dg, .int (jB g)])  tyX0 tyX0_ok nmX0 (sset_self _ _ _ _) rfl in_X0_append_X0 3 (by decide) (by decide +kernel) rfl rfl (tyX0_ok 3 (by decide)) (rfl) (rfl) (Nat.le_of_ble_eq_true rfl) dX0_append_87 ?_
            refine s_M (M' := (sset (sset (sset (sset M 4 p (.inl (gI G, 40, .inl (upd ks n key)))) 5 p (.inl (gI G, 40, .inl (upd ns n v.toInt32)))) 3 p (.inr (1, [.ref (ad 4 p), .ref (ad 5 p), .int (nI (n + 1)), .int dg, .int (jB g)]))) 3 p (.inr (1, [.ref (ad 4 p), .ref (ad 5 p), .int (nI (n + 1)), .int (if dg < jDegree key then jDegree key else dg), .int (jB g)])))) rfl ?_
            exact s_vret rfl dX0_append_90 (Nat.le_of_ble_eq_true rfl) (Nat.le_of_ble_eq_true rfl) (by rw [show jAppend (n, dg, g, ks, ns) key v = (n + 1, (if dg < jDegree key then jDegree key else dg), false, upd ks n key, upd ns n v.toInt32) from (if_neg (fun q => q.elim (fun z => by rw [jB_0.mp c4] at z; cases z) (fun z => c10 ((lg_cmp_eq v 0).mpr z)))).trans (if_neg (fun q => q.elim (fun z => c20 ((nI_leI (a := 40) (by decide) (by omega)).mpr z)) (fun q => q.elim (fun z => c28 ((lg_cmp_lt v (-1000000)).mpr z)) (fun z => (Int64.not_le.mpr z) ((lg_cmp_le v 1000000).mp c36)))))]; exact ⟨rfl, rfl, ⟨(by rw [jB_0.mp c4] at *; exact (sset_self _ _ _ _)), ((sset_k _ _ (by decide)).trans ((sset_k _ _ (by decide)).trans ((sset_k _ _ (by decide)).trans (sset_self _ _ _ _)))), ((sset_k _ _ (by decide)).trans ((sset_k _ _ (by decide)).trans (sset_self _ _ _ _)))⟩, ((((sSame.rfl).set (by simp [pPo]) _).set (by simp [pPo]) _).set (by simp [pPo]) _).set (by simp [pPo]) _⟩)
          · refine s_aload_n dX0_append_39 rfl ?_
            refine s_callV (As := []) (rest := []) (n := 0) (kd := 3) (ix := p) (fun l hl => c_X0_becomeTooGreat G l hl ad M p n dg g ks ns h) gX0_append_X0_becomeTooGreat rfl (by decide +kernel) h.1 rfl rfl ⟨(Nat.le_of_ble_eq_true rfl), (Nat.le_of_ble_eq_true rfl)⟩ ⟨(Nat.le_of_ble_eq_true rfl), (Nat.le_of_ble_eq_true rfl)⟩ (Nat.le_of_ble_eq_true rfl) dX0_append_40 rfl (fun r9 ad9 M9 h9 => ?_)
            obtain ⟨rfl, rfl, h9⟩ := h9
            exact s_vret rfl dX0_append_43 (Nat.le_of_ble_eq_true rfl) (Nat.le_of_ble_eq_true rfl) (by rw [show jAppend (n, dg, g, ks, ns) key v = jGreat (n, dg, g, ks, ns) from (if_neg (fun q => q.elim (fun z => by rw [jB_0.mp c4] at z; cases z) (fun z => c10 ((lg_cmp_eq v 0).mpr z)))).trans (if_pos (Or.inr (Or.inr (Int64.not_le.mp (fun z => c36 ((lg_cmp_le v 1000000).mpr z))))))]; exact ⟨rfl, rfl, h9⟩)
    · exact s_vret rfl dX0_append_13 (Nat.le_of_ble_eq_true rfl) (Nat.le_of_ble_eq_true rfl) (⟨rfl, rfl, by rw [show jAppend (n, dg, g, ks, ns) key v = (n, dg, g, ks, ns) from if_pos (Or.inr ((lg_cmp_eq v 0).mp c10))]; exact h, sSame.rfl⟩)
