/-! modelOf, keep -/
def trp (t : Int32 × Int32 × Int32 × Nat × Nat) : Int32 × Int32 × Int32 := (t.1, t.2.1, t.2.2.1)
theorem trp_iff {a b : Int32 × Int32 × Int32 × Nat × Nat} : trp a = trp b ↔ a.1 = b.1 ∧ a.2.1 = b.2.1 ∧ a.2.2.1 = b.2.2.1 := by
  unfold trp
  rw [Prod.mk.injEq, Prod.mk.injEq]
def mdOf (κ : sCk) (p : Int32 × Int32 × Int32) (m : Nat) : Prop := m ≤ kTc κ ∧ (m < kTc κ → trp (kTr κ m) = p) ∧ ∀ j, j < m → trp (kTr κ j) ≠ p
theorem tat_j {ad : sAd} {κ : sCk} {x : Int32} {r : Option Value} {j : Nat} (hj : j < kTc κ ∧ x = nI j) (hb : kTc κ < 2 ^ 31) (h : (∃ i, i < kTc κ ∧ x = nI i ∧ r = some (.ref (ad 2 i))) ∨ ((∀ i, i < kTc κ → x ≠ nI i) ∧ r = some .null)) : r = some (.ref (ad 2 j)) := by
  rcases h with ⟨i, hi, e, q⟩ | ⟨q, -⟩
  · rw [q, (nI_eq (a := j) (b := i) (by omega) (by omega)).mp (hj.2.symm.trans e)]
  · exact absurd hj.2 (q j hj.1)
abbrev mX3_modelOf : sMeth := (cX3_modelOf, 4, RX3, wsX3_modelOf, { frames := 1, cells := 0, slots := 0, locals := 21 }, (some .int), "modelOf", [])
theorem in_X3_modelOf_X2 : ∀ w ∈ wsX20, w ∈ wsX3_modelOf := by decide +kernel
theorem in_X3_modelOf_X3 : ∀ w ∈ wsX30, w ∈ wsX3_modelOf := by decide +kernel
set_option maxHeartbeats 4000000 in
set_option maxRecDepth 100000 in
theorem l_X3_modelOf (X : sMach) (G : sG) (ad : sAd) (M : sM) (κ : sCk) (h : hCk G ad M κ) (ht : kTc κ ≤ kMd κ) (hm : kMd κ ≤ 120) (hr : kRc κ ≤ 60) (t : Nat) (hti : t < kMd κ) (htc : kTc κ ≤ t) : ∀ (k i : Nat) , i + k = kTc κ → (∀ a, a < i → trp (kTr κ a) ≠ trp (kTr κ t)) → sW X G mX3_modelOf (sQ X G mX3_modelOf (fun r ad' M' => ad = ad' ∧ M = M' ∧ ∃ m, r = some (.int (nI m)) ∧ mdOf κ (trp (kTr κ t)) m) (fun _ _ _ => False)) ad M 0 0 [some (.ref (ad 0 0)), some (.ref (ad 2 t)), some (.int (nI i)), none] 2 [] := by
  intro k
  induction k with
  | zero =>
    intro i  hi hv
    refine s_iload_n dX3_modelOf_2 rfl ?_
    refine s_aload_n dX3_modelOf_3 rfl ?_
    refine s_get (kd := 0) (ix := 0) (ci := 4) (fs := [.ref (ad 7 0), .ref (ad 8 0), .ref (ad 1 0), .ref (ad 3 120), .int (nI (kTc κ)), .int (nI (kRc κ))])  h.1 rfl in_X3_modelOf_X3 4 (by decide) (by decide +kernel) rfl rfl dX3_modelOf_4 ?_
    refine s_icmp_ge 61 dX3_modelOf_7 (by decide) (fun c7 => ?_) (fun c7 => absurd (nI_le (by omega) (by omega)) c7)
    refine s_aload_n dX3_modelOf_61 rfl ?_
    refine s_get (kd := 0) (ix := 0) (ci := 4) (fs := [.ref (ad 7 0), .ref (ad 8 0), .ref (ad 1 0), .ref (ad 3 120), .int (nI (kTc κ)), .int (nI (kRc κ))])  h.1 rfl in_X3_modelOf_X3 4 (by decide) (by decide +kernel) rfl rfl dX3_modelOf_62 ?_
    exact s_iret rfl (rfl) dX3_modelOf_65 (Nat.le_of_ble_eq_true rfl) (Nat.le_of_ble_eq_true rfl) (⟨rfl, rfl, kTc κ, rfl, by omega, fun q => absurd q (by omega), fun j hj => hv j (by omega)⟩)
  | succ k ih =>
    intro i  hi hv
    refine s_iload_n dX3_modelOf_2 rfl ?_
    refine s_aload_n dX3_modelOf_3 rfl ?_
    refine s_get (kd := 0) (ix := 0) (ci := 4) (fs := [.ref (ad 7 0), .ref (ad 8 0), .ref (ad 1 0), .ref (ad 3 120), .int (nI (kTc κ)), .int (nI (kRc κ))])  h.1 rfl in_X3_modelOf_X3 4 (by decide) (by decide +kernel) rfl rfl dX3_modelOf_4 ?_
    refine s_icmp_ge 61 dX3_modelOf_7 (by decide) (fun c7 => absurd c7 (nI_ge (by omega) (by omega))) (fun c7 => ?_)
    refine s_aload_n dX3_modelOf_10 rfl ?_
    refine s_iload_n dX3_modelOf_11 rfl ?_
    refine s_callV (As := [.int (nI i)]) (rest := []) (n := 1) (kd := 0) (ix := 0) (fun l hl => c_X3_treeAt G l hl ad M κ h ht hm hr (nI i)) gX3_modelOf_X3_treeAt rfl (by decide +kernel) h.1 rfl rfl ⟨(Nat.le_of_ble_eq_true rfl), (Nat.le_of_ble_eq_true rfl)⟩ ⟨(Nat.le_of_ble_eq_true rfl), (Nat.le_of_ble_eq_true rfl)⟩ (Nat.le_of_ble_eq_true rfl) dX3_modelOf_12 rfl (fun r9 ad9 M9 h9 => ?_)
    obtain ⟨rfl, rfl, h9⟩ := h9
    obtain rfl : r9 = some (.ref (ad 2 i)) := tat_j ⟨by omega, rfl⟩ (by omega) h9
    refine s_astore_n dX3_modelOf_15 rfl rfl ?_
    refine s_lv (lv' := [some (.ref (ad 0 0)), some (.ref (ad 2 t)), some (.int (nI i)), some (.ref (ad 2 i))]) rfl ?_
    refine s_aload_n dX3_modelOf_16 rfl ?_
    refine s_ifnull dX3_modelOf_17 ?_
    refine s_aload_n dX3_modelOf_20 rfl ?_
    refine s_getN (kd := 2) (ix := i) (ci := 3) (fs := [.ref (ad 3 i), .int ((kTr κ i).1), .int ((kTr κ i).2.1), .int ((kTr κ i).2.2.1), .int (nI (kTr κ i).2.2.2.1), .int (nI (kTr κ i).2.2.2.2)]) (host := "SmallChecker") ((h.2.2.2.2.1 i (by omega))) rfl in_X3_modelOf_X2 1 (by decide) (by decide +kernel) rfl rfl dX3_modelOf_21 ?_
    refine s_aload_n dX3_modelOf_24 rfl ?_
    refine s_getN (kd := 2) (ix := t) (ci := 3) (fs := [.ref (ad 3 t), .int ((kTr κ t).1), .int ((kTr κ t).2.1), .int ((kTr κ t).2.2.1), .int (nI (kTr κ t).2.2.2.1), .int (nI (kTr κ t).2.2.2.2)]) (host := "SmallChecker") ((h.2.2.2.2.1 t hti)) rfl in_X3_modelOf_X2 1 (by decide) (by decide +kernel) rfl rfl dX3_modelOf_25 ?_
    refine s_icmp_ne 55 dX3_modelOf_28 (by decide) (fun c28 => ?_) (fun c28 => ?_)
    · refine s_iinc (v := nI (i + 1)) dX3_modelOf_55 rfl (nI_1 i) rfl ?_
      refine s_lv (lv' := [some (.ref (ad 0 0)), some (.ref (ad 2 t)), some (.int (nI (i + 1))), some (.ref (ad 2 i))]) rfl ?_
      refine s_goto 2 dX3_modelOf_58 (by decide) ?_
      refine s_drop 3 ?_
      exact ih (i + 1) (by omega) (fun a ha => by
        by_cases q : a = i
        · rw [q]; exact (fun q => c28 (trp_iff.mp q).1)
        · exact hv a (by omega))
    · refine s_aload_n dX3_modelOf_31 rfl ?_
      refine s_getN (kd := 2) (ix := i) (ci := 3) (fs := [.ref (ad 3 i), .int ((kTr κ i).1), .int ((kTr κ i).2.1), .int ((kTr κ i).2.2.1), .int (nI (kTr κ i).2.2.2.1), .int (nI (kTr κ i).2.2.2.2)]) (host := "SmallChecker") ((h.2.2.2.2.1 i (by omega))) rfl in_X3_modelOf_X2 2 (by decide) (by decide +kernel) rfl rfl dX3_modelOf_32 ?_
      refine s_aload_n dX3_modelOf_35 rfl ?_
      refine s_getN (kd := 2) (ix := t) (ci := 3) (fs := [.ref (ad 3 t), .int ((kTr κ t).1), .int ((kTr κ t).2.1), .int ((kTr κ t).2.2.1), .int (nI (kTr κ t).2.2.2.1), .int (nI (kTr κ t).2.2.2.2)]) (host := "SmallChecker") ((h.2.2.2.2.1 t hti)) rfl in_X3_modelOf_X2 2 (by decide) (by decide +kernel) rfl rfl dX3_modelOf_36 ?_
      refine s_icmp_ne 55 dX3_modelOf_39 (by decide) (fun c39 => ?_) (fun c39 => ?_)
      · refine s_iinc (v := nI (i + 1)) dX3_modelOf_55 rfl (nI_1 i) rfl ?_
        refine s_lv (lv' := [some (.ref (ad 0 0)), some (.ref (ad 2 t)), some (.int (nI (i + 1))), some (.ref (ad 2 i))]) rfl ?_
        refine s_goto 2 dX3_modelOf_58 (by decide) ?_
        refine s_drop 3 ?_
        exact ih (i + 1) (by omega) (fun a ha => by
          by_cases q : a = i
          · rw [q]; exact (fun q => c39 (trp_iff.mp q).2.1)
          · exact hv a (by omega))
      · refine s_aload_n dX3_modelOf_42 rfl ?_
        refine s_getN (kd := 2) (ix := i) (ci := 3) (fs := [.ref (ad 3 i), .int ((kTr κ i).1), .int ((kTr κ i).2.1), .int ((kTr κ i).2.2.1), .int (nI (kTr κ i).2.2.2.1), .int (nI (kTr κ i).2.2.2.2)]) (host := "SmallChecker") ((h.2.2.2.2.1 i (by omega))) rfl in_X3_modelOf_X2 3 (by decide) (by decide +kernel) rfl rfl dX3_modelOf_43 ?_
        refine s_aload_n dX3_modelOf_46 rfl ?_
        refine s_getN (kd := 2) (ix := t) (ci := 3) (fs := [.ref (ad 3 t), .int ((kTr κ t).1), .int ((kTr κ t).2.1), .int ((kTr κ t).2.2.1), .int (nI (kTr κ t).2.2.2.1), .int (nI (kTr κ t).2.2.2.2)]) (host := "SmallChecker") ((h.2.2.2.2.1 t hti)) rfl in_X3_modelOf_X2 3 (by decide) (by decide +kernel) rfl rfl dX3_modelOf_47 ?_
        refine s_icmp_ne 55 dX3_modelOf_50 (by decide) (fun c50 => ?_) (fun c50 => ?_)
        · refine s_iinc (v := nI (i + 1)) dX3_modelOf_55 rfl (nI_1 i) rfl ?_
          refine s_lv (lv' := [some (.ref (ad 0 0)), some (.ref (ad 2 t)), some (.int (nI (i + 1))), some (.ref (ad 2 i))]) rfl ?_
          refine s_goto 2 dX3_modelOf_58 (by decide) ?_
          refine s_drop 3 ?_
          exact ih (i + 1) (by omega) (fun a ha => by
            by_cases q : a = i
            · rw [q]; exact (fun q => c50 (trp_iff.mp q).2.2)
            · exact hv a (by omega))
        · refine s_iload_n dX3_modelOf_53 rfl ?_
          exact s_iret rfl (rfl) dX3_modelOf_54 (Nat.le_of_ble_eq_true rfl) (Nat.le_of_ble_eq_true rfl) (⟨rfl, rfl, i, rfl, by omega, fun _ => trp_iff.mpr ⟨c28, c39, c50⟩, hv⟩)
set_option maxHeartbeats 4000000 in
set_option maxRecDepth 100000 in
theorem c_X3_modelOf (G : sG) (l : Launch) (hl : l.stackTraces = false) (ad : sAd) (M : sM) (κ : sCk) (h : hCk G ad M κ) (ht : kTc κ ≤ kMd κ) (hm : kMd κ ≤ 120) (hr : kRc κ ≤ 60) (t : Nat) (hti : t < kMd κ) (htc : kTc κ ≤ t) : sMet G l yX3_modelOf mX3_modelOf [.ref (ad 0 0), .ref (ad 2 t)] ad M (fun r ad' M' => ad = ad' ∧ M = M' ∧ ∃ m, r = some (.int (nI m)) ∧ mdOf κ (trp (kTr κ t)) m) (fun _ _ _ => False) := by
  refine sMet.of hl (by decide +kernel) rfl rfl rfl rfl (Nat.le_of_ble_eq_true rfl) (fun X => ?_)
  refine s_lv (lv' := [some (.ref (ad 0 0)), some (.ref (ad 2 t)), none, none]) rfl ?_
  refine s_iconst (v := 0) dX3_modelOf_0 (by decide) ?_
  refine s_istore_n dX3_modelOf_1 rfl rfl ?_
  refine s_lv (lv' := [some (.ref (ad 0 0)), some (.ref (ad 2 t)), some (.int 0), none]) rfl ?_
  exact l_X3_modelOf X G ad M κ h ht hm hr t hti htc (kTc κ) 0 (by omega) (fun a ha => absurd ha (by omega))
def updF {α : Type} (f : Nat → α) (i : Nat) (x : α) : Nat → α := fun j => if j = i then x else f j
theorem updF_self {α : Type} (f : Nat → α) (i : Nat) (x : α) : updF f i x i = x := if_pos rfl
theorem updF_ne {α : Type} (f : Nat → α) {i j : Nat} (x : α) (h : j ≠ i) : updF f i x j = f j := if_neg h
def kSetTr (κ : sCk) (t : Nat) (x : Int32 × Int32 × Int32 × Nat × Nat) : sCk := (κ.1, κ.2.1, κ.2.2.1, updF κ.2.2.2.1 t x, κ.2.2.2.2)
def kSetTc (κ : sCk) (n : Nat) : sCk := (n, κ.2)
theorem hCk.tree {G : sG} {ad : sAd} {M : sM} {κ : sCk} (h : hCk G ad M κ) {t : Nat} (ht : t < kMd κ) (hm : kMd κ ≤ 120) (x : Int32 × Int32 × Int32 × Nat × Nat) : hCk G ad (sset M 2 t (cTr ad t x)) (kSetTr κ t x) := by
  have o9 : ∀ k i, k ≠ 2 → sset M 2 t (cTr ad t x) k i = M k i := fun k i hk => sset_k M _ hk
  have hs : sSame (fun k _ => k = 2) M (sset M 2 t (cTr ad t x)) := fun k i hk => o9 k i hk
  refine ⟨(o9 0 0 (by decide)).trans h.1, (o9 7 0 (by decide)).trans h.2.1, (o9 8 0 (by decide)).trans h.2.2.1, fun i hi => (o9 6 i (by decide)).trans (h.2.2.2.1 i hi), fun i hi => ?_, fun i hi => (h.2.2.2.2.2.1 i hi).same hs (by decide) (by decide) (by decide), h.2.2.2.2.2.2.1.same hs (by decide) (by decide) (by decide), ⟨(o9 1 0 (by decide)).trans h.2.2.2.2.2.2.2.1.1, (o9 9 0 (by decide)).trans h.2.2.2.2.2.2.2.1.2.1, (o9 10 0 (by decide)).trans h.2.2.2.2.2.2.2.1.2.2.1, (o9 11 0 (by decide)).trans h.2.2.2.2.2.2.2.1.2.2.2⟩, fun i hi hj => ?_⟩
  · show sset M 2 t (cTr ad t x) 2 i = some (cTr ad i (updF (kTr κ) t x i))
    by_cases q : i = t
    · subst q
      rw [sset_self, updF_self]
    · rw [sset_i M _ q, updF_ne _ _ q]
      exact h.2.2.2.2.1 i hi
  · obtain ⟨a, b, c, d⟩ := h.2.2.2.2.2.2.2.2 i hi hj
    have hi' : kMd κ ≤ i := hi
    exact ⟨(sset_i M _ (by omega)).trans a, (o9 3 i (by decide)).trans b, (o9 4 i (by decide)).trans c, (o9 5 i (by decide)).trans d⟩
theorem hCk.count {G : sG} {ad : sAd} {M : sM} {κ : sCk} (h : hCk G ad M κ) (n : Nat) : hCk G ad (sset M 0 0 (cCk ad (kSetTc κ n))) (kSetTc κ n) := by
  have o9 : ∀ k i, k ≠ 0 → sset M 0 0 (cCk ad (kSetTc κ n)) k i = M k i := fun k i hk => sset_k M _ hk
  have hs : sSame (fun k _ => k = 0) M (sset M 0 0 (cCk ad (kSetTc κ n))) := fun k i hk => o9 k i hk
  refine ⟨sset_self _ _ _ _, (o9 7 0 (by decide)).trans h.2.1, (o9 8 0 (by decide)).trans h.2.2.1, fun i hi => (o9 6 i (by decide)).trans (h.2.2.2.1 i hi), fun i hi => (o9 2 i (by decide)).trans (h.2.2.2.2.1 i hi), fun i hi => (h.2.2.2.2.2.1 i hi).same hs (by decide) (by decide) (by decide), h.2.2.2.2.2.2.1.same hs (by decide) (by decide) (by decide), ⟨(o9 1 0 (by decide)).trans h.2.2.2.2.2.2.2.1.1, (o9 9 0 (by decide)).trans h.2.2.2.2.2.2.2.1.2.1, (o9 10 0 (by decide)).trans h.2.2.2.2.2.2.2.1.2.2.1, (o9 11 0 (by decide)).trans h.2.2.2.2.2.2.2.1.2.2.2⟩, fun i hi hj => ?_⟩
  obtain ⟨a, b, c, d⟩ := h.2.2.2.2.2.2.2.2 i hi hj
  exact ⟨(o9 2 i (by decide)).trans a, (o9 3 i (by decide)).trans b, (o9 4 i (by decide)).trans c, (o9 5 i (by decide)).trans d⟩
theorem nI_m1 {n : Nat} (h : n + 1 < 2 ^ 31) : nI (n + 1) - 1 = nI n := by rw [← nI_1]; exact Int32.add_sub_cancel _ _
abbrev mX3_keep : sMeth := (cX3_keep, 6, RX3, wsX3_keep, { frames := 2, cells := 0, slots := 0, locals := 44 }, (some .int), "keep", [])
theorem in_X3_keep_X2 : ∀ w ∈ wsX20, w ∈ wsX3_keep := by decide +kernel
theorem in_X3_keep_X3 : ∀ w ∈ wsX30, w ∈ wsX3_keep := by decide +kernel
set_option maxHeartbeats 4000000 in
set_option maxRecDepth 100000 in
theorem c_X3_keep (G : sG) (l : Launch) (hl : l.stackTraces = false) (ad : sAd) (M : sM) (κ : sCk) (h : hCk G ad M κ) (ht : kTc κ ≤ kMd κ) (hm : kMd κ ≤ 120) (hr : kRc κ ≤ 60) (htc : kTc κ < kMd κ) (hd fs sc : Int32) (dp : Nat) : sMet G l yX3_keep mX3_keep [.ref (ad 0 0), .ref (ad 2 (kTc κ)), .int hd, .int fs, .int sc, .int (nI dp)] ad M (fun r ad' M' => ad = ad' ∧ ∃ m, r = some (.int (nI (kTc κ))) ∧ mdOf κ (hd, fs, sc) m ∧ hCk G ad M' (kSetTc (kSetTr κ (kTc κ) (hd, fs, sc, dp, m)) (kTc κ + 1)) ∧ sSame pCk M M') (fun _ _ _ => False) := by
  refine sMet.of hl (by decide +kernel) rfl rfl rfl rfl (Nat.le_of_ble_eq_true rfl) (fun X => ?_)
  refine s_lv (lv' := [some (.ref (ad 0 0)), some (.ref (ad 2 (kTc κ))), some (.int hd), some (.int fs), some (.int sc), some (.int (nI dp))]) rfl ?_
  refine s_aload_n dX3_keep_0 rfl ?_
  refine s_iload_n dX3_keep_1 rfl ?_
  refine s_putN (kd := 2) (ix := (kTc κ)) (ci := 3) (v := .int hd) (ty := tyX2 1) (fs := [.ref (ad 3 (kTc κ)), .int ((kTr κ (kTc κ)).1), .int ((kTr κ (kTc κ)).2.1), .int ((kTr κ (kTc κ)).2.2.1), .int (nI (kTr κ (kTc κ)).2.2.2.1), .int (nI (kTr κ (kTc κ)).2.2.2.2)]) (host := "SmallChecker") tyX2 tyX2_ok nmX2 ((h.2.2.2.2.1 (kTc κ) htc)) rfl in_X3_keep_X2 1 (by decide) (by decide +kernel) rfl rfl (tyX2_ok 1 (by decide)) (rfl) (rfl) (Nat.le_of_ble_eq_true rfl) dX3_keep_2 ?_
  refine s_M (M' := (sset M 2 (kTc κ) (.inr (3, [.ref (ad 3 (kTc κ)), .int hd, .int ((kTr κ (kTc κ)).2.1), .int ((kTr κ (kTc κ)).2.2.1), .int (nI (kTr κ (kTc κ)).2.2.2.1), .int (nI (kTr κ (kTc κ)).2.2.2.2)])))) rfl ?_
  refine s_aload_n dX3_keep_5 rfl ?_
  refine s_iload_n dX3_keep_6 rfl ?_
  refine s_putN (kd := 2) (ix := (kTc κ)) (ci := 3) (v := .int fs) (ty := tyX2 2) (fs := [.ref (ad 3 (kTc κ)), .int hd, .int ((kTr κ (kTc κ)).2.1), .int ((kTr κ (kTc κ)).2.2.1), .int (nI (kTr κ (kTc κ)).2.2.2.1), .int (nI (kTr κ (kTc κ)).2.2.2.2)]) (host := "SmallChecker") tyX2 tyX2_ok nmX2 (sset_self _ _ _ _) rfl in_X3_keep_X2 2 (by decide) (by decide +kernel) rfl rfl (tyX2_ok 2 (by decide)) (rfl) (rfl) (Nat.le_of_ble_eq_true rfl) dX3_keep_7 ?_
  refine s_M (M' := (sset (sset M 2 (kTc κ) (.inr (3, [.ref (ad 3 (kTc κ)), .int hd, .int ((kTr κ (kTc κ)).2.1), .int ((kTr κ (kTc κ)).2.2.1), .int (nI (kTr κ (kTc κ)).2.2.2.1), .int (nI (kTr κ (kTc κ)).2.2.2.2)]))) 2 (kTc κ) (.inr (3, [.ref (ad 3 (kTc κ)), .int hd, .int fs, .int ((kTr κ (kTc κ)).2.2.1), .int (nI (kTr κ (kTc κ)).2.2.2.1), .int (nI (kTr κ (kTc κ)).2.2.2.2)])))) rfl ?_
  refine s_aload_n dX3_keep_10 rfl ?_
  refine s_iload dX3_keep_11 rfl ?_
  refine s_putN (kd := 2) (ix := (kTc κ)) (ci := 3) (v := .int sc) (ty := tyX2 3) (fs := [.ref (ad 3 (kTc κ)), .int hd, .int fs, .int ((kTr κ (kTc κ)).2.2.1), .int (nI (kTr κ (kTc κ)).2.2.2.1), .int (nI (kTr κ (kTc κ)).2.2.2.2)]) (host := "SmallChecker") tyX2 tyX2_ok nmX2 (sset_self _ _ _ _) rfl in_X3_keep_X2 3 (by decide) (by decide +kernel) rfl rfl (tyX2_ok 3 (by decide)) (rfl) (rfl) (Nat.le_of_ble_eq_true rfl) dX3_keep_13 ?_
  refine s_M (M' := (sset (sset (sset M 2 (kTc κ) (.inr (3, [.ref (ad 3 (kTc κ)), .int hd, .int ((kTr κ (kTc κ)).2.1), .int ((kTr κ (kTc κ)).2.2.1), .int (nI (kTr κ (kTc κ)).2.2.2.1), .int (nI (kTr κ (kTc κ)).2.2.2.2)]))) 2 (kTc κ) (.inr (3, [.ref (ad 3 (kTc κ)), .int hd, .int fs, .int ((kTr κ (kTc κ)).2.2.1), .int (nI (kTr κ (kTc κ)).2.2.2.1), .int (nI (kTr κ (kTc κ)).2.2.2.2)]))) 2 (kTc κ) (.inr (3, [.ref (ad 3 (kTc κ)), .int hd, .int fs, .int sc, .int (nI (kTr κ (kTc κ)).2.2.2.1), .int (nI (kTr κ (kTc κ)).2.2.2.2)])))) rfl ?_
  refine s_aload_n dX3_keep_16 rfl ?_
  refine s_iload dX3_keep_17 rfl ?_
  refine s_putN (kd := 2) (ix := (kTc κ)) (ci := 3) (v := .int (nI dp)) (ty := tyX2 4) (fs := [.ref (ad 3 (kTc κ)), .int hd, .int fs, .int sc, .int (nI (kTr κ (kTc κ)).2.2.2.1), .int (nI (kTr κ (kTc κ)).2.2.2.2)]) (host := "SmallChecker") tyX2 tyX2_ok nmX2 (sset_self _ _ _ _) rfl in_X3_keep_X2 4 (by decide) (by decide +kernel) rfl rfl (tyX2_ok 4 (by decide)) (rfl) (rfl) (Nat.le_of_ble_eq_true rfl) dX3_keep_19 ?_
  refine s_M (M' := (sset (sset (sset (sset M 2 (kTc κ) (.inr (3, [.ref (ad 3 (kTc κ)), .int hd, .int ((kTr κ (kTc κ)).2.1), .int ((kTr κ (kTc κ)).2.2.1), .int (nI (kTr κ (kTc κ)).2.2.2.1), .int (nI (kTr κ (kTc κ)).2.2.2.2)]))) 2 (kTc κ) (.inr (3, [.ref (ad 3 (kTc κ)), .int hd, .int fs, .int ((kTr κ (kTc κ)).2.2.1), .int (nI (kTr κ (kTc κ)).2.2.2.1), .int (nI (kTr κ (kTc κ)).2.2.2.2)]))) 2 (kTc κ) (.inr (3, [.ref (ad 3 (kTc κ)), .int hd, .int fs, .int sc, .int (nI (kTr κ (kTc κ)).2.2.2.1), .int (nI (kTr κ (kTc κ)).2.2.2.2)]))) 2 (kTc κ) (.inr (3, [.ref (ad 3 (kTc κ)), .int hd, .int fs, .int sc, .int (nI dp), .int (nI (kTr κ (kTc κ)).2.2.2.2)])))) rfl ?_
  refine s_M (M' := (sset M 2 (kTc κ) (.inr (3, [.ref (ad 3 (kTc κ)), .int hd, .int fs, .int sc, .int (nI dp), .int (nI (kTr κ (kTc κ)).2.2.2.2)])))) (by simp only [sset_sset]) ?_
  refine s_aload_n dX3_keep_22 rfl ?_
  refine s_aload_n dX3_keep_23 rfl ?_
  refine s_aload_n dX3_keep_24 rfl ?_
  refine s_callV (As := [.ref (ad 2 (kTc κ))]) (rest := [.ref (ad 2 (kTc κ))]) (n := 1) (kd := 0) (ix := 0) (fun l hl => c_X3_modelOf G l hl ad (sset M 2 (kTc κ) (.inr (3, [.ref (ad 3 (kTc κ)), .int hd, .int fs, .int sc, .int (nI dp), .int (nI (kTr κ (kTc κ)).2.2.2.2)]))) (kSetTr κ (kTc κ) (hd, fs, sc, dp, (kTr κ (kTc κ)).2.2.2.2)) (h.tree htc hm (hd, fs, sc, dp, (kTr κ (kTc κ)).2.2.2.2)) ht hm hr (kTc κ) htc (Nat.le_refl _)) gX3_keep_X3_modelOf rfl (by decide +kernel) ((sset_k _ _ (by decide)).trans (h.1)) rfl rfl ⟨(Nat.le_of_ble_eq_true rfl), (Nat.le_of_ble_eq_true rfl)⟩ ⟨(Nat.le_of_ble_eq_true rfl), (Nat.le_of_ble_eq_true rfl)⟩ (Nat.le_of_ble_eq_true rfl) dX3_keep_25 rfl (fun r9 ad9 M9 h9 => ?_)
  obtain ⟨rfl, rfl, m, rfl, hmd⟩ := h9
  refine s_putN (kd := 2) (ix := (kTc κ)) (ci := 3) (v := .int (nI m)) (ty := tyX2 5) (fs := [.ref (ad 3 (kTc κ)), .int hd, .int fs, .int sc, .int (nI dp), .int (nI (kTr κ (kTc κ)).2.2.2.2)]) (host := "SmallChecker") tyX2 tyX2_ok nmX2 (sset_self _ _ _ _) rfl in_X3_keep_X2 5 (by decide) (by decide +kernel) rfl rfl (tyX2_ok 5 (by decide)) (rfl) (rfl) (Nat.le_of_ble_eq_true rfl) dX3_keep_28 ?_
  refine s_M (M' := (sset (sset M 2 (kTc κ) (.inr (3, [.ref (ad 3 (kTc κ)), .int hd, .int fs, .int sc, .int (nI dp), .int (nI (kTr κ (kTc κ)).2.2.2.2)]))) 2 (kTc κ) (.inr (3, [.ref (ad 3 (kTc κ)), .int hd, .int fs, .int sc, .int (nI dp), .int (nI m)])))) rfl ?_
  refine s_M (M' := (sset M 2 (kTc κ) (.inr (3, [.ref (ad 3 (kTc κ)), .int hd, .int fs, .int sc, .int (nI dp), .int (nI m)])))) (by simp only [sset_sset]) ?_
  refine s_aload_n dX3_keep_31 rfl ?_
  refine s_dup dX3_keep_32 rfl ?_
  refine s_get (kd := 0) (ix := 0) (ci := 4) (fs := [.ref (ad 7 0), .ref (ad 8 0), .ref (ad 1 0), .ref (ad 3 120), .int (nI (kTc κ)), .int (nI (kRc κ))])  ((sset_k _ _ (by decide)).trans (h.1)) rfl in_X3_keep_X3 4 (by decide) (by decide +kernel) rfl rfl dX3_keep_33 ?_
  refine s_iconst (v := 1) dX3_keep_36 (by decide) ?_
  refine s_iadd dX3_keep_37 ?_
  refine s_eqi (y := nI (kTc κ + 1)) (nI_1 _) ?_
  refine s_put (kd := 0) (ix := 0) (ci := 4) (v := .int (nI (kTc κ + 1))) (ty := tyX3 4) (fs := [.ref (ad 7 0), .ref (ad 8 0), .ref (ad 1 0), .ref (ad 3 120), .int (nI (kTc κ)), .int (nI (kRc κ))])  tyX3 tyX3_ok nmX3 ((sset_k _ _ (by decide)).trans (h.1)) rfl in_X3_keep_X3 4 (by decide) (by decide +kernel) rfl rfl (tyX3_ok 4 (by decide)) (rfl) (rfl) (Nat.le_of_ble_eq_true rfl) dX3_keep_38 ?_
  refine s_M (M' := (sset (sset M 2 (kTc κ) (.inr (3, [.ref (ad 3 (kTc κ)), .int hd, .int fs, .int sc, .int (nI dp), .int (nI m)]))) 0 0 (.inr (4, [.ref (ad 7 0), .ref (ad 8 0), .ref (ad 1 0), .ref (ad 3 120), .int (nI (kTc κ + 1)), .int (nI (kRc κ))])))) rfl ?_
  refine s_aload_n dX3_keep_41 rfl ?_
  refine s_get (kd := 0) (ix := 0) (ci := 4) (fs := [.ref (ad 7 0), .ref (ad 8 0), .ref (ad 1 0), .ref (ad 3 120), .int (nI (kTc κ + 1)), .int (nI (kRc κ))])  (sset_self _ _ _ _) rfl in_X3_keep_X3 4 (by decide) (by decide +kernel) rfl rfl dX3_keep_42 ?_
  refine s_iconst (v := 1) dX3_keep_45 (by decide) ?_
  refine s_isub dX3_keep_46 ?_
  refine s_eqi (y := nI (kTc κ)) (nI_m1 (by omega)) ?_
  exact s_iret rfl (rfl) dX3_keep_47 (Nat.le_of_ble_eq_true rfl) (Nat.le_of_ble_eq_true rfl) (⟨rfl, m, rfl, ⟨hmd.1, fun q => (congrArg trp (updF_ne _ _ (Nat.ne_of_lt q))).symm.trans ((hmd.2.1 q).trans (congrArg trp (updF_self _ _ _))), fun j hj q => hmd.2.2 j hj ((congrArg trp (updF_ne _ _ (Nat.ne_of_lt (Nat.lt_of_lt_of_le hj hmd.1)))).trans (q.trans (congrArg trp (updF_self (kTr κ) (kTc κ) (hd, fs, sc, dp, (kTr κ (kTc κ)).2.2.2.2))).symm))⟩, (h.tree htc hm (hd, fs, sc, dp, m)).count (kTc κ + 1), (sSame.rfl.set (by simp [pCk]) _).set (by simp [pCk]) _⟩)
