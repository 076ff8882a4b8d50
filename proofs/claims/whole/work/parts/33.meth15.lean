/-! workOut -/
def kSetPo (κ : sCk) (t : Nat) (π : sPol) : sCk := (κ.1, κ.2.1, κ.2.2.1, κ.2.2.2.1, updF κ.2.2.2.2.1 t π, κ.2.2.2.2.2)
def pWk (t : Nat) : Nat → Nat → Prop := fun k i => pSh k i ∨ pPo t k i
theorem hSh.same {G : sG} {ad : sAd} {M M' : sM} {σ : sShe} {P : Nat → Nat → Prop} (h : hSh G ad M σ) (hs : sSame P M M') (h1 : ¬ P 1 0) (h2 : ¬ P 9 0) (h3 : ¬ P 10 0) (h4 : ¬ P 11 0) : hSh G ad M' σ := ⟨(hs _ _ h1).trans h.1, (hs _ _ h2).trans h.2.1, (hs _ _ h3).trans h.2.2.1, (hs _ _ h4).trans h.2.2.2⟩
theorem hCk.work {G : sG} {ad : sAd} {M M' : sM} {κ : sCk} {t : Nat} {σ : sShe} {π : sPol} (h : hCk G ad M κ) (ht : t < kMd κ) (hm : kMd κ ≤ 120) (hs : sSame (pWk t) M M') (hS : hSh G ad M' σ) (hp : hPo G ad M' t π) : hCk G ad M' (kSetPo (kSetSh κ σ) t π) := by
  refine ⟨(hs 0 0 (by simp [pWk, pSh, pPo])).trans h.1, (hs 7 0 (by simp [pWk, pSh, pPo])).trans h.2.1, (hs 8 0 (by simp [pWk, pSh, pPo])).trans h.2.2.1, fun i hi => (hs 6 i (by simp [pWk, pSh, pPo])).trans (h.2.2.2.1 i hi), fun i hi => (hs 2 i (by simp [pWk, pSh, pPo])).trans (h.2.2.2.2.1 i hi), fun i hi => ?_, h.2.2.2.2.2.2.1.same hs (by simp [pWk, pSh, pPo]; omega) (by simp [pWk, pSh, pPo]; omega) (by simp [pWk, pSh, pPo]; omega), hS, fun i hi hj => ?_⟩
  · show hPo G ad M' i (updF (kPo κ) t π i)
    by_cases q : i = t
    · subst q
      rw [updF_self]; exact hp
    · rw [updF_ne _ _ q]
      exact (h.2.2.2.2.2.1 i hi).same hs (by simp [pWk, pSh, pPo, q]) (by simp [pWk, pSh, pPo, q]) (by simp [pWk, pSh, pPo, q])
  · have hi' : kMd κ ≤ i := hi
    obtain ⟨a, b, c, d⟩ := h.2.2.2.2.2.2.2.2 i hi hj
    have q : ¬ i = t := by omega
    exact ⟨(hs 2 i (by simp [pWk, pSh, pPo])).trans a, (hs 3 i (by simp [pWk, pSh, pPo, q])).trans b, (hs 4 i (by simp [pWk, pSh, pPo, q])).trans c, (hs 5 i (by simp [pWk, pSh, pPo, q])).trans d⟩
theorem pWk_ck {t k i : Nat} (h : pWk t k i) : pCk k i := by
  simp only [pWk, pSh, pPo, pCk] at *
  omega
def WF (h : Nat) (A B : Nat → Int) : Nat → Int := match h with
  | 0 => fun y => A y + B y
  | 1 => fun y => A y - B y
  | 2 => mul A B
  | 3 => mul A A
  | 4 => fun y => - A y
  | _ => mul (mul A A) A
/-- too great, of two that aren't -/
def WX (h : Nat) (A B : Nat → Int) : Prop := match h with
  | 0 => ¬ fitsP (WF 0 A B)
  | 1 => ¬ fitsP (WF 1 A B)
  | 2 => ¬ (dOK A B ∧ fitsP (mul A B))
  | 3 => ¬ (dOK A A ∧ fitsP (mul A A))
  | 4 => ¬ fitsP (WF 4 A B)
  | _ => ¬ (dOK A A ∧ fitsP (mul A A) ∧ dOK (mul A A) A ∧ fitsP (mul (mul A A) A))
def WG (ga gb : Prop) (h : Nat) (A B : Nat → Int) : Prop := ga ∨ gb ∨ WX h A B
theorem PR.ft {π : sPol} {P : Nat → Int} (h : PR π P) : fitsP P := h.choose_spec.ft
abbrev mX3_workOut : sMeth := (cX3_workOut, 5, RX3, wsX3_workOut, { frames := 4, cells := 0, slots := 0, locals := 86 }, none, "workOut", [])
theorem in_X3_workOut_X3 : ∀ w ∈ wsX30, w ∈ wsX3_workOut := by decide +kernel
set_option maxHeartbeats 4000000 in
set_option maxRecDepth 100000 in
theorem c_X3_workOut (G : sG) (l : Launch) (hl : l.stackTraces = false) (ad : sAd) (M : sM) (κ : sCk) (h : hCk G ad M κ) (ht : kTc κ ≤ kMd κ) (hm : kMd κ ≤ 120) (hr : kRc κ ≤ 60) (t : Nat) (hti : t < kMd κ) (hd : Nat) (hh6 : hd < 6) (ja jb : Nat) (hja : ja < kMd κ) (hjb : jb < kMd κ) (hta : ja ≠ t) (htb : jb ≠ t) (A B : Nat → Int) (hA : (kPo κ ja).2.2.1 = false → PR (kPo κ ja) A) (hB : (kPo κ jb).2.2.1 = false → PR (kPo κ jb) B) (hAB : 3 ≤ hd → A = B) (f : Nat → Int) (hR : ShR (kSh κ) f) : sMet G l yX3_workOut mX3_workOut [.ref (ad 0 0), .ref (ad 3 t), .int (nI hd), .ref (ad 3 ja), .ref (ad 3 jb)] ad M (fun r ad' M' => ad = ad' ∧ r = none ∧ (∃ σ' f' π', hCk G ad M' (kSetPo (kSetSh κ σ') t π') ∧ ShR σ' f' ∧ ((PG π' ∧ WG ((kPo κ ja).2.2.1 = true) ((kPo κ jb).2.2.1 = true) hd A B) ∨ (PR π' (WF hd A B) ∧ ¬ WG ((kPo κ ja).2.2.1 = true) ((kPo κ jb).2.2.1 = true) hd A B))) ∧ sSame pCk M M') (fun _ _ _ => False) := by
  refine sMet.of hl (by decide +kernel) rfl rfl rfl rfl (Nat.le_of_ble_eq_true rfl) (fun X => ?_)
  refine s_lv (lv' := [some (.ref (ad 0 0)), some (.ref (ad 3 t)), some (.int (nI hd)), some (.ref (ad 3 ja)), some (.ref (ad 3 jb))]) rfl ?_
  refine s_aload_n dX3_workOut_0 rfl ?_
  refine s_callVN (As := []) (rest := []) (n := 0) (kd := 3) (ix := ja) (fun l hl => c_X0_isTooGreat G l hl ad M ja (kPo κ ja).1 (kPo κ ja).2.1 (kPo κ ja).2.2.1 (kPo κ ja).2.2.2.1 (kPo κ ja).2.2.2.2 (h.2.2.2.2.2.1 ja hja)) gX3_workOut_X0_isTooGreat_n151 rfl (host := "SmallChecker") (by decide +kernel) (by decide +kernel) (by decide +kernel) (by decide +kernel) (by decide +kernel) ((h.2.2.2.2.2.1 ja hja).1) rfl rfl ⟨(Nat.le_of_ble_eq_true rfl), (Nat.le_of_ble_eq_true rfl)⟩ ⟨(Nat.le_of_ble_eq_true rfl), (Nat.le_of_ble_eq_true rfl)⟩ (Nat.le_of_ble_eq_true rfl) dX3_workOut_1 rfl (fun r9 ad9 M9 h9 => ?_)
  obtain ⟨rfl, rfl, rfl⟩ := h9
  refine s_if_ne 15 dX3_workOut_4 (by decide) (fun c4 => ?_) (fun c4 => ?_)
  · refine s_aload_n dX3_workOut_15 rfl ?_
    refine s_callVN (As := []) (rest := []) (n := 0) (kd := 3) (ix := t) (fun l hl => c_X0_becomeTooGreat G l hl ad M t (kPo κ t).1 (kPo κ t).2.1 (kPo κ t).2.2.1 (kPo κ t).2.2.2.1 (kPo κ t).2.2.2.2 (h.2.2.2.2.2.1 t hti)) gX3_workOut_X0_becomeTooGreat_n185 rfl (host := "SmallChecker") (by decide +kernel) (by decide +kernel) (by decide +kernel) (by decide +kernel) (by decide +kernel) ((h.2.2.2.2.2.1 t hti).1) rfl rfl ⟨(Nat.le_of_ble_eq_true rfl), (Nat.le_of_ble_eq_true rfl)⟩ ⟨(Nat.le_of_ble_eq_true rfl), (Nat.le_of_ble_eq_true rfl)⟩ (Nat.le_of_ble_eq_true rfl) dX3_workOut_16 rfl (fun r9 ad9 M9 h9 => ?_)
    obtain ⟨rfl, rfl, hp9, hs9⟩ := h9
    exact s_vret rfl dX3_workOut_19 (Nat.le_of_ble_eq_true rfl) (Nat.le_of_ble_eq_true rfl) (⟨rfl, rfl, ⟨kSh κ, f, _, h.work hti hm (hs9.mono (fun k i q => Or.inr q)) (h.2.2.2.2.2.2.2.1.same hs9 (by simp [pPo]) (by simp [pPo]) (by simp [pPo]) (by simp [pPo])) hp9, hR, Or.inl ⟨⟨rfl, rfl⟩, Or.inl (Bool.of_not_eq_false (fun q => c4 (jB_0.mpr q)))⟩⟩, hs9.mono (fun k i q => pWk_ck (Or.inr q))⟩)
  · refine s_aload dX3_workOut_7 rfl ?_
    refine s_callVN (As := []) (rest := []) (n := 0) (kd := 3) (ix := jb) (fun l hl => c_X0_isTooGreat G l hl ad M jb (kPo κ jb).1 (kPo κ jb).2.1 (kPo κ jb).2.2.1 (kPo κ jb).2.2.2.1 (kPo κ jb).2.2.2.2 (h.2.2.2.2.2.1 jb hjb)) gX3_workOut_X0_isTooGreat_n151 rfl (host := "SmallChecker") (by decide +kernel) (by decide +kernel) (by decide +kernel) (by decide +kernel) (by decide +kernel) ((h.2.2.2.2.2.1 jb hjb).1) rfl rfl ⟨(Nat.le_of_ble_eq_true rfl), (Nat.le_of_ble_eq_true rfl)⟩ ⟨(Nat.le_of_ble_eq_true rfl), (Nat.le_of_ble_eq_true rfl)⟩ (Nat.le_of_ble_eq_true rfl) dX3_workOut_9 rfl (fun r9 ad9 M9 h9 => ?_)
    obtain ⟨rfl, rfl, rfl⟩ := h9
    refine s_if_eq 20 dX3_workOut_12 (by decide) (fun c12 => ?_) (fun c12 => ?_)
    · have hga := jB_0.mp c4
      have hgb := jB_0.mp c12
      have hRa := hA hga
      have hRb := hB hgb
      have hpa := h.2.2.2.2.2.1 ja hja
      have hpb := h.2.2.2.2.2.1 jb hjb
      obtain ⟨na, da, ak, an, ea, hDa⟩ := hRa.norm
      obtain ⟨nb, db, bk, bn, eb, hDb⟩ := hRb.norm
      rw [ea] at hpa hRa
      rw [eb] at hpb hRb
      refine s_aload_n dX3_workOut_20 rfl ?_
      refine s_get (kd := 0) (ix := 0) (ci := 4) (fs := [.ref (ad 7 0), .ref (ad 8 0), .ref (ad 1 0), .ref (ad 3 120), .int (nI (kTc κ)), .int (nI (kRc κ))])  h.1 rfl in_X3_workOut_X3 2 (by decide) (by decide +kernel) rfl rfl dX3_workOut_21 ?_
      refine s_callVN (As := []) (rest := []) (n := 0) (kd := 1) (ix := 0) (fun l hl => c_X1_wipe G l hl ad M (kSh κ).1 (kSh κ).2.1 (kSh κ).2.2.1 (kSh κ).2.2.2.1 (kSh κ).2.2.2.2 h.2.2.2.2.2.2.2.1 f hR) gX3_workOut_X1_wipe_n188 rfl (host := "SmallChecker") (by decide +kernel) (by decide +kernel) (by decide +kernel) (by decide +kernel) (by decide +kernel) h.2.2.2.2.2.2.2.1.1 rfl rfl ⟨(Nat.le_of_ble_eq_true rfl), (Nat.le_of_ble_eq_true rfl)⟩ ⟨(Nat.le_of_ble_eq_true rfl), (Nat.le_of_ble_eq_true rfl)⟩ (Nat.le_of_ble_eq_true rfl) dX3_workOut_24 rfl (fun r1 ad1 M1 h1 => ?_)
      obtain ⟨rfl, rfl, ⟨lo1, hS, hR⟩, hs1⟩ := h1
      have hpt := (h.2.2.2.2.2.1 t hti).same hs1 (by simp [pSh]) (by simp [pSh]) (by simp [pSh])
      have hpa := hpa.same hs1 (by simp [pSh]) (by simp [pSh]) (by simp [pSh])
      have hpb := hpb.same hs1 (by simp [pSh]) (by simp [pSh]) (by simp [pSh])
      have hc := (hs1 0 0 (by simp [pSh])).trans h.1
      have hs := hs1.mono (P' := pWk t) (fun k i q => Or.inl q)
      refine s_iload_n dX3_workOut_27 rfl ?_
      rcases (show hd = 0 ∨ hd = 1 ∨ hd = 2 ∨ hd = 3 ∨ hd = 4 ∨ hd = 5 by omega) with rfl | rfl | rfl | rfl | rfl | rfl
      · refine s_tableIn 68 dX3_workOut_28 (by decide) (by decide) rfl (by decide) ?_
        refine s_aload_n dX3_workOut_68 rfl ?_
        refine s_get (kd := 0) (ix := 0) (ci := 4) (fs := [.ref (ad 7 0), .ref (ad 8 0), .ref (ad 1 0), .ref (ad 3 120), .int (nI (kTc κ)), .int (nI (kRc κ))])  hc rfl in_X3_workOut_X3 2 (by decide) (by decide +kernel) rfl rfl dX3_workOut_69 ?_
        refine s_aload_n dX3_workOut_72 rfl ?_
        refine s_iconst (v := 1) dX3_workOut_73 (by decide) ?_
        refine s_callVN (As := [.ref (ad 3 ja), .int 1]) (rest := []) (n := 2) (kd := 1) (ix := 0) (fun l hl => c_X1_addMultiple G l hl ad M1 ja na (nI da) false ak an hpa A hRa lo1 (kSh κ).2.1 (kSh κ).2.2.1 0 false hS (fun _ => 0) hR 0 (fun y => by omega) (by omega) 1 (Or.inl rfl)) gX3_workOut_X1_addMultiple_n191 rfl (host := "SmallChecker") (by decide +kernel) (by decide +kernel) (by decide +kernel) (by decide +kernel) (by decide +kernel) hS.1 rfl rfl ⟨(Nat.le_of_ble_eq_true rfl), (Nat.le_of_ble_eq_true rfl)⟩ ⟨(Nat.le_of_ble_eq_true rfl), (Nat.le_of_ble_eq_true rfl)⟩ (Nat.le_of_ble_eq_true rfl) dX3_workOut_74 rfl (fun r2 ad2 M2 h2 => ?_)
        obtain ⟨rfl, rfl, ⟨lo2, ks2, ns2, u2, hS, hR⟩, hs2⟩ := h2
        have hc := (hs2 0 0 (by simp [pSh, pPo])).trans hc
        have hpa := hpa.same hs2 (by simp [pSh]) (by simp [pSh]) (by simp [pSh])
        have hpb := hpb.same hs2 (by simp [pSh]) (by simp [pSh]) (by simp [pSh])
        have hpt := hpt.same hs2 (by simp [pSh]) (by simp [pSh]) (by simp [pSh])
        have hs := hs.trans (hs2.mono (P' := pWk t) (fun k i q => Or.inl q))
        refine s_aload_n dX3_workOut_77 rfl ?_
        refine s_get (kd := 0) (ix := 0) (ci := 4) (fs := [.ref (ad 7 0), .ref (ad 8 0), .ref (ad 1 0), .ref (ad 3 120), .int (nI (kTc κ)), .int (nI (kRc κ))])  hc rfl in_X3_workOut_X3 2 (by decide) (by decide +kernel) rfl rfl dX3_workOut_78 ?_
        refine s_aload dX3_workOut_81 rfl ?_
        refine s_iconst (v := 1) dX3_workOut_83 (by decide) ?_
        refine s_callVN (As := [.ref (ad 3 jb), .int 1]) (rest := []) (n := 2) (kd := 1) (ix := 0) (fun l hl => c_X1_addMultiple G l hl ad M2 jb nb (nI db) false bk bn hpb B hRb lo2 ks2 ns2 u2 false hS (fun y => 0 + (1 : Int32).toInt * A y) hR 1000000 (fun y => by have := hRa.bnd y; rw [show (1 : Int32).toInt = 1 from rfl]; omega) (by omega) 1 (Or.inl rfl)) gX3_workOut_X1_addMultiple_n191 rfl (host := "SmallChecker") (by decide +kernel) (by decide +kernel) (by decide +kernel) (by decide +kernel) (by decide +kernel) hS.1 rfl rfl ⟨(Nat.le_of_ble_eq_true rfl), (Nat.le_of_ble_eq_true rfl)⟩ ⟨(Nat.le_of_ble_eq_true rfl), (Nat.le_of_ble_eq_true rfl)⟩ (Nat.le_of_ble_eq_true rfl) dX3_workOut_84 rfl (fun r3 ad3 M3 h3 => ?_)
        obtain ⟨rfl, rfl, ⟨lo3, ks3, ns3, u3, hS, hR⟩, hs3⟩ := h3
        have hc := (hs3 0 0 (by simp [pSh, pPo])).trans hc
        have hpa := hpa.same hs3 (by simp [pSh]) (by simp [pSh]) (by simp [pSh])
        have hpb := hpb.same hs3 (by simp [pSh]) (by simp [pSh]) (by simp [pSh])
        have hpt := hpt.same hs3 (by simp [pSh]) (by simp [pSh]) (by simp [pSh])
        have hs := hs.trans (hs3.mono (P' := pWk t) (fun k i q => Or.inl q))
        refine s_goto 134 dX3_workOut_87 (by decide) ?_
        have e9 : (fun y => 0 + (1 : Int32).toInt * A y + (1 : Int32).toInt * B y) = WF 0 A B := by
          funext y
          show 0 + (1 : Int32).toInt * A y + (1 : Int32).toInt * B y = A y + B y
          rw [show (1 : Int32).toInt = 1 from rfl]
          omega
        rw [e9] at hR
        refine s_aload_n dX3_workOut_134 rfl ?_
        refine s_get (kd := 0) (ix := 0) (ci := 4) (fs := [.ref (ad 7 0), .ref (ad 8 0), .ref (ad 1 0), .ref (ad 3 120), .int (nI (kTc κ)), .int (nI (kRc κ))])  hc rfl in_X3_workOut_X3 2 (by decide) (by decide +kernel) rfl rfl dX3_workOut_135 ?_
        refine s_aload_n dX3_workOut_138 rfl ?_
        refine s_callVN (As := [.ref (ad 3 t)]) (rest := []) (n := 1) (kd := 1) (ix := 0) (fun l hl => c_X1_copyTo G l hl ad M3 t (kPo κ t).1 (kPo κ t).2.1 (kPo κ t).2.2.1 (kPo κ t).2.2.2.1 (kPo κ t).2.2.2.2 hpt lo3 ks3 ns3 u3 false hS (WF 0 A B) hR) gX3_workOut_X1_copyTo_n199 rfl (host := "SmallChecker") (by decide +kernel) (by decide +kernel) (by decide +kernel) (by decide +kernel) (by decide +kernel) hS.1 rfl rfl ⟨(Nat.le_of_ble_eq_true rfl), (Nat.le_of_ble_eq_true rfl)⟩ ⟨(Nat.le_of_ble_eq_true rfl), (Nat.le_of_ble_eq_true rfl)⟩ (Nat.le_of_ble_eq_true rfl) dX3_workOut_139 rfl (fun r4 ad4 M4 h4 => ?_)
        obtain ⟨rfl, rfl, ⟨π4, hpt, hq4⟩, hs4⟩ := h4
        rcases (show PR π4 (WF 0 A B) ∨ (PG π4 ∧ ¬ fitsP (WF 0 A B)) from hq4.elim (fun q => nomatch q.1) (fun q => q.2)) with hpr4 | ⟨hpg4, hnf4⟩
        · have hc := (hs4 0 0 (by simp [pPo])).trans hc
          have hpa := hpa.same hs4 (by simp [pPo]; omega) (by simp [pPo]; omega) (by simp [pPo]; omega)
          have hpb := hpb.same hs4 (by simp [pPo]; omega) (by simp [pPo]; omega) (by simp [pPo]; omega)
          have hS := hS.same hs4 (by simp [pPo]) (by simp [pPo]) (by simp [pPo]) (by simp [pPo])
          have hs := hs.trans (hs4.mono (P' := pWk t) (fun k i q => Or.inr q))
          refine s_iload_n dX3_workOut_142 rfl ?_
          refine s_iconst (v := 5) dX3_workOut_143 (by decide) ?_
          refine s_icmp_ne 178 dX3_workOut_144 (by decide) (fun c144 => ?_) (fun c144 => absurd c144 (by decide))
          exact s_vret rfl dX3_workOut_178 (Nat.le_of_ble_eq_true rfl) (Nat.le_of_ble_eq_true rfl) (⟨rfl, rfl, ⟨_, _, _, h.work hti hm hs hS hpt, hR, Or.inr ⟨hpr4, fun q => q.elim (fun q => by rw [hga] at q; cases q) (fun q => q.elim (fun q => by rw [hgb] at q; cases q) (fun q => q hpr4.ft))⟩⟩, hs.mono (fun k i q => pWk_ck q)⟩)
        · have hc := (hs4 0 0 (by simp [pPo])).trans hc
          have hpa := hpa.same hs4 (by simp [pPo]; omega) (by simp [pPo]; omega) (by simp [pPo]; omega)
          have hpb := hpb.same hs4 (by simp [pPo]; omega) (by simp [pPo]; omega) (by simp [pPo]; omega)
          have hS := hS.same hs4 (by simp [pPo]) (by simp [pPo]) (by simp [pPo]) (by simp [pPo])
          have hs := hs.trans (hs4.mono (P' := pWk t) (fun k i q => Or.inr q))
          refine s_iload_n dX3_workOut_142 rfl ?_
          refine s_iconst (v := 5) dX3_workOut_143 (by decide) ?_
          refine s_icmp_ne 178 dX3_workOut_144 (by decide) (fun c144 => ?_) (fun c144 => absurd c144 (by decide))
          exact s_vret rfl dX3_workOut_178 (Nat.le_of_ble_eq_true rfl) (Nat.le_of_ble_eq_true rfl) (⟨rfl, rfl, ⟨_, _, _, h.work hti hm hs hS hpt, hR, Or.inl ⟨hpg4, Or.inr (Or.inr (hnf4))⟩⟩, hs.mono (fun k i q => pWk_ck q)⟩)
      · refine s_tableIn 90 dX3_workOut_28 (by decide) (by decide) rfl (by decide) ?_
        refine s_aload_n dX3_workOut_90 rfl ?_
        refine s_get (kd := 0) (ix := 0) (ci := 4) (fs := [.ref (ad 7 0), .ref (ad 8 0), .ref (ad 1 0), .ref (ad 3 120), .int (nI (kTc κ)), .int (nI (kRc κ))])  hc rfl in_X3_workOut_X3 2 (by decide) (by decide +kernel) rfl rfl dX3_workOut_91 ?_
        refine s_aload_n dX3_workOut_94 rfl ?_
        refine s_iconst (v := 1) dX3_workOut_95 (by decide) ?_
        refine s_callVN (As := [.ref (ad 3 ja), .int 1]) (rest := []) (n := 2) (kd := 1) (ix := 0) (fun l hl => c_X1_addMultiple G l hl ad M1 ja na (nI da) false ak an hpa A hRa lo1 (kSh κ).2.1 (kSh κ).2.2.1 0 false hS (fun _ => 0) hR 0 (fun y => by omega) (by omega) 1 (Or.inl rfl)) gX3_workOut_X1_addMultiple_n191 rfl (host := "SmallChecker") (by decide +kernel) (by decide +kernel) (by decide +kernel) (by decide +kernel) (by decide +kernel) hS.1 rfl rfl ⟨(Nat.le_of_ble_eq_true rfl), (Nat.le_of_ble_eq_true rfl)⟩ ⟨(Nat.le_of_ble_eq_true rfl), (Nat.le_of_ble_eq_true rfl)⟩ (Nat.le_of_ble_eq_true rfl) dX3_workOut_96 rfl (fun r2 ad2 M2 h2 => ?_)
        obtain ⟨rfl, rfl, ⟨lo2, ks2, ns2, u2, hS, hR⟩, hs2⟩ := h2
        have hc := (hs2 0 0 (by simp [pSh, pPo])).trans hc
        have hpa := hpa.same hs2 (by simp [pSh]) (by simp [pSh]) (by simp [pSh])
        have hpb := hpb.same hs2 (by simp [pSh]) (by simp [pSh]) (by simp [pSh])
        have hpt := hpt.same hs2 (by simp [pSh]) (by simp [pSh]) (by simp [pSh])
        have hs := hs.trans (hs2.mono (P' := pWk t) (fun k i q => Or.inl q))
        refine s_aload_n dX3_workOut_99 rfl ?_
        refine s_get (kd := 0) (ix := 0) (ci := 4) (fs := [.ref (ad 7 0), .ref (ad 8 0), .ref (ad 1 0), .ref (ad 3 120), .int (nI (kTc κ)), .int (nI (kRc κ))])  hc rfl in_X3_workOut_X3 2 (by decide) (by decide +kernel) rfl rfl dX3_workOut_100 ?_
        refine s_aload dX3_workOut_103 rfl ?_
        refine s_iconst (v := -1) dX3_workOut_105 (by decide) ?_
        refine s_callVN (As := [.ref (ad 3 jb), .int (-1)]) (rest := []) (n := 2) (kd := 1) (ix := 0) (fun l hl => c_X1_addMultiple G l hl ad M2 jb nb (nI db) false bk bn hpb B hRb lo2 ks2 ns2 u2 false hS (fun y => 0 + (1 : Int32).toInt * A y) hR 1000000 (fun y => by have := hRa.bnd y; rw [show (1 : Int32).toInt = 1 from rfl]; omega) (by omega) (-1) (Or.inr rfl)) gX3_workOut_X1_addMultiple_n191 rfl (host := "SmallChecker") (by decide +kernel) (by decide +kernel) (by decide +kernel) (by decide +kernel) (by decide +kernel) hS.1 rfl rfl ⟨(Nat.le_of_ble_eq_true rfl), (Nat.le_of_ble_eq_true rfl)⟩ ⟨(Nat.le_of_ble_eq_true rfl), (Nat.le_of_ble_eq_true rfl)⟩ (Nat.le_of_ble_eq_true rfl) dX3_workOut_106 rfl (fun r3 ad3 M3 h3 => ?_)
        obtain ⟨rfl, rfl, ⟨lo3, ks3, ns3, u3, hS, hR⟩, hs3⟩ := h3
        have hc := (hs3 0 0 (by simp [pSh, pPo])).trans hc
        have hpa := hpa.same hs3 (by simp [pSh]) (by simp [pSh]) (by simp [pSh])
        have hpb := hpb.same hs3 (by simp [pSh]) (by simp [pSh]) (by simp [pSh])
        have hpt := hpt.same hs3 (by simp [pSh]) (by simp [pSh]) (by simp [pSh])
        have hs := hs.trans (hs3.mono (P' := pWk t) (fun k i q => Or.inl q))
        refine s_goto 134 dX3_workOut_109 (by decide) ?_
        have e9 : (fun y => 0 + (1 : Int32).toInt * A y + (-1 : Int32).toInt * B y) = WF 1 A B := by
          funext y
          show 0 + (1 : Int32).toInt * A y + (-1 : Int32).toInt * B y = A y - B y
          rw [show (1 : Int32).toInt = 1 from rfl, show (-1 : Int32).toInt = -1 from rfl]
          omega
        rw [e9] at hR
        refine s_aload_n dX3_workOut_134 rfl ?_
        refine s_get (kd := 0) (ix := 0) (ci := 4) (fs := [.ref (ad 7 0), .ref (ad 8 0), .ref (ad 1 0), .ref (ad 3 120), .int (nI (kTc κ)), .int (nI (kRc κ))])  hc rfl in_X3_workOut_X3 2 (by decide) (by decide +kernel) rfl rfl dX3_workOut_135 ?_
        refine s_aload_n dX3_workOut_138 rfl ?_
        refine s_callVN (As := [.ref (ad 3 t)]) (rest := []) (n := 1) (kd := 1) (ix := 0) (fun l hl => c_X1_copyTo G l hl ad M3 t (kPo κ t).1 (kPo κ t).2.1 (kPo κ t).2.2.1 (kPo κ t).2.2.2.1 (kPo κ t).2.2.2.2 hpt lo3 ks3 ns3 u3 false hS (WF 1 A B) hR) gX3_workOut_X1_copyTo_n199 rfl (host := "SmallChecker") (by decide +kernel) (by decide +kernel) (by decide +kernel) (by decide +kernel) (by decide +kernel) hS.1 rfl rfl ⟨(Nat.le_of_ble_eq_true rfl), (Nat.le_of_ble_eq_true rfl)⟩ ⟨(Nat.le_of_ble_eq_true rfl), (Nat.le_of_ble_eq_true rfl)⟩ (Nat.le_of_ble_eq_true rfl) dX3_workOut_139 rfl (fun r4 ad4 M4 h4 => ?_)
        obtain ⟨rfl, rfl, ⟨π4, hpt, hq4⟩, hs4⟩ := h4
        rcases (show PR π4 (WF 1 A B) ∨ (PG π4 ∧ ¬ fitsP (WF 1 A B)) from hq4.elim (fun q => nomatch q.1) (fun q => q.2)) with hpr4 | ⟨hpg4, hnf4⟩
        · have hc := (hs4 0 0 (by simp [pPo])).trans hc
          have hpa := hpa.same hs4 (by simp [pPo]; omega) (by simp [pPo]; omega) (by simp [pPo]; omega)
          have hpb := hpb.same hs4 (by simp [pPo]; omega) (by simp [pPo]; omega) (by simp [pPo]; omega)
          have hS := hS.same hs4 (by simp [pPo]) (by simp [pPo]) (by simp [pPo]) (by simp [pPo])
          have hs := hs.trans (hs4.mono (P' := pWk t) (fun k i q => Or.inr q))
          refine s_iload_n dX3_workOut_142 rfl ?_
          refine s_iconst (v := 5) dX3_workOut_143 (by decide) ?_
          refine s_icmp_ne 178 dX3_workOut_144 (by decide) (fun c144 => ?_) (fun c144 => absurd c144 (by decide))
          exact s_vret rfl dX3_workOut_178 (Nat.le_of_ble_eq_true rfl) (Nat.le_of_ble_eq_true rfl) (⟨rfl, rfl, ⟨_, _, _, h.work hti hm hs hS hpt, hR, Or.inr ⟨hpr4, fun q => q.elim (fun q => by rw [hga] at q; cases q) (fun q => q.elim (fun q => by rw [hgb] at q; cases q) (fun q => q hpr4.ft))⟩⟩, hs.mono (fun k i q => pWk_ck q)⟩)
        · have hc := (hs4 0 0 (by simp [pPo])).trans hc
          have hpa := hpa.same hs4 (by simp [pPo]; omega) (by simp [pPo]; omega) (by simp [pPo]; omega)
          have hpb := hpb.same hs4 (by simp [pPo]; omega) (by simp [pPo]; omega) (by simp [pPo]; omega)
          have hS := hS.same hs4 (by simp [pPo]) (by simp [pPo]) (by simp [pPo]) (by simp [pPo])
          have hs := hs.trans (hs4.mono (P' := pWk t) (fun k i q => Or.inr q))
          refine s_iload_n dX3_workOut_142 rfl ?_
          refine s_iconst (v := 5) dX3_workOut_143 (by decide) ?_
          refine s_icmp_ne 178 dX3_workOut_144 (by decide) (fun c144 => ?_) (fun c144 => absurd c144 (by decide))
          exact s_vret rfl dX3_workOut_178 (Nat.le_of_ble_eq_true rfl) (Nat.le_of_ble_eq_true rfl) (⟨rfl, rfl, ⟨_, _, _, h.work hti hm hs hS hpt, hR, Or.inl ⟨hpg4, Or.inr (Or.inr (hnf4))⟩⟩, hs.mono (fun k i q => pWk_ck q)⟩)
      · refine s_tableIn 124 dX3_workOut_28 (by decide) (by decide) rfl (by decide) ?_
        refine s_aload_n dX3_workOut_124 rfl ?_
        refine s_get (kd := 0) (ix := 0) (ci := 4) (fs := [.ref (ad 7 0), .ref (ad 8 0), .ref (ad 1 0), .ref (ad 3 120), .int (nI (kTc κ)), .int (nI (kRc κ))])  hc rfl in_X3_workOut_X3 2 (by decide) (by decide +kernel) rfl rfl dX3_workOut_125 ?_
        refine s_aload_n dX3_workOut_128 rfl ?_
        refine s_aload dX3_workOut_129 rfl ?_
        refine s_callVN (As := [.ref (ad 3 ja), .ref (ad 3 jb)]) (rest := []) (n := 2) (kd := 1) (ix := 0) (fun l hl => c_X1_addProduct G l hl ad M1 ja na da ak an hpa A hRa jb nb db bk bn hpb B hRb hDa.1 hDb.1 hDa.2.1 hDb.2.1 lo1 (kSh κ).2.1 (kSh κ).2.2.1 0 false hS (fun _ => 0) rfl hR) gX3_workOut_X1_addProduct_n195 rfl (host := "SmallChecker") (by decide +kernel) (by decide +kernel) (by decide +kernel) (by decide +kernel) (by decide +kernel) hS.1 rfl rfl ⟨(Nat.le_of_ble_eq_true rfl), (Nat.le_of_ble_eq_true rfl)⟩ ⟨(Nat.le_of_ble_eq_true rfl), (Nat.le_of_ble_eq_true rfl)⟩ (Nat.le_of_ble_eq_true rfl) dX3_workOut_131 rfl (fun r3 ad3 M3 h3 => ?_)
        obtain ⟨rfl, rfl, h3, hs3⟩ := h3
        rcases Nat.lt_or_ge 9 (da + db) with hdd3 | hdd3
        · rw [if_neg (by omega)] at h3
          obtain ⟨lo3, ks3, ns3, u3, hS, hR⟩ := h3
          have hc := (hs3 0 0 (by simp [pSh, pPo])).trans hc
          have hpa := hpa.same hs3 (by simp [pSh]) (by simp [pSh]) (by simp [pSh])
          have hpb := hpb.same hs3 (by simp [pSh]) (by simp [pSh]) (by simp [pSh])
          have hpt := hpt.same hs3 (by simp [pSh]) (by simp [pSh]) (by simp [pSh])
          have hs := hs.trans (hs3.mono (P' := pWk t) (fun k i q => Or.inl q))
          refine s_aload_n dX3_workOut_134 rfl ?_
          refine s_get (kd := 0) (ix := 0) (ci := 4) (fs := [.ref (ad 7 0), .ref (ad 8 0), .ref (ad 1 0), .ref (ad 3 120), .int (nI (kTc κ)), .int (nI (kRc κ))])  hc rfl in_X3_workOut_X3 2 (by decide) (by decide +kernel) rfl rfl dX3_workOut_135 ?_
          refine s_aload_n dX3_workOut_138 rfl ?_
          refine s_callVN (As := [.ref (ad 3 t)]) (rest := []) (n := 1) (kd := 1) (ix := 0) (fun l hl => c_X1_copyTo G l hl ad M3 t (kPo κ t).1 (kPo κ t).2.1 (kPo κ t).2.2.1 (kPo κ t).2.2.2.1 (kPo κ t).2.2.2.2 hpt lo3 ks3 ns3 u3 true hS (fun _ => 0) hR) gX3_workOut_X1_copyTo_n199 rfl (host := "SmallChecker") (by decide +kernel) (by decide +kernel) (by decide +kernel) (by decide +kernel) (by decide +kernel) hS.1 rfl rfl ⟨(Nat.le_of_ble_eq_true rfl), (Nat.le_of_ble_eq_true rfl)⟩ ⟨(Nat.le_of_ble_eq_true rfl), (Nat.le_of_ble_eq_true rfl)⟩ (Nat.le_of_ble_eq_true rfl) dX3_workOut_139 rfl (fun r4 ad4 M4 h4 => ?_)
          obtain ⟨rfl, rfl, ⟨π4, hpt, hq4⟩, hs4⟩ := h4
          have hpg4 : PG π4 := hq4.elim (fun q => q.2) (fun q => nomatch q.1)
          have hc := (hs4 0 0 (by simp [pPo])).trans hc
          have hpa := hpa.same hs4 (by simp [pPo]; omega) (by simp [pPo]; omega) (by simp [pPo]; omega)
          have hpb := hpb.same hs4 (by simp [pPo]; omega) (by simp [pPo]; omega) (by simp [pPo]; omega)
          have hS := hS.same hs4 (by simp [pPo]) (by simp [pPo]) (by simp [pPo]) (by simp [pPo])
          have hs := hs.trans (hs4.mono (P' := pWk t) (fun k i q => Or.inr q))
          refine s_iload_n dX3_workOut_142 rfl ?_
          refine s_iconst (v := 5) dX3_workOut_143 (by decide) ?_
          refine s_icmp_ne 178 dX3_workOut_144 (by decide) (fun c144 => ?_) (fun c144 => absurd c144 (by decide))
          exact s_vret rfl dX3_workOut_178 (Nat.le_of_ble_eq_true rfl) (Nat.le_of_ble_eq_true rfl) (⟨rfl, rfl, ⟨_, _, _, h.work hti hm hs hS hpt, hR, Or.inl ⟨hpg4, Or.inr (Or.inr (fun q => absurd ((dOK_iff hDa hDb).mp q.1) (by omega)))⟩⟩, hs.mono (fun k i q => pWk_ck q)⟩)
        · rw [if_pos hdd3] at h3
          obtain ⟨lo3, ks3, ns3, u3, hS, hR⟩ := h3
          have hc := (hs3 0 0 (by simp [pSh, pPo])).trans hc
          have hpa := hpa.same hs3 (by simp [pSh]) (by simp [pSh]) (by simp [pSh])
          have hpb := hpb.same hs3 (by simp [pSh]) (by simp [pSh]) (by simp [pSh])
          have hpt := hpt.same hs3 (by simp [pSh]) (by simp [pSh]) (by simp [pSh])
          have hs := hs.trans (hs3.mono (P' := pWk t) (fun k i q => Or.inl q))
          refine s_aload_n dX3_workOut_134 rfl ?_
          refine s_get (kd := 0) (ix := 0) (ci := 4) (fs := [.ref (ad 7 0), .ref (ad 8 0), .ref (ad 1 0), .ref (ad 3 120), .int (nI (kTc κ)), .int (nI (kRc κ))])  hc rfl in_X3_workOut_X3 2 (by decide) (by decide +kernel) rfl rfl dX3_workOut_135 ?_
          refine s_aload_n dX3_workOut_138 rfl ?_
          refine s_callVN (As := [.ref (ad 3 t)]) (rest := []) (n := 1) (kd := 1) (ix := 0) (fun l hl => c_X1_copyTo G l hl ad M3 t (kPo κ t).1 (kPo κ t).2.1 (kPo κ t).2.2.1 (kPo κ t).2.2.2.1 (kPo κ t).2.2.2.2 hpt lo3 ks3 ns3 u3 false hS (mul A B) hR) gX3_workOut_X1_copyTo_n199 rfl (host := "SmallChecker") (by decide +kernel) (by decide +kernel) (by decide +kernel) (by decide +kernel) (by decide +kernel) hS.1 rfl rfl ⟨(Nat.le_of_ble_eq_true rfl), (Nat.le_of_ble_eq_true rfl)⟩ ⟨(Nat.le_of_ble_eq_true rfl), (Nat.le_of_ble_eq_true rfl)⟩ (Nat.le_of_ble_eq_true rfl) dX3_workOut_139 rfl (fun r4 ad4 M4 h4 => ?_)
          obtain ⟨rfl, rfl, ⟨π4, hpt, hq4⟩, hs4⟩ := h4
          rcases (show PR π4 (mul A B) ∨ (PG π4 ∧ ¬ fitsP (mul A B)) from hq4.elim (fun q => nomatch q.1) (fun q => q.2)) with hpr4 | ⟨hpg4, hnf4⟩
          · have hc := (hs4 0 0 (by simp [pPo])).trans hc
            have hpa := hpa.same hs4 (by simp [pPo]; omega) (by simp [pPo]; omega) (by simp [pPo]; omega)
            have hpb := hpb.same hs4 (by simp [pPo]; omega) (by simp [pPo]; omega) (by simp [pPo]; omega)
            have hS := hS.same hs4 (by simp [pPo]) (by simp [pPo]) (by simp [pPo]) (by simp [pPo])
            have hs := hs.trans (hs4.mono (P' := pWk t) (fun k i q => Or.inr q))
            refine s_iload_n dX3_workOut_142 rfl ?_
            refine s_iconst (v := 5) dX3_workOut_143 (by decide) ?_
            refine s_icmp_ne 178 dX3_workOut_144 (by decide) (fun c144 => ?_) (fun c144 => absurd c144 (by decide))
            exact s_vret rfl dX3_workOut_178 (Nat.le_of_ble_eq_true rfl) (Nat.le_of_ble_eq_true rfl) (⟨rfl, rfl, ⟨_, _, _, h.work hti hm hs hS hpt, hR, Or.inr ⟨hpr4, fun q => q.elim (fun q => by rw [hga] at q; cases q) (fun q => q.elim (fun q => by rw [hgb] at q; cases q) (fun q => q ⟨(dOK_iff hDa hDb).mpr hdd3, hpr4.ft⟩))⟩⟩, hs.mono (fun k i q => pWk_ck q)⟩)
          · have hc := (hs4 0 0 (by simp [pPo])).trans hc
            have hpa := hpa.same hs4 (by simp [pPo]; omega) (by simp [pPo]; omega) (by simp [pPo]; omega)
            have hpb := hpb.same hs4 (by simp [pPo]; omega) (by simp [pPo]; omega) (by simp [pPo]; omega)
            have hS := hS.same hs4 (by simp [pPo]) (by simp [pPo]) (by simp [pPo]) (by simp [pPo])
            have hs := hs.trans (hs4.mono (P' := pWk t) (fun k i q => Or.inr q))
            refine s_iload_n dX3_workOut_142 rfl ?_
            refine s_iconst (v := 5) dX3_workOut_143 (by decide) ?_
            refine s_icmp_ne 178 dX3_workOut_144 (by decide) (fun c144 => ?_) (fun c144 => absurd c144 (by decide))
            exact s_vret rfl dX3_workOut_178 (Nat.le_of_ble_eq_true rfl) (Nat.le_of_ble_eq_true rfl) (⟨rfl, rfl, ⟨_, _, _, h.work hti hm hs hS hpt, hR, Or.inl ⟨hpg4, Or.inr (Or.inr (fun q => hnf4 q.2))⟩⟩, hs.mono (fun k i q => pWk_ck q)⟩)
      · refine s_tableIn 124 dX3_workOut_28 (by decide) (by decide) rfl (by decide) ?_
        have eAB : A = B := hAB (by omega)
        refine s_aload_n dX3_workOut_124 rfl ?_
        refine s_get (kd := 0) (ix := 0) (ci := 4) (fs := [.ref (ad 7 0), .ref (ad 8 0), .ref (ad 1 0), .ref (ad 3 120), .int (nI (kTc κ)), .int (nI (kRc κ))])  hc rfl in_X3_workOut_X3 2 (by decide) (by decide +kernel) rfl rfl dX3_workOut_125 ?_
        refine s_aload_n dX3_workOut_128 rfl ?_
        refine s_aload dX3_workOut_129 rfl ?_
        refine s_callVN (As := [.ref (ad 3 ja), .ref (ad 3 jb)]) (rest := []) (n := 2) (kd := 1) (ix := 0) (fun l hl => c_X1_addProduct G l hl ad M1 ja na da ak an hpa A hRa jb nb db bk bn hpb B hRb hDa.1 hDb.1 hDa.2.1 hDb.2.1 lo1 (kSh κ).2.1 (kSh κ).2.2.1 0 false hS (fun _ => 0) rfl hR) gX3_workOut_X1_addProduct_n195 rfl (host := "SmallChecker") (by decide +kernel) (by decide +kernel) (by decide +kernel) (by decide +kernel) (by decide +kernel) hS.1 rfl rfl ⟨(Nat.le_of_ble_eq_true rfl), (Nat.le_of_ble_eq_true rfl)⟩ ⟨(Nat.le_of_ble_eq_true rfl), (Nat.le_of_ble_eq_true rfl)⟩ (Nat.le_of_ble_eq_true rfl) dX3_workOut_131 rfl (fun r3 ad3 M3 h3 => ?_)
        obtain ⟨rfl, rfl, h3, hs3⟩ := h3
        rcases Nat.lt_or_ge 9 (da + db) with hdd3 | hdd3
        · rw [if_neg (by omega)] at h3
          obtain ⟨lo3, ks3, ns3, u3, hS, hR⟩ := h3
          have hc := (hs3 0 0 (by simp [pSh, pPo])).trans hc
          have hpa := hpa.same hs3 (by simp [pSh]) (by simp [pSh]) (by simp [pSh])
          have hpb := hpb.same hs3 (by simp [pSh]) (by simp [pSh]) (by simp [pSh])
          have hpt := hpt.same hs3 (by simp [pSh]) (by simp [pSh]) (by simp [pSh])
          have hs := hs.trans (hs3.mono (P' := pWk t) (fun k i q => Or.inl q))
          refine s_aload_n dX3_workOut_134 rfl ?_
          refine s_get (kd := 0) (ix := 0) (ci := 4) (fs := [.ref (ad 7 0), .ref (ad 8 0), .ref (ad 1 0), .ref (ad 3 120), .int (nI (kTc κ)), .int (nI (kRc κ))])  hc rfl in_X3_workOut_X3 2 (by decide) (by decide +kernel) rfl rfl dX3_workOut_135 ?_
          refine s_aload_n dX3_workOut_138 rfl ?_
          refine s_callVN (As := [.ref (ad 3 t)]) (rest := []) (n := 1) (kd := 1) (ix := 0) (fun l hl => c_X1_copyTo G l hl ad M3 t (kPo κ t).1 (kPo κ t).2.1 (kPo κ t).2.2.1 (kPo κ t).2.2.2.1 (kPo κ t).2.2.2.2 hpt lo3 ks3 ns3 u3 true hS (fun _ => 0) hR) gX3_workOut_X1_copyTo_n199 rfl (host := "SmallChecker") (by decide +kernel) (by decide +kernel) (by decide +kernel) (by decide +kernel) (by decide +kernel) hS.1 rfl rfl ⟨(Nat.le_of_ble_eq_true rfl), (Nat.le_of_ble_eq_true rfl)⟩ ⟨(Nat.le_of_ble_eq_true rfl), (Nat.le_of_ble_eq_true rfl)⟩ (Nat.le_of_ble_eq_true rfl) dX3_workOut_139 rfl (fun r4 ad4 M4 h4 => ?_)
          obtain ⟨rfl, rfl, ⟨π4, hpt, hq4⟩, hs4⟩ := h4
          have hpg4 : PG π4 := hq4.elim (fun q => q.2) (fun q => nomatch q.1)
          have hc := (hs4 0 0 (by simp [pPo])).trans hc
          have hpa := hpa.same hs4 (by simp [pPo]; omega) (by simp [pPo]; omega) (by simp [pPo]; omega)
          have hpb := hpb.same hs4 (by simp [pPo]; omega) (by simp [pPo]; omega) (by simp [pPo]; omega)
          have hS := hS.same hs4 (by simp [pPo]) (by simp [pPo]) (by simp [pPo]) (by simp [pPo])
          have hs := hs.trans (hs4.mono (P' := pWk t) (fun k i q => Or.inr q))
          refine s_iload_n dX3_workOut_142 rfl ?_
          refine s_iconst (v := 5) dX3_workOut_143 (by decide) ?_
          refine s_icmp_ne 178 dX3_workOut_144 (by decide) (fun c144 => ?_) (fun c144 => absurd c144 (by decide))
          exact s_vret rfl dX3_workOut_178 (Nat.le_of_ble_eq_true rfl) (Nat.le_of_ble_eq_true rfl) (⟨rfl, rfl, ⟨_, _, _, h.work hti hm hs hS hpt, hR, Or.inl ⟨hpg4, Or.inr (Or.inr (fun q => absurd ((dOK_iff hDa (eAB ▸ hDb)).mp q.1) (by omega)))⟩⟩, hs.mono (fun k i q => pWk_ck q)⟩)
        · rw [if_pos hdd3] at h3
          obtain ⟨lo3, ks3, ns3, u3, hS, hR⟩ := h3
          have hc := (hs3 0 0 (by simp [pSh, pPo])).trans hc
          have hpa := hpa.same hs3 (by simp [pSh]) (by simp [pSh]) (by simp [pSh])
          have hpb := hpb.same hs3 (by simp [pSh]) (by simp [pSh]) (by simp [pSh])
          have hpt := hpt.same hs3 (by simp [pSh]) (by simp [pSh]) (by simp [pSh])
          have hs := hs.trans (hs3.mono (P' := pWk t) (fun k i q => Or.inl q))
          refine s_aload_n dX3_workOut_134 rfl ?_
          refine s_get (kd := 0) (ix := 0) (ci := 4) (fs := [.ref (ad 7 0), .ref (ad 8 0), .ref (ad 1 0), .ref (ad 3 120), .int (nI (kTc κ)), .int (nI (kRc κ))])  hc rfl in_X3_workOut_X3 2 (by decide) (by decide +kernel) rfl rfl dX3_workOut_135 ?_
          refine s_aload_n dX3_workOut_138 rfl ?_
          refine s_callVN (As := [.ref (ad 3 t)]) (rest := []) (n := 1) (kd := 1) (ix := 0) (fun l hl => c_X1_copyTo G l hl ad M3 t (kPo κ t).1 (kPo κ t).2.1 (kPo κ t).2.2.1 (kPo κ t).2.2.2.1 (kPo κ t).2.2.2.2 hpt lo3 ks3 ns3 u3 false hS (mul A B) hR) gX3_workOut_X1_copyTo_n199 rfl (host := "SmallChecker") (by decide +kernel) (by decide +kernel) (by decide +kernel) (by decide +kernel) (by decide +kernel) hS.1 rfl rfl ⟨(Nat.le_of_ble_eq_true rfl), (Nat.le_of_ble_eq_true rfl)⟩ ⟨(Nat.le_of_ble_eq_true rfl), (Nat.le_of_ble_eq_true rfl)⟩ (Nat.le_of_ble_eq_true rfl) dX3_workOut_139 rfl (fun r4 ad4 M4 h4 => ?_)
          obtain ⟨rfl, rfl, ⟨π4, hpt, hq4⟩, hs4⟩ := h4
          rcases (show PR π4 (mul A B) ∨ (PG π4 ∧ ¬ fitsP (mul A B)) from hq4.elim (fun q => nomatch q.1) (fun q => q.2)) with hpr4 | ⟨hpg4, hnf4⟩
          · have hc := (hs4 0 0 (by simp [pPo])).trans hc
            have hpa := hpa.same hs4 (by simp [pPo]; omega) (by simp [pPo]; omega) (by simp [pPo]; omega)
            have hpb := hpb.same hs4 (by simp [pPo]; omega) (by simp [pPo]; omega) (by simp [pPo]; omega)
            have hS := hS.same hs4 (by simp [pPo]) (by simp [pPo]) (by simp [pPo]) (by simp [pPo])
            have hs := hs.trans (hs4.mono (P' := pWk t) (fun k i q => Or.inr q))
            refine s_iload_n dX3_workOut_142 rfl ?_
            refine s_iconst (v := 5) dX3_workOut_143 (by decide) ?_
            refine s_icmp_ne 178 dX3_workOut_144 (by decide) (fun c144 => ?_) (fun c144 => absurd c144 (by decide))
            exact s_vret rfl dX3_workOut_178 (Nat.le_of_ble_eq_true rfl) (Nat.le_of_ble_eq_true rfl) (⟨rfl, rfl, ⟨_, _, _, h.work hti hm hs hS hpt, hR, Or.inr ⟨(by have z := hpr4; rw [← eAB] at z; exact z), fun q => q.elim (fun q => by rw [hga] at q; cases q) (fun q => q.elim (fun q => by rw [hgb] at q; cases q) (fun q => q ⟨(dOK_iff hDa (eAB ▸ hDb)).mpr hdd3, by have z := hpr4.ft; rw [← eAB] at z; exact z⟩))⟩⟩, hs.mono (fun k i q => pWk_ck q)⟩)
          · have hc := (hs4 0 0 (by simp [pPo])).trans hc
            have hpa := hpa.same hs4 (by simp [pPo]; omega) (by simp [pPo]; omega) (by simp [pPo]; omega)
            have hpb := hpb.same hs4 (by simp [pPo]; omega) (by simp [pPo]; omega) (by simp [pPo]; omega)
            have hS := hS.same hs4 (by simp [pPo]) (by simp [pPo]) (by simp [pPo]) (by simp [pPo])
            have hs := hs.trans (hs4.mono (P' := pWk t) (fun k i q => Or.inr q))
            refine s_iload_n dX3_workOut_142 rfl ?_
            refine s_iconst (v := 5) dX3_workOut_143 (by decide) ?_
            refine s_icmp_ne 178 dX3_workOut_144 (by decide) (fun c144 => ?_) (fun c144 => absurd c144 (by decide))
            exact s_vret rfl dX3_workOut_178 (Nat.le_of_ble_eq_true rfl) (Nat.le_of_ble_eq_true rfl) (⟨rfl, rfl, ⟨_, _, _, h.work hti hm hs hS hpt, hR, Or.inl ⟨hpg4, Or.inr (Or.inr (fun q => hnf4 (by rw [← eAB]; exact q.2)))⟩⟩, hs.mono (fun k i q => pWk_ck q)⟩)
      · refine s_tableIn 112 dX3_workOut_28 (by decide) (by decide) rfl (by decide) ?_
        refine s_aload_n dX3_workOut_112 rfl ?_
        refine s_get (kd := 0) (ix := 0) (ci := 4) (fs := [.ref (ad 7 0), .ref (ad 8 0), .ref (ad 1 0), .ref (ad 3 120), .int (nI (kTc κ)), .int (nI (kRc κ))])  hc rfl in_X3_workOut_X3 2 (by decide) (by decide +kernel) rfl rfl dX3_workOut_113 ?_
        refine s_aload_n dX3_workOut_116 rfl ?_
        refine s_iconst (v := -1) dX3_workOut_117 (by decide) ?_
        refine s_callVN (As := [.ref (ad 3 ja), .int (-1)]) (rest := []) (n := 2) (kd := 1) (ix := 0) (fun l hl => c_X1_addMultiple G l hl ad M1 ja na (nI da) false ak an hpa A hRa lo1 (kSh κ).2.1 (kSh κ).2.2.1 0 false hS (fun _ => 0) hR 0 (fun y => by omega) (by omega) (-1) (Or.inr rfl)) gX3_workOut_X1_addMultiple_n191 rfl (host := "SmallChecker") (by decide +kernel) (by decide +kernel) (by decide +kernel) (by decide +kernel) (by decide +kernel) hS.1 rfl rfl ⟨(Nat.le_of_ble_eq_true rfl), (Nat.le_of_ble_eq_true rfl)⟩ ⟨(Nat.le_of_ble_eq_true rfl), (Nat.le_of_ble_eq_true rfl)⟩ (Nat.le_of_ble_eq_true rfl) dX3_workOut_118 rfl (fun r3 ad3 M3 h3 => ?_)
        obtain ⟨rfl, rfl, ⟨lo3, ks3, ns3, u3, hS, hR⟩, hs3⟩ := h3
        have hc := (hs3 0 0 (by simp [pSh, pPo])).trans hc
        have hpa := hpa.same hs3 (by simp [pSh]) (by simp [pSh]) (by simp [pSh])
        have hpb := hpb.same hs3 (by simp [pSh]) (by simp [pSh]) (by simp [pSh])
        have hpt := hpt.same hs3 (by simp [pSh]) (by simp [pSh]) (by simp [pSh])
        have hs := hs.trans (hs3.mono (P' := pWk t) (fun k i q => Or.inl q))
        refine s_goto 134 dX3_workOut_121 (by decide) ?_
        have e9 : (fun y => 0 + (-1 : Int32).toInt * A y) = WF 4 A B := by
          funext y
          show 0 + (-1 : Int32).toInt * A y = - A y
          rw [show (-1 : Int32).toInt = -1 from rfl]
          omega
        rw [e9] at hR
        refine s_aload_n dX3_workOut_134 rfl ?_
        refine s_get (kd := 0) (ix := 0) (ci := 4) (fs := [.ref (ad 7 0), .ref (ad 8 0), .ref (ad 1 0), .ref (ad 3 120), .int (nI (kTc κ)), .int (nI (kRc κ))])  hc rfl in_X3_workOut_X3 2 (by decide) (by decide +kernel) rfl rfl dX3_workOut_135 ?_
        refine s_aload_n dX3_workOut_138 rfl ?_
        refine s_callVN (As := [.ref (ad 3 t)]) (rest := []) (n := 1) (kd := 1) (ix := 0) (fun l hl => c_X1_copyTo G l hl ad M3 t (kPo κ t).1 (kPo κ t).2.1 (kPo κ t).2.2.1 (kPo κ t).2.2.2.1 (kPo κ t).2.2.2.2 hpt lo3 ks3 ns3 u3 false hS (WF 4 A B) hR) gX3_workOut_X1_copyTo_n199 rfl (host := "SmallChecker") (by decide +kernel) (by decide +kernel) (by decide +kernel) (by decide +kernel) (by decide +kernel) hS.1 rfl rfl ⟨(Nat.le_of_ble_eq_true rfl), (Nat.le_of_ble_eq_true rfl)⟩ ⟨(Nat.le_of_ble_eq_true rfl), (Nat.le_of_ble_eq_true rfl)⟩ (Nat.le_of_ble_eq_true rfl) dX3_workOut_139 rfl (fun r4 ad4 M4 h4 => ?_)
        obtain ⟨rfl, rfl, ⟨π4, hpt, hq4⟩, hs4⟩ := h4
        rcases (show PR π4 (WF 4 A B) ∨ (PG π4 ∧ ¬ fitsP (WF 4 A B)) from hq4.elim (fun q => nomatch q.1) (fun q => q.2)) with hpr4 | ⟨hpg4, hnf4⟩
        · have hc := (hs4 0 0 (by simp [pPo])).trans hc
          have hpa := hpa.same hs4 (by simp [pPo]; omega) (by simp [pPo]; omega) (by simp [pPo]; omega)
          have hpb := hpb.same hs4 (by simp [pPo]; omega) (by simp [pPo]; omega) (by simp [pPo]; omega)
          have hS := hS.same hs4 (by simp [pPo]) (by simp [pPo]) (by simp [pPo]) (by simp [pPo])
          have hs := hs.trans (hs4.mono (P' := pWk t) (fun k i q => Or.inr q))
          refine s_iload_n dX3_workOut_142 rfl ?_
          refine s_iconst (v := 5) dX3_workOut_143 (by decide) ?_
          refine s_icmp_ne 178 dX3_workOut_144 (by decide) (fun c144 => ?_) (fun c144 => absurd c144 (by decide))
          exact s_vret rfl dX3_workOut_178 (Nat.le_of_ble_eq_true rfl) (Nat.le_of_ble_eq_true rfl) (⟨rfl, rfl, ⟨_, _, _, h.work hti hm hs hS hpt, hR, Or.inr ⟨hpr4, fun q => q.elim (fun q => by rw [hga] at q; cases q) (fun q => q.elim (fun q => by rw [hgb] at q; cases q) (fun q => q hpr4.ft))⟩⟩, hs.mono (fun k i q => pWk_ck q)⟩)
        · have hc := (hs4 0 0 (by simp [pPo])).trans hc
          have hpa := hpa.same hs4 (by simp [pPo]; omega) (by simp [pPo]; omega) (by simp [pPo]; omega)
          have hpb := hpb.same hs4 (by simp [pPo]; omega) (by simp [pPo]; omega) (by simp [pPo]; omega)
          have hS := hS.same hs4 (by simp [pPo]) (by simp [pPo]) (by simp [pPo]) (by simp [pPo])
          have hs := hs.trans (hs4.mono (P' := pWk t) (fun k i q => Or.inr q))
          refine s_iload_n dX3_workOut_142 rfl ?_
          refine s_iconst (v := 5) dX3_workOut_143 (by decide) ?_
          refine s_icmp_ne 178 dX3_workOut_144 (by decide) (fun c144 => ?_) (fun c144 => absurd c144 (by decide))
          exact s_vret rfl dX3_workOut_178 (Nat.le_of_ble_eq_true rfl) (Nat.le_of_ble_eq_true rfl) (⟨rfl, rfl, ⟨_, _, _, h.work hti hm hs hS hpt, hR, Or.inl ⟨hpg4, Or.inr (Or.inr (hnf4))⟩⟩, hs.mono (fun k i q => pWk_ck q)⟩)
      · refine s_tableIn 124 dX3_workOut_28 (by decide) (by decide) rfl (by decide) ?_
        have eAB : A = B := hAB (by omega)
        refine s_aload_n dX3_workOut_124 rfl ?_
        refine s_get (kd := 0) (ix := 0) (ci := 4) (fs := [.ref (ad 7 0), .ref (ad 8 0), .ref (ad 1 0), .ref (ad 3 120), .int (nI (kTc κ)), .int (nI (kRc κ))])  hc rfl in_X3_workOut_X3 2 (by decide) (by decide +kernel) rfl rfl dX3_workOut_125 ?_
        refine s_aload_n dX3_workOut_128 rfl ?_
        refine s_aload dX3_workOut_129 rfl ?_
        refine s_callVN (As := [.ref (ad 3 ja), .ref (ad 3 jb)]) (rest := []) (n := 2) (kd := 1) (ix := 0) (fun l hl => c_X1_addProduct G l hl ad M1 ja na da ak an hpa A hRa jb nb db bk bn hpb B hRb hDa.1 hDb.1 hDa.2.1 hDb.2.1 lo1 (kSh κ).2.1 (kSh κ).2.2.1 0 false hS (fun _ => 0) rfl hR) gX3_workOut_X1_addProduct_n195 rfl (host := "SmallChecker") (by decide +kernel) (by decide +kernel) (by decide +kernel) (by decide +kernel) (by decide +kernel) hS.1 rfl rfl ⟨(Nat.le_of_ble_eq_true rfl), (Nat.le_of_ble_eq_true rfl)⟩ ⟨(Nat.le_of_ble_eq_true rfl), (Nat.le_of_ble_eq_true rfl)⟩ (Nat.le_of_ble_eq_true rfl) dX3_workOut_131 rfl (fun r3 ad3 M3 h3 => ?_)
        obtain ⟨rfl, rfl, h3, hs3⟩ := h3
        rcases Nat.lt_or_ge 9 (da + db) with hdd3 | hdd3
        · rw [if_neg (by omega)] at h3
          obtain ⟨lo3, ks3, ns3, u3, hS, hR⟩ := h3
          have hc := (hs3 0 0 (by simp [pSh, pPo])).trans hc
          have hpa := hpa.same hs3 (by simp [pSh]) (by simp [pSh]) (by simp [pSh])
          have hpb := hpb.same hs3 (by simp [pSh]) (by simp [pSh]) (by simp [pSh])
          have hpt := hpt.same hs3 (by simp [pSh]) (by simp [pSh]) (by simp [pSh])
          have hs := hs.trans (hs3.mono (P' := pWk t) (fun k i q => Or.inl q))
          refine s_aload_n dX3_workOut_134 rfl ?_
          refine s_get (kd := 0) (ix := 0) (ci := 4) (fs := [.ref (ad 7 0), .ref (ad 8 0), .ref (ad 1 0), .ref (ad 3 120), .int (nI (kTc κ)), .int (nI (kRc κ))])  hc rfl in_X3_workOut_X3 2 (by decide) (by decide +kernel) rfl rfl dX3_workOut_135 ?_
          refine s_aload_n dX3_workOut_138 rfl ?_
          refine s_callVN (As := [.ref (ad 3 t)]) (rest := []) (n := 1) (kd := 1) (ix := 0) (fun l hl => c_X1_copyTo G l hl ad M3 t (kPo κ t).1 (kPo κ t).2.1 (kPo κ t).2.2.1 (kPo κ t).2.2.2.1 (kPo κ t).2.2.2.2 hpt lo3 ks3 ns3 u3 true hS (fun _ => 0) hR) gX3_workOut_X1_copyTo_n199 rfl (host := "SmallChecker") (by decide +kernel) (by decide +kernel) (by decide +kernel) (by decide +kernel) (by decide +kernel) hS.1 rfl rfl ⟨(Nat.le_of_ble_eq_true rfl), (Nat.le_of_ble_eq_true rfl)⟩ ⟨(Nat.le_of_ble_eq_true rfl), (Nat.le_of_ble_eq_true rfl)⟩ (Nat.le_of_ble_eq_true rfl) dX3_workOut_139 rfl (fun r4 ad4 M4 h4 => ?_)
          obtain ⟨rfl, rfl, ⟨π4, hpt, hq4⟩, hs4⟩ := h4
          have hpg4 : PG π4 := hq4.elim (fun q => q.2) (fun q => nomatch q.1)
          have hc := (hs4 0 0 (by simp [pPo])).trans hc
          have hpa := hpa.same hs4 (by simp [pPo]; omega) (by simp [pPo]; omega) (by simp [pPo]; omega)
          have hpb := hpb.same hs4 (by simp [pPo]; omega) (by simp [pPo]; omega) (by simp [pPo]; omega)
          have hS := hS.same hs4 (by simp [pPo]) (by simp [pPo]) (by simp [pPo]) (by simp [pPo])
          have hs := hs.trans (hs4.mono (P' := pWk t) (fun k i q => Or.inr q))
          refine s_iload_n dX3_workOut_142 rfl ?_
          refine s_iconst (v := 5) dX3_workOut_143 (by decide) ?_
          refine s_icmp_ne 178 dX3_workOut_144 (by decide) (fun c144 => absurd (rfl) c144) (fun c144 => ?_)
          refine s_aload_n dX3_workOut_147 rfl ?_
          refine s_callVN (As := []) (rest := []) (n := 0) (kd := 3) (ix := t) (fun l hl => c_X0_isTooGreat G l hl ad M4 t π4.1 π4.2.1 π4.2.2.1 π4.2.2.2.1 π4.2.2.2.2 hpt) gX3_workOut_X0_isTooGreat_n151 rfl (host := "SmallChecker") (by decide +kernel) (by decide +kernel) (by decide +kernel) (by decide +kernel) (by decide +kernel) hpt.1 rfl rfl ⟨(Nat.le_of_ble_eq_true rfl), (Nat.le_of_ble_eq_true rfl)⟩ ⟨(Nat.le_of_ble_eq_true rfl), (Nat.le_of_ble_eq_true rfl)⟩ (Nat.le_of_ble_eq_true rfl) dX3_workOut_148 rfl (fun r9 ad9 M9 h9 => ?_)
          obtain ⟨rfl, rfl, rfl⟩ := h9
          refine s_if_ne 178 dX3_workOut_151 (by decide) (fun c151 => ?_) (fun c151 => absurd c151 (by rw [hpg4.2]; decide))
          exact s_vret rfl dX3_workOut_178 (Nat.le_of_ble_eq_true rfl) (Nat.le_of_ble_eq_true rfl) (⟨rfl, rfl, ⟨_, _, _, h.work hti hm hs hS hpt, hR, Or.inl ⟨hpg4, Or.inr (Or.inr (fun q => absurd ((dOK_iff hDa (eAB ▸ hDb)).mp q.1) (by omega)))⟩⟩, hs.mono (fun k i q => pWk_ck q)⟩)
        · rw [if_pos hdd3] at h3
          obtain ⟨lo3, ks3, ns3, u3, hS, hR⟩ := h3
          have hc := (hs3 0 0 (by simp [pSh, pPo])).trans hc
          have hpa := hpa.same hs3 (by simp [pSh]) (by simp [pSh]) (by simp [pSh])
          have hpb := hpb.same hs3 (by simp [pSh]) (by simp [pSh]) (by simp [pSh])
          have hpt := hpt.same hs3 (by simp [pSh]) (by simp [pSh]) (by simp [pSh])
          have hs := hs.trans (hs3.mono (P' := pWk t) (fun k i q => Or.inl q))
          refine s_aload_n dX3_workOut_134 rfl ?_
          refine s_get (kd := 0) (ix := 0) (ci := 4) (fs := [.ref (ad 7 0), .ref (ad 8 0), .ref (ad 1 0), .ref (ad 3 120), .int (nI (kTc κ)), .int (nI (kRc κ))])  hc rfl in_X3_workOut_X3 2 (by decide) (by decide +kernel) rfl rfl dX3_workOut_135 ?_
          refine s_aload_n dX3_workOut_138 rfl ?_
          refine s_callVN (As := [.ref (ad 3 t)]) (rest := []) (n := 1) (kd := 1) (ix := 0) (fun l hl => c_X1_copyTo G l hl ad M3 t (kPo κ t).1 (kPo κ t).2.1 (kPo κ t).2.2.1 (kPo κ t).2.2.2.1 (kPo κ t).2.2.2.2 hpt lo3 ks3 ns3 u3 false hS (mul A B) hR) gX3_workOut_X1_copyTo_n199 rfl (host := "SmallChecker") (by decide +kernel) (by decide +kernel) (by decide +kernel) (by decide +kernel) (by decide +kernel) hS.1 rfl rfl ⟨(Nat.le_of_ble_eq_true rfl), (Nat.le_of_ble_eq_true rfl)⟩ ⟨(Nat.le_of_ble_eq_true rfl), (Nat.le_of_ble_eq_true rfl)⟩ (Nat.le_of_ble_eq_true rfl) dX3_workOut_139 rfl (fun r4 ad4 M4 h4 => ?_)
          obtain ⟨rfl, rfl, ⟨π4, hpt, hq4⟩, hs4⟩ := h4
          rcases (show PR π4 (mul A B) ∨ (PG π4 ∧ ¬ fitsP (mul A B)) from hq4.elim (fun q => nomatch q.1) (fun q => q.2)) with hpr4 | ⟨hpg4, hnf4⟩
          · have hc := (hs4 0 0 (by simp [pPo])).trans hc
            have hpa := hpa.same hs4 (by simp [pPo]; omega) (by simp [pPo]; omega) (by simp [pPo]; omega)
            have hpb := hpb.same hs4 (by simp [pPo]; omega) (by simp [pPo]; omega) (by simp [pPo]; omega)
            have hS := hS.same hs4 (by simp [pPo]) (by simp [pPo]) (by simp [pPo]) (by simp [pPo])
            have hs := hs.trans (hs4.mono (P' := pWk t) (fun k i q => Or.inr q))
            refine s_iload_n dX3_workOut_142 rfl ?_
            refine s_iconst (v := 5) dX3_workOut_143 (by decide) ?_
            refine s_icmp_ne 178 dX3_workOut_144 (by decide) (fun c144 => absurd (rfl) c144) (fun c144 => ?_)
            refine s_aload_n dX3_workOut_147 rfl ?_
            refine s_callVN (As := []) (rest := []) (n := 0) (kd := 3) (ix := t) (fun l hl => c_X0_isTooGreat G l hl ad M4 t π4.1 π4.2.1 π4.2.2.1 π4.2.2.2.1 π4.2.2.2.2 hpt) gX3_workOut_X0_isTooGreat_n151 rfl (host := "SmallChecker") (by decide +kernel) (by decide +kernel) (by decide +kernel) (by decide +kernel) (by decide +kernel) hpt.1 rfl rfl ⟨(Nat.le_of_ble_eq_true rfl), (Nat.le_of_ble_eq_true rfl)⟩ ⟨(Nat.le_of_ble_eq_true rfl), (Nat.le_of_ble_eq_true rfl)⟩ (Nat.le_of_ble_eq_true rfl) dX3_workOut_148 rfl (fun r9 ad9 M9 h9 => ?_)
            obtain ⟨rfl, rfl, rfl⟩ := h9
            refine s_if_ne 178 dX3_workOut_151 (by decide) (fun c151 => absurd ((jB_0.mpr (hpr4.choose_spec.2.1))) c151) (fun c151 => ?_)
            have hRt : PR π4 (mul A A) := by have z := hpr4; rw [← eAB] at z; exact z
            have hfA := hRt.ft
            obtain ⟨nt, dt, tk, tn, et, hDt⟩ := hRt.norm
            rw [et] at hpt hRt
            refine s_aload_n dX3_workOut_154 rfl ?_
            refine s_get (kd := 0) (ix := 0) (ci := 4) (fs := [.ref (ad 7 0), .ref (ad 8 0), .ref (ad 1 0), .ref (ad 3 120), .int (nI (kTc κ)), .int (nI (kRc κ))])  hc rfl in_X3_workOut_X3 2 (by decide) (by decide +kernel) rfl rfl dX3_workOut_155 ?_
            refine s_callVN (As := []) (rest := []) (n := 0) (kd := 1) (ix := 0) (fun l hl => c_X1_wipe G l hl ad M4 lo3 ks3 ns3 u3 false hS (mul A B) hR) gX3_workOut_X1_wipe_n188 rfl (host := "SmallChecker") (by decide +kernel) (by decide +kernel) (by decide +kernel) (by decide +kernel) (by decide +kernel) hS.1 rfl rfl ⟨(Nat.le_of_ble_eq_true rfl), (Nat.le_of_ble_eq_true rfl)⟩ ⟨(Nat.le_of_ble_eq_true rfl), (Nat.le_of_ble_eq_true rfl)⟩ (Nat.le_of_ble_eq_true rfl) dX3_workOut_158 rfl (fun r5 ad5 M5 h5 => ?_)
            obtain ⟨rfl, rfl, ⟨lo5, hS, hR⟩, hs5⟩ := h5
            have hc := (hs5 0 0 (by simp [pSh, pPo])).trans hc
            have hpa := hpa.same hs5 (by simp [pSh]) (by simp [pSh]) (by simp [pSh])
            have hpb := hpb.same hs5 (by simp [pSh]) (by simp [pSh]) (by simp [pSh])
            have hpt := hpt.same hs5 (by simp [pSh]) (by simp [pSh]) (by simp [pSh])
            have hs := hs.trans (hs5.mono (P' := pWk t) (fun k i q => Or.inl q))
            refine s_aload_n dX3_workOut_161 rfl ?_
            refine s_get (kd := 0) (ix := 0) (ci := 4) (fs := [.ref (ad 7 0), .ref (ad 8 0), .ref (ad 1 0), .ref (ad 3 120), .int (nI (kTc κ)), .int (nI (kRc κ))])  hc rfl in_X3_workOut_X3 2 (by decide) (by decide +kernel) rfl rfl dX3_workOut_162 ?_
            refine s_aload_n dX3_workOut_165 rfl ?_
            refine s_aload_n dX3_workOut_166 rfl ?_
            refine s_callVN (As := [.ref (ad 3 t), .ref (ad 3 ja)]) (rest := []) (n := 2) (kd := 1) (ix := 0) (fun l hl => c_X1_addProduct G l hl ad M5 t nt dt tk tn hpt (mul A A) hRt ja na da ak an hpa A hRa hDt.1 hDa.1 hDt.2.1 hDa.2.1 lo5 ks3 ns3 0 false hS (fun _ => 0) rfl hR) gX3_workOut_X1_addProduct_n195 rfl (host := "SmallChecker") (by decide +kernel) (by decide +kernel) (by decide +kernel) (by decide +kernel) (by decide +kernel) hS.1 rfl rfl ⟨(Nat.le_of_ble_eq_true rfl), (Nat.le_of_ble_eq_true rfl)⟩ ⟨(Nat.le_of_ble_eq_true rfl), (Nat.le_of_ble_eq_true rfl)⟩ (Nat.le_of_ble_eq_true rfl) dX3_workOut_167 rfl (fun r6 ad6 M6 h6 => ?_)
            obtain ⟨rfl, rfl, h6, hs6⟩ := h6
            rcases Nat.lt_or_ge 9 (dt + da) with hdd6 | hdd6
            · rw [if_neg (by omega)] at h6
              obtain ⟨lo6, ks6, ns6, u6, hS, hR⟩ := h6
              have hc := (hs6 0 0 (by simp [pSh, pPo])).trans hc
              have hpa := hpa.same hs6 (by simp [pSh]) (by simp [pSh]) (by simp [pSh])
              have hpb := hpb.same hs6 (by simp [pSh]) (by simp [pSh]) (by simp [pSh])
              have hpt := hpt.same hs6 (by simp [pSh]) (by simp [pSh]) (by simp [pSh])
              have hs := hs.trans (hs6.mono (P' := pWk t) (fun k i q => Or.inl q))
              refine s_aload_n dX3_workOut_170 rfl ?_
              refine s_get (kd := 0) (ix := 0) (ci := 4) (fs := [.ref (ad 7 0), .ref (ad 8 0), .ref (ad 1 0), .ref (ad 3 120), .int (nI (kTc κ)), .int (nI (kRc κ))])  hc rfl in_X3_workOut_X3 2 (by decide) (by decide +kernel) rfl rfl dX3_workOut_171 ?_
              refine s_aload_n dX3_workOut_174 rfl ?_
              refine s_callVN (As := [.ref (ad 3 t)]) (rest := []) (n := 1) (kd := 1) (ix := 0) (fun l hl => c_X1_copyTo G l hl ad M6 t nt (nI dt) false tk tn hpt lo6 ks6 ns6 u6 true hS (fun _ => 0) hR) gX3_workOut_X1_copyTo_n199 rfl (host := "SmallChecker") (by decide +kernel) (by decide +kernel) (by decide +kernel) (by decide +kernel) (by decide +kernel) hS.1 rfl rfl ⟨(Nat.le_of_ble_eq_true rfl), (Nat.le_of_ble_eq_true rfl)⟩ ⟨(Nat.le_of_ble_eq_true rfl), (Nat.le_of_ble_eq_true rfl)⟩ (Nat.le_of_ble_eq_true rfl) dX3_workOut_175 rfl (fun r7 ad7 M7 h7 => ?_)
              obtain ⟨rfl, rfl, ⟨π7, hpt, hq7⟩, hs7⟩ := h7
              have hpg7 : PG π7 := hq7.elim (fun q => q.2) (fun q => nomatch q.1)
              have hc := (hs7 0 0 (by simp [pPo])).trans hc
              have hpa := hpa.same hs7 (by simp [pPo]; omega) (by simp [pPo]; omega) (by simp [pPo]; omega)
              have hpb := hpb.same hs7 (by simp [pPo]; omega) (by simp [pPo]; omega) (by simp [pPo]; omega)
              have hS := hS.same hs7 (by simp [pPo]) (by simp [pPo]) (by simp [pPo]) (by simp [pPo])
              have hs := hs.trans (hs7.mono (P' := pWk t) (fun k i q => Or.inr q))
              exact s_vret rfl dX3_workOut_178 (Nat.le_of_ble_eq_true rfl) (Nat.le_of_ble_eq_true rfl) (⟨rfl, rfl, ⟨_, _, _, h.work hti hm hs hS hpt, hR, Or.inl ⟨hpg7, Or.inr (Or.inr (fun q => absurd ((dOK_iff hDt hDa).mp q.2.2.1) (by omega)))⟩⟩, hs.mono (fun k i q => pWk_ck q)⟩)
            · rw [if_pos hdd6] at h6
              obtain ⟨lo6, ks6, ns6, u6, hS, hR⟩ := h6
              have hc := (hs6 0 0 (by simp [pSh, pPo])).trans hc
              have hpa := hpa.same hs6 (by simp [pSh]) (by simp [pSh]) (by simp [pSh])
              have hpb := hpb.same hs6 (by simp [pSh]) (by simp [pSh]) (by simp [pSh])
              have hpt := hpt.same hs6 (by simp [pSh]) (by simp [pSh]) (by simp [pSh])
              have hs := hs.trans (hs6.mono (P' := pWk t) (fun k i q => Or.inl q))
              refine s_aload_n dX3_workOut_170 rfl ?_
              refine s_get (kd := 0) (ix := 0) (ci := 4) (fs := [.ref (ad 7 0), .ref (ad 8 0), .ref (ad 1 0), .ref (ad 3 120), .int (nI (kTc κ)), .int (nI (kRc κ))])  hc rfl in_X3_workOut_X3 2 (by decide) (by decide +kernel) rfl rfl dX3_workOut_171 ?_
              refine s_aload_n dX3_workOut_174 rfl ?_
              refine s_callVN (As := [.ref (ad 3 t)]) (rest := []) (n := 1) (kd := 1) (ix := 0) (fun l hl => c_X1_copyTo G l hl ad M6 t nt (nI dt) false tk tn hpt lo6 ks6 ns6 u6 false hS (mul (mul A A) A) hR) gX3_workOut_X1_copyTo_n199 rfl (host := "SmallChecker") (by decide +kernel) (by decide +kernel) (by decide +kernel) (by decide +kernel) (by decide +kernel) hS.1 rfl rfl ⟨(Nat.le_of_ble_eq_true rfl), (Nat.le_of_ble_eq_true rfl)⟩ ⟨(Nat.le_of_ble_eq_true rfl), (Nat.le_of_ble_eq_true rfl)⟩ (Nat.le_of_ble_eq_true rfl) dX3_workOut_175 rfl (fun r7 ad7 M7 h7 => ?_)
              obtain ⟨rfl, rfl, ⟨π7, hpt, hq7⟩, hs7⟩ := h7
              rcases (show PR π7 (mul (mul A A) A) ∨ (PG π7 ∧ ¬ fitsP (mul (mul A A) A)) from hq7.elim (fun q => nomatch q.1) (fun q => q.2)) with hpr7 | ⟨hpg7, hnf7⟩
              · have hc := (hs7 0 0 (by simp [pPo])).trans hc
                have hpa := hpa.same hs7 (by simp [pPo]; omega) (by simp [pPo]; omega) (by simp [pPo]; omega)
                have hpb := hpb.same hs7 (by simp [pPo]; omega) (by simp [pPo]; omega) (by simp [pPo]; omega)
                have hS := hS.same hs7 (by simp [pPo]) (by simp [pPo]) (by simp [pPo]) (by simp [pPo])
                have hs := hs.trans (hs7.mono (P' := pWk t) (fun k i q => Or.inr q))
                exact s_vret rfl dX3_workOut_178 (Nat.le_of_ble_eq_true rfl) (Nat.le_of_ble_eq_true rfl) (⟨rfl, rfl, ⟨_, _, _, h.work hti hm hs hS hpt, hR, Or.inr ⟨hpr7, fun q => q.elim (fun q => by rw [hga] at q; cases q) (fun q => q.elim (fun q => by rw [hgb] at q; cases q) (fun q => q ⟨(dOK_iff hDa (eAB ▸ hDb)).mpr hdd3, hfA, (dOK_iff hDt hDa).mpr hdd6, hpr7.ft⟩))⟩⟩, hs.mono (fun k i q => pWk_ck q)⟩)
              · have hc := (hs7 0 0 (by simp [pPo])).trans hc
                have hpa := hpa.same hs7 (by simp [pPo]; omega) (by simp [pPo]; omega) (by simp [pPo]; omega)
                have hpb := hpb.same hs7 (by simp [pPo]; omega) (by simp [pPo]; omega) (by simp [pPo]; omega)
                have hS := hS.same hs7 (by simp [pPo]) (by simp [pPo]) (by simp [pPo]) (by simp [pPo])
                have hs := hs.trans (hs7.mono (P' := pWk t) (fun k i q => Or.inr q))
                exact s_vret rfl dX3_workOut_178 (Nat.le_of_ble_eq_true rfl) (Nat.le_of_ble_eq_true rfl) (⟨rfl, rfl, ⟨_, _, _, h.work hti hm hs hS hpt, hR, Or.inl ⟨hpg7, Or.inr (Or.inr (fun q => hnf7 q.2.2.2))⟩⟩, hs.mono (fun k i q => pWk_ck q)⟩)
          · have hc := (hs4 0 0 (by simp [pPo])).trans hc
            have hpa := hpa.same hs4 (by simp [pPo]; omega) (by simp [pPo]; omega) (by simp [pPo]; omega)
            have hpb := hpb.same hs4 (by simp [pPo]; omega) (by simp [pPo]; omega) (by simp [pPo]; omega)
            have hS := hS.same hs4 (by simp [pPo]) (by simp [pPo]) (by simp [pPo]) (by simp [pPo])
            have hs := hs.trans (hs4.mono (P' := pWk t) (fun k i q => Or.inr q))
            refine s_iload_n dX3_workOut_142 rfl ?_
            refine s_iconst (v := 5) dX3_workOut_143 (by decide) ?_
            refine s_icmp_ne 178 dX3_workOut_144 (by decide) (fun c144 => absurd (rfl) c144) (fun c144 => ?_)
            refine s_aload_n dX3_workOut_147 rfl ?_
            refine s_callVN (As := []) (rest := []) (n := 0) (kd := 3) (ix := t) (fun l hl => c_X0_isTooGreat G l hl ad M4 t π4.1 π4.2.1 π4.2.2.1 π4.2.2.2.1 π4.2.2.2.2 hpt) gX3_workOut_X0_isTooGreat_n151 rfl (host := "SmallChecker") (by decide +kernel) (by decide +kernel) (by decide +kernel) (by decide +kernel) (by decide +kernel) hpt.1 rfl rfl ⟨(Nat.le_of_ble_eq_true rfl), (Nat.le_of_ble_eq_true rfl)⟩ ⟨(Nat.le_of_ble_eq_true rfl), (Nat.le_of_ble_eq_true rfl)⟩ (Nat.le_of_ble_eq_true rfl) dX3_workOut_148 rfl (fun r9 ad9 M9 h9 => ?_)
            obtain ⟨rfl, rfl, rfl⟩ := h9
            refine s_if_ne 178 dX3_workOut_151 (by decide) (fun c151 => ?_) (fun c151 => absurd c151 (by rw [hpg4.2]; decide))
            exact s_vret rfl dX3_workOut_178 (Nat.le_of_ble_eq_true rfl) (Nat.le_of_ble_eq_true rfl) (⟨rfl, rfl, ⟨_, _, _, h.work hti hm hs hS hpt, hR, Or.inl ⟨hpg4, Or.inr (Or.inr (fun q => hnf4 (by rw [← eAB]; exact q.2.1)))⟩⟩, hs.mono (fun k i q => pWk_ck q)⟩)
    · refine s_aload_n dX3_workOut_15 rfl ?_
      refine s_callVN (As := []) (rest := []) (n := 0) (kd := 3) (ix := t) (fun l hl => c_X0_becomeTooGreat G l hl ad M t (kPo κ t).1 (kPo κ t).2.1 (kPo κ t).2.2.1 (kPo κ t).2.2.2.1 (kPo κ t).2.2.2.2 (h.2.2.2.2.2.1 t hti)) gX3_workOut_X0_becomeTooGreat_n185 rfl (host := "SmallChecker") (by decide +kernel) (by decide +kernel) (by decide +kernel) (by decide +kernel) (by decide +kernel) ((h.2.2.2.2.2.1 t hti).1) rfl rfl ⟨(Nat.le_of_ble_eq_true rfl), (Nat.le_of_ble_eq_true rfl)⟩ ⟨(Nat.le_of_ble_eq_true rfl), (Nat.le_of_ble_eq_true rfl)⟩ (Nat.le_of_ble_eq_true rfl) dX3_workOut_16 rfl (fun r9 ad9 M9 h9 => ?_)
      obtain ⟨rfl, rfl, hp9, hs9⟩ := h9
      exact s_vret rfl dX3_workOut_19 (Nat.le_of_ble_eq_true rfl) (Nat.le_of_ble_eq_true rfl) (⟨rfl, rfl, ⟨kSh κ, f, _, h.work hti hm (hs9.mono (fun k i q => Or.inr q)) (h.2.2.2.2.2.2.2.1.same hs9 (by simp [pPo]) (by simp [pPo]) (by simp [pPo]) (by simp [pPo])) hp9, hR, Or.inl ⟨⟨rfl, rfl⟩, Or.inr (Or.inl (Bool.of_not_eq_false (fun q => c12 (jB_0.mpr q))))⟩⟩, hs9.mono (fun k i q => pWk_ck (Or.inr q))⟩)
