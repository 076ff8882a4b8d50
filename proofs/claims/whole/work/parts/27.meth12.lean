/-! holds -/
def kSetSh (κ : sCk) (σ : sShe) : sCk := (κ.1, κ.2.1, κ.2.2.1, κ.2.2.2.1, κ.2.2.2.2.1, κ.2.2.2.2.2.1, κ.2.2.2.2.2.2.1, σ)
theorem hCk.sheet {G : sG} {ad : sAd} {M M' : sM} {κ : sCk} {σ : sShe} (h : hCk G ad M κ) (hs : sSame pSh M M') (hS : hSh G ad M' σ) : hCk G ad M' (kSetSh κ σ) :=
  ⟨(hs 0 0 (by simp [pSh])).trans h.1, (hs 7 0 (by simp [pSh])).trans h.2.1, (hs 8 0 (by simp [pSh])).trans h.2.2.1, fun i hi => (hs 6 i (by simp [pSh])).trans (h.2.2.2.1 i hi), fun i hi => (hs 2 i (by simp [pSh])).trans (h.2.2.2.2.1 i hi), fun i hi => (h.2.2.2.2.2.1 i hi).same hs (by simp [pSh]) (by simp [pSh]) (by simp [pSh]), h.2.2.2.2.2.2.1.same hs (by simp [pSh]) (by simp [pSh]) (by simp [pSh]), hS, fun i hi hj => by
    obtain ⟨a, b, c, d⟩ := h.2.2.2.2.2.2.2.2 i hi hj
    exact ⟨(hs 2 i (by simp [pSh])).trans a, (hs 3 i (by simp [pSh])).trans b, (hs 4 i (by simp [pSh])).trans c, (hs 5 i (by simp [pSh])).trans d⟩⟩
theorem tfN_pos (j : Nat) : 0 < tfN j := by
  unfold tfN
  split <;> omega
theorem pof_j {ad : sAd} {κ : sCk} {x : Int32} {r : Option Value} {j : Nat} (hj : j < kTc κ ∧ x = nI j) (hb : kTc κ < 2 ^ 31) (h : (∃ i, i < kTc κ ∧ x = nI i ∧ r = some (.ref (ad 3 i))) ∨ ((∀ i, i < kTc κ → x ≠ nI i) ∧ r = some (.ref (ad 3 120)))) : r = some (.ref (ad 3 j)) := by
  rcases h with ⟨i, hi, e, q⟩ | ⟨q, -⟩
  · rw [q, (nI_eq (a := j) (b := i) (by omega) (by omega)).mp (hj.2.symm.trans e)]
  · exact absurd hj.2 (q j hj.1)
theorem DegOf.uniq {P : Nat → Int} {d d' : Nat} (h : DegOf P d) (h' : DegOf P d') : d = d' := by
  have key : ∀ {a b : Nat}, DegOf P a → DegOf P b → a ≤ b := fun {a b} ha hb => by
    rcases ha.2.2 with q | ⟨y, hy, e⟩
    · omega
    · rw [← e]; exact hb.2.1 y hy
  exact Nat.le_antisymm (key h h') (key h' h)
def dOK (B C : Nat → Int) : Prop := ∀ d d', DegOf B d → DegOf C d' → d + d' ≤ 9
theorem dOK_iff {B C : Nat → Int} {k j : Nat} (h : DegOf B k) (h' : DegOf C j) : dOK B C ↔ k + j ≤ 9 := ⟨fun q => q k j h h', fun q d d' hd hd' => by rw [hd.uniq h, hd'.uniq h']; exact q⟩
def HSk (kd : Nat) (A B C F : Nat → Int) (hasF : Prop) (lt : Nat) (v s0 s1 s2 : Int) : Prop := match kd with
  | 0 => ∀ y, A y = B y
  | 1 => ∀ y, B y = derv lt A y
  | 2 => dOK B C ∧ ∀ y, A y = mul B C y
  | 3 => ∀ y, subs lt v A y = 0
  | 4 => val3 A s0 s1 s2 = val3 B s0 s1 s2
  | 5 => 0 < val3 A s0 s1 s2
  | _ => hasF ∧ (∃ y, B y ≠ 0) ∧ dOK B F ∧ ∀ y, A y = mul B F y
theorem PR.size0 {n d : Nat} {pk pn : Nat → Int32} {P : Nat → Int} (h : PR (n, nI d, false, pk, pn) P) : n = 0 ↔ ¬ ∃ y, P y ≠ 0 := by
  obtain ⟨e, h⟩ := h
  constructor
  · rintro rfl ⟨y, hy⟩
    obtain ⟨i, hi, -⟩ := h.2.2.2.2.1 y hy
    exact absurd hi (Nat.not_lt_zero i)
  · intro q
    rcases Nat.eq_zero_or_pos n with z | z
    · exact z
    · exact absurd ⟨e 0, (h.2.2.1 0 z).2.2.2.1⟩ q
theorem PR.n40 {n d : Nat} {pk pn : Nat → Int32} {P : Nat → Int} (h : PR (n, nI d, false, pk, pn) P) : n ≤ 40 := h.choose_spec.1
abbrev mX3_holds : sMeth := (cX3_holds, 5, RX3, wsX3_holds, { frames := 3, cells := 0, slots := 0, locals := 72 }, (some .boolean), "holds", [])
theorem in_X3_holds_X0 : ∀ w ∈ wsX00, w ∈ wsX3_holds := by decide +kernel
set_option maxHeartbeats 4000000 in
set_option maxRecDepth 100000 in
theorem c_X3_holds (G : sG) (l : Launch) (hl : l.stackTraces = false) (ad : sAd) (M : sM) (κ : sCk) (h : hCk G ad M κ) (ht : kTc κ ≤ kMd κ) (hm : kMd κ ≤ 120) (hr : kRc κ ≤ 60) (ri : Nat) (hri : ri < 60) (kd : Nat) (hkd : kd < 7) (hk : kRw κ ri 0 = nI kd) (hz : (kZ κ).2.2.1 = false) (Pf : Nat → Nat → Int) (hpf : ∀ j, j < kTc κ → (kPo κ j).2.2.1 = false → PR (kPo κ j) (Pf j)) (f : Nat → Int) (hR : ShR (kSh κ) f) (ja jb jc jf lt : Nat) (hA : ja < kTc κ ∧ kRw κ ri 1 = nI ja) (hB : 1 < tfN kd → jb < kTc κ ∧ kRw κ ri 2 = nI jb) (hC : 2 < tfN kd → jc < kTc κ ∧ kRw κ ri 3 = nI jc) (hL : kd = 1 ∨ kd = 3 → lt ≤ 2 ∧ kRw κ ri 3 = nI lt) (hV : kd = 3 → -10 ≤ (kRw κ ri 2).toInt ∧ (kRw κ ri 2).toInt ≤ 10) (hF : kRw κ ri 4 = -1 ∨ (kd = 6 ∧ jf < kTc κ ∧ kRw κ ri 4 = nI jf)) (hs0 : -10 ≤ (kRw κ ri 5).toInt ∧ (kRw κ ri 5).toInt ≤ 10) (hs1 : -10 ≤ (kRw κ ri 6).toInt ∧ (kRw κ ri 6).toInt ≤ 10) (hs2 : -10 ≤ (kRw κ ri 7).toInt ∧ (kRw κ ri 7).toInt ≤ 10) : sMet G l yX3_holds mX3_holds [.ref (ad 0 0), .ref (ad 6 ri)] ad M (fun r ad' M' => ad = ad' ∧ (∃ z : Bool, r = some (.int (jB z)) ∧ (z = true ↔ (¬ ∃ a, a < tfN kd ∧ grF κ (kRw κ ri (1 + a))) ∧ ¬ grF κ (kRw κ ri 4) ∧ HSk kd (Pf ja) (Pf jb) (Pf jc) (Pf jf) (kRw κ ri 4 ≠ -1) lt (kRw κ ri 2).toInt (kRw κ ri 5).toInt (kRw κ ri 6).toInt (kRw κ ri 7).toInt)) ∧ (∃ σ' f', hCk G ad M' (kSetSh κ σ') ∧ ShR σ' f') ∧ sSame pSh M M') (fun _ _ _ => False) := by
  refine sMet.of hl (by decide +kernel) rfl rfl rfl rfl (Nat.le_of_ble_eq_true rfl) (fun X => ?_)
  refine s_lv (lv' := [some (.ref (ad 0 0)), some (.ref (ad 6 ri)), none, none, none]) rfl ?_
  refine s_aload_n dX3_holds_0 rfl ?_
  refine s_aload_n dX3_holds_1 rfl ?_
  refine s_callV (As := [.ref (ad 6 ri)]) (rest := []) (n := 1) (kd := 0) (ix := 0) (fun l hl => c_X3_hasTooGreat G l hl ad M κ h ht hm hr ri hri kd hkd hk hz) gX3_holds_X3_hasTooGreat rfl (by decide +kernel) h.1 rfl rfl ⟨(Nat.le_of_ble_eq_true rfl), (Nat.le_of_ble_eq_true rfl)⟩ ⟨(Nat.le_of_ble_eq_true rfl), (Nat.le_of_ble_eq_true rfl)⟩ (Nat.le_of_ble_eq_true rfl) dX3_holds_2 rfl (fun r9 ad9 M9 h9 => ?_)
  obtain ⟨rfl, rfl, zg, rfl, hzg⟩ := h9
  refine s_if_eq 10 dX3_holds_5 (by decide) (fun c5 => ?_) (fun c5 => ?_)
  · have hzf : zg = false := jB_0.mp c5
    subst hzf
    have hng : ¬ ∃ a, a < tfN kd ∧ grF κ (kRw κ ri (1 + a)) := fun q => nomatch hzg.mpr (Or.inl q)
    have hn4 : ¬ grF κ (kRw κ ri 4) := fun q => nomatch hzg.mpr (Or.inr q)
    refine s_aload_n dX3_holds_10 rfl ?_
    refine s_aload_n dX3_holds_11 rfl ?_
    refine s_iconst (v := 1) dX3_holds_12 (by decide) ?_
    refine s_iald (kd := 6) (ix := ri) (n := 8) (f := kRw κ ri) (j := 1) ((h.2.2.2.1 ri hri)) (by decide) (by decide) (by decide) dX3_holds_13 ?_
    refine s_callV (As := [.int ((kRw κ ri) 1)]) (rest := []) (n := 1) (kd := 0) (ix := 0) (fun l hl => c_X3_polynomialOf G l hl ad M κ h ht hm hr ((kRw κ ri) 1)) gX3_holds_X3_polynomialOf rfl (by decide +kernel) h.1 rfl rfl ⟨(Nat.le_of_ble_eq_true rfl), (Nat.le_of_ble_eq_true rfl)⟩ ⟨(Nat.le_of_ble_eq_true rfl), (Nat.le_of_ble_eq_true rfl)⟩ (Nat.le_of_ble_eq_true rfl) dX3_holds_14 rfl (fun r8 ad8 M8 h8 => ?_)
    obtain ⟨rfl, rfl, h8⟩ := h8
    obtain rfl : r8 = some (.ref (ad 3 ja)) := pof_j hA (by omega) h8
    have hPa : PR (kPo κ ja) (Pf ja) := hpf ja hA.1 (Bool.of_not_eq_true (fun q => (fun q => hng ⟨0, tfN_pos kd, q⟩) ((grF_j hA.1 hA.2 (by omega)).mpr q)))
    have hpa := h.2.2.2.2.2.1 ja (by have := hA.1; omega)
    obtain ⟨na, da, ak, an, ea, hDa⟩ := hPa.norm
    rw [ea] at hpa hPa
    refine s_astore_n dX3_holds_17 rfl rfl ?_
    refine s_lv (lv' := [some (.ref (ad 0 0)), some (.ref (ad 6 ri)), some (.ref (ad 3 ja)), none, none]) rfl ?_
    refine s_aload_n dX3_holds_18 rfl ?_
    refine s_iconst (v := 2) dX3_holds_19 (by decide) ?_
    refine s_iald (kd := 6) (ix := ri) (n := 8) (f := kRw κ ri) (j := 2) ((h.2.2.2.1 ri hri)) (by decide) (by decide) (by decide) dX3_holds_20 ?_
    refine s_istore_n dX3_holds_21 rfl rfl ?_
    refine s_lv (lv' := [some (.ref (ad 0 0)), some (.ref (ad 6 ri)), some (.ref (ad 3 ja)), some (.int ((kRw κ ri) 2)), none]) rfl ?_
    refine s_aload_n dX3_holds_22 rfl ?_
    refine s_iconst (v := 3) dX3_holds_23 (by decide) ?_
    refine s_iald (kd := 6) (ix := ri) (n := 8) (f := kRw κ ri) (j := 3) ((h.2.2.2.1 ri hri)) (by decide) (by decide) (by decide) dX3_holds_24 ?_
    refine s_istore dX3_holds_25 rfl rfl ?_
    refine s_lv (lv' := [some (.ref (ad 0 0)), some (.ref (ad 6 ri)), some (.ref (ad 3 ja)), some (.int ((kRw κ ri) 2)), some (.int ((kRw κ ri) 3))]) rfl ?_
    refine s_aload_n dX3_holds_27 rfl ?_
    refine s_iconst (v := 0) dX3_holds_28 (by decide) ?_
    refine s_iald (kd := 6) (ix := ri) (n := 8) (f := kRw κ ri) (j := 0) ((h.2.2.2.1 ri hri)) (by decide) (by decide) (by decide) dX3_holds_29 ?_
    refine s_eqi (y := nI kd) (hk) ?_
    rcases (show kd = 0 ∨ kd = 1 ∨ kd = 2 ∨ kd = 3 ∨ kd = 4 ∨ kd = 5 ∨ kd = 6 by omega) with rfl | rfl | rfl | rfl | rfl | rfl | rfl
    · refine s_tableIn 72 dX3_holds_30 (by decide) (by decide) rfl (by decide) ?_
      refine s_aload_n dX3_holds_72 rfl ?_
      refine s_aload_n dX3_holds_73 rfl ?_
      refine s_aload_n dX3_holds_74 rfl ?_
      refine s_iload_n dX3_holds_75 rfl ?_
      refine s_callV (As := [.int ((kRw κ ri) 2)]) (rest := [.ref (ad 3 ja), .ref (ad 0 0)]) (n := 1) (kd := 0) (ix := 0) (fun l hl => c_X3_polynomialOf G l hl ad M κ h ht hm hr ((kRw κ ri) 2)) gX3_holds_X3_polynomialOf rfl (by decide +kernel) h.1 rfl rfl ⟨(Nat.le_of_ble_eq_true rfl), (Nat.le_of_ble_eq_true rfl)⟩ ⟨(Nat.le_of_ble_eq_true rfl), (Nat.le_of_ble_eq_true rfl)⟩ (Nat.le_of_ble_eq_true rfl) dX3_holds_76 rfl (fun r8 ad8 M8 h8 => ?_)
      obtain ⟨rfl, rfl, h8⟩ := h8
      obtain rfl : r8 = some (.ref (ad 3 jb)) := pof_j (hB (by decide)) (by omega) h8
      have hPb : PR (kPo κ jb) (Pf jb) := hpf jb (hB (by decide)).1 (Bool.of_not_eq_true (fun q => (fun q => hng ⟨1, by decide, q⟩) ((grF_j (hB (by decide)).1 (hB (by decide)).2 (by omega)).mpr q)))
      have hpb := h.2.2.2.2.2.1 jb (by have := (hB (by decide)).1; omega)
      obtain ⟨nb, db, bk, bn, eb, hDb⟩ := hPb.norm
      rw [eb] at hpb hPb
      refine s_callV (As := [.ref (ad 3 ja), .ref (ad 3 jb)]) (rest := []) (n := 2) (kd := 0) (ix := 0) (fun l hl => c_X3_isSame G l hl ad M (nI (kTc κ)) (nI (kRc κ)) h.1 (kSh κ).1 (kSh κ).2.1 (kSh κ).2.2.1 (kSh κ).2.2.2.1 (kSh κ).2.2.2.2 h.2.2.2.2.2.2.2.1 f hR ja na da ak an hpa (Pf ja) hPa hDa jb nb db bk bn hpb (Pf jb) hPb hDb) gX3_holds_X3_isSame rfl (by decide +kernel) h.1 rfl rfl ⟨(Nat.le_of_ble_eq_true rfl), (Nat.le_of_ble_eq_true rfl)⟩ ⟨(Nat.le_of_ble_eq_true rfl), (Nat.le_of_ble_eq_true rfl)⟩ (Nat.le_of_ble_eq_true rfl) dX3_holds_79 rfl (fun r9 ad9 M9 h9 => ?_)
      obtain ⟨rfl, ⟨z, rfl, hz9⟩, ⟨σ9, f9, hS9, hR9⟩, hs9⟩ := h9
      exact s_iret rfl (jB_nar z) dX3_holds_82 (Nat.le_of_ble_eq_true rfl) (Nat.le_of_ble_eq_true rfl) (⟨rfl, ⟨z, rfl, ⟨fun q => ⟨hng, hn4, hz9.mp q⟩, fun q => hz9.mpr q.2.2⟩⟩, ⟨σ9, f9, h.sheet hs9 hS9, hR9⟩, hs9⟩)
    · refine s_tableIn 83 dX3_holds_30 (by decide) (by decide) rfl (by decide) ?_
      refine s_lv (lv' := [some (.ref (ad 0 0)), some (.ref (ad 6 ri)), some (.ref (ad 3 ja)), some (.int ((kRw κ ri) 2)), some (.int (nI lt))]) (by rw [(hL (by omega)).2]) ?_
      refine s_aload_n dX3_holds_83 rfl ?_
      refine s_aload_n dX3_holds_84 rfl ?_
      refine s_aload_n dX3_holds_85 rfl ?_
      refine s_iload_n dX3_holds_86 rfl ?_
      refine s_callV (As := [.int ((kRw κ ri) 2)]) (rest := [.ref (ad 3 ja), .ref (ad 0 0)]) (n := 1) (kd := 0) (ix := 0) (fun l hl => c_X3_polynomialOf G l hl ad M κ h ht hm hr ((kRw κ ri) 2)) gX3_holds_X3_polynomialOf rfl (by decide +kernel) h.1 rfl rfl ⟨(Nat.le_of_ble_eq_true rfl), (Nat.le_of_ble_eq_true rfl)⟩ ⟨(Nat.le_of_ble_eq_true rfl), (Nat.le_of_ble_eq_true rfl)⟩ (Nat.le_of_ble_eq_true rfl) dX3_holds_87 rfl (fun r8 ad8 M8 h8 => ?_)
      obtain ⟨rfl, rfl, h8⟩ := h8
      obtain rfl : r8 = some (.ref (ad 3 jb)) := pof_j (hB (by decide)) (by omega) h8
      have hPb : PR (kPo κ jb) (Pf jb) := hpf jb (hB (by decide)).1 (Bool.of_not_eq_true (fun q => (fun q => hng ⟨1, by decide, q⟩) ((grF_j (hB (by decide)).1 (hB (by decide)).2 (by omega)).mpr q)))
      have hpb := h.2.2.2.2.2.1 jb (by have := (hB (by decide)).1; omega)
      obtain ⟨nb, db, bk, bn, eb, hDb⟩ := hPb.norm
      rw [eb] at hpb hPb
      refine s_iload dX3_holds_90 rfl ?_
      refine s_callV (As := [.ref (ad 3 ja), .ref (ad 3 jb), .int (nI lt)]) (rest := []) (n := 3) (kd := 0) (ix := 0) (fun l hl => c_X3_isDerivation G l hl ad M (nI (kTc κ)) (nI (kRc κ)) h.1 (kSh κ).1 (kSh κ).2.1 (kSh κ).2.2.1 (kSh κ).2.2.2.1 (kSh κ).2.2.2.2 h.2.2.2.2.2.2.2.1 f hR ja na da ak an hpa (Pf ja) hPa hDa jb nb db bk bn hpb (Pf jb) hPb hDb lt (hL (by omega)).1) gX3_holds_X3_isDerivation rfl (by decide +kernel) h.1 rfl rfl ⟨(Nat.le_of_ble_eq_true rfl), (Nat.le_of_ble_eq_true rfl)⟩ ⟨(Nat.le_of_ble_eq_true rfl), (Nat.le_of_ble_eq_true rfl)⟩ (Nat.le_of_ble_eq_true rfl) dX3_holds_92 rfl (fun r9 ad9 M9 h9 => ?_)
      obtain ⟨rfl, ⟨z, rfl, hz9⟩, ⟨σ9, f9, hS9, hR9⟩, hs9⟩ := h9
      exact s_iret rfl (jB_nar z) dX3_holds_95 (Nat.le_of_ble_eq_true rfl) (Nat.le_of_ble_eq_true rfl) (⟨rfl, ⟨z, rfl, ⟨fun q => ⟨hng, hn4, hz9.mp q⟩, fun q => hz9.mpr q.2.2⟩⟩, ⟨σ9, f9, h.sheet hs9 hS9, hR9⟩, hs9⟩)
    · refine s_tableIn 96 dX3_holds_30 (by decide) (by decide) rfl (by decide) ?_
      refine s_aload_n dX3_holds_96 rfl ?_
      refine s_aload_n dX3_holds_97 rfl ?_
      refine s_aload_n dX3_holds_98 rfl ?_
      refine s_iload_n dX3_holds_99 rfl ?_
      refine s_callV (As := [.int ((kRw κ ri) 2)]) (rest := [.ref (ad 3 ja), .ref (ad 0 0)]) (n := 1) (kd := 0) (ix := 0) (fun l hl => c_X3_polynomialOf G l hl ad M κ h ht hm hr ((kRw κ ri) 2)) gX3_holds_X3_polynomialOf rfl (by decide +kernel) h.1 rfl rfl ⟨(Nat.le_of_ble_eq_true rfl), (Nat.le_of_ble_eq_true rfl)⟩ ⟨(Nat.le_of_ble_eq_true rfl), (Nat.le_of_ble_eq_true rfl)⟩ (Nat.le_of_ble_eq_true rfl) dX3_holds_100 rfl (fun r8 ad8 M8 h8 => ?_)
      obtain ⟨rfl, rfl, h8⟩ := h8
      obtain rfl : r8 = some (.ref (ad 3 jb)) := pof_j (hB (by decide)) (by omega) h8
      have hPb : PR (kPo κ jb) (Pf jb) := hpf jb (hB (by decide)).1 (Bool.of_not_eq_true (fun q => (fun q => hng ⟨1, by decide, q⟩) ((grF_j (hB (by decide)).1 (hB (by decide)).2 (by omega)).mpr q)))
      have hpb := h.2.2.2.2.2.1 jb (by have := (hB (by decide)).1; omega)
      obtain ⟨nb, db, bk, bn, eb, hDb⟩ := hPb.norm
      rw [eb] at hpb hPb
      refine s_aload_n dX3_holds_103 rfl ?_
      refine s_iload dX3_holds_104 rfl ?_
      refine s_callV (As := [.int ((kRw κ ri) 3)]) (rest := [.ref (ad 3 jb), .ref (ad 3 ja), .ref (ad 0 0)]) (n := 1) (kd := 0) (ix := 0) (fun l hl => c_X3_polynomialOf G l hl ad M κ h ht hm hr ((kRw κ ri) 3)) gX3_holds_X3_polynomialOf rfl (by decide +kernel) h.1 rfl rfl ⟨(Nat.le_of_ble_eq_true rfl), (Nat.le_of_ble_eq_true rfl)⟩ ⟨(Nat.le_of_ble_eq_true rfl), (Nat.le_of_ble_eq_true rfl)⟩ (Nat.le_of_ble_eq_true rfl) dX3_holds_106 rfl (fun r8 ad8 M8 h8 => ?_)
      obtain ⟨rfl, rfl, h8⟩ := h8
      obtain rfl : r8 = some (.ref (ad 3 jc)) := pof_j (hC (by decide)) (by omega) h8
      have hPc : PR (kPo κ jc) (Pf jc) := hpf jc (hC (by decide)).1 (Bool.of_not_eq_true (fun q => (fun q => hng ⟨2, by decide, q⟩) ((grF_j (hC (by decide)).1 (hC (by decide)).2 (by omega)).mpr q)))
      have hpc := h.2.2.2.2.2.1 jc (by have := (hC (by decide)).1; omega)
      obtain ⟨nc, dc, ck, cn, ec, hDc⟩ := hPc.norm
      rw [ec] at hpc hPc
      refine s_callV (As := [.ref (ad 3 ja), .ref (ad 3 jb), .ref (ad 3 jc)]) (rest := []) (n := 3) (kd := 0) (ix := 0) (fun l hl => c_X3_isProduct G l hl ad M (nI (kTc κ)) (nI (kRc κ)) h.1 (kSh κ).1 (kSh κ).2.1 (kSh κ).2.2.1 (kSh κ).2.2.2.1 (kSh κ).2.2.2.2 h.2.2.2.2.2.2.2.1 f hR ja na da ak an hpa (Pf ja) hPa hDa jb nb db bk bn hpb (Pf jb) hPb hDb jc nc dc ck cn hpc (Pf jc) hPc hDc) gX3_holds_X3_isProduct rfl (by decide +kernel) h.1 rfl rfl ⟨(Nat.le_of_ble_eq_true rfl), (Nat.le_of_ble_eq_true rfl)⟩ ⟨(Nat.le_of_ble_eq_true rfl), (Nat.le_of_ble_eq_true rfl)⟩ (Nat.le_of_ble_eq_true rfl) dX3_holds_109 rfl (fun r9 ad9 M9 h9 => ?_)
      obtain ⟨rfl, ⟨z, rfl, hz9⟩, ⟨σ9, f9, hS9, hR9⟩, hs9⟩ := h9
      exact s_iret rfl (jB_nar z) dX3_holds_112 (Nat.le_of_ble_eq_true rfl) (Nat.le_of_ble_eq_true rfl) (⟨rfl, ⟨z, rfl, ⟨fun q => ⟨hng, hn4, ⟨(dOK_iff hDb hDc).mpr (hz9.mp q).1, (hz9.mp q).2⟩⟩, fun q => hz9.mpr ⟨(dOK_iff hDb hDc).mp q.2.2.1, q.2.2.2⟩⟩⟩, ⟨σ9, f9, h.sheet hs9 hS9, hR9⟩, hs9⟩)
    · refine s_tableIn 113 dX3_holds_30 (by decide) (by decide) rfl (by decide) ?_
      refine s_lv (lv' := [some (.ref (ad 0 0)), some (.ref (ad 6 ri)), some (.ref (ad 3 ja)), some (.int ((kRw κ ri) 2)), some (.int (nI lt))]) (by rw [(hL (by omega)).2]) ?_
      refine s_aload_n dX3_holds_113 rfl ?_
      refine s_aload_n dX3_holds_114 rfl ?_
      refine s_iload_n dX3_holds_115 rfl ?_
      refine s_iload dX3_holds_116 rfl ?_
      refine s_callV (As := [.ref (ad 3 ja), .int ((kRw κ ri) 2), .int (nI lt)]) (rest := []) (n := 3) (kd := 0) (ix := 0) (fun l hl => c_X3_isRoot G l hl ad M (nI (kTc κ)) (nI (kRc κ)) h.1 (kSh κ).1 (kSh κ).2.1 (kSh κ).2.2.1 (kSh κ).2.2.2.1 (kSh κ).2.2.2.2 h.2.2.2.2.2.2.2.1 f hR ja na da ak an hpa (Pf ja) hPa hDa (kRw κ ri 2) (hV rfl) lt (hL (by omega)).1) gX3_holds_X3_isRoot rfl (by decide +kernel) h.1 rfl rfl ⟨(Nat.le_of_ble_eq_true rfl), (Nat.le_of_ble_eq_true rfl)⟩ ⟨(Nat.le_of_ble_eq_true rfl), (Nat.le_of_ble_eq_true rfl)⟩ (Nat.le_of_ble_eq_true rfl) dX3_holds_118 rfl (fun r9 ad9 M9 h9 => ?_)
      obtain ⟨rfl, ⟨z, rfl, hz9⟩, ⟨σ9, f9, hS9, hR9⟩, hs9⟩ := h9
      exact s_iret rfl (jB_nar z) dX3_holds_121 (Nat.le_of_ble_eq_true rfl) (Nat.le_of_ble_eq_true rfl) (⟨rfl, ⟨z, rfl, ⟨fun q => ⟨hng, hn4, hz9.mp q⟩, fun q => hz9.mpr q.2.2⟩⟩, ⟨σ9, f9, h.sheet hs9 hS9, hR9⟩, hs9⟩)
    · refine s_tableIn 122 dX3_holds_30 (by decide) (by decide) rfl (by decide) ?_
      refine s_aload_n dX3_holds_122 rfl ?_
      refine s_aload_n dX3_holds_123 rfl ?_
      refine s_callS (As := [.ref (ad 3 ja), .ref (ad 6 ri)]) (rest := []) (n := 2) (fun l hl => c_X3_valueAt G l hl ad M ja na da ak an hpa (Pf ja) hPa ri (kRw κ ri) (h.2.2.2.1 ri hri) hs0 hs1 hs2) gX3_holds_X3_valueAt rfl (by decide +kernel) rfl ⟨(Nat.le_of_ble_eq_true rfl), (Nat.le_of_ble_eq_true rfl)⟩ ⟨(Nat.le_of_ble_eq_true rfl), (Nat.le_of_ble_eq_true rfl)⟩ (Nat.le_of_ble_eq_true rfl) dX3_holds_124 rfl (fun r9 ad9 M9 h9 => ?_)
      obtain ⟨rfl, rfl, v1, rfl, hv1⟩ := h9
      refine s_aload_n dX3_holds_127 rfl ?_
      refine s_iload_n dX3_holds_128 rfl ?_
      refine s_callV (As := [.int ((kRw κ ri) 2)]) (rest := [.long v1]) (n := 1) (kd := 0) (ix := 0) (fun l hl => c_X3_polynomialOf G l hl ad M κ h ht hm hr ((kRw κ ri) 2)) gX3_holds_X3_polynomialOf rfl (by decide +kernel) h.1 rfl rfl ⟨(Nat.le_of_ble_eq_true rfl), (Nat.le_of_ble_eq_true rfl)⟩ ⟨(Nat.le_of_ble_eq_true rfl), (Nat.le_of_ble_eq_true rfl)⟩ (Nat.le_of_ble_eq_true rfl) dX3_holds_129 rfl (fun r8 ad8 M8 h8 => ?_)
      obtain ⟨rfl, rfl, h8⟩ := h8
      obtain rfl : r8 = some (.ref (ad 3 jb)) := pof_j (hB (by decide)) (by omega) h8
      have hPb : PR (kPo κ jb) (Pf jb) := hpf jb (hB (by decide)).1 (Bool.of_not_eq_true (fun q => (fun q => hng ⟨1, by decide, q⟩) ((grF_j (hB (by decide)).1 (hB (by decide)).2 (by omega)).mpr q)))
      have hpb := h.2.2.2.2.2.1 jb (by have := (hB (by decide)).1; omega)
      obtain ⟨nb, db, bk, bn, eb, hDb⟩ := hPb.norm
      rw [eb] at hpb hPb
      refine s_aload_n dX3_holds_132 rfl ?_
      refine s_callS (As := [.ref (ad 3 jb), .ref (ad 6 ri)]) (rest := [.long v1]) (n := 2) (fun l hl => c_X3_valueAt G l hl ad M jb nb db bk bn hpb (Pf jb) hPb ri (kRw κ ri) (h.2.2.2.1 ri hri) hs0 hs1 hs2) gX3_holds_X3_valueAt rfl (by decide +kernel) rfl ⟨(Nat.le_of_ble_eq_true rfl), (Nat.le_of_ble_eq_true rfl)⟩ ⟨(Nat.le_of_ble_eq_true rfl), (Nat.le_of_ble_eq_true rfl)⟩ (Nat.le_of_ble_eq_true rfl) dX3_holds_133 rfl (fun r9 ad9 M9 h9 => ?_)
      obtain ⟨rfl, rfl, v2, rfl, hv2⟩ := h9
      refine s_lcmp dX3_holds_136 ?_
      refine s_if_ne 144 dX3_holds_137 (by decide) (fun c137 => ?_) (fun c137 => ?_)
      · refine s_iconst (v := 0) dX3_holds_144 (by decide) ?_
        exact s_iret rfl (rfl) dX3_holds_145 (Nat.le_of_ble_eq_true rfl) (Nat.le_of_ble_eq_true rfl) (⟨rfl, ⟨false, rfl, (fun q => nomatch q), fun q => absurd ((lg_cmp_eq _ _).mpr (Int64.toInt_inj.mp (by rw [hv1, hv2]; exact q.2.2))) c137⟩, ⟨kSh κ, f, h, hR⟩, sSame.rfl⟩)
      · refine s_iconst (v := 1) dX3_holds_140 (by decide) ?_
        refine s_goto 145 dX3_holds_141 (by decide) ?_
        exact s_iret rfl (rfl) dX3_holds_145 (Nat.le_of_ble_eq_true rfl) (Nat.le_of_ble_eq_true rfl) (⟨rfl, ⟨true, rfl, fun _ => ⟨hng, hn4, by have e9 := (lg_cmp_eq _ _).mp c137; show val3 _ _ _ _ = val3 _ _ _ _; rw [← hv1, ← hv2, e9]⟩, fun _ => rfl⟩, ⟨kSh κ, f, h, hR⟩, sSame.rfl⟩)
    · refine s_tableIn 146 dX3_holds_30 (by decide) (by decide) rfl (by decide) ?_
      refine s_aload_n dX3_holds_146 rfl ?_
      refine s_aload_n dX3_holds_147 rfl ?_
      refine s_callS (As := [.ref (ad 3 ja), .ref (ad 6 ri)]) (rest := []) (n := 2) (fun l hl => c_X3_valueAt G l hl ad M ja na da ak an hpa (Pf ja) hPa ri (kRw κ ri) (h.2.2.2.1 ri hri) hs0 hs1 hs2) gX3_holds_X3_valueAt rfl (by decide +kernel) rfl ⟨(Nat.le_of_ble_eq_true rfl), (Nat.le_of_ble_eq_true rfl)⟩ ⟨(Nat.le_of_ble_eq_true rfl), (Nat.le_of_ble_eq_true rfl)⟩ (Nat.le_of_ble_eq_true rfl) dX3_holds_148 rfl (fun r9 ad9 M9 h9 => ?_)
      obtain ⟨rfl, rfl, v1, rfl, hv1⟩ := h9
      refine s_lconst (v := 0) dX3_holds_151 (by decide) ?_
      refine s_lcmp dX3_holds_152 ?_
      refine s_if_le 160 dX3_holds_153 (by decide) (fun c153 => ?_) (fun c153 => ?_)
      · refine s_iconst (v := 0) dX3_holds_160 (by decide) ?_
        exact s_iret rfl (rfl) dX3_holds_161 (Nat.le_of_ble_eq_true rfl) (Nat.le_of_ble_eq_true rfl) (⟨rfl, ⟨false, rfl, (fun q => nomatch q), fun q => absurd ((lg_cmp_le _ _).mp c153) (fun z => by have q9 : 0 < val3 (Pf ja) (kRw κ ri 5).toInt (kRw κ ri 6).toInt (kRw κ ri 7).toInt := q.2.2; have z9 := Int64.le_iff_toInt_le.mp z; rw [hv1] at z9; rw [show (0 : Int64).toInt = 0 from rfl] at z9; omega)⟩, ⟨kSh κ, f, h, hR⟩, sSame.rfl⟩)
      · refine s_iconst (v := 1) dX3_holds_156 (by decide) ?_
        refine s_goto 161 dX3_holds_157 (by decide) ?_
        exact s_iret rfl (rfl) dX3_holds_161 (Nat.le_of_ble_eq_true rfl) (Nat.le_of_ble_eq_true rfl) (⟨rfl, ⟨true, rfl, fun _ => ⟨hng, hn4, by have z9 := Int64.lt_iff_toInt_lt.mp (Int64.not_le.mp (fun z => c153 ((lg_cmp_le _ _).mpr z))); rw [hv1] at z9; exact z9⟩, fun _ => rfl⟩, ⟨kSh κ, f, h, hR⟩, sSame.rfl⟩)
    · refine s_tableIn 162 dX3_holds_30 (by decide) (by decide) rfl (by decide) ?_
      refine s_aload_n dX3_holds_162 rfl ?_
      refine s_iconst (v := 4) dX3_holds_163 (by decide) ?_
      refine s_iald (kd := 6) (ix := ri) (n := 8) (f := kRw κ ri) (j := 4) ((h.2.2.2.1 ri hri)) (by decide) (by decide) (by decide) dX3_holds_164 ?_
      refine s_iconst (v := -1) dX3_holds_165 (by decide) ?_
      refine s_icmp_eq 204 dX3_holds_166 (by decide) (fun c166 => ?_) (fun c166 => ?_)
      · refine s_iconst (v := 0) dX3_holds_204 (by decide) ?_
        exact s_iret rfl (rfl) dX3_holds_205 (Nat.le_of_ble_eq_true rfl) (Nat.le_of_ble_eq_true rfl) (⟨rfl, ⟨false, rfl, (fun q => nomatch q), fun q => absurd c166 q.2.2.1⟩, ⟨kSh κ, f, h, hR⟩, sSame.rfl⟩)
      · have hF6 : jf < kTc κ ∧ kRw κ ri 4 = nI jf := hF.elim (fun q => absurd q c166) (fun q => q.2)
        refine s_aload_n dX3_holds_169 rfl ?_
        refine s_iload_n dX3_holds_170 rfl ?_
        refine s_callV (As := [.int ((kRw κ ri) 2)]) (rest := []) (n := 1) (kd := 0) (ix := 0) (fun l hl => c_X3_polynomialOf G l hl ad M κ h ht hm hr ((kRw κ ri) 2)) gX3_holds_X3_polynomialOf rfl (by decide +kernel) h.1 rfl rfl ⟨(Nat.le_of_ble_eq_true rfl), (Nat.le_of_ble_eq_true rfl)⟩ ⟨(Nat.le_of_ble_eq_true rfl), (Nat.le_of_ble_eq_true rfl)⟩ (Nat.le_of_ble_eq_true rfl) dX3_holds_171 rfl (fun r8 ad8 M8 h8 => ?_)
        obtain ⟨rfl, rfl, h8⟩ := h8
        obtain rfl : r8 = some (.ref (ad 3 jb)) := pof_j (hB (by decide)) (by omega) h8
        have hPb : PR (kPo κ jb) (Pf jb) := hpf jb (hB (by decide)).1 (Bool.of_not_eq_true (fun q => (fun q => hng ⟨1, by decide, q⟩) ((grF_j (hB (by decide)).1 (hB (by decide)).2 (by omega)).mpr q)))
        have hpb := h.2.2.2.2.2.1 jb (by have := (hB (by decide)).1; omega)
        obtain ⟨nb, db, bk, bn, eb, hDb⟩ := hPb.norm
        rw [eb] at hpb hPb
        refine s_getN (kd := 3) (ix := jb) (ci := 1) (fs := [.ref (ad 4 jb), .ref (ad 5 jb), .int (nI nb), .int (nI db), .int (jB false)]) (host := "SmallChecker") hpb.1 rfl in_X3_holds_X0 2 (by decide) (by decide +kernel) rfl rfl dX3_holds_174 ?_
        refine s_if_eq 204 dX3_holds_177 (by decide) (fun c177 => ?_) (fun c177 => ?_)
        · refine s_iconst (v := 0) dX3_holds_204 (by decide) ?_
          exact s_iret rfl (rfl) dX3_holds_205 (Nat.le_of_ble_eq_true rfl) (Nat.le_of_ble_eq_true rfl) (⟨rfl, ⟨false, rfl, (fun q => nomatch q), fun q => absurd q.2.2.2.1 (hPb.size0.mp ((nI_eq (a := nb) (b := 0) (by have := hPb.n40; omega) (by omega)).mp c177))⟩, ⟨kSh κ, f, h, hR⟩, sSame.rfl⟩)
        · refine s_aload_n dX3_holds_180 rfl ?_
          refine s_aload_n dX3_holds_181 rfl ?_
          refine s_aload_n dX3_holds_182 rfl ?_
          refine s_iload_n dX3_holds_183 rfl ?_
          refine s_callV (As := [.int ((kRw κ ri) 2)]) (rest := [.ref (ad 3 ja), .ref (ad 0 0)]) (n := 1) (kd := 0) (ix := 0) (fun l hl => c_X3_polynomialOf G l hl ad M κ h ht hm hr ((kRw κ ri) 2)) gX3_holds_X3_polynomialOf rfl (by decide +kernel) h.1 rfl rfl ⟨(Nat.le_of_ble_eq_true rfl), (Nat.le_of_ble_eq_true rfl)⟩ ⟨(Nat.le_of_ble_eq_true rfl), (Nat.le_of_ble_eq_true rfl)⟩ (Nat.le_of_ble_eq_true rfl) dX3_holds_184 rfl (fun r8 ad8 M8 h8 => ?_)
          obtain ⟨rfl, rfl, h8⟩ := h8
          obtain rfl : r8 = some (.ref (ad 3 jb)) := pof_j (hB (by decide)) (by omega) h8
          refine s_aload_n dX3_holds_187 rfl ?_
          refine s_aload_n dX3_holds_188 rfl ?_
          refine s_iconst (v := 4) dX3_holds_189 (by decide) ?_
          refine s_iald (kd := 6) (ix := ri) (n := 8) (f := kRw κ ri) (j := 4) ((h.2.2.2.1 ri hri)) (by decide) (by decide) (by decide) dX3_holds_190 ?_
          refine s_callV (As := [.int ((kRw κ ri) 4)]) (rest := [.ref (ad 3 jb), .ref (ad 3 ja), .ref (ad 0 0)]) (n := 1) (kd := 0) (ix := 0) (fun l hl => c_X3_polynomialOf G l hl ad M κ h ht hm hr ((kRw κ ri) 4)) gX3_holds_X3_polynomialOf rfl (by decide +kernel) h.1 rfl rfl ⟨(Nat.le_of_ble_eq_true rfl), (Nat.le_of_ble_eq_true rfl)⟩ ⟨(Nat.le_of_ble_eq_true rfl), (Nat.le_of_ble_eq_true rfl)⟩ (Nat.le_of_ble_eq_true rfl) dX3_holds_191 rfl (fun r8 ad8 M8 h8 => ?_)
          obtain ⟨rfl, rfl, h8⟩ := h8
          obtain rfl : r8 = some (.ref (ad 3 jf)) := pof_j hF6 (by omega) h8
          have hPf : PR (kPo κ jf) (Pf jf) := hpf jf hF6.1 (Bool.of_not_eq_true (fun q => hn4 ((grF_j hF6.1 hF6.2 (by omega)).mpr q)))
          have hpf := h.2.2.2.2.2.1 jf (by have := hF6.1; omega)
          obtain ⟨nf, df, fk, fn, ef, hDf⟩ := hPf.norm
          rw [ef] at hpf hPf
          refine s_callV (As := [.ref (ad 3 ja), .ref (ad 3 jb), .ref (ad 3 jf)]) (rest := []) (n := 3) (kd := 0) (ix := 0) (fun l hl => c_X3_isProduct G l hl ad M (nI (kTc κ)) (nI (kRc κ)) h.1 (kSh κ).1 (kSh κ).2.1 (kSh κ).2.2.1 (kSh κ).2.2.2.1 (kSh κ).2.2.2.2 h.2.2.2.2.2.2.2.1 f hR ja na da ak an hpa (Pf ja) hPa hDa jb nb db bk bn hpb (Pf jb) hPb hDb jf nf df fk fn hpf (Pf jf) hPf hDf) gX3_holds_X3_isProduct rfl (by decide +kernel) h.1 rfl rfl ⟨(Nat.le_of_ble_eq_true rfl), (Nat.le_of_ble_eq_true rfl)⟩ ⟨(Nat.le_of_ble_eq_true rfl), (Nat.le_of_ble_eq_true rfl)⟩ (Nat.le_of_ble_eq_true rfl) dX3_holds_194 rfl (fun r9 ad9 M9 h9 => ?_)
          obtain ⟨rfl, ⟨z, rfl, hz9⟩, ⟨σ9, f9, hS9, hR9⟩, hs9⟩ := h9
          refine s_if_eq 204 dX3_holds_197 (by decide) (fun c197 => ?_) (fun c197 => ?_)
          · refine s_iconst (v := 0) dX3_holds_204 (by decide) ?_
            exact s_iret rfl (rfl) dX3_holds_205 (Nat.le_of_ble_eq_true rfl) (Nat.le_of_ble_eq_true rfl) (⟨rfl, ⟨false, rfl, (fun q => nomatch q), fun q => absurd (hz9.mpr ⟨(dOK_iff hDb hDf).mp q.2.2.2.2.1, q.2.2.2.2.2⟩) (by rw [jB_0.mp c197]; decide)⟩, ⟨σ9, f9, h.sheet hs9 hS9, hR9⟩, hs9⟩)
          · refine s_iconst (v := 1) dX3_holds_200 (by decide) ?_
            refine s_goto 205 dX3_holds_201 (by decide) ?_
            exact s_iret rfl (rfl) dX3_holds_205 (Nat.le_of_ble_eq_true rfl) (Nat.le_of_ble_eq_true rfl) (⟨rfl, ⟨true, rfl, fun _ => ⟨hng, hn4, c166, Classical.byContradiction (fun w => c177 (by rw [hPb.size0.mpr w]; rfl)), (dOK_iff hDb hDf).mpr (hz9.mp (Bool.of_not_eq_false (fun w => c197 (jB_0.mpr w)))).1, (hz9.mp (Bool.of_not_eq_false (fun w => c197 (jB_0.mpr w)))).2⟩, fun _ => rfl⟩, ⟨σ9, f9, h.sheet hs9 hS9, hR9⟩, hs9⟩)
  · have hzt : zg = true := Bool.of_not_eq_false (fun q => c5 (jB_0.mpr q))
    subst hzt
    refine s_iconst (v := 0) dX3_holds_8 (by decide) ?_
    exact s_iret rfl (rfl) dX3_holds_9 (Nat.le_of_ble_eq_true rfl) (Nat.le_of_ble_eq_true rfl) (⟨rfl, ⟨false, rfl, (fun q => nomatch q), fun q => absurd (hzg.mp rfl) (fun w => w.elim q.1 q.2.1)⟩, ⟨kSh κ, f, h, hR⟩, sSame.rfl⟩)
