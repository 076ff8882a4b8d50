/-! findPolynomial: the contracts -/
def nRel (ga gb : Prop) (v : Nat) (A B : Nat → Int) (g : Prop) (P : Nat → Int) : Prop := (g ∧ WG ga gb v A B ∧ P = fun _ => 0) ∨ (¬ g ∧ ¬ WG ga gb v A B ∧ P = WF v A B)
theorem nRel.g {ga gb g : Prop} {v : Nat} {A B P : Nat → Int} (h : nRel ga gb v A B g P) : g ↔ ga ∨ gb ∨ WX v A B := h.elim (fun q => ⟨fun _ => q.2.1, fun _ => q.1⟩) (fun q => ⟨fun z => absurd z q.1, fun z => absurd z q.2.1⟩)
theorem nRel.z {ga gb g : Prop} {v : Nat} {A B P : Nat → Int} (h : nRel ga gb v A B g P) (hg : g) : P = fun _ => 0 := h.elim (fun q => q.2.2) (fun q => absurd hg q.1)
theorem nRel.f {ga gb g : Prop} {v : Nat} {A B P : Nat → Int} (h : nRel ga gb v A B g P) (hg : ¬ g) : P = WF v A B := h.elim (fun q => absurd q.1 hg) (fun q => q.2.2)
theorem fp_g1 {b : Bool} {ga gb w g : Prop} (hb : b = true ↔ ga ∨ gb) (hg : g ↔ ga ∨ gb ∨ w) : (b = true ∨ w) ↔ g := by rw [hb, hg, or_assoc]
theorem fp_m1 {b b1 : Bool} {ga gb d f g : Prop} (hb : b = true ↔ ga ∨ gb) (h1 : b1 = true ↔ b = true ∨ ¬ d) (hg : g ↔ ga ∨ gb ∨ ¬ (d ∧ f)) (e : b1 = true) : g := hg.mpr ((h1.mp e).elim (fun q => (hb.mp q).elim Or.inl (fun q => Or.inr (Or.inl q))) (fun q => Or.inr (Or.inr (fun z => q z.1))))
theorem fp_m2 {b b1 : Bool} {ga gb d f g : Prop} (hb : b = true ↔ ga ∨ gb) (h1 : b1 = true ↔ b = true ∨ ¬ d) (hg : g ↔ ga ∨ gb ∨ ¬ (d ∧ f)) : (b1 = true ∨ ¬ f) ↔ g := by
  refine ⟨fun q => q.elim (fp_m1 hb h1 hg) (fun q => hg.mpr (Or.inr (Or.inr (fun z => q z.2)))), fun q => ?_⟩
  rcases hg.mp q with z | z | z
  · exact Or.inl (h1.mpr (Or.inl (hb.mpr (Or.inl z))))
  · exact Or.inl (h1.mpr (Or.inl (hb.mpr (Or.inr z))))
  · by_cases hd : d
    · exact Or.inr (fun w => z ⟨hd, w⟩)
    · exact Or.inl (h1.mpr (Or.inr hd))
theorem fp_m0 {b1 : Bool} {g w : Prop} (e : b1 = true) (hg : g) : (b1 = true ∨ w) ↔ g := ⟨fun _ => hg, fun _ => Or.inl e⟩
theorem gz_W0 {A B : Nat → Int} (ha : gz A) (hb : gz B) : gz (WF 0 A B) := fun y hy => by
  by_cases q : A y = 0
  · exact hb y (fun z => hy (show A y + B y = 0 by omega))
  · exact ha y q
theorem gz_W1 {A B : Nat → Int} (ha : gz A) (hb : gz B) : gz (WF 1 A B) := fun y hy => by
  by_cases q : A y = 0
  · exact hb y (fun z => hy (show A y - B y = 0 by omega))
  · exact ha y q
theorem gz_W4 {A B : Nat → Int} (ha : gz A) : gz (WF 4 A B) := fun y hy => ha y (fun z => hy (show - A y = 0 by omega))
theorem gz_0 : gz (fun _ => 0) := fun _ h => absurd rfl h
theorem one1_gz {j : Nat} (hj : good j) (v : Int) : gz (one1 j v) := fun y hy => by
  by_cases q : y = j
  · rw [q]; exact hj
  · exact absurd (show (if y = j then 0 + v else 0) = 0 from if_neg q) hy
theorem one1_wr {wk : Nat → Int64} {j : Nat} (hz : z220 wk 220) (hj : good j) (v : Int64) : WRk (vp_updL wk (pl j) v) (one1 j v.toInt) := fun k hk => by
  show _ = if unp k = j then 0 + v.toInt else 0
  by_cases q : k = pl j
  · rw [q, vp_updL_at, unp_pl hj, if_pos rfl, Int.zero_add]
  · rw [vp_updL_no _ _ q, if_neg (fun e => q (by rw [← e, (unp_facts hk).2])), hz k hk]; rfl
theorem one1_ft {j : Nat} (hj : good j) {v : Int64} (hv : -1000000 ≤ v.toInt ∧ v.toInt ≤ 1000000) : fitsP (one1 j v.toInt) := (PR.single (0, 0, false, fun _ => 0, fun _ => 0) hj hv).ft
theorem CRk.oth {cl cl' : Nat → Int32} {j t : Nat} {P : Nat → Int} (h : CRk cl j P) (ho : ∀ j k, j ≠ t → k < 220 → cl' (220 * j + k) = cl (220 * j + k)) (hj : j ≠ t) : CRk cl' j P := fun k hk => by rw [ho j k hj hk]; exact h k hk
set_option maxHeartbeats 4000000 in
set_option maxRecDepth 100000 in
theorem fp_79_0 (X : sMach) (G : sG) (ad : sAd) (M0 M : sM) (c0 : Int32) (t0 : Nat) (hd : Nat → Int32) (on : Nat → Int32) (tw : Nat → Int32) (dp : Nat → Int32) (cl : Nat → Int32) (gr : Nat → Int32) (r0 : Nat) (kd : Nat → Int32) (fl : Nat → Int32) (co : Nat → Int32) (sm : Nat → Int32) (wk : Nat → Int64) (sp : Nat → Int64) (b0 : Bool) (mu : Nat → Int32) (hm : hMd G ad M (c0, t0, hd, on, tw, dp, cl, gr, r0, kd, fl, co, sm, wk, sp, b0, mu)) (hs : sSame pMd M0 M) (t : Nat) (htt : t < 120) (ja : Nat) (hja : ja < 120) (A : Nat → Int) (hca : CRk cl ja A) (hab : ∀ y, -1000000 ≤ A y ∧ A y ≤ 1000000) (hgA : gz A) (jb : Nat) (hjb : jb < 120) (B : Nat → Int) (hcb : CRk cl jb B) (hbb : ∀ y, -1000000 ≤ B y ∧ B y ≤ 1000000) (hgB : gz B) (hta : ja ≠ t) (ga gb g : Prop) (P : Nat → Int) (hh : hd t = 0) (hb : b0 = true ↔ ga ∨ gb) (hr : nRel ga gb 0 A B g P) : sW X G mX4_findPolynomial (sQ X G mX4_findPolynomial (fun r ad' M' => ad = ad' ∧ r = none ∧ ∃ cl' gr' wk' b', hMd G ad M' (c0, t0, hd, on, tw, dp, cl', gr', r0, kd, fl, co, sm, wk', sp, b', mu) ∧ sSame pMd M0 M' ∧ (∀ j k, j ≠ t → k < 220 → cl' (220 * j + k) = cl (220 * j + k)) ∧ (∀ j, j ≠ t → gr' j = gr j) ∧ (gr' t ≠ 0 ↔ g) ∧ CRk cl' t P) (fun _ _ _ => False)) ad M 0 0 [some (.ref (ad 12 0)), some (.int (nI t)), some (.int (nI ja)), some (.int (nI jb)), none] 79 [] := by
  refine s_aload_n dX4_findPolynomial_79 rfl ?_
  refine s_get (kd := 12) (ix := 0) (ci := 5) (fs := [.int c0, .int (nI t0), .ref (ad 13 0), .ref (ad 14 0), .ref (ad 15 0), .ref (ad 16 0), .ref (ad 17 0), .ref (ad 18 0), .int (nI r0), .ref (ad 19 0), .ref (ad 20 0), .ref (ad 21 0), .ref (ad 22 0), .ref (ad 23 0), .ref (ad 24 0), .int (jB b0), .ref (ad 25 0)])  hm.1 rfl in_X4_findPolynomial_X4 2 (by decide) (by decide +kernel) rfl rfl dX4_findPolynomial_80 ?_
  refine s_iload_n dX4_findPolynomial_83 rfl ?_
  refine s_iald (kd := 13) (ix := 0) (n := 120) (f := hd) (j := t) hm.2.1 (rfl) (by omega) (by decide) dX4_findPolynomial_84 ?_
  refine s_eqi (y := 0) (hh) ?_
  refine s_tableIn 181 dX4_findPolynomial_85 (by decide) (by decide) rfl (by decide) ?_
  refine s_iconst (v := 0) dX4_findPolynomial_181 (by decide) ?_
  refine s_istore dX4_findPolynomial_182 rfl rfl ?_
  refine s_lv (lv' := [some (.ref (ad 12 0)), some (.int (nI t)), some (.int (nI ja)), some (.int (nI jb)), some (.int 0)]) rfl ?_
  refine l_fpA0 X G ad M0 c0 t0 hd on tw dp cl gr r0 kd fl co sm sp b0 mu t htt hh ja hja A hca hab jb hjb B hcb hbb _ (fun M32 wk32  hm32 hs32 hv32 => ?_) (220) 0 M wk  (by omega) ⟨hm.1, hm.2.1, hm.2.2.1, hm.2.2.2.1, hm.2.2.2.2.1, hm.2.2.2.2.2.1, hm.2.2.2.2.2.2.1, hm.2.2.2.2.2.2.2.1, hm.2.2.2.2.2.2.2.2.1, hm.2.2.2.2.2.2.2.2.2.1, hm.2.2.2.2.2.2.2.2.2.2.1, hm.2.2.2.2.2.2.2.2.2.2.2.1, hm.2.2.2.2.2.2.2.2.2.2.2.2.1, hm.2.2.2.2.2.2.2.2.2.2.2.2.2⟩ hs (fun k hk => absurd hk (Nat.not_lt_zero k))
  refine s_goto 394 dX4_findPolynomial_259 (by decide) ?_
  exact fp_tail X G ad M0 M32 c0 t0 hd on tw dp cl gr r0 kd fl co sm wk32 sp b0 mu hm32 hs32 cl gr t htt (WF 0 A B) (gz_W0 hgA hgB) hv32 (fun _ _ _ _ => rfl) (fun _ _ => rfl) g P (fp_g1 hb hr.g) hr.z hr.f _ _
set_option maxHeartbeats 4000000 in
set_option maxRecDepth 100000 in
theorem fp_79_1 (X : sMach) (G : sG) (ad : sAd) (M0 M : sM) (c0 : Int32) (t0 : Nat) (hd : Nat → Int32) (on : Nat → Int32) (tw : Nat → Int32) (dp : Nat → Int32) (cl : Nat → Int32) (gr : Nat → Int32) (r0 : Nat) (kd : Nat → Int32) (fl : Nat → Int32) (co : Nat → Int32) (sm : Nat → Int32) (wk : Nat → Int64) (sp : Nat → Int64) (b0 : Bool) (mu : Nat → Int32) (hm : hMd G ad M (c0, t0, hd, on, tw, dp, cl, gr, r0, kd, fl, co, sm, wk, sp, b0, mu)) (hs : sSame pMd M0 M) (t : Nat) (htt : t < 120) (ja : Nat) (hja : ja < 120) (A : Nat → Int) (hca : CRk cl ja A) (hab : ∀ y, -1000000 ≤ A y ∧ A y ≤ 1000000) (hgA : gz A) (jb : Nat) (hjb : jb < 120) (B : Nat → Int) (hcb : CRk cl jb B) (hbb : ∀ y, -1000000 ≤ B y ∧ B y ≤ 1000000) (hgB : gz B) (hta : ja ≠ t) (ga gb g : Prop) (P : Nat → Int) (hh : hd t = 1) (hb : b0 = true ↔ ga ∨ gb) (hr : nRel ga gb 1 A B g P) : sW X G mX4_findPolynomial (sQ X G mX4_findPolynomial (fun r ad' M' => ad = ad' ∧ r = none ∧ ∃ cl' gr' wk' b', hMd G ad M' (c0, t0, hd, on, tw, dp, cl', gr', r0, kd, fl, co, sm, wk', sp, b', mu) ∧ sSame pMd M0 M' ∧ (∀ j k, j ≠ t → k < 220 → cl' (220 * j + k) = cl (220 * j + k)) ∧ (∀ j, j ≠ t → gr' j = gr j) ∧ (gr' t ≠ 0 ↔ g) ∧ CRk cl' t P) (fun _ _ _ => False)) ad M 0 0 [some (.ref (ad 12 0)), some (.int (nI t)), some (.int (nI ja)), some (.int (nI jb)), none] 79 [] := by
  refine s_aload_n dX4_findPolynomial_79 rfl ?_
  refine s_get (kd := 12) (ix := 0) (ci := 5) (fs := [.int c0, .int (nI t0), .ref (ad 13 0), .ref (ad 14 0), .ref (ad 15 0), .ref (ad 16 0), .ref (ad 17 0), .ref (ad 18 0), .int (nI r0), .ref (ad 19 0), .ref (ad 20 0), .ref (ad 21 0), .ref (ad 22 0), .ref (ad 23 0), .ref (ad 24 0), .int (jB b0), .ref (ad 25 0)])  hm.1 rfl in_X4_findPolynomial_X4 2 (by decide) (by decide +kernel) rfl rfl dX4_findPolynomial_80 ?_
  refine s_iload_n dX4_findPolynomial_83 rfl ?_
  refine s_iald (kd := 13) (ix := 0) (n := 120) (f := hd) (j := t) hm.2.1 (rfl) (by omega) (by decide) dX4_findPolynomial_84 ?_
  refine s_eqi (y := 1) (hh) ?_
  refine s_tableIn 181 dX4_findPolynomial_85 (by decide) (by decide) rfl (by decide) ?_
  refine s_iconst (v := 0) dX4_findPolynomial_181 (by decide) ?_
  refine s_istore dX4_findPolynomial_182 rfl rfl ?_
  refine s_lv (lv' := [some (.ref (ad 12 0)), some (.int (nI t)), some (.int (nI ja)), some (.int (nI jb)), some (.int 0)]) rfl ?_
  refine l_fpA1 X G ad M0 c0 t0 hd on tw dp cl gr r0 kd fl co sm sp b0 mu t htt hh ja hja A hca hab jb hjb B hcb hbb _ (fun M33 wk33  hm33 hs33 hv33 => ?_) (220) 0 M wk  (by omega) ⟨hm.1, hm.2.1, hm.2.2.1, hm.2.2.2.1, hm.2.2.2.2.1, hm.2.2.2.2.2.1, hm.2.2.2.2.2.2.1, hm.2.2.2.2.2.2.2.1, hm.2.2.2.2.2.2.2.2.1, hm.2.2.2.2.2.2.2.2.2.1, hm.2.2.2.2.2.2.2.2.2.2.1, hm.2.2.2.2.2.2.2.2.2.2.2.1, hm.2.2.2.2.2.2.2.2.2.2.2.2.1, hm.2.2.2.2.2.2.2.2.2.2.2.2.2⟩ hs (fun k hk => absurd hk (Nat.not_lt_zero k))
  refine s_goto 394 dX4_findPolynomial_259 (by decide) ?_
  exact fp_tail X G ad M0 M33 c0 t0 hd on tw dp cl gr r0 kd fl co sm wk33 sp b0 mu hm33 hs33 cl gr t htt (WF 1 A B) (gz_W1 hgA hgB) hv33 (fun _ _ _ _ => rfl) (fun _ _ => rfl) g P (fp_g1 hb hr.g) hr.z hr.f _ _
set_option maxHeartbeats 4000000 in
set_option maxRecDepth 100000 in
theorem fp_79_2 (X : sMach) (G : sG) (ad : sAd) (M0 M : sM) (c0 : Int32) (t0 : Nat) (hd : Nat → Int32) (on : Nat → Int32) (tw : Nat → Int32) (dp : Nat → Int32) (cl : Nat → Int32) (gr : Nat → Int32) (r0 : Nat) (kd : Nat → Int32) (fl : Nat → Int32) (co : Nat → Int32) (sm : Nat → Int32) (wk : Nat → Int64) (sp : Nat → Int64) (b0 : Bool) (mu : Nat → Int32) (hm : hMd G ad M (c0, t0, hd, on, tw, dp, cl, gr, r0, kd, fl, co, sm, wk, sp, b0, mu)) (hs : sSame pMd M0 M) (t : Nat) (htt : t < 120) (ja : Nat) (hja : ja < 120) (A : Nat → Int) (hca : CRk cl ja A) (hab : ∀ y, -1000000 ≤ A y ∧ A y ≤ 1000000) (hgA : gz A) (jb : Nat) (hjb : jb < 120) (B : Nat → Int) (hcb : CRk cl jb B) (hbb : ∀ y, -1000000 ≤ B y ∧ B y ≤ 1000000) (hgB : gz B) (hta : ja ≠ t) (ga gb g : Prop) (P : Nat → Int) (hh : hd t = 2) (hb : b0 = true ↔ ga ∨ gb) (hr : nRel ga gb 2 A B g P) : sW X G mX4_findPolynomial (sQ X G mX4_findPolynomial (fun r ad' M' => ad = ad' ∧ r = none ∧ ∃ cl' gr' wk' b', hMd G ad M' (c0, t0, hd, on, tw, dp, cl', gr', r0, kd, fl, co, sm, wk', sp, b', mu) ∧ sSame pMd M0 M' ∧ (∀ j k, j ≠ t → k < 220 → cl' (220 * j + k) = cl (220 * j + k)) ∧ (∀ j, j ≠ t → gr' j = gr j) ∧ (gr' t ≠ 0 ↔ g) ∧ CRk cl' t P) (fun _ _ _ => False)) ad M 0 0 [some (.ref (ad 12 0)), some (.int (nI t)), some (.int (nI ja)), some (.int (nI jb)), none] 79 [] := by
  refine s_aload_n dX4_findPolynomial_79 rfl ?_
  refine s_get (kd := 12) (ix := 0) (ci := 5) (fs := [.int c0, .int (nI t0), .ref (ad 13 0), .ref (ad 14 0), .ref (ad 15 0), .ref (ad 16 0), .ref (ad 17 0), .ref (ad 18 0), .int (nI r0), .ref (ad 19 0), .ref (ad 20 0), .ref (ad 21 0), .ref (ad 22 0), .ref (ad 23 0), .ref (ad 24 0), .int (jB b0), .ref (ad 25 0)])  hm.1 rfl in_X4_findPolynomial_X4 2 (by decide) (by decide +kernel) rfl rfl dX4_findPolynomial_80 ?_
  refine s_iload_n dX4_findPolynomial_83 rfl ?_
  refine s_iald (kd := 13) (ix := 0) (n := 120) (f := hd) (j := t) hm.2.1 (rfl) (by omega) (by decide) dX4_findPolynomial_84 ?_
  refine s_eqi (y := 2) (hh) ?_
  refine s_tableIn 262 dX4_findPolynomial_85 (by decide) (by decide) rfl (by decide) ?_
  refine s_aload_n dX4_findPolynomial_262 rfl ?_
  refine s_iload_n dX4_findPolynomial_263 rfl ?_
  refine s_iload_n dX4_findPolynomial_264 rfl ?_
  refine s_callV (As := [.int (nI ja), .int (nI jb)]) (rest := []) (n := 2) (kd := 12) (ix := 0) (fun l hl => c_X4_multiply G l hl ad M c0 t0 hd on tw dp cl gr r0 kd fl co sm wk sp b0 mu ⟨hm.1, hm.2.1, hm.2.2.1, hm.2.2.2.1, hm.2.2.2.2.1, hm.2.2.2.2.2.1, hm.2.2.2.2.2.2.1, hm.2.2.2.2.2.2.2.1, hm.2.2.2.2.2.2.2.2.1, hm.2.2.2.2.2.2.2.2.2.1, hm.2.2.2.2.2.2.2.2.2.2.1, hm.2.2.2.2.2.2.2.2.2.2.2.1, hm.2.2.2.2.2.2.2.2.2.2.2.2.1, hm.2.2.2.2.2.2.2.2.2.2.2.2.2⟩ ja hja A hgA hca hab jb hjb B hgB hcb hbb) gX4_findPolynomial_X4_multiply rfl (by decide +kernel) hm.1 rfl rfl ⟨(Nat.le_of_ble_eq_true rfl), (Nat.le_of_ble_eq_true rfl)⟩ ⟨(Nat.le_of_ble_eq_true rfl), (Nat.le_of_ble_eq_true rfl)⟩ (Nat.le_of_ble_eq_true rfl) dX4_findPolynomial_265 rfl (fun r34 ad34 M34 h34 => ?_)
  obtain ⟨rfl, rfl, wk34, b34, hm34, hs34, hb34, hd34⟩ := h34
  refine s_goto 394 dX4_findPolynomial_268 (by decide) ?_
  rcases hd34 with ⟨e9, hw9⟩ | ⟨e9, hw9, hz9⟩
  · exact fp_tail X G ad M0 M34 c0 t0 hd on tw dp cl gr r0 kd fl co sm wk34 sp b34 mu hm34 (hs.trans hs34) cl gr t htt (fun _ => 0) gz_0 hw9 (fun _ _ _ _ => rfl) (fun _ _ => rfl) g P (fp_m0 e9 (fp_m1 hb hb34 hr.g e9)) hr.z (fun q => absurd (fp_m1 hb hb34 hr.g e9) q) _ _
  · exact fp_tail X G ad M0 M34 c0 t0 hd on tw dp cl gr r0 kd fl co sm wk34 sp b34 mu hm34 (hs.trans hs34) cl gr t htt (mul A B) hz9 hw9 (fun _ _ _ _ => rfl) (fun _ _ => rfl) g P (fp_m2 hb hb34 hr.g) hr.z hr.f _ _
set_option maxHeartbeats 4000000 in
set_option maxRecDepth 100000 in
theorem fp_79_3 (X : sMach) (G : sG) (ad : sAd) (M0 M : sM) (c0 : Int32) (t0 : Nat) (hd : Nat → Int32) (on : Nat → Int32) (tw : Nat → Int32) (dp : Nat → Int32) (cl : Nat → Int32) (gr : Nat → Int32) (r0 : Nat) (kd : Nat → Int32) (fl : Nat → Int32) (co : Nat → Int32) (sm : Nat → Int32) (wk : Nat → Int64) (sp : Nat → Int64) (b0 : Bool) (mu : Nat → Int32) (hm : hMd G ad M (c0, t0, hd, on, tw, dp, cl, gr, r0, kd, fl, co, sm, wk, sp, b0, mu)) (hs : sSame pMd M0 M) (t : Nat) (htt : t < 120) (ja : Nat) (hja : ja < 120) (A : Nat → Int) (hca : CRk cl ja A) (hab : ∀ y, -1000000 ≤ A y ∧ A y ≤ 1000000) (hgA : gz A) (jb : Nat) (hjb : jb < 120) (B : Nat → Int) (hcb : CRk cl jb B) (hbb : ∀ y, -1000000 ≤ B y ∧ B y ≤ 1000000) (hgB : gz B) (hta : ja ≠ t) (ga gb g : Prop) (P : Nat → Int) (hh : hd t = 3) (hb : b0 = true ↔ ga ∨ gb) (hr : nRel ga gb 3 A B g P) (a3 : Int32) : sW X G mX4_findPolynomial (sQ X G mX4_findPolynomial (fun r ad' M' => ad = ad' ∧ r = none ∧ ∃ cl' gr' wk' b', hMd G ad M' (c0, t0, hd, on, tw, dp, cl', gr', r0, kd, fl, co, sm, wk', sp, b', mu) ∧ sSame pMd M0 M' ∧ (∀ j k, j ≠ t → k < 220 → cl' (220 * j + k) = cl (220 * j + k)) ∧ (∀ j, j ≠ t → gr' j = gr j) ∧ (gr' t ≠ 0 ↔ g) ∧ CRk cl' t P) (fun _ _ _ => False)) ad M 0 0 [some (.ref (ad 12 0)), some (.int (nI t)), some (.int (nI ja)), some (.int a3), none] 79 [] := by
  refine s_aload_n dX4_findPolynomial_79 rfl ?_
  refine s_get (kd := 12) (ix := 0) (ci := 5) (fs := [.int c0, .int (nI t0), .ref (ad 13 0), .ref (ad 14 0), .ref (ad 15 0), .ref (ad 16 0), .ref (ad 17 0), .ref (ad 18 0), .int (nI r0), .ref (ad 19 0), .ref (ad 20 0), .ref (ad 21 0), .ref (ad 22 0), .ref (ad 23 0), .ref (ad 24 0), .int (jB b0), .ref (ad 25 0)])  hm.1 rfl in_X4_findPolynomial_X4 2 (by decide) (by decide +kernel) rfl rfl dX4_findPolynomial_80 ?_
  refine s_iload_n dX4_findPolynomial_83 rfl ?_
  refine s_iald (kd := 13) (ix := 0) (n := 120) (f := hd) (j := t) hm.2.1 (rfl) (by omega) (by decide) dX4_findPolynomial_84 ?_
  refine s_eqi (y := 3) (hh) ?_
  refine s_tableIn 271 dX4_findPolynomial_85 (by decide) (by decide) rfl (by decide) ?_
  refine s_aload_n dX4_findPolynomial_271 rfl ?_
  refine s_iload_n dX4_findPolynomial_272 rfl ?_
  refine s_iload_n dX4_findPolynomial_273 rfl ?_
  refine s_callV (As := [.int (nI ja), .int (nI ja)]) (rest := []) (n := 2) (kd := 12) (ix := 0) (fun l hl => c_X4_multiply G l hl ad M c0 t0 hd on tw dp cl gr r0 kd fl co sm wk sp b0 mu ⟨hm.1, hm.2.1, hm.2.2.1, hm.2.2.2.1, hm.2.2.2.2.1, hm.2.2.2.2.2.1, hm.2.2.2.2.2.2.1, hm.2.2.2.2.2.2.2.1, hm.2.2.2.2.2.2.2.2.1, hm.2.2.2.2.2.2.2.2.2.1, hm.2.2.2.2.2.2.2.2.2.2.1, hm.2.2.2.2.2.2.2.2.2.2.2.1, hm.2.2.2.2.2.2.2.2.2.2.2.2.1, hm.2.2.2.2.2.2.2.2.2.2.2.2.2⟩ ja hja A hgA hca hab ja hja A hgA hca hab) gX4_findPolynomial_X4_multiply rfl (by decide +kernel) hm.1 rfl rfl ⟨(Nat.le_of_ble_eq_true rfl), (Nat.le_of_ble_eq_true rfl)⟩ ⟨(Nat.le_of_ble_eq_true rfl), (Nat.le_of_ble_eq_true rfl)⟩ (Nat.le_of_ble_eq_true rfl) dX4_findPolynomial_274 rfl (fun r35 ad35 M35 h35 => ?_)
  obtain ⟨rfl, rfl, wk35, b35, hm35, hs35, hb35, hd35⟩ := h35
  refine s_goto 394 dX4_findPolynomial_277 (by decide) ?_
  rcases hd35 with ⟨e9, hw9⟩ | ⟨e9, hw9, hz9⟩
  · exact fp_tail X G ad M0 M35 c0 t0 hd on tw dp cl gr r0 kd fl co sm wk35 sp b35 mu hm35 (hs.trans hs35) cl gr t htt (fun _ => 0) gz_0 hw9 (fun _ _ _ _ => rfl) (fun _ _ => rfl) g P (fp_m0 e9 (fp_m1 hb hb35 hr.g e9)) hr.z (fun q => absurd (fp_m1 hb hb35 hr.g e9) q) _ _
  · exact fp_tail X G ad M0 M35 c0 t0 hd on tw dp cl gr r0 kd fl co sm wk35 sp b35 mu hm35 (hs.trans hs35) cl gr t htt (mul A A) hz9 hw9 (fun _ _ _ _ => rfl) (fun _ _ => rfl) g P (fp_m2 hb hb35 hr.g) hr.z hr.f _ _
set_option maxHeartbeats 4000000 in
set_option maxRecDepth 100000 in
theorem fp_79_4 (X : sMach) (G : sG) (ad : sAd) (M0 M : sM) (c0 : Int32) (t0 : Nat) (hd : Nat → Int32) (on : Nat → Int32) (tw : Nat → Int32) (dp : Nat → Int32) (cl : Nat → Int32) (gr : Nat → Int32) (r0 : Nat) (kd : Nat → Int32) (fl : Nat → Int32) (co : Nat → Int32) (sm : Nat → Int32) (wk : Nat → Int64) (sp : Nat → Int64) (b0 : Bool) (mu : Nat → Int32) (hm : hMd G ad M (c0, t0, hd, on, tw, dp, cl, gr, r0, kd, fl, co, sm, wk, sp, b0, mu)) (hs : sSame pMd M0 M) (t : Nat) (htt : t < 120) (ja : Nat) (hja : ja < 120) (A : Nat → Int) (hca : CRk cl ja A) (hab : ∀ y, -1000000 ≤ A y ∧ A y ≤ 1000000) (hgA : gz A) (jb : Nat) (hjb : jb < 120) (B : Nat → Int) (hcb : CRk cl jb B) (hbb : ∀ y, -1000000 ≤ B y ∧ B y ≤ 1000000) (hgB : gz B) (hta : ja ≠ t) (ga gb g : Prop) (P : Nat → Int) (hh : hd t = 4) (hb : b0 = true ↔ ga ∨ gb) (hr : nRel ga gb 4 A B g P) (a3 : Int32) : sW X G mX4_findPolynomial (sQ X G mX4_findPolynomial (fun r ad' M' => ad = ad' ∧ r = none ∧ ∃ cl' gr' wk' b', hMd G ad M' (c0, t0, hd, on, tw, dp, cl', gr', r0, kd, fl, co, sm, wk', sp, b', mu) ∧ sSame pMd M0 M' ∧ (∀ j k, j ≠ t → k < 220 → cl' (220 * j + k) = cl (220 * j + k)) ∧ (∀ j, j ≠ t → gr' j = gr j) ∧ (gr' t ≠ 0 ↔ g) ∧ CRk cl' t P) (fun _ _ _ => False)) ad M 0 0 [some (.ref (ad 12 0)), some (.int (nI t)), some (.int (nI ja)), some (.int a3), none] 79 [] := by
  refine s_aload_n dX4_findPolynomial_79 rfl ?_
  refine s_get (kd := 12) (ix := 0) (ci := 5) (fs := [.int c0, .int (nI t0), .ref (ad 13 0), .ref (ad 14 0), .ref (ad 15 0), .ref (ad 16 0), .ref (ad 17 0), .ref (ad 18 0), .int (nI r0), .ref (ad 19 0), .ref (ad 20 0), .ref (ad 21 0), .ref (ad 22 0), .ref (ad 23 0), .ref (ad 24 0), .int (jB b0), .ref (ad 25 0)])  hm.1 rfl in_X4_findPolynomial_X4 2 (by decide) (by decide +kernel) rfl rfl dX4_findPolynomial_80 ?_
  refine s_iload_n dX4_findPolynomial_83 rfl ?_
  refine s_iald (kd := 13) (ix := 0) (n := 120) (f := hd) (j := t) hm.2.1 (rfl) (by omega) (by decide) dX4_findPolynomial_84 ?_
  refine s_eqi (y := 4) (hh) ?_
  refine s_tableIn 280 dX4_findPolynomial_85 (by decide) (by decide) rfl (by decide) ?_
  refine s_iconst (v := 0) dX4_findPolynomial_280 (by decide) ?_
  refine s_istore dX4_findPolynomial_281 rfl rfl ?_
  refine s_lv (lv' := [some (.ref (ad 12 0)), some (.int (nI t)), some (.int (nI ja)), some (.int a3), some (.int 0)]) rfl ?_
  refine l_fpN X G ad M0 c0 t0 hd on tw dp cl gr r0 kd fl co sm sp b0 mu t a3 ja hja A hca hab _ (fun M36 wk36  hm36 hs36 hv36 => ?_) (220) 0 M wk  (by omega) ⟨hm.1, hm.2.1, hm.2.2.1, hm.2.2.2.1, hm.2.2.2.2.1, hm.2.2.2.2.2.1, hm.2.2.2.2.2.2.1, hm.2.2.2.2.2.2.2.1, hm.2.2.2.2.2.2.2.2.1, hm.2.2.2.2.2.2.2.2.2.1, hm.2.2.2.2.2.2.2.2.2.2.1, hm.2.2.2.2.2.2.2.2.2.2.2.1, hm.2.2.2.2.2.2.2.2.2.2.2.2.1, hm.2.2.2.2.2.2.2.2.2.2.2.2.2⟩ hs (fun k hk => absurd hk (Nat.not_lt_zero k))
  refine s_goto 394 dX4_findPolynomial_319 (by decide) ?_
  exact fp_tail X G ad M0 M36 c0 t0 hd on tw dp cl gr r0 kd fl co sm wk36 sp b0 mu hm36 hs36 cl gr t htt (WF 4 A B) (gz_W4 hgA) hv36 (fun _ _ _ _ => rfl) (fun _ _ => rfl) g P (fp_g1 hb hr.g) hr.z hr.f _ _
set_option maxHeartbeats 4000000 in
set_option maxRecDepth 100000 in
theorem fp_79_5 (X : sMach) (G : sG) (ad : sAd) (M0 M : sM) (c0 : Int32) (t0 : Nat) (hd : Nat → Int32) (on : Nat → Int32) (tw : Nat → Int32) (dp : Nat → Int32) (cl : Nat → Int32) (gr : Nat → Int32) (r0 : Nat) (kd : Nat → Int32) (fl : Nat → Int32) (co : Nat → Int32) (sm : Nat → Int32) (wk : Nat → Int64) (sp : Nat → Int64) (b0 : Bool) (mu : Nat → Int32) (hm : hMd G ad M (c0, t0, hd, on, tw, dp, cl, gr, r0, kd, fl, co, sm, wk, sp, b0, mu)) (hs : sSame pMd M0 M) (t : Nat) (htt : t < 120) (ja : Nat) (hja : ja < 120) (A : Nat → Int) (hca : CRk cl ja A) (hab : ∀ y, -1000000 ≤ A y ∧ A y ≤ 1000000) (hgA : gz A) (jb : Nat) (hjb : jb < 120) (B : Nat → Int) (hcb : CRk cl jb B) (hbb : ∀ y, -1000000 ≤ B y ∧ B y ≤ 1000000) (hgB : gz B) (hta : ja ≠ t) (ga gb g : Prop) (P : Nat → Int) (hh : hd t = 5) (hb : b0 = true ↔ ga ∨ gb) (hr : nRel ga gb 5 A B g P) (a3 : Int32) : sW X G mX4_findPolynomial (sQ X G mX4_findPolynomial (fun r ad' M' => ad = ad' ∧ r = none ∧ ∃ cl' gr' wk' b', hMd G ad M' (c0, t0, hd, on, tw, dp, cl', gr', r0, kd, fl, co, sm, wk', sp, b', mu) ∧ sSame pMd M0 M' ∧ (∀ j k, j ≠ t → k < 220 → cl' (220 * j + k) = cl (220 * j + k)) ∧ (∀ j, j ≠ t → gr' j = gr j) ∧ (gr' t ≠ 0 ↔ g) ∧ CRk cl' t P) (fun _ _ _ => False)) ad M 0 0 [some (.ref (ad 12 0)), some (.int (nI t)), some (.int (nI ja)), some (.int a3), none] 79 [] := by
  refine s_aload_n dX4_findPolynomial_79 rfl ?_
  refine s_get (kd := 12) (ix := 0) (ci := 5) (fs := [.int c0, .int (nI t0), .ref (ad 13 0), .ref (ad 14 0), .ref (ad 15 0), .ref (ad 16 0), .ref (ad 17 0), .ref (ad 18 0), .int (nI r0), .ref (ad 19 0), .ref (ad 20 0), .ref (ad 21 0), .ref (ad 22 0), .ref (ad 23 0), .ref (ad 24 0), .int (jB b0), .ref (ad 25 0)])  hm.1 rfl in_X4_findPolynomial_X4 2 (by decide) (by decide +kernel) rfl rfl dX4_findPolynomial_80 ?_
  refine s_iload_n dX4_findPolynomial_83 rfl ?_
  refine s_iald (kd := 13) (ix := 0) (n := 120) (f := hd) (j := t) hm.2.1 (rfl) (by omega) (by decide) dX4_findPolynomial_84 ?_
  refine s_eqi (y := 5) (hh) ?_
  refine s_tableOut 322 dX4_findPolynomial_85 (by decide) (by decide) ?_
  refine s_aload_n dX4_findPolynomial_322 rfl ?_
  refine s_iload_n dX4_findPolynomial_323 rfl ?_
  refine s_iload_n dX4_findPolynomial_324 rfl ?_
  refine s_callV (As := [.int (nI ja), .int (nI ja)]) (rest := []) (n := 2) (kd := 12) (ix := 0) (fun l hl => c_X4_multiply G l hl ad M c0 t0 hd on tw dp cl gr r0 kd fl co sm wk sp b0 mu ⟨hm.1, hm.2.1, hm.2.2.1, hm.2.2.2.1, hm.2.2.2.2.1, hm.2.2.2.2.2.1, hm.2.2.2.2.2.2.1, hm.2.2.2.2.2.2.2.1, hm.2.2.2.2.2.2.2.2.1, hm.2.2.2.2.2.2.2.2.2.1, hm.2.2.2.2.2.2.2.2.2.2.1, hm.2.2.2.2.2.2.2.2.2.2.2.1, hm.2.2.2.2.2.2.2.2.2.2.2.2.1, hm.2.2.2.2.2.2.2.2.2.2.2.2.2⟩ ja hja A hgA hca hab ja hja A hgA hca hab) gX4_findPolynomial_X4_multiply rfl (by decide +kernel) hm.1 rfl rfl ⟨(Nat.le_of_ble_eq_true rfl), (Nat.le_of_ble_eq_true rfl)⟩ ⟨(Nat.le_of_ble_eq_true rfl), (Nat.le_of_ble_eq_true rfl)⟩ (Nat.le_of_ble_eq_true rfl) dX4_findPolynomial_325 rfl (fun r37 ad37 M37 h37 => ?_)
  obtain ⟨rfl, rfl, wk37, b37, hm37, hs37, hb37, hd37⟩ := h37
  obtain ⟨f1, hgf1, hw1, hf1⟩ : ∃ f1, gz f1 ∧ WRk wk37 f1 ∧ (b37 = false → f1 = mul A A) := hd37.elim (fun q => ⟨fun _ => 0, gz_0, q.2, fun z => by rw [q.1] at z; cases z⟩) (fun q => ⟨mul A A, q.2.2, q.2.1, fun _ => rfl⟩)
  refine s_aload_n dX4_findPolynomial_328 rfl ?_
  refine s_callV (As := []) (rest := []) (n := 0) (kd := 12) (ix := 0) (fun l hl => c_X4_bound G l hl ad M37 c0 t0 hd on tw dp cl gr r0 kd fl co sm wk37 sp b37 mu ⟨hm37.1, hm37.2.1, hm37.2.2.1, hm37.2.2.2.1, hm37.2.2.2.2.1, hm37.2.2.2.2.2.1, hm37.2.2.2.2.2.2.1, hm37.2.2.2.2.2.2.2.1, hm37.2.2.2.2.2.2.2.2.1, hm37.2.2.2.2.2.2.2.2.2.1, hm37.2.2.2.2.2.2.2.2.2.2.1, hm37.2.2.2.2.2.2.2.2.2.2.2.1, hm37.2.2.2.2.2.2.2.2.2.2.2.2.1, hm37.2.2.2.2.2.2.2.2.2.2.2.2.2⟩ f1 hgf1 hw1) gX4_findPolynomial_X4_bound rfl (by decide +kernel) hm37.1 rfl rfl ⟨(Nat.le_of_ble_eq_true rfl), (Nat.le_of_ble_eq_true rfl)⟩ ⟨(Nat.le_of_ble_eq_true rfl), (Nat.le_of_ble_eq_true rfl)⟩ (Nat.le_of_ble_eq_true rfl) dX4_findPolynomial_329 rfl (fun r38 ad38 M38 h38 => ?_)
  obtain ⟨rfl, rfl, b38, hm38, hs38, hb38⟩ := h38
  have hb2 : b38 = true ↔ ga ∨ gb ∨ ¬ (dOK A A ∧ fitsP (mul A A)) := by
    rw [hb38]
    refine Iff.trans ⟨fun q => q, fun q => q⟩ (Iff.trans ?_ (fp_m2 (f := fitsP (mul A A)) hb hb37 Iff.rfl))
    exact ⟨fun q => q.elim Or.inl (fun z => (Classical.em (b37 = true)).elim Or.inl (fun e => Or.inr (by rw [hf1 (Bool.eq_false_iff.mpr e)] at z; exact z))), fun q => q.elim Or.inl (fun z => (Classical.em (b37 = true)).elim Or.inl (fun e => Or.inr (by rw [hf1 (Bool.eq_false_iff.mpr e)]; exact z)))⟩
  have hin : b38 = false → ∀ k, k < 220 → ¬ out6 (f1 (unp k)) := fun q => ((fits220 hgf1).mp (Classical.byContradiction (fun z => by rw [hb38.mpr (Or.inr z)] at q; cases q))).1
  refine s_iconst (v := 0) dX4_findPolynomial_332 (by decide) ?_
  refine s_istore dX4_findPolynomial_333 rfl rfl ?_
  refine s_lv (lv' := [some (.ref (ad 12 0)), some (.int (nI t)), some (.int (nI ja)), some (.int a3), some (.int 0)]) rfl ?_
  refine l_fpQ X G ad M0 c0 t0 hd on tw dp gr r0 kd fl co sm wk37 sp b38 mu t htt (nI ja) a3 cl f1 (if b38 = true then (fun _ => 0) else f1) hw1 hin (fun q => if_pos q) (fun q => if_neg (by rw [q]; decide)) _ (fun M39 cl39  hm39 hs39 hv39 => ?_) (220) 0 M38 cl  (by omega) ⟨hm38.1, hm38.2.1, hm38.2.2.1, hm38.2.2.2.1, hm38.2.2.2.2.1, hm38.2.2.2.2.2.1, hm38.2.2.2.2.2.2.1, hm38.2.2.2.2.2.2.2.1, hm38.2.2.2.2.2.2.2.2.1, hm38.2.2.2.2.2.2.2.2.2.1, hm38.2.2.2.2.2.2.2.2.2.2.1, hm38.2.2.2.2.2.2.2.2.2.2.2.1, hm38.2.2.2.2.2.2.2.2.2.2.2.2.1, hm38.2.2.2.2.2.2.2.2.2.2.2.2.2⟩ ((hs.trans hs37).trans hs38) (⟨fun k hk => absurd hk (Nat.not_lt_zero k), fun _ _ _ _ => rfl⟩)
  refine s_aload_n dX4_findPolynomial_381 rfl ?_
  refine s_get (kd := 12) (ix := 0) (ci := 5) (fs := [.int c0, .int (nI t0), .ref (ad 13 0), .ref (ad 14 0), .ref (ad 15 0), .ref (ad 16 0), .ref (ad 17 0), .ref (ad 18 0), .int (nI r0), .ref (ad 19 0), .ref (ad 20 0), .ref (ad 21 0), .ref (ad 22 0), .ref (ad 23 0), .ref (ad 24 0), .int (jB b38), .ref (ad 25 0)])  hm39.1 rfl in_X4_findPolynomial_X4 15 (by decide) (by decide +kernel) rfl rfl dX4_findPolynomial_382 ?_
  refine s_if_ne 394 dX4_findPolynomial_385 (by decide) (fun c385 => ?_) (fun c385 => ?_)
  · exact fp_tail X G ad M0 M39 c0 t0 hd on tw dp cl39 gr r0 kd fl co sm wk37 sp b38 mu hm39 hs39 cl gr t htt f1 hgf1 hw1 hv39.2 (fun _ _ => rfl) g P (fp_m0 (Bool.of_not_eq_false (fun q => c385 (jB_0.mpr q))) (hr.g.mpr ((hb2.mp (Bool.of_not_eq_false (fun q => c385 (jB_0.mpr q)))).elim Or.inl (fun z => Or.inr (z.elim Or.inl (fun z => Or.inr (fun w => z ⟨w.1, w.2.1⟩))))))) hr.z (fun q => absurd (hr.g.mpr ((hb2.mp (Bool.of_not_eq_false (fun q => c385 (jB_0.mpr q)))).elim Or.inl (fun z => Or.inr (z.elim Or.inl (fun z => Or.inr (fun w => z ⟨w.1, w.2.1⟩)))))) q) _ _
  · have e2 : b38 = false := jB_0.mp c385
    have hn2 : ¬ (ga ∨ gb ∨ ¬ (dOK A A ∧ fitsP (mul A A))) := fun z => absurd (hb2.mpr z) (by rw [e2]; decide)
    have e1 : b37 = false := Bool.eq_false_iff.mpr (fun z => by rw [hb38.mpr (Or.inl z)] at e2; cases e2)
    have hdf : dOK A A ∧ fitsP (mul A A) := Classical.byContradiction (fun z => hn2 (Or.inr (Or.inr z)))
    have hcm : CRk cl39 t (mul A A) := by
      have z := hv39.1
      rw [if_neg (by rw [e2]; decide), hf1 e1] at z
      exact z
    have hgm : gz (mul A A) := by rw [← hf1 e1]; exact hgf1
    have hc2 : CRk cl39 ja A := hca.oth hv39.2 hta
    refine s_aload_n dX4_findPolynomial_388 rfl ?_
    refine s_iload_n dX4_findPolynomial_389 rfl ?_
    refine s_iload_n dX4_findPolynomial_390 rfl ?_
    refine s_callV (As := [.int (nI t), .int (nI ja)]) (rest := []) (n := 2) (kd := 12) (ix := 0) (fun l hl => c_X4_multiply G l hl ad M39 c0 t0 hd on tw dp cl39 gr r0 kd fl co sm wk37 sp b38 mu ⟨hm39.1, hm39.2.1, hm39.2.2.1, hm39.2.2.2.1, hm39.2.2.2.2.1, hm39.2.2.2.2.2.1, hm39.2.2.2.2.2.2.1, hm39.2.2.2.2.2.2.2.1, hm39.2.2.2.2.2.2.2.2.1, hm39.2.2.2.2.2.2.2.2.2.1, hm39.2.2.2.2.2.2.2.2.2.2.1, hm39.2.2.2.2.2.2.2.2.2.2.2.1, hm39.2.2.2.2.2.2.2.2.2.2.2.2.1, hm39.2.2.2.2.2.2.2.2.2.2.2.2.2⟩ t htt (mul A A) hgm hcm hdf.2.1 ja hja A hgA hc2 hab) gX4_findPolynomial_X4_multiply rfl (by decide +kernel) hm39.1 rfl rfl ⟨(Nat.le_of_ble_eq_true rfl), (Nat.le_of_ble_eq_true rfl)⟩ ⟨(Nat.le_of_ble_eq_true rfl), (Nat.le_of_ble_eq_true rfl)⟩ (Nat.le_of_ble_eq_true rfl) dX4_findPolynomial_391 rfl (fun r40 ad40 M40 h40 => ?_)
    obtain ⟨rfl, rfl, wk40, b40, hm40, hs40, hb40, hd40⟩ := h40
    have hg5 : g ↔ ga ∨ gb ∨ ¬ (dOK (mul A A) A ∧ fitsP (mul (mul A A) A)) := hr.g.trans ⟨fun q => q.elim Or.inl (fun q => q.elim (fun q => Or.inr (Or.inl q)) (fun q => Or.inr (Or.inr (fun z => q ⟨hdf.1, hdf.2, z.1, z.2⟩)))), fun q => q.elim Or.inl (fun q => q.elim (fun q => Or.inr (Or.inl q)) (fun q => Or.inr (Or.inr (fun z => q ⟨z.2.2.1, z.2.2.2⟩))))⟩
    have hb5 : b38 = true ↔ ga ∨ gb := ⟨fun z => (by rw [e2] at z; cases z), fun z => absurd (z.elim Or.inl (fun z => Or.inr (Or.inl z))) (fun z => hn2 z)⟩
    rcases hd40 with ⟨e9, hw9⟩ | ⟨e9, hw9, hz9⟩
    · exact fp_tail X G ad M0 M40 c0 t0 hd on tw dp cl39 gr r0 kd fl co sm wk40 sp b40 mu hm40 (hs39.trans hs40) cl gr t htt (fun _ => 0) gz_0 hw9 hv39.2 (fun _ _ => rfl) g P (fp_m0 e9 (fp_m1 hb5 hb40 hg5 e9)) hr.z (fun q => absurd (fp_m1 hb5 hb40 hg5 e9) q) _ _
    · exact fp_tail X G ad M0 M40 c0 t0 hd on tw dp cl39 gr r0 kd fl co sm wk40 sp b40 mu hm40 (hs39.trans hs40) cl gr t htt (mul (mul A A) A) hz9 hw9 hv39.2 (fun _ _ => rfl) g P (fp_m2 hb5 hb40 hg5) hr.z hr.f _ _
set_option maxHeartbeats 4000000 in
theorem fp_79 (X : sMach) (G : sG) (ad : sAd) (M0 M : sM) (c0 : Int32) (t0 : Nat) (hd : Nat → Int32) (on : Nat → Int32) (tw : Nat → Int32) (dp : Nat → Int32) (cl : Nat → Int32) (gr : Nat → Int32) (r0 : Nat) (kd : Nat → Int32) (fl : Nat → Int32) (co : Nat → Int32) (sm : Nat → Int32) (wk : Nat → Int64) (sp : Nat → Int64) (b0 : Bool) (mu : Nat → Int32) (hm : hMd G ad M (c0, t0, hd, on, tw, dp, cl, gr, r0, kd, fl, co, sm, wk, sp, b0, mu)) (hs : sSame pMd M0 M) (t : Nat) (htt : t < 120) (ja : Nat) (hja : ja < 120) (A : Nat → Int) (hca : CRk cl ja A) (hab : ∀ y, -1000000 ≤ A y ∧ A y ≤ 1000000) (hgA : gz A) (jb : Nat) (hjb : jb < 120) (B : Nat → Int) (hcb : CRk cl jb B) (hbb : ∀ y, -1000000 ≤ B y ∧ B y ≤ 1000000) (hgB : gz B) (hta : ja ≠ t) (ga gb g : Prop) (P : Nat → Int) (v : Nat) (hv6 : v < 6) (hh : hd t = nI v) (hb : b0 = true ↔ ga ∨ gb) (hr : nRel ga gb v A B g P) (a3 : Int32) (h3 : v < 3 → a3 = nI jb) : sW X G mX4_findPolynomial (sQ X G mX4_findPolynomial (fun r ad' M' => ad = ad' ∧ r = none ∧ ∃ cl' gr' wk' b', hMd G ad M' (c0, t0, hd, on, tw, dp, cl', gr', r0, kd, fl, co, sm, wk', sp, b', mu) ∧ sSame pMd M0 M' ∧ (∀ j k, j ≠ t → k < 220 → cl' (220 * j + k) = cl (220 * j + k)) ∧ (∀ j, j ≠ t → gr' j = gr j) ∧ (gr' t ≠ 0 ↔ g) ∧ CRk cl' t P) (fun _ _ _ => False)) ad M 0 0 [some (.ref (ad 12 0)), some (.int (nI t)), some (.int (nI ja)), some (.int a3), none] 79 [] := by
  rcases (show v = 0 ∨ v = 1 ∨ v = 2 ∨ v = 3 ∨ v = 4 ∨ v = 5 by omega) with rfl | rfl | rfl | rfl | rfl | rfl
  · rw [h3 (by omega)]; exact fp_79_0 X G ad M0 M c0 t0 hd on tw dp cl gr r0 kd fl co sm wk sp b0 mu hm hs t htt ja hja A hca hab hgA jb hjb B hcb hbb hgB hta ga gb g P hh hb hr
  · rw [h3 (by omega)]; exact fp_79_1 X G ad M0 M c0 t0 hd on tw dp cl gr r0 kd fl co sm wk sp b0 mu hm hs t htt ja hja A hca hab hgA jb hjb B hcb hbb hgB hta ga gb g P hh hb hr
  · rw [h3 (by omega)]; exact fp_79_2 X G ad M0 M c0 t0 hd on tw dp cl gr r0 kd fl co sm wk sp b0 mu hm hs t htt ja hja A hca hab hgA jb hjb B hcb hbb hgB hta ga gb g P hh hb hr
  · exact fp_79_3 X G ad M0 M c0 t0 hd on tw dp cl gr r0 kd fl co sm wk sp b0 mu hm hs t htt ja hja A hca hab hgA jb hjb B hcb hbb hgB hta ga gb g P hh hb hr a3
  · exact fp_79_4 X G ad M0 M c0 t0 hd on tw dp cl gr r0 kd fl co sm wk sp b0 mu hm hs t htt ja hja A hca hab hgA jb hjb B hcb hbb hgB hta ga gb g P hh hb hr a3
  · exact fp_79_5 X G ad M0 M c0 t0 hd on tw dp cl gr r0 kd fl co sm wk sp b0 mu hm hs t htt ja hja A hca hab hgA jb hjb B hcb hbb hgB hta ga gb g P hh hb hr a3
set_option maxHeartbeats 4000000 in
set_option maxRecDepth 100000 in
theorem c_X4_fpNode (G : sG) (l : Launch) (hl : l.stackTraces = false) (ad : sAd) (M : sM) (c0 : Int32) (t0 : Nat) (hd : Nat → Int32) (on : Nat → Int32) (tw : Nat → Int32) (dp : Nat → Int32) (cl : Nat → Int32) (gr : Nat → Int32) (r0 : Nat) (kd : Nat → Int32) (fl : Nat → Int32) (co : Nat → Int32) (sm : Nat → Int32) (wk : Nat → Int64) (sp : Nat → Int64) (b0 : Bool) (mu : Nat → Int32) (hm : hMd G ad M (c0, t0, hd, on, tw, dp, cl, gr, r0, kd, fl, co, sm, wk, sp, b0, mu)) (t : Nat) (htt : t < 120) (ja : Nat) (hja : ja < 120) (A : Nat → Int) (hca : CRk cl ja A) (hab : ∀ y, -1000000 ≤ A y ∧ A y ≤ 1000000) (hgA : gz A) (jb : Nat) (hjb : jb < 120) (B : Nat → Int) (hcb : CRk cl jb B) (hbb : ∀ y, -1000000 ≤ B y ∧ B y ≤ 1000000) (hgB : gz B) (hta : ja ≠ t) (g : Prop) (P : Nat → Int) (ga gb : Prop) (hga : gr ja ≠ 0 ↔ ga) (hgb : gr jb ≠ 0 ↔ gb) (v : Nat) (hv6 : v < 6) (hh : hd t = nI v) (hon : on t = nI ja) (htw : (v < 3 ∧ tw t = nI jb) ∨ (3 ≤ v ∧ tw t = -1 ∧ jb = ja)) (hr : nRel ga gb v A B g P) : sMet G l yX4_findPolynomial mX4_findPolynomial [.ref (ad 12 0), .int (nI t)] ad M (fun r ad' M' => ad = ad' ∧ r = none ∧ ∃ cl' gr' wk' b', hMd G ad M' (c0, t0, hd, on, tw, dp, cl', gr', r0, kd, fl, co, sm, wk', sp, b', mu) ∧ sSame pMd M M' ∧ (∀ j k, j ≠ t → k < 220 → cl' (220 * j + k) = cl (220 * j + k)) ∧ (∀ j, j ≠ t → gr' j = gr j) ∧ (gr' t ≠ 0 ↔ g) ∧ CRk cl' t P) (fun _ _ _ => False) := by
  rcases htw with ⟨hv3, htw1⟩ | ⟨hv3, htw1, hjj⟩
  · refine sMet.of hl (by decide +kernel) rfl rfl rfl rfl (Nat.le_of_ble_eq_true rfl) (fun X => ?_)
    refine s_lv (lv' := [some (.ref (ad 12 0)), some (.int (nI t)), none, none, none]) rfl ?_
    refine s_aload_n dX4_findPolynomial_0 rfl ?_
    refine s_get (kd := 12) (ix := 0) (ci := 5) (fs := [.int c0, .int (nI t0), .ref (ad 13 0), .ref (ad 14 0), .ref (ad 15 0), .ref (ad 16 0), .ref (ad 17 0), .ref (ad 18 0), .int (nI r0), .ref (ad 19 0), .ref (ad 20 0), .ref (ad 21 0), .ref (ad 22 0), .ref (ad 23 0), .ref (ad 24 0), .int (jB b0), .ref (ad 25 0)])  hm.1 rfl in_X4_findPolynomial_X4 3 (by decide) (by decide +kernel) rfl rfl dX4_findPolynomial_1 ?_
    refine s_iload_n dX4_findPolynomial_4 rfl ?_
    refine s_iald (kd := 14) (ix := 0) (n := 120) (f := on) (j := t) hm.2.2.1 (rfl) (by omega) (by decide) dX4_findPolynomial_5 ?_
    refine s_eqi (y := nI ja) (hon) ?_
    refine s_istore_n dX4_findPolynomial_6 rfl rfl ?_
    refine s_lv (lv' := [some (.ref (ad 12 0)), some (.int (nI t)), some (.int (nI ja)), none, none]) rfl ?_
    refine s_aload_n dX4_findPolynomial_7 rfl ?_
    refine s_get (kd := 12) (ix := 0) (ci := 5) (fs := [.int c0, .int (nI t0), .ref (ad 13 0), .ref (ad 14 0), .ref (ad 15 0), .ref (ad 16 0), .ref (ad 17 0), .ref (ad 18 0), .int (nI r0), .ref (ad 19 0), .ref (ad 20 0), .ref (ad 21 0), .ref (ad 22 0), .ref (ad 23 0), .ref (ad 24 0), .int (jB b0), .ref (ad 25 0)])  hm.1 rfl in_X4_findPolynomial_X4 4 (by decide) (by decide +kernel) rfl rfl dX4_findPolynomial_8 ?_
    refine s_iload_n dX4_findPolynomial_11 rfl ?_
    refine s_iald (kd := 15) (ix := 0) (n := 120) (f := tw) (j := t) hm.2.2.2.1 (rfl) (by omega) (by decide) dX4_findPolynomial_12 ?_
    refine s_eqi (y := nI jb) (htw1) ?_
    refine s_istore_n dX4_findPolynomial_13 rfl rfl ?_
    refine s_lv (lv' := [some (.ref (ad 12 0)), some (.int (nI t)), some (.int (nI ja)), some (.int (nI jb)), none]) rfl ?_
    refine s_iconst (v := 0) dX4_findPolynomial_14 (by decide) ?_
    refine s_istore dX4_findPolynomial_15 rfl rfl ?_
    refine s_lv (lv' := [some (.ref (ad 12 0)), some (.int (nI t)), some (.int (nI ja)), some (.int (nI jb)), some (.int 0)]) rfl ?_
    refine l_fp0 X G ad M c0 t0 hd on tw dp cl gr r0 kd fl co sm sp b0 mu t (nI ja) (nI jb) _ (fun M41 wk41  hm41 hs41 hv41 => ?_) (220) 0 M wk  (by omega) ⟨hm.1, hm.2.1, hm.2.2.1, hm.2.2.2.1, hm.2.2.2.2.1, hm.2.2.2.2.2.1, hm.2.2.2.2.2.2.1, hm.2.2.2.2.2.2.2.1, hm.2.2.2.2.2.2.2.2.1, hm.2.2.2.2.2.2.2.2.2.1, hm.2.2.2.2.2.2.2.2.2.2.1, hm.2.2.2.2.2.2.2.2.2.2.2.1, hm.2.2.2.2.2.2.2.2.2.2.2.2.1, hm.2.2.2.2.2.2.2.2.2.2.2.2.2⟩ sSame.rfl (fun k hk => absurd hk (Nat.not_lt_zero k))
    refine s_aload_n dX4_findPolynomial_39 rfl ?_
    refine s_aload_n dX4_findPolynomial_40 rfl ?_
    refine s_get (kd := 12) (ix := 0) (ci := 5) (fs := [.int c0, .int (nI t0), .ref (ad 13 0), .ref (ad 14 0), .ref (ad 15 0), .ref (ad 16 0), .ref (ad 17 0), .ref (ad 18 0), .int (nI r0), .ref (ad 19 0), .ref (ad 20 0), .ref (ad 21 0), .ref (ad 22 0), .ref (ad 23 0), .ref (ad 24 0), .int (jB b0), .ref (ad 25 0)])  hm41.1 rfl in_X4_findPolynomial_X4 2 (by decide) (by decide +kernel) rfl rfl dX4_findPolynomial_41 ?_
    refine s_iload_n dX4_findPolynomial_44 rfl ?_
    refine s_iald (kd := 13) (ix := 0) (n := 120) (f := hd) (j := t) hm41.2.1 (rfl) (by omega) (by decide) dX4_findPolynomial_45 ?_
    refine s_eqi (y := nI v) (hh) ?_
    refine s_if_lt 75 dX4_findPolynomial_46 (by decide) (fun c46 => absurd c46 (nI_pos (by omega))) (fun c46 => ?_)
    refine s_aload_n dX4_findPolynomial_49 rfl ?_
    refine s_get (kd := 12) (ix := 0) (ci := 5) (fs := [.int c0, .int (nI t0), .ref (ad 13 0), .ref (ad 14 0), .ref (ad 15 0), .ref (ad 16 0), .ref (ad 17 0), .ref (ad 18 0), .int (nI r0), .ref (ad 19 0), .ref (ad 20 0), .ref (ad 21 0), .ref (ad 22 0), .ref (ad 23 0), .ref (ad 24 0), .int (jB b0), .ref (ad 25 0)])  hm41.1 rfl in_X4_findPolynomial_X4 7 (by decide) (by decide +kernel) rfl rfl dX4_findPolynomial_50 ?_
    refine s_iload_n dX4_findPolynomial_53 rfl ?_
    refine s_zald (kd := 18) (ix := 0) (n := 120) (f := gr) (j := ja) hm41.2.2.2.2.2.2.1 (rfl) (by omega) (by decide) dX4_findPolynomial_54 ?_
    refine s_if_ne 71 dX4_findPolynomial_55 (by decide) (fun c55 => ?_) (fun c55 => ?_)
    · refine s_iconst (v := 1) dX4_findPolynomial_71 (by decide) ?_
      refine s_goto 76 dX4_findPolynomial_72 (by decide) ?_
      refine s_eqi (y := jB true) rfl ?_
      refine s_put (kd := 12) (ix := 0) (ci := 5) (v := .int (jB true)) (ty := tyX4 15) (fs := [.int c0, .int (nI t0), .ref (ad 13 0), .ref (ad 14 0), .ref (ad 15 0), .ref (ad 16 0), .ref (ad 17 0), .ref (ad 18 0), .int (nI r0), .ref (ad 19 0), .ref (ad 20 0), .ref (ad 21 0), .ref (ad 22 0), .ref (ad 23 0), .ref (ad 24 0), .int (jB b0), .ref (ad 25 0)])  tyX4 tyX4_ok nmX4 hm41.1 rfl in_X4_findPolynomial_X4 15 (by decide) (by decide +kernel) rfl rfl (tyX4_ok 15 (by decide)) (rfl) (rfl) (Nat.le_of_ble_eq_true rfl) dX4_findPolynomial_76 ?_
      refine s_M (M' := (sset M41 12 0 (.inr (5, [.int c0, .int (nI t0), .ref (ad 13 0), .ref (ad 14 0), .ref (ad 15 0), .ref (ad 16 0), .ref (ad 17 0), .ref (ad 18 0), .int (nI r0), .ref (ad 19 0), .ref (ad 20 0), .ref (ad 21 0), .ref (ad 22 0), .ref (ad 23 0), .ref (ad 24 0), .int (jB true), .ref (ad 25 0)])))) rfl ?_
      exact fp_79 X G ad M (sset M41 12 0 (.inr (5, [.int c0, .int (nI t0), .ref (ad 13 0), .ref (ad 14 0), .ref (ad 15 0), .ref (ad 16 0), .ref (ad 17 0), .ref (ad 18 0), .int (nI r0), .ref (ad 19 0), .ref (ad 20 0), .ref (ad 21 0), .ref (ad 22 0), .ref (ad 23 0), .ref (ad 24 0), .int (jB true), .ref (ad 25 0)]))) c0 t0 hd on tw dp cl gr r0 kd fl co sm wk41 sp true mu ⟨(sset_self _ _ _ _), ((sset_k _ _ (by decide)).trans (hm41.2.1)), ((sset_k _ _ (by decide)).trans (hm41.2.2.1)), ((sset_k _ _ (by decide)).trans (hm41.2.2.2.1)), ((sset_k _ _ (by decide)).trans (hm41.2.2.2.2.1)), ((sset_k _ _ (by decide)).trans (hm41.2.2.2.2.2.1)), ((sset_k _ _ (by decide)).trans (hm41.2.2.2.2.2.2.1)), ((sset_k _ _ (by decide)).trans (hm41.2.2.2.2.2.2.2.1)), ((sset_k _ _ (by decide)).trans (hm41.2.2.2.2.2.2.2.2.1)), ((sset_k _ _ (by decide)).trans (hm41.2.2.2.2.2.2.2.2.2.1)), ((sset_k _ _ (by decide)).trans (hm41.2.2.2.2.2.2.2.2.2.2.1)), ((sset_k _ _ (by decide)).trans (hm41.2.2.2.2.2.2.2.2.2.2.2.1)), ((sset_k _ _ (by decide)).trans (hm41.2.2.2.2.2.2.2.2.2.2.2.2.1)), ((sset_k _ _ (by decide)).trans (hm41.2.2.2.2.2.2.2.2.2.2.2.2.2))⟩ (hs41 |>.set (P := pMd) (by simp [pMd]) _) t htt ja hja A hca hab hgA jb hjb B hcb hbb hgB hta ga gb g P v hv6 hh ⟨fun _ => Or.inl (hga.mp c55), fun _ => rfl⟩ hr (nI jb) (fun _ => rfl)
    · refine s_iload_n dX4_findPolynomial_58 rfl ?_
      refine s_if_lt 75 dX4_findPolynomial_59 (by decide) (fun c59 => absurd c59 (nI_pos (by omega))) (fun c59 => ?_)
      refine s_aload_n dX4_findPolynomial_62 rfl ?_
      refine s_get (kd := 12) (ix := 0) (ci := 5) (fs := [.int c0, .int (nI t0), .ref (ad 13 0), .ref (ad 14 0), .ref (ad 15 0), .ref (ad 16 0), .ref (ad 17 0), .ref (ad 18 0), .int (nI r0), .ref (ad 19 0), .ref (ad 20 0), .ref (ad 21 0), .ref (ad 22 0), .ref (ad 23 0), .ref (ad 24 0), .int (jB b0), .ref (ad 25 0)])  hm41.1 rfl in_X4_findPolynomial_X4 7 (by decide) (by decide +kernel) rfl rfl dX4_findPolynomial_63 ?_
      refine s_iload_n dX4_findPolynomial_66 rfl ?_
      refine s_zald (kd := 18) (ix := 0) (n := 120) (f := gr) (j := jb) hm41.2.2.2.2.2.2.1 (rfl) (by omega) (by decide) dX4_findPolynomial_67 ?_
      refine s_if_eq 75 dX4_findPolynomial_68 (by decide) (fun c68 => ?_) (fun c68 => ?_)
      · refine s_iconst (v := 0) dX4_findPolynomial_75 (by decide) ?_
        refine s_eqi (y := jB false) rfl ?_
        refine s_put (kd := 12) (ix := 0) (ci := 5) (v := .int (jB false)) (ty := tyX4 15) (fs := [.int c0, .int (nI t0), .ref (ad 13 0), .ref (ad 14 0), .ref (ad 15 0), .ref (ad 16 0), .ref (ad 17 0), .ref (ad 18 0), .int (nI r0), .ref (ad 19 0), .ref (ad 20 0), .ref (ad 21 0), .ref (ad 22 0), .ref (ad 23 0), .ref (ad 24 0), .int (jB b0), .ref (ad 25 0)])  tyX4 tyX4_ok nmX4 hm41.1 rfl in_X4_findPolynomial_X4 15 (by decide) (by decide +kernel) rfl rfl (tyX4_ok 15 (by decide)) (rfl) (rfl) (Nat.le_of_ble_eq_true rfl) dX4_findPolynomial_76 ?_
        refine s_M (M' := (sset M41 12 0 (.inr (5, [.int c0, .int (nI t0), .ref (ad 13 0), .ref (ad 14 0), .ref (ad 15 0), .ref (ad 16 0), .ref (ad 17 0), .ref (ad 18 0), .int (nI r0), .ref (ad 19 0), .ref (ad 20 0), .ref (ad 21 0), .ref (ad 22 0), .ref (ad 23 0), .ref (ad 24 0), .int (jB false), .ref (ad 25 0)])))) rfl ?_
        exact fp_79 X G ad M (sset M41 12 0 (.inr (5, [.int c0, .int (nI t0), .ref (ad 13 0), .ref (ad 14 0), .ref (ad 15 0), .ref (ad 16 0), .ref (ad 17 0), .ref (ad 18 0), .int (nI r0), .ref (ad 19 0), .ref (ad 20 0), .ref (ad 21 0), .ref (ad 22 0), .ref (ad 23 0), .ref (ad 24 0), .int (jB false), .ref (ad 25 0)]))) c0 t0 hd on tw dp cl gr r0 kd fl co sm wk41 sp false mu ⟨(sset_self _ _ _ _), ((sset_k _ _ (by decide)).trans (hm41.2.1)), ((sset_k _ _ (by decide)).trans (hm41.2.2.1)), ((sset_k _ _ (by decide)).trans (hm41.2.2.2.1)), ((sset_k _ _ (by decide)).trans (hm41.2.2.2.2.1)), ((sset_k _ _ (by decide)).trans (hm41.2.2.2.2.2.1)), ((sset_k _ _ (by decide)).trans (hm41.2.2.2.2.2.2.1)), ((sset_k _ _ (by decide)).trans (hm41.2.2.2.2.2.2.2.1)), ((sset_k _ _ (by decide)).trans (hm41.2.2.2.2.2.2.2.2.1)), ((sset_k _ _ (by decide)).trans (hm41.2.2.2.2.2.2.2.2.2.1)), ((sset_k _ _ (by decide)).trans (hm41.2.2.2.2.2.2.2.2.2.2.1)), ((sset_k _ _ (by decide)).trans (hm41.2.2.2.2.2.2.2.2.2.2.2.1)), ((sset_k _ _ (by decide)).trans (hm41.2.2.2.2.2.2.2.2.2.2.2.2.1)), ((sset_k _ _ (by decide)).trans (hm41.2.2.2.2.2.2.2.2.2.2.2.2.2))⟩ (hs41 |>.set (P := pMd) (by simp [pMd]) _) t htt ja hja A hca hab hgA jb hjb B hcb hbb hgB hta ga gb g P v hv6 hh ⟨fun q => (nomatch q), fun q => q.elim (fun q => absurd (c55) (hga.mpr q)) (fun q => absurd c68 (hgb.mpr q))⟩ hr (nI jb) (fun _ => rfl)
      · refine s_iconst (v := 1) dX4_findPolynomial_71 (by decide) ?_
        refine s_goto 76 dX4_findPolynomial_72 (by decide) ?_
        refine s_eqi (y := jB true) rfl ?_
        refine s_put (kd := 12) (ix := 0) (ci := 5) (v := .int (jB true)) (ty := tyX4 15) (fs := [.int c0, .int (nI t0), .ref (ad 13 0), .ref (ad 14 0), .ref (ad 15 0), .ref (ad 16 0), .ref (ad 17 0), .ref (ad 18 0), .int (nI r0), .ref (ad 19 0), .ref (ad 20 0), .ref (ad 21 0), .ref (ad 22 0), .ref (ad 23 0), .ref (ad 24 0), .int (jB b0), .ref (ad 25 0)])  tyX4 tyX4_ok nmX4 hm41.1 rfl in_X4_findPolynomial_X4 15 (by decide) (by decide +kernel) rfl rfl (tyX4_ok 15 (by decide)) (rfl) (rfl) (Nat.le_of_ble_eq_true rfl) dX4_findPolynomial_76 ?_
        refine s_M (M' := (sset M41 12 0 (.inr (5, [.int c0, .int (nI t0), .ref (ad 13 0), .ref (ad 14 0), .ref (ad 15 0), .ref (ad 16 0), .ref (ad 17 0), .ref (ad 18 0), .int (nI r0), .ref (ad 19 0), .ref (ad 20 0), .ref (ad 21 0), .ref (ad 22 0), .ref (ad 23 0), .ref (ad 24 0), .int (jB true), .ref (ad 25 0)])))) rfl ?_
        exact fp_79 X G ad M (sset M41 12 0 (.inr (5, [.int c0, .int (nI t0), .ref (ad 13 0), .ref (ad 14 0), .ref (ad 15 0), .ref (ad 16 0), .ref (ad 17 0), .ref (ad 18 0), .int (nI r0), .ref (ad 19 0), .ref (ad 20 0), .ref (ad 21 0), .ref (ad 22 0), .ref (ad 23 0), .ref (ad 24 0), .int (jB true), .ref (ad 25 0)]))) c0 t0 hd on tw dp cl gr r0 kd fl co sm wk41 sp true mu ⟨(sset_self _ _ _ _), ((sset_k _ _ (by decide)).trans (hm41.2.1)), ((sset_k _ _ (by decide)).trans (hm41.2.2.1)), ((sset_k _ _ (by decide)).trans (hm41.2.2.2.1)), ((sset_k _ _ (by decide)).trans (hm41.2.2.2.2.1)), ((sset_k _ _ (by decide)).trans (hm41.2.2.2.2.2.1)), ((sset_k _ _ (by decide)).trans (hm41.2.2.2.2.2.2.1)), ((sset_k _ _ (by decide)).trans (hm41.2.2.2.2.2.2.2.1)), ((sset_k _ _ (by decide)).trans (hm41.2.2.2.2.2.2.2.2.1)), ((sset_k _ _ (by decide)).trans (hm41.2.2.2.2.2.2.2.2.2.1)), ((sset_k _ _ (by decide)).trans (hm41.2.2.2.2.2.2.2.2.2.2.1)), ((sset_k _ _ (by decide)).trans (hm41.2.2.2.2.2.2.2.2.2.2.2.1)), ((sset_k _ _ (by decide)).trans (hm41.2.2.2.2.2.2.2.2.2.2.2.2.1)), ((sset_k _ _ (by decide)).trans (hm41.2.2.2.2.2.2.2.2.2.2.2.2.2))⟩ (hs41 |>.set (P := pMd) (by simp [pMd]) _) t htt ja hja A hca hab hgA jb hjb B hcb hbb hgB hta ga gb g P v hv6 hh ⟨fun _ => Or.inr (hgb.mp c68), fun _ => rfl⟩ hr (nI jb) (fun _ => rfl)
  · refine sMet.of hl (by decide +kernel) rfl rfl rfl rfl (Nat.le_of_ble_eq_true rfl) (fun X => ?_)
    refine s_lv (lv' := [some (.ref (ad 12 0)), some (.int (nI t)), none, none, none]) rfl ?_
    refine s_aload_n dX4_findPolynomial_0 rfl ?_
    refine s_get (kd := 12) (ix := 0) (ci := 5) (fs := [.int c0, .int (nI t0), .ref (ad 13 0), .ref (ad 14 0), .ref (ad 15 0), .ref (ad 16 0), .ref (ad 17 0), .ref (ad 18 0), .int (nI r0), .ref (ad 19 0), .ref (ad 20 0), .ref (ad 21 0), .ref (ad 22 0), .ref (ad 23 0), .ref (ad 24 0), .int (jB b0), .ref (ad 25 0)])  hm.1 rfl in_X4_findPolynomial_X4 3 (by decide) (by decide +kernel) rfl rfl dX4_findPolynomial_1 ?_
    refine s_iload_n dX4_findPolynomial_4 rfl ?_
    refine s_iald (kd := 14) (ix := 0) (n := 120) (f := on) (j := t) hm.2.2.1 (rfl) (by omega) (by decide) dX4_findPolynomial_5 ?_
    refine s_eqi (y := nI ja) (hon) ?_
    refine s_istore_n dX4_findPolynomial_6 rfl rfl ?_
    refine s_lv (lv' := [some (.ref (ad 12 0)), some (.int (nI t)), some (.int (nI ja)), none, none]) rfl ?_
    refine s_aload_n dX4_findPolynomial_7 rfl ?_
    refine s_get (kd := 12) (ix := 0) (ci := 5) (fs := [.int c0, .int (nI t0), .ref (ad 13 0), .ref (ad 14 0), .ref (ad 15 0), .ref (ad 16 0), .ref (ad 17 0), .ref (ad 18 0), .int (nI r0), .ref (ad 19 0), .ref (ad 20 0), .ref (ad 21 0), .ref (ad 22 0), .ref (ad 23 0), .ref (ad 24 0), .int (jB b0), .ref (ad 25 0)])  hm.1 rfl in_X4_findPolynomial_X4 4 (by decide) (by decide +kernel) rfl rfl dX4_findPolynomial_8 ?_
    refine s_iload_n dX4_findPolynomial_11 rfl ?_
    refine s_iald (kd := 15) (ix := 0) (n := 120) (f := tw) (j := t) hm.2.2.2.1 (rfl) (by omega) (by decide) dX4_findPolynomial_12 ?_
    refine s_eqi (y := (-1)) (htw1) ?_
    refine s_istore_n dX4_findPolynomial_13 rfl rfl ?_
    refine s_lv (lv' := [some (.ref (ad 12 0)), some (.int (nI t)), some (.int (nI ja)), some (.int (-1)), none]) rfl ?_
    refine s_iconst (v := 0) dX4_findPolynomial_14 (by decide) ?_
    refine s_istore dX4_findPolynomial_15 rfl rfl ?_
    refine s_lv (lv' := [some (.ref (ad 12 0)), some (.int (nI t)), some (.int (nI ja)), some (.int (-1)), some (.int 0)]) rfl ?_
    refine l_fp0 X G ad M c0 t0 hd on tw dp cl gr r0 kd fl co sm sp b0 mu t (nI ja) (-1) _ (fun M42 wk42  hm42 hs42 hv42 => ?_) (220) 0 M wk  (by omega) ⟨hm.1, hm.2.1, hm.2.2.1, hm.2.2.2.1, hm.2.2.2.2.1, hm.2.2.2.2.2.1, hm.2.2.2.2.2.2.1, hm.2.2.2.2.2.2.2.1, hm.2.2.2.2.2.2.2.2.1, hm.2.2.2.2.2.2.2.2.2.1, hm.2.2.2.2.2.2.2.2.2.2.1, hm.2.2.2.2.2.2.2.2.2.2.2.1, hm.2.2.2.2.2.2.2.2.2.2.2.2.1, hm.2.2.2.2.2.2.2.2.2.2.2.2.2⟩ sSame.rfl (fun k hk => absurd hk (Nat.not_lt_zero k))
    refine s_aload_n dX4_findPolynomial_39 rfl ?_
    refine s_aload_n dX4_findPolynomial_40 rfl ?_
    refine s_get (kd := 12) (ix := 0) (ci := 5) (fs := [.int c0, .int (nI t0), .ref (ad 13 0), .ref (ad 14 0), .ref (ad 15 0), .ref (ad 16 0), .ref (ad 17 0), .ref (ad 18 0), .int (nI r0), .ref (ad 19 0), .ref (ad 20 0), .ref (ad 21 0), .ref (ad 22 0), .ref (ad 23 0), .ref (ad 24 0), .int (jB b0), .ref (ad 25 0)])  hm42.1 rfl in_X4_findPolynomial_X4 2 (by decide) (by decide +kernel) rfl rfl dX4_findPolynomial_41 ?_
    refine s_iload_n dX4_findPolynomial_44 rfl ?_
    refine s_iald (kd := 13) (ix := 0) (n := 120) (f := hd) (j := t) hm42.2.1 (rfl) (by omega) (by decide) dX4_findPolynomial_45 ?_
    refine s_eqi (y := nI v) (hh) ?_
    refine s_if_lt 75 dX4_findPolynomial_46 (by decide) (fun c46 => absurd c46 (nI_pos (by omega))) (fun c46 => ?_)
    refine s_aload_n dX4_findPolynomial_49 rfl ?_
    refine s_get (kd := 12) (ix := 0) (ci := 5) (fs := [.int c0, .int (nI t0), .ref (ad 13 0), .ref (ad 14 0), .ref (ad 15 0), .ref (ad 16 0), .ref (ad 17 0), .ref (ad 18 0), .int (nI r0), .ref (ad 19 0), .ref (ad 20 0), .ref (ad 21 0), .ref (ad 22 0), .ref (ad 23 0), .ref (ad 24 0), .int (jB b0), .ref (ad 25 0)])  hm42.1 rfl in_X4_findPolynomial_X4 7 (by decide) (by decide +kernel) rfl rfl dX4_findPolynomial_50 ?_
    refine s_iload_n dX4_findPolynomial_53 rfl ?_
    refine s_zald (kd := 18) (ix := 0) (n := 120) (f := gr) (j := ja) hm42.2.2.2.2.2.2.1 (rfl) (by omega) (by decide) dX4_findPolynomial_54 ?_
    refine s_if_ne 71 dX4_findPolynomial_55 (by decide) (fun c55 => ?_) (fun c55 => ?_)
    · refine s_iconst (v := 1) dX4_findPolynomial_71 (by decide) ?_
      refine s_goto 76 dX4_findPolynomial_72 (by decide) ?_
      refine s_eqi (y := jB true) rfl ?_
      refine s_put (kd := 12) (ix := 0) (ci := 5) (v := .int (jB true)) (ty := tyX4 15) (fs := [.int c0, .int (nI t0), .ref (ad 13 0), .ref (ad 14 0), .ref (ad 15 0), .ref (ad 16 0), .ref (ad 17 0), .ref (ad 18 0), .int (nI r0), .ref (ad 19 0), .ref (ad 20 0), .ref (ad 21 0), .ref (ad 22 0), .ref (ad 23 0), .ref (ad 24 0), .int (jB b0), .ref (ad 25 0)])  tyX4 tyX4_ok nmX4 hm42.1 rfl in_X4_findPolynomial_X4 15 (by decide) (by decide +kernel) rfl rfl (tyX4_ok 15 (by decide)) (rfl) (rfl) (Nat.le_of_ble_eq_true rfl) dX4_findPolynomial_76 ?_
      refine s_M (M' := (sset M42 12 0 (.inr (5, [.int c0, .int (nI t0), .ref (ad 13 0), .ref (ad 14 0), .ref (ad 15 0), .ref (ad 16 0), .ref (ad 17 0), .ref (ad 18 0), .int (nI r0), .ref (ad 19 0), .ref (ad 20 0), .ref (ad 21 0), .ref (ad 22 0), .ref (ad 23 0), .ref (ad 24 0), .int (jB true), .ref (ad 25 0)])))) rfl ?_
      exact fp_79 X G ad M (sset M42 12 0 (.inr (5, [.int c0, .int (nI t0), .ref (ad 13 0), .ref (ad 14 0), .ref (ad 15 0), .ref (ad 16 0), .ref (ad 17 0), .ref (ad 18 0), .int (nI r0), .ref (ad 19 0), .ref (ad 20 0), .ref (ad 21 0), .ref (ad 22 0), .ref (ad 23 0), .ref (ad 24 0), .int (jB true), .ref (ad 25 0)]))) c0 t0 hd on tw dp cl gr r0 kd fl co sm wk42 sp true mu ⟨(sset_self _ _ _ _), ((sset_k _ _ (by decide)).trans (hm42.2.1)), ((sset_k _ _ (by decide)).trans (hm42.2.2.1)), ((sset_k _ _ (by decide)).trans (hm42.2.2.2.1)), ((sset_k _ _ (by decide)).trans (hm42.2.2.2.2.1)), ((sset_k _ _ (by decide)).trans (hm42.2.2.2.2.2.1)), ((sset_k _ _ (by decide)).trans (hm42.2.2.2.2.2.2.1)), ((sset_k _ _ (by decide)).trans (hm42.2.2.2.2.2.2.2.1)), ((sset_k _ _ (by decide)).trans (hm42.2.2.2.2.2.2.2.2.1)), ((sset_k _ _ (by decide)).trans (hm42.2.2.2.2.2.2.2.2.2.1)), ((sset_k _ _ (by decide)).trans (hm42.2.2.2.2.2.2.2.2.2.2.1)), ((sset_k _ _ (by decide)).trans (hm42.2.2.2.2.2.2.2.2.2.2.2.1)), ((sset_k _ _ (by decide)).trans (hm42.2.2.2.2.2.2.2.2.2.2.2.2.1)), ((sset_k _ _ (by decide)).trans (hm42.2.2.2.2.2.2.2.2.2.2.2.2.2))⟩ (hs42 |>.set (P := pMd) (by simp [pMd]) _) t htt ja hja A hca hab hgA jb hjb B hcb hbb hgB hta ga gb g P v hv6 hh ⟨fun _ => Or.inl (hga.mp c55), fun _ => rfl⟩ hr (-1) (fun q => absurd q (by omega))
    · refine s_iload_n dX4_findPolynomial_58 rfl ?_
      refine s_if_lt 75 dX4_findPolynomial_59 (by decide) (fun c59 => ?_) (fun c59 => absurd (by decide) c59)
      refine s_iconst (v := 0) dX4_findPolynomial_75 (by decide) ?_
      refine s_eqi (y := jB false) rfl ?_
      refine s_put (kd := 12) (ix := 0) (ci := 5) (v := .int (jB false)) (ty := tyX4 15) (fs := [.int c0, .int (nI t0), .ref (ad 13 0), .ref (ad 14 0), .ref (ad 15 0), .ref (ad 16 0), .ref (ad 17 0), .ref (ad 18 0), .int (nI r0), .ref (ad 19 0), .ref (ad 20 0), .ref (ad 21 0), .ref (ad 22 0), .ref (ad 23 0), .ref (ad 24 0), .int (jB b0), .ref (ad 25 0)])  tyX4 tyX4_ok nmX4 hm42.1 rfl in_X4_findPolynomial_X4 15 (by decide) (by decide +kernel) rfl rfl (tyX4_ok 15 (by decide)) (rfl) (rfl) (Nat.le_of_ble_eq_true rfl) dX4_findPolynomial_76 ?_
      refine s_M (M' := (sset M42 12 0 (.inr (5, [.int c0, .int (nI t0), .ref (ad 13 0), .ref (ad 14 0), .ref (ad 15 0), .ref (ad 16 0), .ref (ad 17 0), .ref (ad 18 0), .int (nI r0), .ref (ad 19 0), .ref (ad 20 0), .ref (ad 21 0), .ref (ad 22 0), .ref (ad 23 0), .ref (ad 24 0), .int (jB false), .ref (ad 25 0)])))) rfl ?_
      exact fp_79 X G ad M (sset M42 12 0 (.inr (5, [.int c0, .int (nI t0), .ref (ad 13 0), .ref (ad 14 0), .ref (ad 15 0), .ref (ad 16 0), .ref (ad 17 0), .ref (ad 18 0), .int (nI r0), .ref (ad 19 0), .ref (ad 20 0), .ref (ad 21 0), .ref (ad 22 0), .ref (ad 23 0), .ref (ad 24 0), .int (jB false), .ref (ad 25 0)]))) c0 t0 hd on tw dp cl gr r0 kd fl co sm wk42 sp false mu ⟨(sset_self _ _ _ _), ((sset_k _ _ (by decide)).trans (hm42.2.1)), ((sset_k _ _ (by decide)).trans (hm42.2.2.1)), ((sset_k _ _ (by decide)).trans (hm42.2.2.2.1)), ((sset_k _ _ (by decide)).trans (hm42.2.2.2.2.1)), ((sset_k _ _ (by decide)).trans (hm42.2.2.2.2.2.1)), ((sset_k _ _ (by decide)).trans (hm42.2.2.2.2.2.2.1)), ((sset_k _ _ (by decide)).trans (hm42.2.2.2.2.2.2.2.1)), ((sset_k _ _ (by decide)).trans (hm42.2.2.2.2.2.2.2.2.1)), ((sset_k _ _ (by decide)).trans (hm42.2.2.2.2.2.2.2.2.2.1)), ((sset_k _ _ (by decide)).trans (hm42.2.2.2.2.2.2.2.2.2.2.1)), ((sset_k _ _ (by decide)).trans (hm42.2.2.2.2.2.2.2.2.2.2.2.1)), ((sset_k _ _ (by decide)).trans (hm42.2.2.2.2.2.2.2.2.2.2.2.2.1)), ((sset_k _ _ (by decide)).trans (hm42.2.2.2.2.2.2.2.2.2.2.2.2.2))⟩ (hs42 |>.set (P := pMd) (by simp [pMd]) _) t htt ja hja A hca hab hgA jb hjb B hcb hbb hgB hta ga gb g P v hv6 hh ⟨fun q => (nomatch q), fun q => q.elim (fun q => absurd (c55) (hga.mpr q)) (fun q => absurd (hgb.mpr q) (by rw [hjj]; exact (fun z => z (c55))))⟩ hr (-1) (fun q => absurd q (by omega))
set_option maxHeartbeats 4000000 in
set_option maxRecDepth 100000 in
theorem c_X4_fpLeaf (G : sG) (l : Launch) (hl : l.stackTraces = false) (ad : sAd) (M : sM) (c0 : Int32) (t0 : Nat) (hd : Nat → Int32) (on : Nat → Int32) (tw : Nat → Int32) (dp : Nat → Int32) (cl : Nat → Int32) (gr : Nat → Int32) (r0 : Nat) (kd : Nat → Int32) (fl : Nat → Int32) (co : Nat → Int32) (sm : Nat → Int32) (wk : Nat → Int64) (sp : Nat → Int64) (b0 : Bool) (mu : Nat → Int32) (hm : hMd G ad M (c0, t0, hd, on, tw, dp, cl, gr, r0, kd, fl, co, sm, wk, sp, b0, mu)) (t : Nat) (htt : t < 120) (hh : hd t = -1) (lt : Nat) (hl2 : lt ≤ 2) (hon : on t = nI lt) (htw : tw t = -1) : sMet G l yX4_findPolynomial mX4_findPolynomial [.ref (ad 12 0), .int (nI t)] ad M (fun r ad' M' => ad = ad' ∧ r = none ∧ ∃ cl' gr' wk' b', hMd G ad M' (c0, t0, hd, on, tw, dp, cl', gr', r0, kd, fl, co, sm, wk', sp, b', mu) ∧ sSame pMd M M' ∧ (∀ j k, j ≠ t → k < 220 → cl' (220 * j + k) = cl (220 * j + k)) ∧ (∀ j, j ≠ t → gr' j = gr j) ∧ (gr' t ≠ 0 ↔ False) ∧ CRk cl' t (one1 (kl3 lt) 1)) (fun _ _ _ => False) := by
  rcases (show lt = 0 ∨ lt = 1 ∨ lt = 2 by omega) with rfl | rfl | rfl
  · refine sMet.of hl (by decide +kernel) rfl rfl rfl rfl (Nat.le_of_ble_eq_true rfl) (fun X => ?_)
    refine s_lv (lv' := [some (.ref (ad 12 0)), some (.int (nI t)), none, none, none]) rfl ?_
    refine s_aload_n dX4_findPolynomial_0 rfl ?_
    refine s_get (kd := 12) (ix := 0) (ci := 5) (fs := [.int c0, .int (nI t0), .ref (ad 13 0), .ref (ad 14 0), .ref (ad 15 0), .ref (ad 16 0), .ref (ad 17 0), .ref (ad 18 0), .int (nI r0), .ref (ad 19 0), .ref (ad 20 0), .ref (ad 21 0), .ref (ad 22 0), .ref (ad 23 0), .ref (ad 24 0), .int (jB b0), .ref (ad 25 0)])  hm.1 rfl in_X4_findPolynomial_X4 3 (by decide) (by decide +kernel) rfl rfl dX4_findPolynomial_1 ?_
    refine s_iload_n dX4_findPolynomial_4 rfl ?_
    refine s_iald (kd := 14) (ix := 0) (n := 120) (f := on) (j := t) hm.2.2.1 (rfl) (by omega) (by decide) dX4_findPolynomial_5 ?_
    refine s_eqi (y := 0) (hon) ?_
    refine s_istore_n dX4_findPolynomial_6 rfl rfl ?_
    refine s_lv (lv' := [some (.ref (ad 12 0)), some (.int (nI t)), some (.int 0), none, none]) rfl ?_
    refine s_aload_n dX4_findPolynomial_7 rfl ?_
    refine s_get (kd := 12) (ix := 0) (ci := 5) (fs := [.int c0, .int (nI t0), .ref (ad 13 0), .ref (ad 14 0), .ref (ad 15 0), .ref (ad 16 0), .ref (ad 17 0), .ref (ad 18 0), .int (nI r0), .ref (ad 19 0), .ref (ad 20 0), .ref (ad 21 0), .ref (ad 22 0), .ref (ad 23 0), .ref (ad 24 0), .int (jB b0), .ref (ad 25 0)])  hm.1 rfl in_X4_findPolynomial_X4 4 (by decide) (by decide +kernel) rfl rfl dX4_findPolynomial_8 ?_
    refine s_iload_n dX4_findPolynomial_11 rfl ?_
    refine s_iald (kd := 15) (ix := 0) (n := 120) (f := tw) (j := t) hm.2.2.2.1 (rfl) (by omega) (by decide) dX4_findPolynomial_12 ?_
    refine s_eqi (y := (-1)) (htw) ?_
    refine s_istore_n dX4_findPolynomial_13 rfl rfl ?_
    refine s_lv (lv' := [some (.ref (ad 12 0)), some (.int (nI t)), some (.int 0), some (.int (-1)), none]) rfl ?_
    refine s_iconst (v := 0) dX4_findPolynomial_14 (by decide) ?_
    refine s_istore dX4_findPolynomial_15 rfl rfl ?_
    refine s_lv (lv' := [some (.ref (ad 12 0)), some (.int (nI t)), some (.int 0), some (.int (-1)), some (.int 0)]) rfl ?_
    refine l_fp0 X G ad M c0 t0 hd on tw dp cl gr r0 kd fl co sm sp b0 mu t 0 (-1) _ (fun M43 wk43  hm43 hs43 hv43 => ?_) (220) 0 M wk  (by omega) ⟨hm.1, hm.2.1, hm.2.2.1, hm.2.2.2.1, hm.2.2.2.2.1, hm.2.2.2.2.2.1, hm.2.2.2.2.2.2.1, hm.2.2.2.2.2.2.2.1, hm.2.2.2.2.2.2.2.2.1, hm.2.2.2.2.2.2.2.2.2.1, hm.2.2.2.2.2.2.2.2.2.2.1, hm.2.2.2.2.2.2.2.2.2.2.2.1, hm.2.2.2.2.2.2.2.2.2.2.2.2.1, hm.2.2.2.2.2.2.2.2.2.2.2.2.2⟩ sSame.rfl (fun k hk => absurd hk (Nat.not_lt_zero k))
    refine s_aload_n dX4_findPolynomial_39 rfl ?_
    refine s_aload_n dX4_findPolynomial_40 rfl ?_
    refine s_get (kd := 12) (ix := 0) (ci := 5) (fs := [.int c0, .int (nI t0), .ref (ad 13 0), .ref (ad 14 0), .ref (ad 15 0), .ref (ad 16 0), .ref (ad 17 0), .ref (ad 18 0), .int (nI r0), .ref (ad 19 0), .ref (ad 20 0), .ref (ad 21 0), .ref (ad 22 0), .ref (ad 23 0), .ref (ad 24 0), .int (jB b0), .ref (ad 25 0)])  hm43.1 rfl in_X4_findPolynomial_X4 2 (by decide) (by decide +kernel) rfl rfl dX4_findPolynomial_41 ?_
    refine s_iload_n dX4_findPolynomial_44 rfl ?_
    refine s_iald (kd := 13) (ix := 0) (n := 120) (f := hd) (j := t) hm43.2.1 (rfl) (by omega) (by decide) dX4_findPolynomial_45 ?_
    refine s_eqi (y := (-1)) (hh) ?_
    refine s_if_lt 75 dX4_findPolynomial_46 (by decide) (fun c46 => ?_) (fun c46 => absurd (by decide) c46)
    refine s_iconst (v := 0) dX4_findPolynomial_75 (by decide) ?_
    refine s_eqi (y := jB false) rfl ?_
    refine s_put (kd := 12) (ix := 0) (ci := 5) (v := .int (jB false)) (ty := tyX4 15) (fs := [.int c0, .int (nI t0), .ref (ad 13 0), .ref (ad 14 0), .ref (ad 15 0), .ref (ad 16 0), .ref (ad 17 0), .ref (ad 18 0), .int (nI r0), .ref (ad 19 0), .ref (ad 20 0), .ref (ad 21 0), .ref (ad 22 0), .ref (ad 23 0), .ref (ad 24 0), .int (jB b0), .ref (ad 25 0)])  tyX4 tyX4_ok nmX4 hm43.1 rfl in_X4_findPolynomial_X4 15 (by decide) (by decide +kernel) rfl rfl (tyX4_ok 15 (by decide)) (rfl) (rfl) (Nat.le_of_ble_eq_true rfl) dX4_findPolynomial_76 ?_
    refine s_M (M' := (sset M43 12 0 (.inr (5, [.int c0, .int (nI t0), .ref (ad 13 0), .ref (ad 14 0), .ref (ad 15 0), .ref (ad 16 0), .ref (ad 17 0), .ref (ad 18 0), .int (nI r0), .ref (ad 19 0), .ref (ad 20 0), .ref (ad 21 0), .ref (ad 22 0), .ref (ad 23 0), .ref (ad 24 0), .int (jB false), .ref (ad 25 0)])))) rfl ?_
    refine s_aload_n dX4_findPolynomial_79 rfl ?_
    refine s_get (kd := 12) (ix := 0) (ci := 5) (fs := [.int c0, .int (nI t0), .ref (ad 13 0), .ref (ad 14 0), .ref (ad 15 0), .ref (ad 16 0), .ref (ad 17 0), .ref (ad 18 0), .int (nI r0), .ref (ad 19 0), .ref (ad 20 0), .ref (ad 21 0), .ref (ad 22 0), .ref (ad 23 0), .ref (ad 24 0), .int (jB false), .ref (ad 25 0)])  (sset_self _ _ _ _) rfl in_X4_findPolynomial_X4 2 (by decide) (by decide +kernel) rfl rfl dX4_findPolynomial_80 ?_
    refine s_iload_n dX4_findPolynomial_83 rfl ?_
    refine s_iald (kd := 13) (ix := 0) (n := 120) (f := hd) (j := t) ((sset_k _ _ (by decide)).trans (hm43.2.1)) (rfl) (by omega) (by decide) dX4_findPolynomial_84 ?_
    refine s_eqi (y := (-1)) (hh) ?_
    refine s_tableIn 128 dX4_findPolynomial_85 (by decide) (by decide) rfl (by decide) ?_
    refine s_aload_n dX4_findPolynomial_128 rfl ?_
    refine s_get (kd := 12) (ix := 0) (ci := 5) (fs := [.int c0, .int (nI t0), .ref (ad 13 0), .ref (ad 14 0), .ref (ad 15 0), .ref (ad 16 0), .ref (ad 17 0), .ref (ad 18 0), .int (nI r0), .ref (ad 19 0), .ref (ad 20 0), .ref (ad 21 0), .ref (ad 22 0), .ref (ad 23 0), .ref (ad 24 0), .int (jB false), .ref (ad 25 0)])  (sset_self _ _ _ _) rfl in_X4_findPolynomial_X4 13 (by decide) (by decide +kernel) rfl rfl dX4_findPolynomial_129 ?_
    refine s_iload_n dX4_findPolynomial_132 rfl ?_
    refine s_if_ne 145 dX4_findPolynomial_133 (by decide) (fun c133 => absurd (rfl) c133) (fun c133 => ?_)
    refine s_iconst (v := 1) dX4_findPolynomial_136 (by decide) ?_
    refine s_iconst (v := 0) dX4_findPolynomial_137 (by decide) ?_
    refine s_iconst (v := 0) dX4_findPolynomial_138 (by decide) ?_
    refine s_callS (As := [.int 1, .int 0, .int 0]) (rest := [.ref (ad 23 0)]) (n := 3) (fun l hl => c_X4_place G l hl ad (sset M43 12 0 (.inr (5, [.int c0, .int (nI t0), .ref (ad 13 0), .ref (ad 14 0), .ref (ad 15 0), .ref (ad 16 0), .ref (ad 17 0), .ref (ad 18 0), .int (nI r0), .ref (ad 19 0), .ref (ad 20 0), .ref (ad 21 0), .ref (ad 22 0), .ref (ad 23 0), .ref (ad 24 0), .int (jB false), .ref (ad 25 0)]))) 1 0 0 (by omega)) gX4_findPolynomial_X4_place rfl (by decide +kernel) rfl ⟨(Nat.le_of_ble_eq_true rfl), (Nat.le_of_ble_eq_true rfl)⟩ ⟨(Nat.le_of_ble_eq_true rfl), (Nat.le_of_ble_eq_true rfl)⟩ (Nat.le_of_ble_eq_true rfl) dX4_findPolynomial_139 rfl (fun r9 ad9 M9 h9 => ?_)
    obtain ⟨rfl, rfl, rfl⟩ := h9
    refine s_goto 165 dX4_findPolynomial_142 (by decide) ?_
    refine s_lconst (v := 1) dX4_findPolynomial_165 (by decide) ?_
    refine s_last (kd := 23) (ix := 0) (n := 220) (f := wk43) (j := pl3 1 0 0) (x := 1) ((sset_k _ _ (by decide)).trans (hm43.2.2.2.2.2.2.2.2.2.2.2.1))  (rfl) (by decide) (by decide) dX4_findPolynomial_166 ?_
    refine s_goto 394 dX4_findPolynomial_167 (by decide) ?_
    have hgd : good (kl3 0) := goodB_iff.mp (by decide)
    have hpl : pl (kl3 0) = pl3 1 0 0 := by decide
    have hw9 := one1_wr hv43 hgd 1
    rw [hpl] at hw9
    exact fp_tail X G ad M (sset (sset M43 12 0 (.inr (5, [.int c0, .int (nI t0), .ref (ad 13 0), .ref (ad 14 0), .ref (ad 15 0), .ref (ad 16 0), .ref (ad 17 0), .ref (ad 18 0), .int (nI r0), .ref (ad 19 0), .ref (ad 20 0), .ref (ad 21 0), .ref (ad 22 0), .ref (ad 23 0), .ref (ad 24 0), .int (jB false), .ref (ad 25 0)]))) 23 0 (.inl (gJ G, 220, .inr (.inl (vp_updL wk43 (pl3 1 0 0) 1))))) c0 t0 hd on tw dp cl gr r0 kd fl co sm (vp_updL wk43 (pl3 1 0 0) 1) sp false mu ⟨((sset_k _ _ (by decide)).trans (sset_self _ _ _ _)), ((sset_k _ _ (by decide)).trans ((sset_k _ _ (by decide)).trans (hm43.2.1))), ((sset_k _ _ (by decide)).trans ((sset_k _ _ (by decide)).trans (hm43.2.2.1))), ((sset_k _ _ (by decide)).trans ((sset_k _ _ (by decide)).trans (hm43.2.2.2.1))), ((sset_k _ _ (by decide)).trans ((sset_k _ _ (by decide)).trans (hm43.2.2.2.2.1))), ((sset_k _ _ (by decide)).trans ((sset_k _ _ (by decide)).trans (hm43.2.2.2.2.2.1))), ((sset_k _ _ (by decide)).trans ((sset_k _ _ (by decide)).trans (hm43.2.2.2.2.2.2.1))), ((sset_k _ _ (by decide)).trans ((sset_k _ _ (by decide)).trans (hm43.2.2.2.2.2.2.2.1))), ((sset_k _ _ (by decide)).trans ((sset_k _ _ (by decide)).trans (hm43.2.2.2.2.2.2.2.2.1))), ((sset_k _ _ (by decide)).trans ((sset_k _ _ (by decide)).trans (hm43.2.2.2.2.2.2.2.2.2.1))), ((sset_k _ _ (by decide)).trans ((sset_k _ _ (by decide)).trans (hm43.2.2.2.2.2.2.2.2.2.2.1))), (sset_self _ _ _ _), ((sset_k _ _ (by decide)).trans ((sset_k _ _ (by decide)).trans (hm43.2.2.2.2.2.2.2.2.2.2.2.2.1))), ((sset_k _ _ (by decide)).trans ((sset_k _ _ (by decide)).trans (hm43.2.2.2.2.2.2.2.2.2.2.2.2.2)))⟩ (hs43 |>.set (P := pMd) (by simp [pMd]) _ |>.set (P := pMd) (by simp [pMd]) _) cl gr t htt (one1 (kl3 0) 1) (one1_gz hgd 1) hw9 (fun _ _ _ _ => rfl) (fun _ _ => rfl) False (one1 (kl3 0) 1) ⟨fun q => q.elim (fun q => nomatch q) (fun q => q (one1_ft (v := 1) hgd (by decide))), fun q => q.elim⟩ (fun q => q.elim) (fun _ => rfl) _ _
  · refine sMet.of hl (by decide +kernel) rfl rfl rfl rfl (Nat.le_of_ble_eq_true rfl) (fun X => ?_)
    refine s_lv (lv' := [some (.ref (ad 12 0)), some (.int (nI t)), none, none, none]) rfl ?_
    refine s_aload_n dX4_findPolynomial_0 rfl ?_
    refine s_get (kd := 12) (ix := 0) (ci := 5) (fs := [.int c0, .int (nI t0), .ref (ad 13 0), .ref (ad 14 0), .ref (ad 15 0), .ref (ad 16 0), .ref (ad 17 0), .ref (ad 18 0), .int (nI r0), .ref (ad 19 0), .ref (ad 20 0), .ref (ad 21 0), .ref (ad 22 0), .ref (ad 23 0), .ref (ad 24 0), .int (jB b0), .ref (ad 25 0)])  hm.1 rfl in_X4_findPolynomial_X4 3 (by decide) (by decide +kernel) rfl rfl dX4_findPolynomial_1 ?_
    refine s_iload_n dX4_findPolynomial_4 rfl ?_
    refine s_iald (kd := 14) (ix := 0) (n := 120) (f := on) (j := t) hm.2.2.1 (rfl) (by omega) (by decide) dX4_findPolynomial_5 ?_
    refine s_eqi (y := 1) (hon) ?_
    refine s_istore_n dX4_findPolynomial_6 rfl rfl ?_
    refine s_lv (lv' := [some (.ref (ad 12 0)), some (.int (nI t)), some (.int 1), none, none]) rfl ?_
    refine s_aload_n dX4_findPolynomial_7 rfl ?_
    refine s_get (kd := 12) (ix := 0) (ci := 5) (fs := [.int c0, .int (nI t0), .ref (ad 13 0), .ref (ad 14 0), .ref (ad 15 0), .ref (ad 16 0), .ref (ad 17 0), .ref (ad 18 0), .int (nI r0), .ref (ad 19 0), .ref (ad 20 0), .ref (ad 21 0), .ref (ad 22 0), .ref (ad 23 0), .ref (ad 24 0), .int (jB b0), .ref (ad 25 0)])  hm.1 rfl in_X4_findPolynomial_X4 4 (by decide) (by decide +kernel) rfl rfl dX4_findPolynomial_8 ?_
    refine s_iload_n dX4_findPolynomial_11 rfl ?_
    refine s_iald (kd := 15) (ix := 0) (n := 120) (f := tw) (j := t) hm.2.2.2.1 (rfl) (by omega) (by decide) dX4_findPolynomial_12 ?_
    refine s_eqi (y := (-1)) (htw) ?_
    refine s_istore_n dX4_findPolynomial_13 rfl rfl ?_
    refine s_lv (lv' := [some (.ref (ad 12 0)), some (.int (nI t)), some (.int 1), some (.int (-1)), none]) rfl ?_
    refine s_iconst (v := 0) dX4_findPolynomial_14 (by decide) ?_
    refine s_istore dX4_findPolynomial_15 rfl rfl ?_
    refine s_lv (lv' := [some (.ref (ad 12 0)), some (.int (nI t)), some (.int 1), some (.int (-1)), some (.int 0)]) rfl ?_
    refine l_fp0 X G ad M c0 t0 hd on tw dp cl gr r0 kd fl co sm sp b0 mu t 1 (-1) _ (fun M44 wk44  hm44 hs44 hv44 => ?_) (220) 0 M wk  (by omega) ⟨hm.1, hm.2.1, hm.2.2.1, hm.2.2.2.1, hm.2.2.2.2.1, hm.2.2.2.2.2.1, hm.2.2.2.2.2.2.1, hm.2.2.2.2.2.2.2.1, hm.2.2.2.2.2.2.2.2.1, hm.2.2.2.2.2.2.2.2.2.1, hm.2.2.2.2.2.2.2.2.2.2.1, hm.2.2.2.2.2.2.2.2.2.2.2.1, hm.2.2.2.2.2.2.2.2.2.2.2.2.1, hm.2.2.2.2.2.2.2.2.2.2.2.2.2⟩ sSame.rfl (fun k hk => absurd hk (Nat.not_lt_zero k))
    refine s_aload_n dX4_findPolynomial_39 rfl ?_
    refine s_aload_n dX4_findPolynomial_40 rfl ?_
    refine s_get (kd := 12) (ix := 0) (ci := 5) (fs := [.int c0, .int (nI t0), .ref (ad 13 0), .ref (ad 14 0), .ref (ad 15 0), .ref (ad 16 0), .ref (ad 17 0), .ref (ad 18 0), .int (nI r0), .ref (ad 19 0), .ref (ad 20 0), .ref (ad 21 0), .ref (ad 22 0), .ref (ad 23 0), .ref (ad 24 0), .int (jB b0), .ref (ad 25 0)])  hm44.1 rfl in_X4_findPolynomial_X4 2 (by decide) (by decide +kernel) rfl rfl dX4_findPolynomial_41 ?_
    refine s_iload_n dX4_findPolynomial_44 rfl ?_
    refine s_iald (kd := 13) (ix := 0) (n := 120) (f := hd) (j := t) hm44.2.1 (rfl) (by omega) (by decide) dX4_findPolynomial_45 ?_
    refine s_eqi (y := (-1)) (hh) ?_
    refine s_if_lt 75 dX4_findPolynomial_46 (by decide) (fun c46 => ?_) (fun c46 => absurd (by decide) c46)
    refine s_iconst (v := 0) dX4_findPolynomial_75 (by decide) ?_
    refine s_eqi (y := jB false) rfl ?_
    refine s_put (kd := 12) (ix := 0) (ci := 5) (v := .int (jB false)) (ty := tyX4 15) (fs := [.int c0, .int (nI t0), .ref (ad 13 0), .ref (ad 14 0), .ref (ad 15 0), .ref (ad 16 0), .ref (ad 17 0), .ref (ad 18 0), .int (nI r0), .ref (ad 19 0), .ref (ad 20 0), .ref (ad 21 0), .ref (ad 22 0), .ref (ad 23 0), .ref (ad 24 0), .int (jB b0), .ref (ad 25 0)])  tyX4 tyX4_ok nmX4 hm44.1 rfl in_X4_findPolynomial_X4 15 (by decide) (by decide +kernel) rfl rfl (tyX4_ok 15 (by decide)) (rfl) (rfl) (Nat.le_of_ble_eq_true rfl) dX4_findPolynomial_76 ?_
    refine s_M (M' := (sset M44 12 0 (.inr (5, [.int c0, .int (nI t0), .ref (ad 13 0), .ref (ad 14 0), .ref (ad 15 0), .ref (ad 16 0), .ref (ad 17 0), .ref (ad 18 0), .int (nI r0), .ref (ad 19 0), .ref (ad 20 0), .ref (ad 21 0), .ref (ad 22 0), .ref (ad 23 0), .ref (ad 24 0), .int (jB false), .ref (ad 25 0)])))) rfl ?_
    refine s_aload_n dX4_findPolynomial_79 rfl ?_
    refine s_get (kd := 12) (ix := 0) (ci := 5) (fs := [.int c0, .int (nI t0), .ref (ad 13 0), .ref (ad 14 0), .ref (ad 15 0), .ref (ad 16 0), .ref (ad 17 0), .ref (ad 18 0), .int (nI r0), .ref (ad 19 0), .ref (ad 20 0), .ref (ad 21 0), .ref (ad 22 0), .ref (ad 23 0), .ref (ad 24 0), .int (jB false), .ref (ad 25 0)])  (sset_self _ _ _ _) rfl in_X4_findPolynomial_X4 2 (by decide) (by decide +kernel) rfl rfl dX4_findPolynomial_80 ?_
    refine s_iload_n dX4_findPolynomial_83 rfl ?_
    refine s_iald (kd := 13) (ix := 0) (n := 120) (f := hd) (j := t) ((sset_k _ _ (by decide)).trans (hm44.2.1)) (rfl) (by omega) (by decide) dX4_findPolynomial_84 ?_
    refine s_eqi (y := (-1)) (hh) ?_
    refine s_tableIn 128 dX4_findPolynomial_85 (by decide) (by decide) rfl (by decide) ?_
    refine s_aload_n dX4_findPolynomial_128 rfl ?_
    refine s_get (kd := 12) (ix := 0) (ci := 5) (fs := [.int c0, .int (nI t0), .ref (ad 13 0), .ref (ad 14 0), .ref (ad 15 0), .ref (ad 16 0), .ref (ad 17 0), .ref (ad 18 0), .int (nI r0), .ref (ad 19 0), .ref (ad 20 0), .ref (ad 21 0), .ref (ad 22 0), .ref (ad 23 0), .ref (ad 24 0), .int (jB false), .ref (ad 25 0)])  (sset_self _ _ _ _) rfl in_X4_findPolynomial_X4 13 (by decide) (by decide +kernel) rfl rfl dX4_findPolynomial_129 ?_
    refine s_iload_n dX4_findPolynomial_132 rfl ?_
    refine s_if_ne 145 dX4_findPolynomial_133 (by decide) (fun c133 => ?_) (fun c133 => absurd c133 (by decide))
    refine s_iload_n dX4_findPolynomial_145 rfl ?_
    refine s_iconst (v := 1) dX4_findPolynomial_146 (by decide) ?_
    refine s_icmp_ne 159 dX4_findPolynomial_147 (by decide) (fun c147 => absurd (rfl) c147) (fun c147 => ?_)
    refine s_iconst (v := 0) dX4_findPolynomial_150 (by decide) ?_
    refine s_iconst (v := 1) dX4_findPolynomial_151 (by decide) ?_
    refine s_iconst (v := 0) dX4_findPolynomial_152 (by decide) ?_
    refine s_callS (As := [.int 0, .int 1, .int 0]) (rest := [.ref (ad 23 0)]) (n := 3) (fun l hl => c_X4_place G l hl ad (sset M44 12 0 (.inr (5, [.int c0, .int (nI t0), .ref (ad 13 0), .ref (ad 14 0), .ref (ad 15 0), .ref (ad 16 0), .ref (ad 17 0), .ref (ad 18 0), .int (nI r0), .ref (ad 19 0), .ref (ad 20 0), .ref (ad 21 0), .ref (ad 22 0), .ref (ad 23 0), .ref (ad 24 0), .int (jB false), .ref (ad 25 0)]))) 0 1 0 (by omega)) gX4_findPolynomial_X4_place rfl (by decide +kernel) rfl ⟨(Nat.le_of_ble_eq_true rfl), (Nat.le_of_ble_eq_true rfl)⟩ ⟨(Nat.le_of_ble_eq_true rfl), (Nat.le_of_ble_eq_true rfl)⟩ (Nat.le_of_ble_eq_true rfl) dX4_findPolynomial_153 rfl (fun r9 ad9 M9 h9 => ?_)
    obtain ⟨rfl, rfl, rfl⟩ := h9
    refine s_goto 165 dX4_findPolynomial_156 (by decide) ?_
    refine s_lconst (v := 1) dX4_findPolynomial_165 (by decide) ?_
    refine s_last (kd := 23) (ix := 0) (n := 220) (f := wk44) (j := pl3 0 1 0) (x := 1) ((sset_k _ _ (by decide)).trans (hm44.2.2.2.2.2.2.2.2.2.2.2.1))  (rfl) (by decide) (by decide) dX4_findPolynomial_166 ?_
    refine s_goto 394 dX4_findPolynomial_167 (by decide) ?_
    have hgd : good (kl3 1) := goodB_iff.mp (by decide)
    have hpl : pl (kl3 1) = pl3 0 1 0 := by decide
    have hw9 := one1_wr hv44 hgd 1
    rw [hpl] at hw9
    exact fp_tail X G ad M (sset (sset M44 12 0 (.inr (5, [.int c0, .int (nI t0), .ref (ad 13 0), .ref (ad 14 0), .ref (ad 15 0), .ref (ad 16 0), .ref (ad 17 0), .ref (ad 18 0), .int (nI r0), .ref (ad 19 0), .ref (ad 20 0), .ref (ad 21 0), .ref (ad 22 0), .ref (ad 23 0), .ref (ad 24 0), .int (jB false), .ref (ad 25 0)]))) 23 0 (.inl (gJ G, 220, .inr (.inl (vp_updL wk44 (pl3 0 1 0) 1))))) c0 t0 hd on tw dp cl gr r0 kd fl co sm (vp_updL wk44 (pl3 0 1 0) 1) sp false mu ⟨((sset_k _ _ (by decide)).trans (sset_self _ _ _ _)), ((sset_k _ _ (by decide)).trans ((sset_k _ _ (by decide)).trans (hm44.2.1))), ((sset_k _ _ (by decide)).trans ((sset_k _ _ (by decide)).trans (hm44.2.2.1))), ((sset_k _ _ (by decide)).trans ((sset_k _ _ (by decide)).trans (hm44.2.2.2.1))), ((sset_k _ _ (by decide)).trans ((sset_k _ _ (by decide)).trans (hm44.2.2.2.2.1))), ((sset_k _ _ (by decide)).trans ((sset_k _ _ (by decide)).trans (hm44.2.2.2.2.2.1))), ((sset_k _ _ (by decide)).trans ((sset_k _ _ (by decide)).trans (hm44.2.2.2.2.2.2.1))), ((sset_k _ _ (by decide)).trans ((sset_k _ _ (by decide)).trans (hm44.2.2.2.2.2.2.2.1))), ((sset_k _ _ (by decide)).trans ((sset_k _ _ (by decide)).trans (hm44.2.2.2.2.2.2.2.2.1))), ((sset_k _ _ (by decide)).trans ((sset_k _ _ (by decide)).trans (hm44.2.2.2.2.2.2.2.2.2.1))), ((sset_k _ _ (by decide)).trans ((sset_k _ _ (by decide)).trans (hm44.2.2.2.2.2.2.2.2.2.2.1))), (sset_self _ _ _ _), ((sset_k _ _ (by decide)).trans ((sset_k _ _ (by decide)).trans (hm44.2.2.2.2.2.2.2.2.2.2.2.2.1))), ((sset_k _ _ (by decide)).trans ((sset_k _ _ (by decide)).trans (hm44.2.2.2.2.2.2.2.2.2.2.2.2.2)))⟩ (hs44 |>.set (P := pMd) (by simp [pMd]) _ |>.set (P := pMd) (by simp [pMd]) _) cl gr t htt (one1 (kl3 1) 1) (one1_gz hgd 1) hw9 (fun _ _ _ _ => rfl) (fun _ _ => rfl) False (one1 (kl3 1) 1) ⟨fun q => q.elim (fun q => nomatch q) (fun q => q (one1_ft (v := 1) hgd (by decide))), fun q => q.elim⟩ (fun q => q.elim) (fun _ => rfl) _ _
  · refine sMet.of hl (by decide +kernel) rfl rfl rfl rfl (Nat.le_of_ble_eq_true rfl) (fun X => ?_)
    refine s_lv (lv' := [some (.ref (ad 12 0)), some (.int (nI t)), none, none, none]) rfl ?_
    refine s_aload_n dX4_findPolynomial_0 rfl ?_
    refine s_get (kd := 12) (ix := 0) (ci := 5) (fs := [.int c0, .int (nI t0), .ref (ad 13 0), .ref (ad 14 0), .ref (ad 15 0), .ref (ad 16 0), .ref (ad 17 0), .ref (ad 18 0), .int (nI r0), .ref (ad 19 0), .ref (ad 20 0), .ref (ad 21 0), .ref (ad 22 0), .ref (ad 23 0), .ref (ad 24 0), .int (jB b0), .ref (ad 25 0)])  hm.1 rfl in_X4_findPolynomial_X4 3 (by decide) (by decide +kernel) rfl rfl dX4_findPolynomial_1 ?_
    refine s_iload_n dX4_findPolynomial_4 rfl ?_
    refine s_iald (kd := 14) (ix := 0) (n := 120) (f := on) (j := t) hm.2.2.1 (rfl) (by omega) (by decide) dX4_findPolynomial_5 ?_
    refine s_eqi (y := 2) (hon) ?_
    refine s_istore_n dX4_findPolynomial_6 rfl rfl ?_
    refine s_lv (lv' := [some (.ref (ad 12 0)), some (.int (nI t)), some (.int 2), none, none]) rfl ?_
    refine s_aload_n dX4_findPolynomial_7 rfl ?_
    refine s_get (kd := 12) (ix := 0) (ci := 5) (fs := [.int c0, .int (nI t0), .ref (ad 13 0), .ref (ad 14 0), .ref (ad 15 0), .ref (ad 16 0), .ref (ad 17 0), .ref (ad 18 0), .int (nI r0), .ref (ad 19 0), .ref (ad 20 0), .ref (ad 21 0), .ref (ad 22 0), .ref (ad 23 0), .ref (ad 24 0), .int (jB b0), .ref (ad 25 0)])  hm.1 rfl in_X4_findPolynomial_X4 4 (by decide) (by decide +kernel) rfl rfl dX4_findPolynomial_8 ?_
    refine s_iload_n dX4_findPolynomial_11 rfl ?_
    refine s_iald (kd := 15) (ix := 0) (n := 120) (f := tw) (j := t) hm.2.2.2.1 (rfl) (by omega) (by decide) dX4_findPolynomial_12 ?_
    refine s_eqi (y := (-1)) (htw) ?_
    refine s_istore_n dX4_findPolynomial_13 rfl rfl ?_
    refine s_lv (lv' := [some (.ref (ad 12 0)), some (.int (nI t)), some (.int 2), some (.int (-1)), none]) rfl ?_
    refine s_iconst (v := 0) dX4_findPolynomial_14 (by decide) ?_
    refine s_istore dX4_findPolynomial_15 rfl rfl ?_
    refine s_lv (lv' := [some (.ref (ad 12 0)), some (.int (nI t)), some (.int 2), some (.int (-1)), some (.int 0)]) rfl ?_
    refine l_fp0 X G ad M c0 t0 hd on tw dp cl gr r0 kd fl co sm sp b0 mu t 2 (-1) _ (fun M45 wk45  hm45 hs45 hv45 => ?_) (220) 0 M wk  (by omega) ⟨hm.1, hm.2.1, hm.2.2.1, hm.2.2.2.1, hm.2.2.2.2.1, hm.2.2.2.2.2.1, hm.2.2.2.2.2.2.1, hm.2.2.2.2.2.2.2.1, hm.2.2.2.2.2.2.2.2.1, hm.2.2.2.2.2.2.2.2.2.1, hm.2.2.2.2.2.2.2.2.2.2.1, hm.2.2.2.2.2.2.2.2.2.2.2.1, hm.2.2.2.2.2.2.2.2.2.2.2.2.1, hm.2.2.2.2.2.2.2.2.2.2.2.2.2⟩ sSame.rfl (fun k hk => absurd hk (Nat.not_lt_zero k))
    refine s_aload_n dX4_findPolynomial_39 rfl ?_
    refine s_aload_n dX4_findPolynomial_40 rfl ?_
    refine s_get (kd := 12) (ix := 0) (ci := 5) (fs := [.int c0, .int (nI t0), .ref (ad 13 0), .ref (ad 14 0), .ref (ad 15 0), .ref (ad 16 0), .ref (ad 17 0), .ref (ad 18 0), .int (nI r0), .ref (ad 19 0), .ref (ad 20 0), .ref (ad 21 0), .ref (ad 22 0), .ref (ad 23 0), .ref (ad 24 0), .int (jB b0), .ref (ad 25 0)])  hm45.1 rfl in_X4_findPolynomial_X4 2 (by decide) (by decide +kernel) rfl rfl dX4_findPolynomial_41 ?_
    refine s_iload_n dX4_findPolynomial_44 rfl ?_
    refine s_iald (kd := 13) (ix := 0) (n := 120) (f := hd) (j := t) hm45.2.1 (rfl) (by omega) (by decide) dX4_findPolynomial_45 ?_
    refine s_eqi (y := (-1)) (hh) ?_
    refine s_if_lt 75 dX4_findPolynomial_46 (by decide) (fun c46 => ?_) (fun c46 => absurd (by decide) c46)
    refine s_iconst (v := 0) dX4_findPolynomial_75 (by decide) ?_
    refine s_eqi (y := jB false) rfl ?_
    refine s_put (kd := 12) (ix := 0) (ci := 5) (v := .int (jB false)) (ty := tyX4 15) (fs := [.int c0, .int (nI t0), .ref (ad 13 0), .ref (ad 14 0), .ref (ad 15 0), .ref (ad 16 0), .ref (ad 17 0), .ref (ad 18 0), .int (nI r0), .ref (ad 19 0), .ref (ad 20 0), .ref (ad 21 0), .ref (ad 22 0), .ref (ad 23 0), .ref (ad 24 0), .int (jB b0), .ref (ad 25 0)])  tyX4 tyX4_ok nmX4 hm45.1 rfl in_X4_findPolynomial_X4 15 (by decide) (by decide +kernel) rfl rfl (tyX4_ok 15 (by decide)) (rfl) (rfl) (Nat.le_of_ble_eq_true rfl) dX4_findPolynomial_76 ?_
    refine s_M (M' := (sset M45 12 0 (.inr (5, [.int c0, .int (nI t0), .ref (ad 13 0), .ref (ad 14 0), .ref (ad 15 0), .ref (ad 16 0), .ref (ad 17 0), .ref (ad 18 0), .int (nI r0), .ref (ad 19 0), .ref (ad 20 0), .ref (ad 21 0), .ref (ad 22 0), .ref (ad 23 0), .ref (ad 24 0), .int (jB false), .ref (ad 25 0)])))) rfl ?_
    refine s_aload_n dX4_findPolynomial_79 rfl ?_
    refine s_get (kd := 12) (ix := 0) (ci := 5) (fs := [.int c0, .int (nI t0), .ref (ad 13 0), .ref (ad 14 0), .ref (ad 15 0), .ref (ad 16 0), .ref (ad 17 0), .ref (ad 18 0), .int (nI r0), .ref (ad 19 0), .ref (ad 20 0), .ref (ad 21 0), .ref (ad 22 0), .ref (ad 23 0), .ref (ad 24 0), .int (jB false), .ref (ad 25 0)])  (sset_self _ _ _ _) rfl in_X4_findPolynomial_X4 2 (by decide) (by decide +kernel) rfl rfl dX4_findPolynomial_80 ?_
    refine s_iload_n dX4_findPolynomial_83 rfl ?_
    refine s_iald (kd := 13) (ix := 0) (n := 120) (f := hd) (j := t) ((sset_k _ _ (by decide)).trans (hm45.2.1)) (rfl) (by omega) (by decide) dX4_findPolynomial_84 ?_
    refine s_eqi (y := (-1)) (hh) ?_
    refine s_tableIn 128 dX4_findPolynomial_85 (by decide) (by decide) rfl (by decide) ?_
    refine s_aload_n dX4_findPolynomial_128 rfl ?_
    refine s_get (kd := 12) (ix := 0) (ci := 5) (fs := [.int c0, .int (nI t0), .ref (ad 13 0), .ref (ad 14 0), .ref (ad 15 0), .ref (ad 16 0), .ref (ad 17 0), .ref (ad 18 0), .int (nI r0), .ref (ad 19 0), .ref (ad 20 0), .ref (ad 21 0), .ref (ad 22 0), .ref (ad 23 0), .ref (ad 24 0), .int (jB false), .ref (ad 25 0)])  (sset_self _ _ _ _) rfl in_X4_findPolynomial_X4 13 (by decide) (by decide +kernel) rfl rfl dX4_findPolynomial_129 ?_
    refine s_iload_n dX4_findPolynomial_132 rfl ?_
    refine s_if_ne 145 dX4_findPolynomial_133 (by decide) (fun c133 => ?_) (fun c133 => absurd c133 (by decide))
    refine s_iload_n dX4_findPolynomial_145 rfl ?_
    refine s_iconst (v := 1) dX4_findPolynomial_146 (by decide) ?_
    refine s_icmp_ne 159 dX4_findPolynomial_147 (by decide) (fun c147 => ?_) (fun c147 => absurd c147 (by decide))
    refine s_iconst (v := 0) dX4_findPolynomial_159 (by decide) ?_
    refine s_iconst (v := 0) dX4_findPolynomial_160 (by decide) ?_
    refine s_iconst (v := 1) dX4_findPolynomial_161 (by decide) ?_
    refine s_callS (As := [.int 0, .int 0, .int 1]) (rest := [.ref (ad 23 0)]) (n := 3) (fun l hl => c_X4_place G l hl ad (sset M45 12 0 (.inr (5, [.int c0, .int (nI t0), .ref (ad 13 0), .ref (ad 14 0), .ref (ad 15 0), .ref (ad 16 0), .ref (ad 17 0), .ref (ad 18 0), .int (nI r0), .ref (ad 19 0), .ref (ad 20 0), .ref (ad 21 0), .ref (ad 22 0), .ref (ad 23 0), .ref (ad 24 0), .int (jB false), .ref (ad 25 0)]))) 0 0 1 (by omega)) gX4_findPolynomial_X4_place rfl (by decide +kernel) rfl ⟨(Nat.le_of_ble_eq_true rfl), (Nat.le_of_ble_eq_true rfl)⟩ ⟨(Nat.le_of_ble_eq_true rfl), (Nat.le_of_ble_eq_true rfl)⟩ (Nat.le_of_ble_eq_true rfl) dX4_findPolynomial_162 rfl (fun r9 ad9 M9 h9 => ?_)
    obtain ⟨rfl, rfl, rfl⟩ := h9
    refine s_lconst (v := 1) dX4_findPolynomial_165 (by decide) ?_
    refine s_last (kd := 23) (ix := 0) (n := 220) (f := wk45) (j := pl3 0 0 1) (x := 1) ((sset_k _ _ (by decide)).trans (hm45.2.2.2.2.2.2.2.2.2.2.2.1))  (rfl) (by decide) (by decide) dX4_findPolynomial_166 ?_
    refine s_goto 394 dX4_findPolynomial_167 (by decide) ?_
    have hgd : good (kl3 2) := goodB_iff.mp (by decide)
    have hpl : pl (kl3 2) = pl3 0 0 1 := by decide
    have hw9 := one1_wr hv45 hgd 1
    rw [hpl] at hw9
    exact fp_tail X G ad M (sset (sset M45 12 0 (.inr (5, [.int c0, .int (nI t0), .ref (ad 13 0), .ref (ad 14 0), .ref (ad 15 0), .ref (ad 16 0), .ref (ad 17 0), .ref (ad 18 0), .int (nI r0), .ref (ad 19 0), .ref (ad 20 0), .ref (ad 21 0), .ref (ad 22 0), .ref (ad 23 0), .ref (ad 24 0), .int (jB false), .ref (ad 25 0)]))) 23 0 (.inl (gJ G, 220, .inr (.inl (vp_updL wk45 (pl3 0 0 1) 1))))) c0 t0 hd on tw dp cl gr r0 kd fl co sm (vp_updL wk45 (pl3 0 0 1) 1) sp false mu ⟨((sset_k _ _ (by decide)).trans (sset_self _ _ _ _)), ((sset_k _ _ (by decide)).trans ((sset_k _ _ (by decide)).trans (hm45.2.1))), ((sset_k _ _ (by decide)).trans ((sset_k _ _ (by decide)).trans (hm45.2.2.1))), ((sset_k _ _ (by decide)).trans ((sset_k _ _ (by decide)).trans (hm45.2.2.2.1))), ((sset_k _ _ (by decide)).trans ((sset_k _ _ (by decide)).trans (hm45.2.2.2.2.1))), ((sset_k _ _ (by decide)).trans ((sset_k _ _ (by decide)).trans (hm45.2.2.2.2.2.1))), ((sset_k _ _ (by decide)).trans ((sset_k _ _ (by decide)).trans (hm45.2.2.2.2.2.2.1))), ((sset_k _ _ (by decide)).trans ((sset_k _ _ (by decide)).trans (hm45.2.2.2.2.2.2.2.1))), ((sset_k _ _ (by decide)).trans ((sset_k _ _ (by decide)).trans (hm45.2.2.2.2.2.2.2.2.1))), ((sset_k _ _ (by decide)).trans ((sset_k _ _ (by decide)).trans (hm45.2.2.2.2.2.2.2.2.2.1))), ((sset_k _ _ (by decide)).trans ((sset_k _ _ (by decide)).trans (hm45.2.2.2.2.2.2.2.2.2.2.1))), (sset_self _ _ _ _), ((sset_k _ _ (by decide)).trans ((sset_k _ _ (by decide)).trans (hm45.2.2.2.2.2.2.2.2.2.2.2.2.1))), ((sset_k _ _ (by decide)).trans ((sset_k _ _ (by decide)).trans (hm45.2.2.2.2.2.2.2.2.2.2.2.2.2)))⟩ (hs45 |>.set (P := pMd) (by simp [pMd]) _ |>.set (P := pMd) (by simp [pMd]) _) cl gr t htt (one1 (kl3 2) 1) (one1_gz hgd 1) hw9 (fun _ _ _ _ => rfl) (fun _ _ => rfl) False (one1 (kl3 2) 1) ⟨fun q => q.elim (fun q => nomatch q) (fun q => q (one1_ft (v := 1) hgd (by decide))), fun q => q.elim⟩ (fun q => q.elim) (fun _ => rfl) _ _
set_option maxHeartbeats 4000000 in
set_option maxRecDepth 100000 in
theorem c_X4_fpNum (G : sG) (l : Launch) (hl : l.stackTraces = false) (ad : sAd) (M : sM) (c0 : Int32) (t0 : Nat) (hd : Nat → Int32) (on : Nat → Int32) (tw : Nat → Int32) (dp : Nat → Int32) (cl : Nat → Int32) (gr : Nat → Int32) (r0 : Nat) (kd : Nat → Int32) (fl : Nat → Int32) (co : Nat → Int32) (sm : Nat → Int32) (wk : Nat → Int64) (sp : Nat → Int64) (b0 : Bool) (mu : Nat → Int32) (hm : hMd G ad M (c0, t0, hd, on, tw, dp, cl, gr, r0, kd, fl, co, sm, wk, sp, b0, mu)) (t : Nat) (htt : t < 120) (hh : hd t = -2) (v : Int32) (hv : -1000000 ≤ v.toInt ∧ v.toInt ≤ 1000000) (hon : on t = v) (htw : tw t = -1) : sMet G l yX4_findPolynomial mX4_findPolynomial [.ref (ad 12 0), .int (nI t)] ad M (fun r ad' M' => ad = ad' ∧ r = none ∧ ∃ cl' gr' wk' b', hMd G ad M' (c0, t0, hd, on, tw, dp, cl', gr', r0, kd, fl, co, sm, wk', sp, b', mu) ∧ sSame pMd M M' ∧ (∀ j k, j ≠ t → k < 220 → cl' (220 * j + k) = cl (220 * j + k)) ∧ (∀ j, j ≠ t → gr' j = gr j) ∧ (gr' t ≠ 0 ↔ False) ∧ CRk cl' t (one1 0 v.toInt)) (fun _ _ _ => False) := by
  refine sMet.of hl (by decide +kernel) rfl rfl rfl rfl (Nat.le_of_ble_eq_true rfl) (fun X => ?_)
  refine s_lv (lv' := [some (.ref (ad 12 0)), some (.int (nI t)), none, none, none]) rfl ?_
  refine s_aload_n dX4_findPolynomial_0 rfl ?_
  refine s_get (kd := 12) (ix := 0) (ci := 5) (fs := [.int c0, .int (nI t0), .ref (ad 13 0), .ref (ad 14 0), .ref (ad 15 0), .ref (ad 16 0), .ref (ad 17 0), .ref (ad 18 0), .int (nI r0), .ref (ad 19 0), .ref (ad 20 0), .ref (ad 21 0), .ref (ad 22 0), .ref (ad 23 0), .ref (ad 24 0), .int (jB b0), .ref (ad 25 0)])  hm.1 rfl in_X4_findPolynomial_X4 3 (by decide) (by decide +kernel) rfl rfl dX4_findPolynomial_1 ?_
  refine s_iload_n dX4_findPolynomial_4 rfl ?_
  refine s_iald (kd := 14) (ix := 0) (n := 120) (f := on) (j := t) hm.2.2.1 (rfl) (by omega) (by decide) dX4_findPolynomial_5 ?_
  refine s_eqi (y := v) (hon) ?_
  refine s_istore_n dX4_findPolynomial_6 rfl rfl ?_
  refine s_lv (lv' := [some (.ref (ad 12 0)), some (.int (nI t)), some (.int v), none, none]) rfl ?_
  refine s_aload_n dX4_findPolynomial_7 rfl ?_
  refine s_get (kd := 12) (ix := 0) (ci := 5) (fs := [.int c0, .int (nI t0), .ref (ad 13 0), .ref (ad 14 0), .ref (ad 15 0), .ref (ad 16 0), .ref (ad 17 0), .ref (ad 18 0), .int (nI r0), .ref (ad 19 0), .ref (ad 20 0), .ref (ad 21 0), .ref (ad 22 0), .ref (ad 23 0), .ref (ad 24 0), .int (jB b0), .ref (ad 25 0)])  hm.1 rfl in_X4_findPolynomial_X4 4 (by decide) (by decide +kernel) rfl rfl dX4_findPolynomial_8 ?_
  refine s_iload_n dX4_findPolynomial_11 rfl ?_
  refine s_iald (kd := 15) (ix := 0) (n := 120) (f := tw) (j := t) hm.2.2.2.1 (rfl) (by omega) (by decide) dX4_findPolynomial_12 ?_
  refine s_eqi (y := (-1)) (htw) ?_
  refine s_istore_n dX4_findPolynomial_13 rfl rfl ?_
  refine s_lv (lv' := [some (.ref (ad 12 0)), some (.int (nI t)), some (.int v), some (.int (-1)), none]) rfl ?_
  refine s_iconst (v := 0) dX4_findPolynomial_14 (by decide) ?_
  refine s_istore dX4_findPolynomial_15 rfl rfl ?_
  refine s_lv (lv' := [some (.ref (ad 12 0)), some (.int (nI t)), some (.int v), some (.int (-1)), some (.int 0)]) rfl ?_
  refine l_fp0 X G ad M c0 t0 hd on tw dp cl gr r0 kd fl co sm sp b0 mu t v (-1) _ (fun M46 wk46  hm46 hs46 hv46 => ?_) (220) 0 M wk  (by omega) ⟨hm.1, hm.2.1, hm.2.2.1, hm.2.2.2.1, hm.2.2.2.2.1, hm.2.2.2.2.2.1, hm.2.2.2.2.2.2.1, hm.2.2.2.2.2.2.2.1, hm.2.2.2.2.2.2.2.2.1, hm.2.2.2.2.2.2.2.2.2.1, hm.2.2.2.2.2.2.2.2.2.2.1, hm.2.2.2.2.2.2.2.2.2.2.2.1, hm.2.2.2.2.2.2.2.2.2.2.2.2.1, hm.2.2.2.2.2.2.2.2.2.2.2.2.2⟩ sSame.rfl (fun k hk => absurd hk (Nat.not_lt_zero k))
  refine s_aload_n dX4_findPolynomial_39 rfl ?_
  refine s_aload_n dX4_findPolynomial_40 rfl ?_
  refine s_get (kd := 12) (ix := 0) (ci := 5) (fs := [.int c0, .int (nI t0), .ref (ad 13 0), .ref (ad 14 0), .ref (ad 15 0), .ref (ad 16 0), .ref (ad 17 0), .ref (ad 18 0), .int (nI r0), .ref (ad 19 0), .ref (ad 20 0), .ref (ad 21 0), .ref (ad 22 0), .ref (ad 23 0), .ref (ad 24 0), .int (jB b0), .ref (ad 25 0)])  hm46.1 rfl in_X4_findPolynomial_X4 2 (by decide) (by decide +kernel) rfl rfl dX4_findPolynomial_41 ?_
  refine s_iload_n dX4_findPolynomial_44 rfl ?_
  refine s_iald (kd := 13) (ix := 0) (n := 120) (f := hd) (j := t) hm46.2.1 (rfl) (by omega) (by decide) dX4_findPolynomial_45 ?_
  refine s_eqi (y := (-2)) (hh) ?_
  refine s_if_lt 75 dX4_findPolynomial_46 (by decide) (fun c46 => ?_) (fun c46 => absurd (by decide) c46)
  refine s_iconst (v := 0) dX4_findPolynomial_75 (by decide) ?_
  refine s_eqi (y := jB false) rfl ?_
  refine s_put (kd := 12) (ix := 0) (ci := 5) (v := .int (jB false)) (ty := tyX4 15) (fs := [.int c0, .int (nI t0), .ref (ad 13 0), .ref (ad 14 0), .ref (ad 15 0), .ref (ad 16 0), .ref (ad 17 0), .ref (ad 18 0), .int (nI r0), .ref (ad 19 0), .ref (ad 20 0), .ref (ad 21 0), .ref (ad 22 0), .ref (ad 23 0), .ref (ad 24 0), .int (jB b0), .ref (ad 25 0)])  tyX4 tyX4_ok nmX4 hm46.1 rfl in_X4_findPolynomial_X4 15 (by decide) (by decide +kernel) rfl rfl (tyX4_ok 15 (by decide)) (rfl) (rfl) (Nat.le_of_ble_eq_true rfl) dX4_findPolynomial_76 ?_
  refine s_M (M' := (sset M46 12 0 (.inr (5, [.int c0, .int (nI t0), .ref (ad 13 0), .ref (ad 14 0), .ref (ad 15 0), .ref (ad 16 0), .ref (ad 17 0), .ref (ad 18 0), .int (nI r0), .ref (ad 19 0), .ref (ad 20 0), .ref (ad 21 0), .ref (ad 22 0), .ref (ad 23 0), .ref (ad 24 0), .int (jB false), .ref (ad 25 0)])))) rfl ?_
  refine s_aload_n dX4_findPolynomial_79 rfl ?_
  refine s_get (kd := 12) (ix := 0) (ci := 5) (fs := [.int c0, .int (nI t0), .ref (ad 13 0), .ref (ad 14 0), .ref (ad 15 0), .ref (ad 16 0), .ref (ad 17 0), .ref (ad 18 0), .int (nI r0), .ref (ad 19 0), .ref (ad 20 0), .ref (ad 21 0), .ref (ad 22 0), .ref (ad 23 0), .ref (ad 24 0), .int (jB false), .ref (ad 25 0)])  (sset_self _ _ _ _) rfl in_X4_findPolynomial_X4 2 (by decide) (by decide +kernel) rfl rfl dX4_findPolynomial_80 ?_
  refine s_iload_n dX4_findPolynomial_83 rfl ?_
  refine s_iald (kd := 13) (ix := 0) (n := 120) (f := hd) (j := t) ((sset_k _ _ (by decide)).trans (hm46.2.1)) (rfl) (by omega) (by decide) dX4_findPolynomial_84 ?_
  refine s_eqi (y := (-2)) (hh) ?_
  refine s_tableIn 170 dX4_findPolynomial_85 (by decide) (by decide) rfl (by decide) ?_
  refine s_aload_n dX4_findPolynomial_170 rfl ?_
  refine s_get (kd := 12) (ix := 0) (ci := 5) (fs := [.int c0, .int (nI t0), .ref (ad 13 0), .ref (ad 14 0), .ref (ad 15 0), .ref (ad 16 0), .ref (ad 17 0), .ref (ad 18 0), .int (nI r0), .ref (ad 19 0), .ref (ad 20 0), .ref (ad 21 0), .ref (ad 22 0), .ref (ad 23 0), .ref (ad 24 0), .int (jB false), .ref (ad 25 0)])  (sset_self _ _ _ _) rfl in_X4_findPolynomial_X4 13 (by decide) (by decide +kernel) rfl rfl dX4_findPolynomial_171 ?_
  refine s_iconst (v := 0) dX4_findPolynomial_174 (by decide) ?_
  refine s_iload_n dX4_findPolynomial_175 rfl ?_
  refine s_i2l dX4_findPolynomial_176 ?_
  refine s_last (kd := 23) (ix := 0) (n := 220) (f := wk46) (j := 0) (x := v.toInt64) ((sset_k _ _ (by decide)).trans (hm46.2.2.2.2.2.2.2.2.2.2.2.1))  (rfl) (by decide) (by decide) dX4_findPolynomial_177 ?_
  refine s_goto 394 dX4_findPolynomial_178 (by decide) ?_
  have hgd : good 0 := goodB_iff.mp (by decide)
  have hpl : pl 0 = 0 := by decide
  have hw9 := one1_wr hv46 hgd v.toInt64
  rw [hpl] at hw9
  exact fp_tail X G ad M (sset (sset M46 12 0 (.inr (5, [.int c0, .int (nI t0), .ref (ad 13 0), .ref (ad 14 0), .ref (ad 15 0), .ref (ad 16 0), .ref (ad 17 0), .ref (ad 18 0), .int (nI r0), .ref (ad 19 0), .ref (ad 20 0), .ref (ad 21 0), .ref (ad 22 0), .ref (ad 23 0), .ref (ad 24 0), .int (jB false), .ref (ad 25 0)]))) 23 0 (.inl (gJ G, 220, .inr (.inl (vp_updL wk46 0 v.toInt64))))) c0 t0 hd on tw dp cl gr r0 kd fl co sm (vp_updL wk46 0 v.toInt64) sp false mu ⟨((sset_k _ _ (by decide)).trans (sset_self _ _ _ _)), ((sset_k _ _ (by decide)).trans ((sset_k _ _ (by decide)).trans (hm46.2.1))), ((sset_k _ _ (by decide)).trans ((sset_k _ _ (by decide)).trans (hm46.2.2.1))), ((sset_k _ _ (by decide)).trans ((sset_k _ _ (by decide)).trans (hm46.2.2.2.1))), ((sset_k _ _ (by decide)).trans ((sset_k _ _ (by decide)).trans (hm46.2.2.2.2.1))), ((sset_k _ _ (by decide)).trans ((sset_k _ _ (by decide)).trans (hm46.2.2.2.2.2.1))), ((sset_k _ _ (by decide)).trans ((sset_k _ _ (by decide)).trans (hm46.2.2.2.2.2.2.1))), ((sset_k _ _ (by decide)).trans ((sset_k _ _ (by decide)).trans (hm46.2.2.2.2.2.2.2.1))), ((sset_k _ _ (by decide)).trans ((sset_k _ _ (by decide)).trans (hm46.2.2.2.2.2.2.2.2.1))), ((sset_k _ _ (by decide)).trans ((sset_k _ _ (by decide)).trans (hm46.2.2.2.2.2.2.2.2.2.1))), ((sset_k _ _ (by decide)).trans ((sset_k _ _ (by decide)).trans (hm46.2.2.2.2.2.2.2.2.2.2.1))), (sset_self _ _ _ _), ((sset_k _ _ (by decide)).trans ((sset_k _ _ (by decide)).trans (hm46.2.2.2.2.2.2.2.2.2.2.2.2.1))), ((sset_k _ _ (by decide)).trans ((sset_k _ _ (by decide)).trans (hm46.2.2.2.2.2.2.2.2.2.2.2.2.2)))⟩ (hs46 |>.set (P := pMd) (by simp [pMd]) _ |>.set (P := pMd) (by simp [pMd]) _) cl gr t htt (one1 0 v.toInt64.toInt) (one1_gz hgd _) hw9 (fun _ _ _ _ => rfl) (fun _ _ => rfl) False (one1 0 v.toInt) ⟨fun q => q.elim (fun q => nomatch q) (fun q => q (one1_ft hgd (by rw [i32_64]; exact hv))), fun q => q.elim⟩ (fun q => q.elim) (fun _ => by rw [i32_64]) _ _
