def wuX3_deep : List Cond := .code yX3_deep cX3_deep 2 (some .int) :: wU
abbrev mX3_deep : sMeth := (cX3_deep, 2, RX3, wuX3_deep, { frames := 8, cells := 1, slots := 6, locals := 125 }, (some .int), "deep", [])
theorem in_X3_deep_X2 : ∀ w ∈ wsX20, w ∈ wuX3_deep := fun w hw => List.mem_cons_of_mem _ (inU (iu_X2 w hw).1 (iu_X2 w hw).2)
theorem gu_X3_deep_existingTree : GoodIn wuX3_deep (wsV RX3 158 RX3 yX3_existingTree wuX3_existingTree) := goodVU (by decide +kernel)
set_option maxHeartbeats 4000000 in
set_option maxRecDepth 100000 in
theorem c_X3_deep (G : sG) (l : Launch) (hl : l.stackTraces = false) (ad : sAd) (M : sM) (α : sAl) (hA : AI α) (κ : sCk) (h : hCk G ad M κ) (hC : CI α κ) (t : Int32) : sMet G l yX3_deep mX3_deep [.ref (ad 0 0), .int t] ad M (fun r ad' M' => ad = ad' ∧ M = M' ∧ ∃ j, j < aT α ∧ t = nI j ∧ r = some (.int (nI (aD α j)))) (fun E ad' M' => ad = ad' ∧ M = M' ∧ E = eA ∧ ¬ isT α t) := by
  obtain ⟨e1, e2, ht, hm, hC1, hC2, hC3, hC4, f, hR⟩ := id hC
  have hA1 := hA.1
  have hA2 := hA.2.1
  have hr : kRc κ ≤ 60 := by omega
  refine sMet.of hl (by decide +kernel) rfl rfl rfl rfl (Nat.le_of_ble_eq_true rfl) (fun X => ?_)
  refine s_lv (lv' := [some (.ref (ad 0 0)), some (.int t)]) rfl ?_
  refine s_aload_n dX3_deep_0 rfl ?_
  refine s_iload_n dX3_deep_1 rfl ?_
  refine s_xcallV (As := [.int t]) (rest := []) (n := 1) (kd := 0) (ix := 0) (fun l hl => c_X3_existingTree G l hl ad M κ h ht hm hr t) gu_X3_deep_existingTree rfl (by decide +kernel) h.1 rfl rfl ⟨(Nat.le_of_ble_eq_true rfl), (Nat.le_of_ble_eq_true rfl)⟩ ⟨(Nat.le_of_ble_eq_true rfl), (Nat.le_of_ble_eq_true rfl)⟩ (Nat.le_of_ble_eq_true rfl) dX3_deep_2 rfl (fun E adt Mt ht => ?_) (fun rt adt Mt ht => ?_)
  · exact s_out rfl (Nat.le_of_ble_eq_true rfl) (Nat.le_of_ble_eq_true rfl) (by obtain ⟨rfl, rfl, rfl, q⟩ := ht; exact ⟨rfl, rfl, rfl, fun ⟨j, hj, z⟩ => q j (by omega) z⟩)
  obtain ⟨rfl, rfl, jt, hjt, hijt, rfl⟩ := ht
  refine s_getN (kd := 2) (ix := jt) (ci := 3) (fs := [.ref (ad 3 jt), .int ((kTr κ jt).1), .int ((kTr κ jt).2.1), .int ((kTr κ jt).2.2.1), .int (nI (kTr κ jt).2.2.2.1), .int (nI (kTr κ jt).2.2.2.2)]) (host := "SmallChecker") ((h.2.2.2.2.1 jt (by omega))) rfl in_X3_deep_X2 4 (by decide) (by decide +kernel) rfl rfl dX3_deep_5 ?_
  refine s_eqi (y := nI (aD α jt)) (by rw [(hC1 jt (by omega)).2]) ?_
  exact s_iret rfl (rfl) dX3_deep_8 (Nat.le_of_ble_eq_true rfl) (Nat.le_of_ble_eq_true rfl) (⟨rfl, rfl, jt, by omega, hijt, rfl⟩)
def wuX3_alike : List Cond := .code yX3_alike cX3_alike 3 (some .boolean) :: wU
abbrev mX3_alike : sMeth := (cX3_alike, 3, RX3, wuX3_alike, { frames := 8, cells := 2, slots := 12, locals := 125 }, (some .boolean), "alike", [])
theorem in_X3_alike_X2 : ∀ w ∈ wsX20, w ∈ wuX3_alike := fun w hw => List.mem_cons_of_mem _ (inU (iu_X2 w hw).1 (iu_X2 w hw).2)
theorem gu_X3_alike_existingTree : GoodIn wuX3_alike (wsV RX3 158 RX3 yX3_existingTree wuX3_existingTree) := goodVU (by decide +kernel)
set_option maxHeartbeats 4000000 in
set_option maxRecDepth 100000 in
theorem c_X3_alike (G : sG) (l : Launch) (hl : l.stackTraces = false) (ad : sAd) (M : sM) (α : sAl) (hA : AI α) (κ : sCk) (h : hCk G ad M κ) (hC : CI α κ) (a b : Int32) : sMet G l yX3_alike mX3_alike [.ref (ad 0 0), .int a, .int b] ad M (fun r ad' M' => ad = ad' ∧ M = M' ∧ ∃ ja jb, ja < aT α ∧ jb < aT α ∧ a = nI ja ∧ b = nI jb ∧ r = some (.int (jB (decide (aM α ja = aM α jb))))) (fun E ad' M' => ad = ad' ∧ M = M' ∧ E = eA ∧ (¬ isT α a ∨ ¬ isT α b)) := by
  obtain ⟨e1, e2, ht, hm, hC1, hC2, hC3, hC4, f, hR⟩ := id hC
  have hA1 := hA.1
  have hA2 := hA.2.1
  have hr : kRc κ ≤ 60 := by omega
  refine sMet.of hl (by decide +kernel) rfl rfl rfl rfl (Nat.le_of_ble_eq_true rfl) (fun X => ?_)
  refine s_lv (lv' := [some (.ref (ad 0 0)), some (.int a), some (.int b)]) rfl ?_
  refine s_aload_n dX3_alike_0 rfl ?_
  refine s_iload_n dX3_alike_1 rfl ?_
  refine s_xcallV (As := [.int a]) (rest := []) (n := 1) (kd := 0) (ix := 0) (fun l hl => c_X3_existingTree G l hl ad M κ h ht hm hr a) gu_X3_alike_existingTree rfl (by decide +kernel) h.1 rfl rfl ⟨(Nat.le_of_ble_eq_true rfl), (Nat.le_of_ble_eq_true rfl)⟩ ⟨(Nat.le_of_ble_eq_true rfl), (Nat.le_of_ble_eq_true rfl)⟩ (Nat.le_of_ble_eq_true rfl) dX3_alike_2 rfl (fun E ada Ma ha => ?_) (fun ra ada Ma ha => ?_)
  · exact s_out rfl (Nat.le_of_ble_eq_true rfl) (Nat.le_of_ble_eq_true rfl) (by obtain ⟨rfl, rfl, rfl, q⟩ := ha; exact ⟨rfl, rfl, rfl, Or.inl (fun ⟨j, hj, z⟩ => q j (by omega) z)⟩)
  obtain ⟨rfl, rfl, ja, hja, hija, rfl⟩ := ha
  refine s_getN (kd := 2) (ix := ja) (ci := 3) (fs := [.ref (ad 3 ja), .int ((kTr κ ja).1), .int ((kTr κ ja).2.1), .int ((kTr κ ja).2.2.1), .int (nI (kTr κ ja).2.2.2.1), .int (nI (kTr κ ja).2.2.2.2)]) (host := "SmallChecker") ((h.2.2.2.2.1 ja (by omega))) rfl in_X3_alike_X2 5 (by decide) (by decide +kernel) rfl rfl dX3_alike_5 ?_
  refine s_eqi (y := nI (aM α ja)) (by rw [(hC1 ja (by omega)).2]) ?_
  refine s_aload_n dX3_alike_8 rfl ?_
  refine s_iload_n dX3_alike_9 rfl ?_
  refine s_xcallV (As := [.int b]) (rest := [.int (nI (aM α ja))]) (n := 1) (kd := 0) (ix := 0) (fun l hl => c_X3_existingTree G l hl ad M κ h ht hm hr b) gu_X3_alike_existingTree rfl (by decide +kernel) h.1 rfl rfl ⟨(Nat.le_of_ble_eq_true rfl), (Nat.le_of_ble_eq_true rfl)⟩ ⟨(Nat.le_of_ble_eq_true rfl), (Nat.le_of_ble_eq_true rfl)⟩ (Nat.le_of_ble_eq_true rfl) dX3_alike_10 rfl (fun E adb Mb hb => ?_) (fun rb adb Mb hb => ?_)
  · exact s_out rfl (Nat.le_of_ble_eq_true rfl) (Nat.le_of_ble_eq_true rfl) (by obtain ⟨rfl, rfl, rfl, q⟩ := hb; exact ⟨rfl, rfl, rfl, Or.inr (fun ⟨j, hj, z⟩ => q j (by omega) z)⟩)
  obtain ⟨rfl, rfl, jb, hjb, hijb, rfl⟩ := hb
  refine s_getN (kd := 2) (ix := jb) (ci := 3) (fs := [.ref (ad 3 jb), .int ((kTr κ jb).1), .int ((kTr κ jb).2.1), .int ((kTr κ jb).2.2.1), .int (nI (kTr κ jb).2.2.2.1), .int (nI (kTr κ jb).2.2.2.2)]) (host := "SmallChecker") ((h.2.2.2.2.1 jb (by omega))) rfl in_X3_alike_X2 5 (by decide) (by decide +kernel) rfl rfl dX3_alike_13 ?_
  refine s_eqi (y := nI (aM α jb)) (by rw [(hC1 jb (by omega)).2]) ?_
  refine s_icmp_ne 23 dX3_alike_16 (by decide) (fun c16 => ?_) (fun c16 => ?_)
  · refine s_iconst (v := 0) dX3_alike_23 (by decide) ?_
    exact s_iret rfl (rfl) dX3_alike_24 (Nat.le_of_ble_eq_true rfl) (Nat.le_of_ble_eq_true rfl) (⟨rfl, rfl, ja, jb, by omega, by omega, hija, hijb, by rw [decide_eq_false (fun q => c16 (by rw [q]))]; rfl⟩)
  · refine s_iconst (v := 1) dX3_alike_19 (by decide) ?_
    refine s_goto 24 dX3_alike_20 (by decide) ?_
    exact s_iret rfl (rfl) dX3_alike_24 (Nat.le_of_ble_eq_true rfl) (Nat.le_of_ble_eq_true rfl) (⟨rfl, rfl, ja, jb, by omega, by omega, hija, hijb, by rw [decide_eq_true ((nI_eq (a := aM α ja) (b := aM α jb) (by have := (hA.2.2.1 ja (by omega)).2.1.1; omega) (by have := (hA.2.2.1 jb (by omega)).2.1.1; omega)).mp c16)]; rfl⟩)
def wuX3_terms : List Cond := .code yX3_terms cX3_terms 3 (some .int) :: wU
abbrev mX3_terms : sMeth := (cX3_terms, 3, RX3, wuX3_terms, { frames := 8, cells := 1, slots := 6, locals := 125 }, (some .int), "terms", [])
theorem in_X3_terms_X0 : ∀ w ∈ wsX00, w ∈ wuX3_terms := fun w hw => List.mem_cons_of_mem _ (inU (iu_X0 w hw).1 (iu_X0 w hw).2)
theorem in_X3_terms_X2 : ∀ w ∈ wsX20, w ∈ wuX3_terms := fun w hw => List.mem_cons_of_mem _ (inU (iu_X2 w hw).1 (iu_X2 w hw).2)
theorem gu_X3_terms_existingTree : GoodIn wuX3_terms (wsV RX3 158 RX3 yX3_existingTree wuX3_existingTree) := goodVU (by decide +kernel)
theorem gu_X3_terms_isTooGreat : GoodIn wuX3_terms (wsX0_isTooGreat) := goodUW (by decide +kernel)
set_option maxHeartbeats 4000000 in
set_option maxRecDepth 100000 in
theorem c_X3_terms (G : sG) (l : Launch) (hl : l.stackTraces = false) (ad : sAd) (M : sM) (α : sAl) (hA : AI α) (κ : sCk) (h : hCk G ad M κ) (hC : CI α κ) (t : Int32) : sMet G l yX3_terms mX3_terms [.ref (ad 0 0), .int t] ad M (fun r ad' M' => ad = ad' ∧ M = M' ∧ ∃ j v, j < aT α ∧ t = nI j ∧ r = some (.int v) ∧ tsRel α j v) (fun E ad' M' => ad = ad' ∧ M = M' ∧ E = eA ∧ ¬ isT α t) := by
  obtain ⟨e1, e2, ht, hm, hC1, hC2, hC3, hC4, f, hR⟩ := id hC
  have hA1 := hA.1
  have hA2 := hA.2.1
  have hr : kRc κ ≤ 60 := by omega
  refine sMet.of hl (by decide +kernel) rfl rfl rfl rfl (Nat.le_of_ble_eq_true rfl) (fun X => ?_)
  refine s_lv (lv' := [some (.ref (ad 0 0)), some (.int t), none]) rfl ?_
  refine s_aload_n dX3_terms_0 rfl ?_
  refine s_iload_n dX3_terms_1 rfl ?_
  refine s_xcallV (As := [.int t]) (rest := []) (n := 1) (kd := 0) (ix := 0) (fun l hl => c_X3_existingTree G l hl ad M κ h ht hm hr t) gu_X3_terms_existingTree rfl (by decide +kernel) h.1 rfl rfl ⟨(Nat.le_of_ble_eq_true rfl), (Nat.le_of_ble_eq_true rfl)⟩ ⟨(Nat.le_of_ble_eq_true rfl), (Nat.le_of_ble_eq_true rfl)⟩ (Nat.le_of_ble_eq_true rfl) dX3_terms_2 rfl (fun E adt Mt ht => ?_) (fun rt adt Mt ht => ?_)
  · exact s_out rfl (Nat.le_of_ble_eq_true rfl) (Nat.le_of_ble_eq_true rfl) (by obtain ⟨rfl, rfl, rfl, q⟩ := ht; exact ⟨rfl, rfl, rfl, fun ⟨j, hj, z⟩ => q j (by omega) z⟩)
  obtain ⟨rfl, rfl, jt, hjt, hijt, rfl⟩ := ht
  refine s_getN (kd := 2) (ix := jt) (ci := 3) (fs := [.ref (ad 3 jt), .int ((kTr κ jt).1), .int ((kTr κ jt).2.1), .int ((kTr κ jt).2.2.1), .int (nI (kTr κ jt).2.2.2.1), .int (nI (kTr κ jt).2.2.2.2)]) (host := "SmallChecker") ((h.2.2.2.2.1 jt (by omega))) rfl in_X3_terms_X2 0 (by decide) (by decide +kernel) rfl rfl dX3_terms_5 ?_
  refine s_astore_n dX3_terms_8 rfl rfl ?_
  refine s_lv (lv' := [some (.ref (ad 0 0)), some (.int t), some (.ref (ad 3 jt))]) rfl ?_
  refine s_aload_n dX3_terms_9 rfl ?_
  refine s_callVN (As := []) (rest := []) (n := 0) (kd := 3) (ix := jt) (fun l hl => c_X0_isTooGreat G l hl ad M jt (kPo κ jt).1 (kPo κ jt).2.1 (kPo κ jt).2.2.1 (kPo κ jt).2.2.2.1 (kPo κ jt).2.2.2.2 (h.2.2.2.2.2.1 jt (by omega))) gu_X3_terms_isTooGreat rfl (host := "SmallChecker") (by decide +kernel) (by decide +kernel) (by decide +kernel) (by decide +kernel) (by decide +kernel) ((h.2.2.2.2.2.1 jt (by omega)).1) rfl rfl ⟨(Nat.le_of_ble_eq_true rfl), (Nat.le_of_ble_eq_true rfl)⟩ ⟨(Nat.le_of_ble_eq_true rfl), (Nat.le_of_ble_eq_true rfl)⟩ (Nat.le_of_ble_eq_true rfl) dX3_terms_10 rfl (fun r9 ad9 M9 h9 => ?_)
  obtain ⟨rfl, rfl, rfl⟩ := h9
  refine s_if_eq 20 dX3_terms_13 (by decide) (fun c13 => ?_) (fun c13 => ?_)
  · refine s_aload_n dX3_terms_20 rfl ?_
    refine s_getN (kd := 3) (ix := jt) (ci := 1) (fs := [.ref (ad 4 jt), .ref (ad 5 jt), .int (nI (kPo κ jt).1), .int ((kPo κ jt).2.1), .int (jB (kPo κ jt).2.2.1)]) (host := "SmallChecker") ((h.2.2.2.2.2.1 jt (by omega)).1) rfl in_X3_terms_X0 2 (by decide) (by decide +kernel) rfl rfl dX3_terms_21 ?_
    exact s_iret rfl (rfl) dX3_terms_24 (Nat.le_of_ble_eq_true rfl) (Nat.le_of_ble_eq_true rfl) (⟨rfl, rfl, jt, _, by omega, hijt, rfl, Or.inr ⟨(fun q => by rw [← hC.gr (j := jt) (by omega), jB_0.mp c13] at q; cases q), (kPo κ jt).1, rfl, by have z := hC.cn hA (j := jt) (by omega); rw [if_neg (by rw [jB_0.mp c13]; decide)] at z; exact z⟩⟩)
  · refine s_iconst (v := -1) dX3_terms_16 (by decide) ?_
    refine s_goto 24 dX3_terms_17 (by decide) ?_
    exact s_iret rfl (rfl) dX3_terms_24 (Nat.le_of_ble_eq_true rfl) (Nat.le_of_ble_eq_true rfl) (⟨rfl, rfl, jt, _, by omega, hijt, rfl, Or.inl ⟨by rw [← hC.gr (j := jt) (by omega)]; exact Bool.of_not_eq_false (fun q => c13 (jB_0.mpr q)), rfl⟩⟩)
def wuX3_term : List Cond := .code yX3_term cX3_term 6 (some .int) :: wU
abbrev mX3_term : sMeth := (cX3_term, 6, RX3, wuX3_term, { frames := 8, cells := 2, slots := 12, locals := 125 }, (some .int), "term", [])
theorem in_X3_term_X2 : ∀ w ∈ wsX20, w ∈ wuX3_term := fun w hw => List.mem_cons_of_mem _ (inU (iu_X2 w hw).1 (iu_X2 w hw).2)
theorem gu_X3_term_existingTree : GoodIn wuX3_term (wsV RX3 158 RX3 yX3_existingTree wuX3_existingTree) := goodVU (by decide +kernel)
theorem gu_X3_term_isTooGreat : GoodIn wuX3_term (wsX0_isTooGreat) := goodUW (by decide +kernel)
theorem gu_X3_term_isPower : GoodIn wuX3_term (va_wsS RX3 163 yX3_isPower wsX3_isPower) := goodUW (by decide +kernel)
theorem gu_X3_term_numberAt : GoodIn wuX3_term (wsX0_numberAt) := goodUW (by decide +kernel)
set_option maxHeartbeats 4000000 in
set_option maxRecDepth 100000 in
theorem c_X3_term (G : sG) (l : Launch) (hl : l.stackTraces = false) (ad : sAd) (M : sM) (α : sAl) (hA : AI α) (κ : sCk) (h : hCk G ad M κ) (hC : CI α κ) (t i j k : Int32) : sMet G l yX3_term mX3_term [.ref (ad 0 0), .int t, .int i, .int j, .int k] ad M (fun r ad' M' => ad = ad' ∧ M = M' ∧ ∃ jt v, jt < aT α ∧ t = nI jt ∧ ¬ aGr α jt ∧ r = some (.int v) ∧ tmRel α jt i j k v) (fun E ad' M' => ad = ad' ∧ M = M' ∧ ((E = eA ∧ ¬ isT α t) ∨ (E = eS ∧ ∃ jt, jt < aT α ∧ t = nI jt ∧ aGr α jt))) := by
  obtain ⟨e1, e2, ht, hm, hC1, hC2, hC3, hC4, f, hR⟩ := id hC
  have hA1 := hA.1
  have hA2 := hA.2.1
  have hr : kRc κ ≤ 60 := by omega
  refine sMet.of hl (by decide +kernel) rfl rfl rfl rfl (Nat.le_of_ble_eq_true rfl) (fun X => ?_)
  refine s_lv (lv' := [some (.ref (ad 0 0)), some (.int t), some (.int i), some (.int j), some (.int k), none]) rfl ?_
  refine s_aload_n dX3_term_0 rfl ?_
  refine s_iload_n dX3_term_1 rfl ?_
  refine s_xcallV (As := [.int t]) (rest := []) (n := 1) (kd := 0) (ix := 0) (fun l hl => c_X3_existingTree G l hl ad M κ h ht hm hr t) gu_X3_term_existingTree rfl (by decide +kernel) h.1 rfl rfl ⟨(Nat.le_of_ble_eq_true rfl), (Nat.le_of_ble_eq_true rfl)⟩ ⟨(Nat.le_of_ble_eq_true rfl), (Nat.le_of_ble_eq_true rfl)⟩ (Nat.le_of_ble_eq_true rfl) dX3_term_2 rfl (fun E adt Mt ht => ?_) (fun rt adt Mt ht => ?_)
  · exact s_out rfl (Nat.le_of_ble_eq_true rfl) (Nat.le_of_ble_eq_true rfl) (by obtain ⟨rfl, rfl, rfl, q⟩ := ht; exact ⟨rfl, rfl, Or.inl ⟨rfl, fun ⟨j, hj, z⟩ => q j (by omega) z⟩⟩)
  obtain ⟨rfl, rfl, jt, hjt, hijt, rfl⟩ := ht
  refine s_getN (kd := 2) (ix := jt) (ci := 3) (fs := [.ref (ad 3 jt), .int ((kTr κ jt).1), .int ((kTr κ jt).2.1), .int ((kTr κ jt).2.2.1), .int (nI (kTr κ jt).2.2.2.1), .int (nI (kTr κ jt).2.2.2.2)]) (host := "SmallChecker") ((h.2.2.2.2.1 jt (by omega))) rfl in_X3_term_X2 0 (by decide) (by decide +kernel) rfl rfl dX3_term_5 ?_
  refine s_astore dX3_term_8 rfl rfl ?_
  refine s_lv (lv' := [some (.ref (ad 0 0)), some (.int t), some (.int i), some (.int j), some (.int k), some (.ref (ad 3 jt))]) rfl ?_
  refine s_aload dX3_term_10 rfl ?_
  refine s_callVN (As := []) (rest := []) (n := 0) (kd := 3) (ix := jt) (fun l hl => c_X0_isTooGreat G l hl ad M jt (kPo κ jt).1 (kPo κ jt).2.1 (kPo κ jt).2.2.1 (kPo κ jt).2.2.2.1 (kPo κ jt).2.2.2.2 (h.2.2.2.2.2.1 jt (by omega))) gu_X3_term_isTooGreat rfl (host := "SmallChecker") (by decide +kernel) (by decide +kernel) (by decide +kernel) (by decide +kernel) (by decide +kernel) ((h.2.2.2.2.2.1 jt (by omega)).1) rfl rfl ⟨(Nat.le_of_ble_eq_true rfl), (Nat.le_of_ble_eq_true rfl)⟩ ⟨(Nat.le_of_ble_eq_true rfl), (Nat.le_of_ble_eq_true rfl)⟩ (Nat.le_of_ble_eq_true rfl) dX3_term_12 rfl (fun r9 ad9 M9 h9 => ?_)
  obtain ⟨rfl, rfl, rfl⟩ := h9
  refine s_if_eq 28 dX3_term_15 (by decide) (fun c15 => ?_) (fun c15 => ?_)
  · have hgf := jB_0.mp c15
    have hPt := hC.pr (j := jt) (by omega) hgf
    have hng : ¬ aGr α jt := fun q => by rw [← hC.gr (j := jt) (by omega), hgf] at q; cases q
    refine s_iload_n dX3_term_28 rfl ?_
    refine s_callS (As := [.int i]) (rest := []) (n := 1) (fun l hl => c_X3_isPower G l hl ad M i) gu_X3_term_isPower rfl (by decide +kernel) rfl ⟨(Nat.le_of_ble_eq_true rfl), (Nat.le_of_ble_eq_true rfl)⟩ ⟨(Nat.le_of_ble_eq_true rfl), (Nat.le_of_ble_eq_true rfl)⟩ (Nat.le_of_ble_eq_true rfl) dX3_term_29 rfl (fun r9 ad9 M9 h9 => ?_)
    obtain ⟨rfl, rfl, rfl⟩ := h9
    refine s_if_eq 50 dX3_term_32 (by decide) (fun c32 => ?_) (fun c32 => ?_)
    · refine s_iconst (v := 0) dX3_term_50 (by decide) ?_
      exact s_iret rfl (rfl) dX3_term_51 (Nat.le_of_ble_eq_true rfl) (Nat.le_of_ble_eq_true rfl) (⟨rfl, rfl, jt, 0, by omega, hijt, hng, rfl, Or.inr ⟨rfl, fun z => absurd z.1 (of_decide_eq_false (jB_0.mp c32))⟩⟩)
    · refine s_iload_n dX3_term_35 rfl ?_
      refine s_callS (As := [.int j]) (rest := []) (n := 1) (fun l hl => c_X3_isPower G l hl ad M j) gu_X3_term_isPower rfl (by decide +kernel) rfl ⟨(Nat.le_of_ble_eq_true rfl), (Nat.le_of_ble_eq_true rfl)⟩ ⟨(Nat.le_of_ble_eq_true rfl), (Nat.le_of_ble_eq_true rfl)⟩ (Nat.le_of_ble_eq_true rfl) dX3_term_36 rfl (fun r9 ad9 M9 h9 => ?_)
      obtain ⟨rfl, rfl, rfl⟩ := h9
      refine s_if_eq 50 dX3_term_39 (by decide) (fun c39 => ?_) (fun c39 => ?_)
      · refine s_iconst (v := 0) dX3_term_50 (by decide) ?_
        exact s_iret rfl (rfl) dX3_term_51 (Nat.le_of_ble_eq_true rfl) (Nat.le_of_ble_eq_true rfl) (⟨rfl, rfl, jt, 0, by omega, hijt, hng, rfl, Or.inr ⟨rfl, fun z => absurd z.2.1 (of_decide_eq_false (jB_0.mp c39))⟩⟩)
      · refine s_iload dX3_term_42 rfl ?_
        refine s_callS (As := [.int k]) (rest := []) (n := 1) (fun l hl => c_X3_isPower G l hl ad M k) gu_X3_term_isPower rfl (by decide +kernel) rfl ⟨(Nat.le_of_ble_eq_true rfl), (Nat.le_of_ble_eq_true rfl)⟩ ⟨(Nat.le_of_ble_eq_true rfl), (Nat.le_of_ble_eq_true rfl)⟩ (Nat.le_of_ble_eq_true rfl) dX3_term_44 rfl (fun r9 ad9 M9 h9 => ?_)
        obtain ⟨rfl, rfl, rfl⟩ := h9
        refine s_if_ne 52 dX3_term_47 (by decide) (fun c47 => ?_) (fun c47 => ?_)
        · obtain ⟨a9, ha9, rfl⟩ := pw9 (of_decide_eq_true (Bool.of_not_eq_false (fun z => c32 (jB_0.mpr z))))
          obtain ⟨b9, hb9, rfl⟩ := pw9 (of_decide_eq_true (Bool.of_not_eq_false (fun z => c39 (jB_0.mpr z))))
          obtain ⟨c9, hc9, rfl⟩ := pw9 (of_decide_eq_true (Bool.of_not_eq_false (fun z => c47 (jB_0.mpr z))))
          refine s_aload dX3_term_52 rfl ?_
          refine s_iload_n dX3_term_54 rfl ?_
          refine s_bipush (v := 100) dX3_term_55 (by decide) ?_
          refine s_imul dX3_term_57 ?_
          refine s_iload_n dX3_term_58 rfl ?_
          refine s_bipush (v := 10) dX3_term_59 (by decide) ?_
          refine s_imul dX3_term_61 ?_
          refine s_iadd dX3_term_62 ?_
          refine s_iload dX3_term_63 rfl ?_
          refine s_iadd dX3_term_65 ?_
          refine s_eqi (y := nI (100 * a9 + 10 * b9 + c9)) (by rw [show (100 : Int32) = nI 100 from rfl, show (10 : Int32) = nI 10 from rfl, nI_mul, nI_mul, nI_add, nI_add, Nat.mul_comm a9, Nat.mul_comm b9]) ?_
          refine s_callVN (As := [.int (nI (100 * a9 + 10 * b9 + c9))]) (rest := []) (n := 1) (kd := 3) (ix := jt) (fun l hl => c_X0_numberAt G l hl ad M jt (kPo κ jt).1 (kPo κ jt).2.1 (kPo κ jt).2.2.1 (kPo κ jt).2.2.2.1 (kPo κ jt).2.2.2.2 (h.2.2.2.2.2.1 jt (by omega)) hPt.choose_spec.1 (nI (100 * a9 + 10 * b9 + c9))) gu_X3_term_numberAt rfl (host := "SmallChecker") (by decide +kernel) (by decide +kernel) (by decide +kernel) (by decide +kernel) (by decide +kernel) ((h.2.2.2.2.2.1 jt (by omega)).1) rfl rfl ⟨(Nat.le_of_ble_eq_true rfl), (Nat.le_of_ble_eq_true rfl)⟩ ⟨(Nat.le_of_ble_eq_true rfl), (Nat.le_of_ble_eq_true rfl)⟩ (Nat.le_of_ble_eq_true rfl) dX3_term_66 rfl (fun r9 ad9 M9 h9 => ?_)
          obtain ⟨rfl, rfl, v9, rfl, hv9⟩ := h9
          exact s_iret rfl (rfl) dX3_term_69 (Nat.le_of_ble_eq_true rfl) (Nat.le_of_ble_eq_true rfl) (⟨rfl, rfl, jt, v9, by omega, hijt, hng, rfl, Or.inl ⟨a9, b9, c9, ha9, hb9, hc9, rfl, rfl, rfl, hPt.at (by omega) hv9⟩⟩)
        · refine s_iconst (v := 0) dX3_term_50 (by decide) ?_
          exact s_iret rfl (rfl) dX3_term_51 (Nat.le_of_ble_eq_true rfl) (Nat.le_of_ble_eq_true rfl) (⟨rfl, rfl, jt, 0, by omega, hijt, hng, rfl, Or.inr ⟨rfl, fun z => absurd z.2.2 (of_decide_eq_false (jB_0.mp c47))⟩⟩)
  · exact s_throw (cls := eS) (ik := 116) (is := 161) (ic := 120) (text := "the tree is too great") (names := eRs) rfl rfl (by decide +kernel) (by decide +kernel) (List.mem_cons_of_mem _ (inU (by decide +kernel) rfl)) (List.mem_cons_of_mem _ (inU (by decide +kernel) rfl)) (by decide +kernel) xuS xbS xoS dX3_term_18 dX3_term_21 dX3_term_22 dX3_term_24 dX3_term_27 (Nat.le_of_ble_eq_true rfl) (Nat.le_of_ble_eq_true rfl) (Nat.le_of_ble_eq_true rfl) (Nat.le_of_ble_eq_true rfl) (⟨rfl, rfl, Or.inr ⟨rfl, jt, by omega, hijt, by rw [← hC.gr (j := jt) (by omega)]; exact Bool.of_not_eq_false (fun q => c15 (jB_0.mpr q))⟩⟩)
def wuX3_counted : List Cond := .code yX3_counted cX3_counted 6 (some .int) :: wU
abbrev mX3_counted : sMeth := (cX3_counted, 6, RX3, wuX3_counted, { frames := 7, cells := 1, slots := 6, locals := 103 }, (some .int), "counted", [])
theorem in_X3_counted_X0 : ∀ w ∈ wsX00, w ∈ wuX3_counted := fun w hw => List.mem_cons_of_mem _ (inU (iu_X0 w hw).1 (iu_X0 w hw).2)
theorem in_X3_counted_X3 : ∀ w ∈ wsX30, w ∈ wuX3_counted := fun w hw => List.mem_cons_of_mem _ (inU (iu_X3 w hw).1 (iu_X3 w hw).2)
theorem gu_X3_counted_polynomialOf : GoodIn wuX3_counted (wsV RX3 147 RX3 yX3_polynomialOf wsX3_polynomialOf) := goodUW (by decide +kernel)
theorem gu_X3_counted_isTooGreat : GoodIn wuX3_counted (wsX0_isTooGreat) := goodUW (by decide +kernel)
theorem gu_X3_counted_isRow : GoodIn wuX3_counted (wsV RX3 125 RX3 yX3_isRow wsX3_isRow) := goodUW (by decide +kernel)
theorem gu_X3_counted_treeFieldsOf : GoodIn wuX3_counted (va_wsS RX3 107 yX3_treeFieldsOf wsX3_treeFieldsOf) := goodUW (by decide +kernel)
set_option maxHeartbeats 4000000 in
set_option maxRecDepth 100000 in
theorem l_X3_counted (X : sMach) (G : sG) (ad : sAd) (M : sM) (α : sAl) (hA : AI α) (κ : sCk) (h : hCk G ad M κ) (hC : CI α κ) (row : Int32) (jr : Nat) (hjr : jr < kRc κ) (hijr : row = nI jr) : ∀ (k i N : Nat), i + k = tfI (aRw α jr 0) → (N : Int) = sN (fun a => cnt (aPf α (aRw α jr (1 + a)).toNatClampNeg)) i → sW X G mX3_counted (sQ X G mX3_counted (fun r ad' M' => ad = ad' ∧ M = M' ∧ ∃ jr N, jr < aR α ∧ row = nI jr ∧ r = some (.int (nI N)) ∧ (N : Int) = cdN α (aRw α jr)) (fun E ad' M' => ad = ad' ∧ M = M' ∧ E = eA ∧ ¬ isR α row)) ad M 0 0 [some (.ref (ad 0 0)), some (.int row), some (.int (nI N)), some (.int (nI (tfI (aRw α jr 0)))), some (.int (nI i)), none] 35 [] := by
  obtain ⟨e1, e2, ht, hm, hC1, hC2, hC3, hC4, f, hR⟩ := id hC
  have hA1 := hA.1
  have hA2 := hA.2.1
  have hr : kRc κ ≤ 60 := by omega
  obtain ⟨kd, hkd, hk0, htf, hfl⟩ := (hA.2.2.2 jr (by omega)).fld hA1
  have h3 := tfI_le (aRw α jr 0)
  intro k
  induction k with
  | zero =>
    intro i N hi hv
    refine s_iload dX3_counted_35 rfl ?_
    refine s_iload_n dX3_counted_37 rfl ?_
    refine s_icmp_ge 84 dX3_counted_38 (by decide) (fun c38 => ?_) (fun c38 => absurd (nI_le (by omega) (by omega)) c38)
    refine s_iload_n dX3_counted_84 rfl ?_
    exact s_iret rfl (rfl) dX3_counted_85 (Nat.le_of_ble_eq_true rfl) (Nat.le_of_ble_eq_true rfl) (⟨rfl, rfl, jr, N, by omega, hijr, rfl, by rw [hv, show i = tfI (aRw α jr 0) by omega]; rfl⟩)
  | succ k ih =>
    intro i N hi hv
    refine s_iload dX3_counted_35 rfl ?_
    refine s_iload_n dX3_counted_37 rfl ?_
    refine s_icmp_ge 84 dX3_counted_38 (by decide) (fun c38 => absurd c38 (nI_ge (by omega) (by omega))) (fun c38 => ?_)
    refine s_aload_n dX3_counted_41 rfl ?_
    refine s_aload_n dX3_counted_42 rfl ?_
    refine s_get (kd := 0) (ix := 0) (ci := 4) (fs := [.ref (ad 7 0), .ref (ad 8 0), .ref (ad 1 0), .ref (ad 3 120), .int (nI (kTc κ)), .int (nI (kRc κ))])  h.1 rfl in_X3_counted_X3 1 (by decide) (by decide +kernel) rfl rfl dX3_counted_43 ?_
    refine s_iload_n dX3_counted_46 rfl ?_
    refine s_aald (kd := 8) (ix := 0) (n := 60) (f := fRs ad) (j := jr) (v := .ref (ad 6 jr)) 4 rfl rfl h.2.2.1 (hijr) (by omega) (by decide) (fRs_in (by omega)) dX3_counted_47 ?_
    refine s_iconst (v := 1) dX3_counted_48 (by decide) ?_
    refine s_iload dX3_counted_49 rfl ?_
    refine s_iadd dX3_counted_51 ?_
    refine s_eqi (y := nI (1 + i)) (nI_add 1 i) ?_
    refine s_iald (kd := 6) (ix := jr) (n := 8) (f := kRw κ jr) (j := 1 + i) ((h.2.2.2.1 jr (by omega))) (rfl) (by omega) (by decide) dX3_counted_52 ?_
    refine s_eqi (y := aRw α jr (1 + i)) (hC3 jr (by omega) (1 + i) (by omega)) ?_
    refine s_callV (As := [.int (aRw α jr (1 + i))]) (rest := []) (n := 1) (kd := 0) (ix := 0) (fun l hl => c_X3_polynomialOf G l hl ad M κ h ht hm hr (aRw α jr (1 + i))) gu_X3_counted_polynomialOf rfl (by decide +kernel) h.1 rfl rfl ⟨(Nat.le_of_ble_eq_true rfl), (Nat.le_of_ble_eq_true rfl)⟩ ⟨(Nat.le_of_ble_eq_true rfl), (Nat.le_of_ble_eq_true rfl)⟩ (Nat.le_of_ble_eq_true rfl) dX3_counted_53 rfl (fun r8 ad8 M8 h8 => ?_)
    obtain ⟨rfl, rfl, h8⟩ := h8
    obtain rfl : r8 = some (.ref (ad 3 (aRw α jr (1 + i)).toNatClampNeg)) := pof_j ⟨by have := (hfl i (by omega)).1; omega, (hfl i (by omega)).2⟩ (by omega) h8
    have hj9 := hfl i (by omega)
    refine s_astore dX3_counted_56 rfl rfl ?_
    refine s_lv (lv' := [some (.ref (ad 0 0)), some (.int row), some (.int (nI N)), some (.int (nI (tfI (aRw α jr 0)))), some (.int (nI i)), some (.ref (ad 3 ((aRw α jr (1 + i)).toNatClampNeg)))]) rfl ?_
    refine s_iload_n dX3_counted_58 rfl ?_
    refine s_aload dX3_counted_59 rfl ?_
    refine s_callVN (As := []) (rest := [.int (nI N)]) (n := 0) (kd := 3) (ix := ((aRw α jr (1 + i)).toNatClampNeg)) (fun l hl => c_X0_isTooGreat G l hl ad M (aRw α jr (1 + i)).toNatClampNeg (kPo κ ((aRw α jr (1 + i)).toNatClampNeg)).1 (kPo κ ((aRw α jr (1 + i)).toNatClampNeg)).2.1 (kPo κ ((aRw α jr (1 + i)).toNatClampNeg)).2.2.1 (kPo κ ((aRw α jr (1 + i)).toNatClampNeg)).2.2.2.1 (kPo κ ((aRw α jr (1 + i)).toNatClampNeg)).2.2.2.2 (h.2.2.2.2.2.1 ((aRw α jr (1 + i)).toNatClampNeg) (by omega))) gu_X3_counted_isTooGreat rfl (host := "SmallChecker") (by decide +kernel) (by decide +kernel) (by decide +kernel) (by decide +kernel) (by decide +kernel) ((h.2.2.2.2.2.1 ((aRw α jr (1 + i)).toNatClampNeg) (by omega)).1) rfl rfl ⟨(Nat.le_of_ble_eq_true rfl), (Nat.le_of_ble_eq_true rfl)⟩ ⟨(Nat.le_of_ble_eq_true rfl), (Nat.le_of_ble_eq_true rfl)⟩ (Nat.le_of_ble_eq_true rfl) dX3_counted_61 rfl (fun r9 ad9 M9 h9 => ?_)
    obtain ⟨rfl, rfl, rfl⟩ := h9
    refine s_if_eq 71 dX3_counted_64 (by decide) (fun c64 => ?_) (fun c64 => ?_)
    · refine s_aload dX3_counted_71 rfl ?_
      refine s_getN (kd := 3) (ix := ((aRw α jr (1 + i)).toNatClampNeg)) (ci := 1) (fs := [.ref (ad 4 ((aRw α jr (1 + i)).toNatClampNeg)), .ref (ad 5 ((aRw α jr (1 + i)).toNatClampNeg)), .int (nI (kPo κ ((aRw α jr (1 + i)).toNatClampNeg)).1), .int ((kPo κ ((aRw α jr (1 + i)).toNatClampNeg)).2.1), .int (jB (kPo κ ((aRw α jr (1 + i)).toNatClampNeg)).2.2.1)]) (host := "SmallChecker") ((h.2.2.2.2.2.1 ((aRw α jr (1 + i)).toNatClampNeg) (by omega)).1) rfl in_X3_counted_X0 2 (by decide) (by decide +kernel) rfl rfl dX3_counted_73 ?_
      refine s_iadd dX3_counted_76 ?_
      refine s_eqi (y := nI (N + (kPo κ ((aRw α jr (1 + i)).toNatClampNeg)).1)) (nI_add N (kPo κ ((aRw α jr (1 + i)).toNatClampNeg)).1) ?_
      refine s_istore_n dX3_counted_77 rfl rfl ?_
      refine s_lv (lv' := [some (.ref (ad 0 0)), some (.int row), some (.int (nI (N + (kPo κ ((aRw α jr (1 + i)).toNatClampNeg)).1))), some (.int (nI (tfI (aRw α jr 0)))), some (.int (nI i)), some (.ref (ad 3 ((aRw α jr (1 + i)).toNatClampNeg)))]) rfl ?_
      refine s_iinc (v := nI (i + 1)) dX3_counted_78 rfl (nI_1 i) rfl ?_
      refine s_lv (lv' := [some (.ref (ad 0 0)), some (.int row), some (.int (nI (N + (kPo κ ((aRw α jr (1 + i)).toNatClampNeg)).1))), some (.int (nI (tfI (aRw α jr 0)))), some (.int (nI (i + 1))), some (.ref (ad 3 ((aRw α jr (1 + i)).toNatClampNeg)))]) rfl ?_
      refine s_goto 35 dX3_counted_81 (by decide) ?_
      have hz9 := hC.cn hA (j := (aRw α jr (1 + i)).toNatClampNeg) hj9.1
      rw [if_neg (by rw [jB_0.mp c64]; decide)] at hz9
      refine s_drop 5 ?_
      exact ih (i + 1) (N + (kPo κ ((aRw α jr (1 + i)).toNatClampNeg)).1) (by omega) (by
        show ((N + (kPo κ ((aRw α jr (1 + i)).toNatClampNeg)).1 : Nat) : Int) = sN _ i + cnt (aPf α (aRw α jr (1 + i)).toNatClampNeg)
        rw [← hv, ← hz9]
        omega)
    · refine s_iconst (v := 0) dX3_counted_67 (by decide) ?_
      refine s_goto 76 dX3_counted_68 (by decide) ?_
      refine s_iadd dX3_counted_76 ?_
      refine s_eqi (y := nI (N + 0)) (nI_add N 0) ?_
      refine s_istore_n dX3_counted_77 rfl rfl ?_
      refine s_lv (lv' := [some (.ref (ad 0 0)), some (.int row), some (.int (nI (N + 0))), some (.int (nI (tfI (aRw α jr 0)))), some (.int (nI i)), some (.ref (ad 3 ((aRw α jr (1 + i)).toNatClampNeg)))]) rfl ?_
      refine s_iinc (v := nI (i + 1)) dX3_counted_78 rfl (nI_1 i) rfl ?_
      refine s_lv (lv' := [some (.ref (ad 0 0)), some (.int row), some (.int (nI (N + 0))), some (.int (nI (tfI (aRw α jr 0)))), some (.int (nI (i + 1))), some (.ref (ad 3 ((aRw α jr (1 + i)).toNatClampNeg)))]) rfl ?_
      refine s_goto 35 dX3_counted_81 (by decide) ?_
      have hz9 := hC.cn hA (j := (aRw α jr (1 + i)).toNatClampNeg) hj9.1
      rw [if_pos (Bool.of_not_eq_false (fun q => c64 (jB_0.mpr q)))] at hz9
      refine s_drop 5 ?_
      exact ih (i + 1) (N + 0) (by omega) (by
        show ((N + 0 : Nat) : Int) = sN _ i + cnt (aPf α (aRw α jr (1 + i)).toNatClampNeg)
        rw [← hv, ← hz9]
        omega)
set_option maxHeartbeats 4000000 in
set_option maxRecDepth 100000 in
theorem c_X3_counted (G : sG) (l : Launch) (hl : l.stackTraces = false) (ad : sAd) (M : sM) (α : sAl) (hA : AI α) (κ : sCk) (h : hCk G ad M κ) (hC : CI α κ) (row : Int32) : sMet G l yX3_counted mX3_counted [.ref (ad 0 0), .int row] ad M (fun r ad' M' => ad = ad' ∧ M = M' ∧ ∃ jr N, jr < aR α ∧ row = nI jr ∧ r = some (.int (nI N)) ∧ (N : Int) = cdN α (aRw α jr)) (fun E ad' M' => ad = ad' ∧ M = M' ∧ E = eA ∧ ¬ isR α row) := by
  obtain ⟨e1, e2, ht, hm, hC1, hC2, hC3, hC4, f, hR⟩ := id hC
  have hA1 := hA.1
  have hA2 := hA.2.1
  have hr : kRc κ ≤ 60 := by omega
  refine sMet.of hl (by decide +kernel) rfl rfl rfl rfl (Nat.le_of_ble_eq_true rfl) (fun X => ?_)
  refine s_lv (lv' := [some (.ref (ad 0 0)), some (.int row), none, none, none, none]) rfl ?_
  refine s_aload_n dX3_counted_0 rfl ?_
  refine s_iload_n dX3_counted_1 rfl ?_
  refine s_callV (As := [.int row]) (rest := []) (n := 1) (kd := 0) (ix := 0) (fun l hl => c_X3_isRow G l hl ad M κ h ht hm hr row) gu_X3_counted_isRow rfl (by decide +kernel) h.1 rfl rfl ⟨(Nat.le_of_ble_eq_true rfl), (Nat.le_of_ble_eq_true rfl)⟩ ⟨(Nat.le_of_ble_eq_true rfl), (Nat.le_of_ble_eq_true rfl)⟩ (Nat.le_of_ble_eq_true rfl) dX3_counted_2 rfl (fun r9 ad9 M9 h9 => ?_)
  obtain ⟨rfl, rfl, zr, rfl, hzr⟩ := h9
  refine s_if_ne 18 dX3_counted_5 (by decide) (fun c5 => ?_) (fun c5 => ?_)
  · obtain ⟨jr, hjr, hijr⟩ := hzr.mp (Bool.of_not_eq_false (fun z => c5 (jB_0.mpr z)))
    refine s_iconst (v := 0) dX3_counted_18 (by decide) ?_
    refine s_istore_n dX3_counted_19 rfl rfl ?_
    refine s_lv (lv' := [some (.ref (ad 0 0)), some (.int row), some (.int 0), none, none, none]) rfl ?_
    refine s_aload_n dX3_counted_20 rfl ?_
    refine s_get (kd := 0) (ix := 0) (ci := 4) (fs := [.ref (ad 7 0), .ref (ad 8 0), .ref (ad 1 0), .ref (ad 3 120), .int (nI (kTc κ)), .int (nI (kRc κ))])  h.1 rfl in_X3_counted_X3 1 (by decide) (by decide +kernel) rfl rfl dX3_counted_21 ?_
    refine s_iload_n dX3_counted_24 rfl ?_
    refine s_aald (kd := 8) (ix := 0) (n := 60) (f := fRs ad) (j := jr) (v := .ref (ad 6 jr)) 4 rfl rfl h.2.2.1 (hijr) (by omega) (by decide) (fRs_in (by omega)) dX3_counted_25 ?_
    refine s_iconst (v := 0) dX3_counted_26 (by decide) ?_
    refine s_iald (kd := 6) (ix := jr) (n := 8) (f := kRw κ jr) (j := 0) ((h.2.2.2.1 jr (by omega))) (by decide) (by decide) (by decide) dX3_counted_27 ?_
    refine s_eqi (y := aRw α jr 0) (hC3 jr (by omega) 0 (by omega)) ?_
    refine s_callS (As := [.int (aRw α jr 0)]) (rest := []) (n := 1) (fun l hl => c_X3_treeFieldsOf G l hl ad M (aRw α jr 0)) gu_X3_counted_treeFieldsOf rfl (by decide +kernel) rfl ⟨(Nat.le_of_ble_eq_true rfl), (Nat.le_of_ble_eq_true rfl)⟩ ⟨(Nat.le_of_ble_eq_true rfl), (Nat.le_of_ble_eq_true rfl)⟩ (Nat.le_of_ble_eq_true rfl) dX3_counted_28 rfl (fun r9 ad9 M9 h9 => ?_)
    obtain ⟨rfl, rfl, h9⟩ := h9
    obtain rfl : r9 = some (.int (nI (tfI (aRw α jr 0)))) := h9.elim (fun ⟨j, hj, e, q⟩ => by rw [q, e, tfI_in hj]) (fun ⟨q, e⟩ => by rw [e, tfI_out q]; rfl)
    refine s_istore_n dX3_counted_31 rfl rfl ?_
    refine s_lv (lv' := [some (.ref (ad 0 0)), some (.int row), some (.int 0), some (.int (nI (tfI (aRw α jr 0)))), none, none]) rfl ?_
    refine s_iconst (v := 0) dX3_counted_32 (by decide) ?_
    refine s_istore dX3_counted_33 rfl rfl ?_
    refine s_lv (lv' := [some (.ref (ad 0 0)), some (.int row), some (.int 0), some (.int (nI (tfI (aRw α jr 0)))), some (.int 0), none]) rfl ?_
    exact l_X3_counted X G ad M α hA κ h hC row jr hjr hijr (tfI (aRw α jr 0)) 0 0 (by omega) rfl
  · exact s_throw (cls := eA) (ik := 82) (is := 114) (ic := 86) (text := "no such row") (names := eAs) rfl rfl (by decide +kernel) (by decide +kernel) (List.mem_cons_of_mem _ (inU (by decide +kernel) rfl)) (List.mem_cons_of_mem _ (inU (by decide +kernel) rfl)) (by decide +kernel) xuA xbA xoA dX3_counted_8 dX3_counted_11 dX3_counted_12 dX3_counted_14 dX3_counted_17 (Nat.le_of_ble_eq_true rfl) (Nat.le_of_ble_eq_true rfl) (Nat.le_of_ble_eq_true rfl) (Nat.le_of_ble_eq_true rfl) (⟨rfl, rfl, rfl, (fun ⟨j, hj, q⟩ => by have z := hzr.mpr ⟨j, by omega, q⟩; rw [jB_0.mp c5] at z; cases z)⟩)
def wuX3_check : List Cond := .code yX3_check cX3_check 4 (some .int) :: wU
abbrev mX3_check : sMeth := (cX3_check, 4, RX3, wuX3_check, { frames := 7, cells := 1, slots := 6, locals := 103 }, (some .int), "check", [])
theorem in_X3_check_X3 : ∀ w ∈ wsX30, w ∈ wuX3_check := fun w hw => List.mem_cons_of_mem _ (inU (iu_X3 w hw).1 (iu_X3 w hw).2)
theorem gu_X3_check_holds : GoodIn wuX3_check (wsV RX3 141 RX3 yX3_holds wsX3_holds) := goodUW (by decide +kernel)
set_option maxHeartbeats 4000000 in
set_option maxRecDepth 100000 in
theorem l_X3_check (X : sMach) (G : sG) (ad : sAd) (M0 : sM) (α : sAl) (hA : AI α) (fr to : Int32) (fn tn : Nat) (hfr : fr = nI fn) (hto : to = nI tn) (htn : tn ≤ aR α) (hft : fn ≤ tn) (hcb : ¬ (fr < 0 ∨ nI (aR α) < to)) : ∀ (k i : Nat) (M : sM), i + k = tn → fn ≤ i → (∃ κ, hCk G ad M κ ∧ CI α κ ∧ sSame pCk M0 M ∧ ∀ r, r < i → fr ≤ nI r → aHolds α (aRw α r)) → sW X G mX3_check (sQ X G mX3_check (fun r ad' M' => ad = ad' ∧ ¬ (fr < 0 ∨ nI (aR α) < to) ∧ sSame pCk M0 M' ∧ cI G ad M' α ∧ ∃ v, r = some (.int v) ∧ ckRel α fr to v) (fun E ad' M' => ad = ad' ∧ M0 = M' ∧ E = eA ∧ (fr < 0 ∨ nI (aR α) < to))) ad M 0 0 [some (.ref (ad 0 0)), some (.int fr), some (.int to), some (.int (nI i))] 24 [] := by
  intro k
  induction k with
  | zero =>
    intro i M hi hfi hv
    obtain ⟨κ, h, hC, hs, hv⟩ := hv
    obtain ⟨e1, e2, ht, hm, hC1, hC2, hC3, hC4, f, hR⟩ := id hC
    have hA1 := hA.1
    have hA2 := hA.2.1
    have hr : kRc κ ≤ 60 := by omega
    refine s_iload_n dX3_check_24 rfl ?_
    refine s_iload_n dX3_check_25 rfl ?_
    refine s_icmp_ge 52 dX3_check_26 (by decide) (fun c26 => ?_) (fun c26 => absurd (by rw [hto]; exact nI_le (by omega) (by omega)) c26)
    refine s_iconst (v := 0) dX3_check_52 (by decide) ?_
    exact s_iret rfl (rfl) dX3_check_53 (Nat.le_of_ble_eq_true rfl) (Nat.le_of_ble_eq_true rfl) (⟨rfl, hcb, hs, ⟨κ, h, hC⟩, _, rfl, Or.inl ⟨rfl, fun r h1 h2 h3 => hv r (by rw [hto] at h3; have := nI_lt_mp h3 (by omega) (by omega); omega) h2⟩⟩)
  | succ k ih =>
    intro i M hi hfi hv
    obtain ⟨κ, h, hC, hs, hv⟩ := hv
    obtain ⟨e1, e2, ht, hm, hC1, hC2, hC3, hC4, f, hR⟩ := id hC
    have hA1 := hA.1
    have hA2 := hA.2.1
    have hr : kRc κ ≤ 60 := by omega
    refine s_iload_n dX3_check_24 rfl ?_
    refine s_iload_n dX3_check_25 rfl ?_
    refine s_icmp_ge 52 dX3_check_26 (by decide) (fun c26 => absurd c26 (by rw [hto]; exact nI_ge (by omega) (by omega))) (fun c26 => ?_)
    refine s_aload_n dX3_check_29 rfl ?_
    refine s_aload_n dX3_check_30 rfl ?_
    refine s_get (kd := 0) (ix := 0) (ci := 4) (fs := [.ref (ad 7 0), .ref (ad 8 0), .ref (ad 1 0), .ref (ad 3 120), .int (nI (kTc κ)), .int (nI (kRc κ))])  h.1 rfl in_X3_check_X3 1 (by decide) (by decide +kernel) rfl rfl dX3_check_31 ?_
    refine s_iload_n dX3_check_34 rfl ?_
    refine s_aald (kd := 8) (ix := 0) (n := 60) (f := fRs ad) (j := i) (v := .ref (ad 6 i)) 4 rfl rfl h.2.2.1 (rfl) (by omega) (by decide) (fRs_in (by omega)) dX3_check_35 ?_
    refine s_callV (As := [.ref (ad 6 i)]) (rest := []) (n := 1) (kd := 0) (ix := 0) (fun l hl => c_holdsA G l hl ad M α hA κ h hC i (by omega)) gu_X3_check_holds rfl (by decide +kernel) h.1 rfl rfl ⟨(Nat.le_of_ble_eq_true rfl), (Nat.le_of_ble_eq_true rfl)⟩ ⟨(Nat.le_of_ble_eq_true rfl), (Nat.le_of_ble_eq_true rfl)⟩ (Nat.le_of_ble_eq_true rfl) dX3_check_36 rfl (fun r9 ad9 M9 h9 => ?_)
    obtain ⟨rfl, ⟨z9, rfl, hz9⟩, ⟨κ9, h9, hC9⟩, hs9⟩ := h9
    refine s_if_ne 46 dX3_check_39 (by decide) (fun c39 => ?_) (fun c39 => ?_)
    · refine s_iinc (v := nI (i + 1)) dX3_check_46 rfl (nI_1 i) rfl ?_
      refine s_lv (lv' := [some (.ref (ad 0 0)), some (.int fr), some (.int to), some (.int (nI (i + 1)))]) rfl ?_
      refine s_goto 24 dX3_check_49 (by decide) ?_
      exact ih (i + 1) M9 (by omega) (by omega) ⟨κ9, h9, hC9, hs.trans (hs9.mono (fun k i q => by simp [pSh, pCk] at *; omega)), fun r hr2 hr3 => by
        by_cases q : r = i
        · rw [q]; exact hz9.mp (Bool.of_not_eq_false (fun w => c39 (jB_0.mpr w)))
        · exact hv r (by omega) hr3⟩
    · refine s_iload_n dX3_check_42 rfl ?_
      refine s_iconst (v := 1) dX3_check_43 (by decide) ?_
      refine s_iadd dX3_check_44 ?_
      refine s_eqi (y := nI (i + 1)) (nI_1 i) ?_
      exact s_iret rfl (rfl) dX3_check_45 (Nat.le_of_ble_eq_true rfl) (Nat.le_of_ble_eq_true rfl) (⟨rfl, hcb, hs.trans (hs9.mono (fun k i q => by simp [pSh, pCk] at *; omega)), ⟨κ9, h9, hC9⟩, _, rfl, Or.inr ⟨i, by omega, by rw [hfr]; exact (nI_le_iff (by omega) (by omega)).mpr hfi, by rw [hto]; exact nI_lt_mpr (by omega) (by omega), rfl, fun q => by rw [hz9.mpr q] at c39; exact absurd c39 (by decide), hv⟩⟩)
set_option maxHeartbeats 4000000 in
set_option maxRecDepth 100000 in
theorem c_X3_check (G : sG) (l : Launch) (hl : l.stackTraces = false) (ad : sAd) (M : sM) (α : sAl) (hA : AI α) (κ : sCk) (h : hCk G ad M κ) (hC : CI α κ) (fr to : Int32) : sMet G l yX3_check mX3_check [.ref (ad 0 0), .int fr, .int to] ad M (fun r ad' M' => ad = ad' ∧ ¬ (fr < 0 ∨ nI (aR α) < to) ∧ sSame pCk M M' ∧ cI G ad M' α ∧ ∃ v, r = some (.int v) ∧ ckRel α fr to v) (fun E ad' M' => ad = ad' ∧ M = M' ∧ E = eA ∧ (fr < 0 ∨ nI (aR α) < to)) := by
  obtain ⟨e1, e2, ht, hm, hC1, hC2, hC3, hC4, f, hR⟩ := id hC
  have hA1 := hA.1
  have hA2 := hA.2.1
  have hr : kRc κ ≤ 60 := by omega
  refine sMet.of hl (by decide +kernel) rfl rfl rfl rfl (Nat.le_of_ble_eq_true rfl) (fun X => ?_)
  refine s_lv (lv' := [some (.ref (ad 0 0)), some (.int fr), some (.int to), none]) rfl ?_
  refine s_iload_n dX3_check_0 rfl ?_
  refine s_if_lt 12 dX3_check_1 (by decide) (fun c1 => ?_) (fun c1 => ?_)
  · exact s_throw (cls := eA) (ik := 82) (is := 139) (ic := 86) (text := "no such rows") (names := eAs) rfl rfl (by decide +kernel) (by decide +kernel) (List.mem_cons_of_mem _ (inU (by decide +kernel) rfl)) (List.mem_cons_of_mem _ (inU (by decide +kernel) rfl)) (by decide +kernel) xuA xbA xoA dX3_check_12 dX3_check_15 dX3_check_16 dX3_check_18 dX3_check_21 (Nat.le_of_ble_eq_true rfl) (Nat.le_of_ble_eq_true rfl) (Nat.le_of_ble_eq_true rfl) (Nat.le_of_ble_eq_true rfl) (⟨rfl, rfl, rfl, Or.inl c1⟩)
  · refine s_iload_n dX3_check_4 rfl ?_
    refine s_aload_n dX3_check_5 rfl ?_
    refine s_get (kd := 0) (ix := 0) (ci := 4) (fs := [.ref (ad 7 0), .ref (ad 8 0), .ref (ad 1 0), .ref (ad 3 120), .int (nI (kTc κ)), .int (nI (kRc κ))])  h.1 rfl in_X3_check_X3 5 (by decide) (by decide +kernel) rfl rfl dX3_check_6 ?_
    refine s_icmp_le 22 dX3_check_9 (by decide) (fun c9 => ?_) (fun c9 => ?_)
    · have hcb : ¬ (fr < 0 ∨ nI (aR α) < to) := fun q => q.elim c1 (fun q => absurd (by rw [← e2] at q; exact q) (Int32.not_lt.mpr c9))
      refine s_iload_n dX3_check_22 rfl ?_
      refine s_istore_n dX3_check_23 rfl rfl ?_
      refine s_lv (lv' := [some (.ref (ad 0 0)), some (.int fr), some (.int to), some (.int fr)]) rfl ?_
      by_cases hle : to ≤ fr
      · refine s_iload_n dX3_check_24 rfl ?_
        refine s_iload_n dX3_check_25 rfl ?_
        refine s_icmp_ge 52 dX3_check_26 (by decide) (fun c26 => ?_) (fun c26 => absurd hle c26)
        refine s_iconst (v := 0) dX3_check_52 (by decide) ?_
        exact s_iret rfl (rfl) dX3_check_53 (Nat.le_of_ble_eq_true rfl) (Nat.le_of_ble_eq_true rfl) (⟨rfl, hcb, sSame.rfl, ⟨κ, h, hC⟩, _, rfl, Or.inl ⟨rfl, fun r h1 h2 h3 => absurd (Int32.lt_of_le_of_lt h2 h3) (Int32.not_lt.mpr hle)⟩⟩)
      · obtain ⟨tn, htn, hto⟩ : ∃ tn, tn < aR α + 1 ∧ to = nI tn := (pk_ix to (n := aR α + 1) (by omega)).elim (fun q => absurd (Int32.le_of_lt (Int32.lt_of_lt_of_le q (Int32.not_lt.mp c1))) hle) (fun q => q.elim (fun q => absurd (Int32.lt_of_lt_of_le (nI_lt_mpr (show aR α < aR α + 1 by omega) (by omega)) q) (Int32.not_lt.mpr (by rw [← e2]; exact c9))) id)
        obtain ⟨fn, hfn, hfr⟩ : ∃ fn, fn < tn ∧ fr = nI fn := (pk_ix fr (n := tn) (by omega)).elim (fun q => absurd q c1) (fun q => q.elim (fun q => absurd (by rw [hto]; exact q) hle) id)
        refine s_lv (lv' := [some (.ref (ad 0 0)), some (.int fr), some (.int to), some (.int (nI fn))]) (by rw [← hfr]) ?_
        exact l_X3_check X G ad M α hA fr to fn tn hfr hto (by omega) (by omega) hcb (tn - fn) fn M (by omega) (by omega) ⟨κ, h, hC, sSame.rfl, fun r h1 h2 => absurd h2 (by rw [hfr]; exact fun q => absurd ((nI_le_iff (by omega) (by omega)).mp q) (by omega))⟩
    · exact s_throw (cls := eA) (ik := 82) (is := 139) (ic := 86) (text := "no such rows") (names := eAs) rfl rfl (by decide +kernel) (by decide +kernel) (List.mem_cons_of_mem _ (inU (by decide +kernel) rfl)) (List.mem_cons_of_mem _ (inU (by decide +kernel) rfl)) (by decide +kernel) xuA xbA xoA dX3_check_12 dX3_check_15 dX3_check_16 dX3_check_18 dX3_check_21 (Nat.le_of_ble_eq_true rfl) (Nat.le_of_ble_eq_true rfl) (Nat.le_of_ble_eq_true rfl) (Nat.le_of_ble_eq_true rfl) (⟨rfl, rfl, rfl, Or.inr (by rw [← e2]; exact Int32.not_le.mp c9)⟩)
