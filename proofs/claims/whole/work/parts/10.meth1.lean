def jPowerIn (a b : Int32) : Int32 := if b = 0 then a / 100 else if b = 1 then a / 10 - a / 10 / 10 * 10 else a - a / 10 * 10
abbrev mX3_powerIn : sMeth := (cX3_powerIn, 2, RX3, wsX3_powerIn, { frames := 0, cells := 0, slots := 0, locals := 0 }, (some .int), "powerIn", [])
set_option maxHeartbeats 4000000 in
set_option maxRecDepth 100000 in
theorem c_X3_powerIn (G : sG) (l : Launch) (hl : l.stackTraces = false) (ad : sAd) (M : sM) (a b : Int32) : sMet G l yX3_powerIn mX3_powerIn [.int a, .int b] ad M (fun r ad' M' => ad = ad' ∧ M = M' ∧ r = some (.int (jPowerIn a b))) (fun _ _ _ => False) := by
  refine sMet.of hl (by decide +kernel) rfl rfl rfl rfl (Nat.le_of_ble_eq_true rfl) (fun X => ?_)
  refine s_lv (lv' := [some (.int a), some (.int b)]) rfl ?_
  refine s_iload_n dX3_powerIn_0 rfl ?_
  refine s_if_ne 11 dX3_powerIn_1 (by decide) (fun c1 => ?_) (fun c1 => ?_)
  · refine s_iload_n dX3_powerIn_11 rfl ?_
    refine s_iconst (v := 1) dX3_powerIn_12 (by decide) ?_
    refine s_icmp_ne 26 dX3_powerIn_13 (by decide) (fun c13 => ?_) (fun c13 => ?_)
    · refine s_iload_n dX3_powerIn_26 rfl ?_
      refine s_bipush (v := 10) dX3_powerIn_27 (by decide) ?_
      refine s_irem dX3_powerIn_29 (by decide) ?_
      exact s_iret rfl (rfl) dX3_powerIn_30 (Nat.le_of_ble_eq_true rfl) (Nat.le_of_ble_eq_true rfl) (⟨rfl, rfl, by simp [jPowerIn, c1, c13]⟩)
    · refine s_iload_n dX3_powerIn_16 rfl ?_
      refine s_bipush (v := 10) dX3_powerIn_17 (by decide) ?_
      refine s_idiv dX3_powerIn_19 (by decide) ?_
      refine s_bipush (v := 10) dX3_powerIn_20 (by decide) ?_
      refine s_irem dX3_powerIn_22 (by decide) ?_
      refine s_goto 30 dX3_powerIn_23 (by decide) ?_
      exact s_iret rfl (rfl) dX3_powerIn_30 (Nat.le_of_ble_eq_true rfl) (Nat.le_of_ble_eq_true rfl) (⟨rfl, rfl, by simp [jPowerIn, c1, c13]⟩)
  · refine s_iload_n dX3_powerIn_4 rfl ?_
    refine s_bipush (v := 100) dX3_powerIn_5 (by decide) ?_
    refine s_idiv dX3_powerIn_7 (by decide) ?_
    refine s_goto 30 dX3_powerIn_8 (by decide) ?_
    exact s_iret rfl (rfl) dX3_powerIn_30 (Nat.le_of_ble_eq_true rfl) (Nat.le_of_ble_eq_true rfl) (⟨rfl, rfl, by simp [jPowerIn, c1]⟩)
def jKeyOf (a : Int32) : Int32 := if a = 0 then 100 else if a = 1 then 10 else 1
abbrev mX3_keyOfLetter : sMeth := (cX3_keyOfLetter, 1, RX3, wsX3_keyOfLetter, { frames := 0, cells := 0, slots := 0, locals := 0 }, (some .int), "keyOfLetter", [])
set_option maxHeartbeats 4000000 in
set_option maxRecDepth 100000 in
theorem c_X3_keyOfLetter (G : sG) (l : Launch) (hl : l.stackTraces = false) (ad : sAd) (M : sM) (a : Int32) : sMet G l yX3_keyOfLetter mX3_keyOfLetter [.int a] ad M (fun r ad' M' => ad = ad' ∧ M = M' ∧ r = some (.int (jKeyOf a))) (fun _ _ _ => False) := by
  refine sMet.of hl (by decide +kernel) rfl rfl rfl rfl (Nat.le_of_ble_eq_true rfl) (fun X => ?_)
  refine s_lv (lv' := [some (.int a)]) rfl ?_
  refine s_iload_n dX3_keyOfLetter_0 rfl ?_
  refine s_if_ne 9 dX3_keyOfLetter_1 (by decide) (fun c1 => ?_) (fun c1 => ?_)
  · refine s_iload_n dX3_keyOfLetter_9 rfl ?_
    refine s_iconst (v := 1) dX3_keyOfLetter_10 (by decide) ?_
    refine s_icmp_ne 19 dX3_keyOfLetter_11 (by decide) (fun c11 => ?_) (fun c11 => ?_)
    · refine s_iconst (v := 1) dX3_keyOfLetter_19 (by decide) ?_
      exact s_iret rfl (rfl) dX3_keyOfLetter_20 (Nat.le_of_ble_eq_true rfl) (Nat.le_of_ble_eq_true rfl) (⟨rfl, rfl, by simp [jKeyOf, c1, c11]⟩)
    · refine s_bipush (v := 10) dX3_keyOfLetter_14 (by decide) ?_
      refine s_goto 20 dX3_keyOfLetter_16 (by decide) ?_
      exact s_iret rfl (rfl) dX3_keyOfLetter_20 (Nat.le_of_ble_eq_true rfl) (Nat.le_of_ble_eq_true rfl) (⟨rfl, rfl, by simp [jKeyOf, c1, c11]⟩)
  · refine s_bipush (v := 100) dX3_keyOfLetter_4 (by decide) ?_
    refine s_goto 20 dX3_keyOfLetter_6 (by decide) ?_
    exact s_iret rfl (rfl) dX3_keyOfLetter_20 (Nat.le_of_ble_eq_true rfl) (Nat.le_of_ble_eq_true rfl) (⟨rfl, rfl, by simp [jKeyOf, c1]⟩)
abbrev mX3_isLetter : sMeth := (cX3_isLetter, 1, RX3, wsX3_isLetter, { frames := 0, cells := 0, slots := 0, locals := 0 }, (some .boolean), "isLetter", [])
set_option maxHeartbeats 4000000 in
set_option maxRecDepth 100000 in
theorem c_X3_isLetter (G : sG) (l : Launch) (hl : l.stackTraces = false) (ad : sAd) (M : sM) (a : Int32) : sMet G l yX3_isLetter mX3_isLetter [.int a] ad M (fun r ad' M' => ad = ad' ∧ M = M' ∧ r = some (.int (jB (decide (0 ≤ a ∧ a < 3))))) (fun _ _ _ => False) := by
  refine sMet.of hl (by decide +kernel) rfl rfl rfl rfl (Nat.le_of_ble_eq_true rfl) (fun X => ?_)
  refine s_lv (lv' := [some (.int a)]) rfl ?_
  refine s_iload_n dX3_isLetter_0 rfl ?_
  refine s_if_lt 13 dX3_isLetter_1 (by decide) (fun c1 => ?_) (fun c1 => ?_)
  · refine s_iconst (v := 0) dX3_isLetter_13 (by decide) ?_
    exact s_iret rfl (rfl) dX3_isLetter_14 (Nat.le_of_ble_eq_true rfl) (Nat.le_of_ble_eq_true rfl) (⟨rfl, rfl, by simp [jB, Int32.not_le.mpr c1]⟩)
  · refine s_iload_n dX3_isLetter_4 rfl ?_
    refine s_iconst (v := 3) dX3_isLetter_5 (by decide) ?_
    refine s_icmp_ge 13 dX3_isLetter_6 (by decide) (fun c6 => ?_) (fun c6 => ?_)
    · refine s_iconst (v := 0) dX3_isLetter_13 (by decide) ?_
      exact s_iret rfl (rfl) dX3_isLetter_14 (Nat.le_of_ble_eq_true rfl) (Nat.le_of_ble_eq_true rfl) (⟨rfl, rfl, by simp [jB, Int32.not_lt.mp c1, c6]⟩)
    · refine s_iconst (v := 1) dX3_isLetter_9 (by decide) ?_
      refine s_goto 14 dX3_isLetter_10 (by decide) ?_
      exact s_iret rfl (rfl) dX3_isLetter_14 (Nat.le_of_ble_eq_true rfl) (Nat.le_of_ble_eq_true rfl) (⟨rfl, rfl, by simp [jB, Int32.not_lt.mp c1, Int32.not_le.mp c6, c6]⟩)
abbrev mX3_isSampleNumber : sMeth := (cX3_isSampleNumber, 1, RX3, wsX3_isSampleNumber, { frames := 0, cells := 0, slots := 0, locals := 0 }, (some .boolean), "isSampleNumber", [])
set_option maxHeartbeats 4000000 in
set_option maxRecDepth 100000 in
theorem c_X3_isSampleNumber (G : sG) (l : Launch) (hl : l.stackTraces = false) (ad : sAd) (M : sM) (a : Int32) : sMet G l yX3_isSampleNumber mX3_isSampleNumber [.int a] ad M (fun r ad' M' => ad = ad' ∧ M = M' ∧ r = some (.int (jB (decide (-10 ≤ a ∧ a ≤ 10))))) (fun _ _ _ => False) := by
  refine sMet.of hl (by decide +kernel) rfl rfl rfl rfl (Nat.le_of_ble_eq_true rfl) (fun X => ?_)
  refine s_lv (lv' := [some (.int a)]) rfl ?_
  refine s_iload_n dX3_isSampleNumber_0 rfl ?_
  refine s_bipush (v := -10) dX3_isSampleNumber_1 (by decide) ?_
  refine s_icmp_lt 16 dX3_isSampleNumber_3 (by decide) (fun c3 => ?_) (fun c3 => ?_)
  · refine s_iconst (v := 0) dX3_isSampleNumber_16 (by decide) ?_
    exact s_iret rfl (rfl) dX3_isSampleNumber_17 (Nat.le_of_ble_eq_true rfl) (Nat.le_of_ble_eq_true rfl) (⟨rfl, rfl, by simp [jB, Int32.not_le.mpr c3]⟩)
  · refine s_iload_n dX3_isSampleNumber_6 rfl ?_
    refine s_bipush (v := 10) dX3_isSampleNumber_7 (by decide) ?_
    refine s_icmp_gt 16 dX3_isSampleNumber_9 (by decide) (fun c9 => ?_) (fun c9 => ?_)
    · refine s_iconst (v := 0) dX3_isSampleNumber_16 (by decide) ?_
      exact s_iret rfl (rfl) dX3_isSampleNumber_17 (Nat.le_of_ble_eq_true rfl) (Nat.le_of_ble_eq_true rfl) (⟨rfl, rfl, by simp [jB, Int32.not_lt.mp c3, Int32.not_le.mpr c9]⟩)
    · refine s_iconst (v := 1) dX3_isSampleNumber_12 (by decide) ?_
      refine s_goto 17 dX3_isSampleNumber_13 (by decide) ?_
      exact s_iret rfl (rfl) dX3_isSampleNumber_17 (Nat.le_of_ble_eq_true rfl) (Nat.le_of_ble_eq_true rfl) (⟨rfl, rfl, by simp [jB, Int32.not_lt.mp c3, Int32.not_lt.mp c9]⟩)
abbrev mX3_isPower : sMeth := (cX3_isPower, 1, RX3, wsX3_isPower, { frames := 0, cells := 0, slots := 0, locals := 0 }, (some .boolean), "isPower", [])
set_option maxHeartbeats 4000000 in
set_option maxRecDepth 100000 in
theorem c_X3_isPower (G : sG) (l : Launch) (hl : l.stackTraces = false) (ad : sAd) (M : sM) (a : Int32) : sMet G l yX3_isPower mX3_isPower [.int a] ad M (fun r ad' M' => ad = ad' ∧ M = M' ∧ r = some (.int (jB (decide (0 ≤ a ∧ a ≤ 9))))) (fun _ _ _ => False) := by
  refine sMet.of hl (by decide +kernel) rfl rfl rfl rfl (Nat.le_of_ble_eq_true rfl) (fun X => ?_)
  refine s_lv (lv' := [some (.int a)]) rfl ?_
  refine s_iload_n dX3_isPower_0 rfl ?_
  refine s_if_lt 14 dX3_isPower_1 (by decide) (fun c1 => ?_) (fun c1 => ?_)
  · refine s_iconst (v := 0) dX3_isPower_14 (by decide) ?_
    exact s_iret rfl (rfl) dX3_isPower_15 (Nat.le_of_ble_eq_true rfl) (Nat.le_of_ble_eq_true rfl) (⟨rfl, rfl, by simp [jB, Int32.not_le.mpr c1]⟩)
  · refine s_iload_n dX3_isPower_4 rfl ?_
    refine s_bipush (v := 9) dX3_isPower_5 (by decide) ?_
    refine s_icmp_gt 14 dX3_isPower_7 (by decide) (fun c7 => ?_) (fun c7 => ?_)
    · refine s_iconst (v := 0) dX3_isPower_14 (by decide) ?_
      exact s_iret rfl (rfl) dX3_isPower_15 (Nat.le_of_ble_eq_true rfl) (Nat.le_of_ble_eq_true rfl) (⟨rfl, rfl, by simp [jB, Int32.not_lt.mp c1, Int32.not_le.mpr c7]⟩)
    · refine s_iconst (v := 1) dX3_isPower_10 (by decide) ?_
      refine s_goto 15 dX3_isPower_11 (by decide) ?_
      exact s_iret rfl (rfl) dX3_isPower_15 (Nat.le_of_ble_eq_true rfl) (Nat.le_of_ble_eq_true rfl) (⟨rfl, rfl, by simp [jB, Int32.not_lt.mp c1, Int32.not_lt.mp c7]⟩)
def jDegree (a : Int32) : Int32 := jPowerIn a 0 + jPowerIn a 1 + jPowerIn a 2
abbrev mX3_degreeOf : sMeth := (cX3_degreeOf, 1, RX3, wsX3_degreeOf, { frames := 1, cells := 0, slots := 0, locals := 21 }, (some .int), "degreeOf", [])
set_option maxHeartbeats 4000000 in
set_option maxRecDepth 100000 in
theorem c_X3_degreeOf (G : sG) (l : Launch) (hl : l.stackTraces = false) (ad : sAd) (M : sM) (a : Int32) : sMet G l yX3_degreeOf mX3_degreeOf [.int a] ad M (fun r ad' M' => ad = ad' ∧ M = M' ∧ r = some (.int (jDegree a))) (fun _ _ _ => False) := by
  refine sMet.of hl (by decide +kernel) rfl rfl rfl rfl (Nat.le_of_ble_eq_true rfl) (fun X => ?_)
  refine s_lv (lv' := [some (.int a)]) rfl ?_
  refine s_iload_n dX3_degreeOf_0 rfl ?_
  refine s_iconst (v := 0) dX3_degreeOf_1 (by decide) ?_
  refine s_callS (As := [.int a, .int 0]) (rest := []) (n := 2) (fun l hl => c_X3_powerIn G l hl ad M a 0) gX3_degreeOf_X3_powerIn rfl (by decide +kernel) rfl ⟨(Nat.le_of_ble_eq_true rfl), (Nat.le_of_ble_eq_true rfl)⟩ ⟨(Nat.le_of_ble_eq_true rfl), (Nat.le_of_ble_eq_true rfl)⟩ (Nat.le_of_ble_eq_true rfl) dX3_degreeOf_2 rfl (fun r9 ad9 M9 h9 => ?_)
  obtain ⟨rfl, rfl, rfl⟩ := h9
  refine s_iload_n dX3_degreeOf_5 rfl ?_
  refine s_iconst (v := 1) dX3_degreeOf_6 (by decide) ?_
  refine s_callS (As := [.int a, .int 1]) (rest := [.int (jPowerIn a 0)]) (n := 2) (fun l hl => c_X3_powerIn G l hl ad M a 1) gX3_degreeOf_X3_powerIn rfl (by decide +kernel) rfl ⟨(Nat.le_of_ble_eq_true rfl), (Nat.le_of_ble_eq_true rfl)⟩ ⟨(Nat.le_of_ble_eq_true rfl), (Nat.le_of_ble_eq_true rfl)⟩ (Nat.le_of_ble_eq_true rfl) dX3_degreeOf_7 rfl (fun r9 ad9 M9 h9 => ?_)
  obtain ⟨rfl, rfl, rfl⟩ := h9
  refine s_iadd dX3_degreeOf_10 ?_
  refine s_iload_n dX3_degreeOf_11 rfl ?_
  refine s_iconst (v := 2) dX3_degreeOf_12 (by decide) ?_
  refine s_callS (As := [.int a, .int 2]) (rest := [.int ((jPowerIn a 0) + (jPowerIn a 1))]) (n := 2) (fun l hl => c_X3_powerIn G l hl ad M a 2) gX3_degreeOf_X3_powerIn rfl (by decide +kernel) rfl ⟨(Nat.le_of_ble_eq_true rfl), (Nat.le_of_ble_eq_true rfl)⟩ ⟨(Nat.le_of_ble_eq_true rfl), (Nat.le_of_ble_eq_true rfl)⟩ (Nat.le_of_ble_eq_true rfl) dX3_degreeOf_13 rfl (fun r9 ad9 M9 h9 => ?_)
  obtain ⟨rfl, rfl, rfl⟩ := h9
  refine s_iadd dX3_degreeOf_16 ?_
  exact s_iret rfl (rfl) dX3_degreeOf_17 (Nat.le_of_ble_eq_true rfl) (Nat.le_of_ble_eq_true rfl) (⟨rfl, rfl, rfl⟩)
